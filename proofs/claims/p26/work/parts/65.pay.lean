/-! ===== the class: payFor ===== -/
theorem isSh_cg {S T : SS} (h0 : SS.nb S = SS.nb T) (h2 : SS.bf S = SS.bf T) (h3 : SS.sn S = SS.sn T) (h1 : S.nl = T.nl) (h : ∀ l k, k < 7 → S.lf l k = T.lf l k) (l r : Nat) : isSh S l r = isSh T l r := by
  unfold isSh
  rw [hasH_cg (h l), gts_cg h0 h2 h3 h1 h, h l 4 (by omega)]
theorem hrT_cg {S T : SS} (h0 : SS.nb S = SS.nb T) (h2 : SS.bf S = SS.bf T) (h3 : SS.sn S = SS.sn T) (h1 : S.nl = T.nl) (h : ∀ l k, k < 7 → S.lf l k = T.lf l k) (r k : Nat) : hrT S r k = hrT T r k := by
  rcases k with _ | _ | _ | k
  · show sumN (fun c => if 0 ≤ bel S r c then 1 else 0) 256 = sumN (fun c => if 0 ≤ bel T r c then 1 else 0) 256
    rw [bel_cg h0 h2 h3]
  · show sumN (fun c => if 1 < shd S r c then 1 else 0) 256 = sumN (fun c => if 1 < shd T r c then 1 else 0) 256
    rw [shd_cg h0 h2 h3]
  · show sumN (fun l => gts S l r) S.nl = sumN (fun l => gts T l r) T.nl
    rw [h1]
    exact sumN_congr _ (fun l _ => gts_cg h0 h2 h3 h1 h l r)
  · show sumN (fun l => if isSh S l r = true then 1 else 0) S.nl = sumN (fun l => if isSh T l r = true then 1 else 0) T.nl
    rw [h1]
    exact sumN_congr _ (fun l _ => by rw [isSh_cg h0 h2 h3 h1 h])
/-- the same state, as far as hours look -/
def sml (S T : SS) : Prop := SS.nb S = SS.nb T ∧ SS.bf S = SS.bf T ∧ SS.sn S = SS.sn T ∧ S.nl = T.nl ∧ ∀ l k, k < 7 → S.lf l k = T.lf l k
theorem HL_sm {h h' : Hp} {D : WD} {S T : SS} {r : Nat} (hL : HL h D S r) (hs : sml T S) (hi : ∀ i, ia h' (D 7 r) i = ia h (D 7 r) i) (h13 : fi h' 2 13 (D 2 r) = fi h 2 13 (D 2 r)) (h14 : fi h' 2 14 (D 2 r) = fi h 2 14 (D 2 r)) : HL h' D T r := by
  obtain ⟨s1, s2, s3, s4, s5⟩ := hs
  obtain ⟨l1, l2, l3⟩ := hL
  exact ⟨fun l hl => by rw [hi, gts_cg s1 s2 s3 s4 s5]; exact l1 l (by omega), by rw [h13, hrT_cg s1 s2 s3 s4 s5]; exact l2, by rw [h14, hrT_cg s1 s2 s3 s4 s5]; exact l3⟩
theorem CH_sm {h h' : Hp} {D : WD} {S T : SS} {r : Nat} (hH : CH h D S r) (hs : sml T S) (hf : ∀ k, fi h' 2 k (D 2 r) = fi h 2 k (D 2 r)) (hi : ∀ t, 4 ≤ t → t ≤ 7 → ∀ i, ia h' (D t r) i = ia h (D t r) i) : CH h' D T r := by
  have hs0 := hs
  obtain ⟨s1, s2, s3, s4, s5⟩ := hs
  obtain ⟨c1, c2, c3, c4⟩ := hH
  refine ⟨by rw [hf]; exact c1, by rw [hf]; exact c2, fun z => ?_, fun z => ?_⟩
  · rw [hf] at z
    exact HM_cg ((c3 z).st (hi 4 (by omega) (by omega)) (hi 5 (by omega) (by omega)) (hi 6 (by omega) (by omega)) (hf 9) (hf 10)) s1 s2 s3
  · rw [hf] at z
    refine ⟨by rw [hf]; exact (c4 z).1, HL_sm (c4 z).2 hs0 (hi 7 (by omega) (by omega)) (hf 13) (hf 14)⟩
theorem CI_pay {G : GT} {h : Hp} {D : WD} {S : SS} {l k : Nat} {v : Int} (hI : CI G h D S) (hl : l < S.nl) (hk : k = 7 ∨ k = 8) : CI G (setI h 3 (k + 1) (D 3 l) (i32 v)) D (S.uL l k v) :=
  ⟨(CD_l hI.cd hl (by omega)).1, (CD_l hI.cd hl (by omega)).2, fun r hr => CH_sm (hI.2.2 r hr) ⟨rfl, rfl, rfl, rfl, fun i q hq => by rw [lf_uL, if_neg (by omega)]⟩ (fun j => by rw [fi_setI, if_neg (by omega)]) (fun _ _ _ _ => rfl)⟩
theorem CI_got {G : GT} {h : Hp} {D : WD} {S : SS} {o : Nat} {v : Int} (hI : CI G h D S) : CI G (setIA h (D 0 6) o (i32 v)) D (S.uG o v) := by
  obtain ⟨⟨a, a', c1, c2, c3, c4, d, e1, e2, e3, e4⟩, ⟨p1, p2, p3, p4, p5, p6, p7, p8⟩, hH⟩ := hI
  have r6 : RK 0 6 := Or.inl (by omega)
  have n7 : ¬ D 0 7 = D 0 6 := fun q => by have := e4.2.2.2.2.2 0 7 0 6 (Or.inl (by omega)) r6 q; omega
  have n3 : ¬ D 0 3 = D 0 6 := fun q => by rw [q, c2.1] at c1; omega
  refine ⟨⟨a, a', c1, c2, c3, c4, d, e1, e2, e3, e4⟩, ⟨p1, p2, fun o' ho => ?_, fun t ht => ?_, fun k hk => ?_, p6, p7, p8⟩, fun r hr => CH_sm (hH r hr) ⟨rfl, rfl, rfl, rfl, fun _ _ _ => rfl⟩ (fun _ => rfl) (fun t h1 h2 i => ?_)⟩
  · rw [ia_setIA]
    show _ = i32 (if o' = o then v else S.gt o')
    by_cases q : o' = o
    · rw [if_pos ⟨rfl, q⟩, if_pos q]
    · rw [if_neg (fun z => q z.2), if_neg q]; exact p3 o' ho
  · rw [ia_setIA, if_neg (fun z => n7 z.1)]; exact p4 t ht
  · rw [ia_setIA, if_neg (fun z => n3 z.1)]; exact p5 k hk
  · rw [ia_setIA, if_neg (fun z => by have := e4.2.2.2.2.2 t r 0 6 (Or.inr ⟨h1, h2, hr⟩) r6 z.1; omega)]
theorem CI_pad {G : GT} {h : Hp} {D : WD} {S : SS} {o : Nat} {v : Int} (hI : CI G h D S) : CI G (setIA h (D 0 7) o (i32 v)) D (S.uP o v) := by
  obtain ⟨⟨a, a', c1, c2, c3, c4, d, e1, e2, e3, e4⟩, ⟨p1, p2, p3, p4, p5, p6, p7, p8⟩, hH⟩ := hI
  have r7 : RK 0 7 := Or.inl (by omega)
  have n6 : ¬ D 0 6 = D 0 7 := fun q => by have := e4.2.2.2.2.2 0 6 0 7 (Or.inl (by omega)) r7 q; omega
  have n3 : ¬ D 0 3 = D 0 7 := fun q => by rw [q, c3.1] at c1; omega
  refine ⟨⟨a, a', c1, c2, c3, c4, d, e1, e2, e3, e4⟩, ⟨p1, p2, fun o' ho => ?_, fun t ht => ?_, fun k hk => ?_, p6, p7, p8⟩, fun r hr => CH_sm (hH r hr) ⟨rfl, rfl, rfl, rfl, fun _ _ _ => rfl⟩ (fun _ => rfl) (fun t h1 h2 i => ?_)⟩
  · rw [ia_setIA, if_neg (fun z => n6 z.1)]; exact p3 o' ho
  · rw [ia_setIA]
    show _ = i32 (if t = o then v else S.pd t)
    by_cases q : t = o
    · rw [if_pos ⟨rfl, q⟩, if_pos q]
    · rw [if_neg (fun z => q z.2), if_neg q]; exact p4 t ht
  · rw [ia_setIA, if_neg (fun z => n3 z.1)]; exact p5 k hk
  · rw [ia_setIA, if_neg (fun z => by have := e4.2.2.2.2.2 t r 0 7 (Or.inr ⟨h1, h2, hr⟩) r7 z.1; omega)]
/-- all pay A -/
def paS (S : SS) (A : Nat → Int) : SS := (S.1, S.2.1, S.2.2.1, fun l k => if l < S.nl ∧ k = 8 then S.lf l 8 + A l else S.lf l k, S.2.2.2.2.1, fun o => S.gt o + sumN (fun l => if S.bf (S.lf l 0).toNat 5 = o then A l else 0) S.nl, fun t => S.pd t + sumN (fun l => if S.lf l 1 = t then A l else 0) S.nl, S.2.2.2.2.2.2.2)
theorem lf_paS {S : SS} {A : Nat → Int} {l k : Nat} : (paS S A).lf l k = if l < S.nl ∧ k = 8 then S.lf l 8 + A l else S.lf l k := rfl
theorem sml_paS {S : SS} {A : Nat → Int} : sml (paS S A) S := ⟨rfl, rfl, rfl, rfl, fun l k hk => by rw [lf_paS, if_neg (by omega)]⟩
theorem paS_pd {S : SS} : pdN S S.nl = paS S (earn S) := rfl
theorem WF_paS {S : SS} {A : Nat → Int} (hW : WF S) : WF (paS S A) := by
  refine WF_l hW rfl rfl rfl rfl ⟨hW.2.2.2.2.2.1, hW.2.2.2.2.2.2.1⟩ (fun l hl => ?_)
  have h := hW.2.2.2.1 l hl
  have e2 : (paS S A).nb = S.nb := rfl
  simp only [lf_paS, e2, Nat.reduceEqDiff, and_false, if_false]
  exact h
theorem paS_s {S : SS} {A : Nat → Int} {n o t : Nat} {x : Int} (hn : n < S.nl) (ho : S.bf (S.lf n 0).toNat 5 = o) (ht : S.lf n 1 = t) : (((paS S A).uG o ((paS S A).gt o + x)).uP t ((paS S A).pd t + x)).uL n 8 ((paS S A).lf n 8 + x) = paS S (fun l => if l = n then A l + x else A l) := by
  refine SS_ext rfl rfl (fun _ _ => rfl) (fun b k => ?_) (fun _ _ => rfl) (fun o' => ?_) (fun o' => ?_) rfl rfl
  · show (if b = n ∧ k = 8 then (paS S A).lf n 8 + x else (paS S A).lf b k) = _
    have e8 : (paS S A).lf n 8 = S.lf n 8 + A n := by rw [lf_paS, if_pos ⟨hn, rfl⟩]
    rw [e8, lf_paS, lf_paS]
    by_cases q : b = n ∧ k = 8
    · rw [if_pos q, q.1, if_pos ⟨hn, q.2⟩, if_pos rfl]; omega
    · rw [if_neg q]
      by_cases q2 : b < S.nl ∧ k = 8
      · rw [if_pos q2, if_pos q2, if_neg (fun z => q ⟨z, q2.2⟩)]
      · rw [if_neg q2, if_neg q2]
  · have h := sumN_upd (f := fun l => if S.bf (S.lf l 0).toNat 5 = (o' : Int) then (if l = n then A l + x else A l) else 0) (g := fun l => if S.bf (S.lf l 0).toNat 5 = (o' : Int) then A l else 0) (q := n) S.nl hn (fun i _ hi => by rw [if_neg hi])
    show (if o' = o then S.gt o + sumN (fun l => if S.bf (S.lf l 0).toNat 5 = (o : Int) then A l else 0) S.nl + x else S.gt o' + sumN (fun l => if S.bf (S.lf l 0).toNat 5 = (o' : Int) then A l else 0) S.nl) = S.gt o' + sumN (fun l => if S.bf (S.lf l 0).toNat 5 = (o' : Int) then (if l = n then A l + x else A l) else 0) S.nl
    rw [h]
    by_cases q : o' = o
    · subst q
      rw [if_pos rfl, if_pos ho, if_pos rfl, if_pos ho]
      omega
    · rw [if_neg q, if_neg (by omega), if_neg (by omega)]
      omega
  · have h := sumN_upd (f := fun l => if S.lf l 1 = (o' : Int) then (if l = n then A l + x else A l) else 0) (g := fun l => if S.lf l 1 = (o' : Int) then A l else 0) (q := n) S.nl hn (fun i _ hi => by rw [if_neg hi])
    show (if o' = t then S.pd t + sumN (fun l => if S.lf l 1 = (t : Int) then A l else 0) S.nl + x else S.pd o' + sumN (fun l => if S.lf l 1 = (o' : Int) then A l else 0) S.nl) = S.pd o' + sumN (fun l => if S.lf l 1 = (o' : Int) then (if l = n then A l + x else A l) else 0) S.nl
    rw [h]
    by_cases q : o' = t
    · subst q
      rw [if_pos rfl, if_pos ht, if_pos rfl, if_pos ht]
      omega
    · rw [if_neg q, if_neg (by omega), if_neg (by omega)]
      omega
theorem paS_ab {S : SS} {A B : Nat → Int} : paS (paS S A) B = paS S (fun l => A l + B l) := by
  refine SS_ext rfl rfl (fun _ _ => rfl) (fun b k => ?_) (fun _ _ => rfl) (fun o => ?_) (fun o => ?_) rfl rfl
  · have e : (paS S A).nl = S.nl := rfl
    rw [lf_paS, lf_paS, lf_paS, lf_paS, e]
    by_cases q : b < S.nl ∧ k = 8
    · rw [if_pos q, if_pos q, if_pos ⟨q.1, rfl⟩]; omega
    · rw [if_neg q, if_neg q, if_neg q]
  · show S.gt o + sumN (fun l => if S.bf (S.lf l 0).toNat 5 = (o : Int) then A l else 0) S.nl + sumN (fun l => if S.bf ((paS S A).lf l 0).toNat 5 = (o : Int) then B l else 0) S.nl = S.gt o + sumN (fun l => if S.bf (S.lf l 0).toNat 5 = (o : Int) then A l + B l else 0) S.nl
    rw [Int.add_assoc, ← sumN_add]
    congr 1
    refine sumN_congr _ (fun l _ => ?_)
    rw [show (paS S A).lf l 0 = S.lf l 0 by rw [lf_paS, if_neg (by omega)]]
    split <;> omega
  · show S.pd o + sumN (fun l => if S.lf l 1 = (o : Int) then A l else 0) S.nl + sumN (fun l => if (paS S A).lf l 1 = (o : Int) then B l else 0) S.nl = S.pd o + sumN (fun l => if S.lf l 1 = (o : Int) then A l + B l else 0) S.nl
    rw [Int.add_assoc, ← sumN_add]
    congr 1
    refine sumN_congr _ (fun l _ => ?_)
    rw [show (paS S A).lf l 1 = S.lf l 1 by rw [lf_paS, if_neg (by omega)]]
    split <;> omega
theorem paS_0 {S : SS} : paS S (fun _ => 0) = S := by
  refine SS_ext rfl rfl (fun _ _ => rfl) (fun b k => ?_) (fun _ _ => rfl) (fun o => ?_) (fun o => ?_) rfl rfl
  · rw [lf_paS]
    by_cases q : b < S.nl ∧ k = 8
    · rw [if_pos q, q.2]; omega
    · rw [if_neg q]
  · show S.gt o + sumN _ S.nl = S.gt o
    rw [sumN_0 S.nl (fun l _ => by split <;> rfl)]
    omega
  · show S.pd o + sumN _ S.nl = S.pd o
    rw [sumN_0 S.nl (fun l _ => by split <;> rfl)]
    omega
def pay1 (S : SS) (r n l : Nat) : Int := if l < n then S.lf l 5 * gts S l r else 0
def ct_X4_payFor (G : GT) (D : WD) (S : SS) : Ct := fun As h Q _ => sR As fun c r => sR r fun a r => s0 r (CI G h D S ∧ c = D 0 0 ∧ ∃ r, r < 12 ∧ a = D 2 r ∧ HL h D S r ∧ ∀ h', Fr h h' (WO D S) → CI G h' D (paS S (pay1 S r S.nl)) → Q none h')
def ce_X4_payFor (G : GT) (D : WD) (S : SS) : CE := (0, yX4_payFor, MX4_payFor, 1, 4, 0, 0, ct_X4_payFor G D S)
set_option maxRecDepth 100000 in
set_option maxHeartbeats 4000000 in
theorem lp_X4_payFor (G : GT) {D : WD} {S0 : SS} (hW0 : WF S0) {h0 : Hp} {r : Nat} {Q : Option Value → Hp → Prop} {QX : String → Hp → Prop} (hr : r < 12) (hq : ∀ h', Fr h0 h' (WO D S0) → CI G h' D (paS S0 (pay1 S0 r S0.nl)) → Q none h') :
    ∀ k n : Nat, n + k = S0.nl → ∀ S, S = paS S0 (pay1 S0 r n) → WF S → ∀ h, Fr h0 h (WO D S0) → CI G h D S → HL h D S r → ∀ o3 o4 o5, Wp G MX4_payFor false 4 Q QX 2 [some (.ref (D 0 0)), some (.ref (D 2 r)), some (.int (i32 n)), o3, o4, o5] [] h (0, 0) := by
  intro k
  induction k with
  | zero =>
    intro n hn S e hW h f hI hL o3 o4 o5
    have en : n = S0.nl := by omega
    have hz := hq h f (by rw [← en, ← e]; exact hI)
    have e1 : S.nl = S0.nl := by rw [e]; rfl
    have hD := hI.cd
    have hA0 := hD.1
    have hB0 := hD.2
    obtain ⟨⟨kC, rC0, rC1, rC2, rC3, rC4⟩, ⟨kQ, rQ0, rQ1⟩, ⟨kV, lV⟩, ⟨kG, lG⟩, ⟨kP, lP⟩, ⟨kT, lT⟩, ⟨⟨LB1, LB2, LB3, LB4, LB5, LB6, LB7⟩, ⟨LH1, LH2, LH3, LH4, LH5, LH6, LH7⟩, ⟨LL1, LL2, LL3, LL4, LL5, LL6, LL7⟩⟩, hKB, hHA, hKL, hCJ⟩ := hA0
    obtain ⟨dDy, dEv, dG, dP, dV, dB, dL, dH⟩ := hB0
    have hnb := hW.1
    have hnl := hW.2.1
    refine wpW (cs := [(49, ce_Jx4a65c_size_8abf5), (84, ce_Jx4a65c_get_915e3), (205, ce_X1_givenTo G D S), (313, ce_X3_ownerOf G D S)]) (stop := [2]) (n := 200) (env_cons (ceV (by decide +kernel) ⟨by decide, by decide, by decide +kernel⟩ (by decide) rfl (ok_Jx4a65c_size_8abf5 G)) (env_cons (ceV (by decide +kernel) ⟨by decide, by decide, by decide +kernel⟩ (by decide) rfl (ok_Jx4a65c_get_915e3 G)) (env_cons (ceV (by decide +kernel) ⟨by decide, by decide, by decide +kernel⟩ (by decide) rfl (ok_X1_givenTo G G D S hW)) (env_cons (ceV (by decide +kernel) ⟨by decide, by decide, by decide +kernel⟩ (by decide) rfl (ok_X3_ownerOf G G D S hW)) (env_nil0 (env_hh rfl)))))) ?_
    simp only [↓wpN_S, ↓step_u, ↓stC_s, stC_s, ↓stF_u, stF_u, ↓stepI, lenI, ↓kN_u, isS, ↓gI_0, ↓gI_S, ↓gL_0, ↓gL_S, ↓gD_0, ↓gD_S, ↓gR_0, ↓gR_S, ↓sI_c, ↓sL_c, ↓sD_c, ↓sR_c, ↓s1_r, ↓s1_i, ↓vR_r, ↓vR_n, ↓s0_n, s0_n, ↓oR_u, ↓sP_u, ↓sPa_0, ↓sPa_S, ↓lkC_c, ↓callK_u, ↓cQ_s, ↓cQ_n, putL, putW, clr, kil, catS, catN, refF, booF, finF, nF, nmOf_0, nmOf_1, nmOf_2, nmOf_3, nmOf_4, nmOf_5, nmOf_6, nmOf_50, nmOf_51, nmOf_52, ↓reduceIte, reduceIte, Bool.false_eq_true, eq_self, true_or, or_true, true_and, and_true, false_or, or_false, Nat.reduceAdd, Nat.reduceSub, Nat.reduceEqDiff, Nat.reduceLT, Nat.reduceLeDiff, reduceCtorEq, true_implies, List.length_cons, List.length_nil, List.replicate, List.cons_append, List.nil_append, mrt_X4_payFor, mhh_X4_payFor, mow_X4_payFor, mnl_X4_payFor, DX4_payFor_0, DX4_payFor_1, DX4_payFor_2, DX4_payFor_3, DX4_payFor_4, DX4_payFor_7, DX4_payFor_10, DX4_payFor_13, DX4_payFor_14, DX4_payFor_17, DX4_payFor_18, DX4_payFor_21, DX4_payFor_24, DX4_payFor_25, DX4_payFor_26, DX4_payFor_29, DX4_payFor_30, DX4_payFor_31, DX4_payFor_34, DX4_payFor_35, DX4_payFor_37, DX4_payFor_38, DX4_payFor_41, DX4_payFor_42, DX4_payFor_45, DX4_payFor_48, DX4_payFor_50, DX4_payFor_52, DX4_payFor_55, DX4_payFor_57, DX4_payFor_58, DX4_payFor_61, DX4_payFor_62, DX4_payFor_65, DX4_payFor_66, DX4_payFor_69, DX4_payFor_71, DX4_payFor_72, DX4_payFor_73, DX4_payFor_75, DX4_payFor_76, DX4_payFor_77, DX4_payFor_78, DX4_payFor_81, DX4_payFor_84, DX4_payFor_85, DX4_payFor_88, DX4_payFor_89, DX4_payFor_92, DX4_payFor_93, DX4_payFor_96, DX4_payFor_97, DX4_payFor_100, DX4_payFor_101, DX4_payFor_104, DX4_payFor_105, DX4_payFor_106, DX4_payFor_108, DX4_payFor_109, DX4_payFor_110, DX4_payFor_111, DX4_payFor_112, DX4_payFor_115, DX4_payFor_117, DX4_payFor_118, DX4_payFor_121, DX4_payFor_124, DX4_payFor_127, ce_Jx4a65c_size_8abf5, ↓ct_Jx4a65c_size_8abf5, ycl_Jx4a65c_size_8abf5, ce_Jx4a65c_get_915e3, ↓ct_Jx4a65c_get_915e3, ycl_Jx4a65c_get_915e3, ce_X1_givenTo, ↓ct_X1_givenTo, ycl_X1_givenTo, ce_X3_ownerOf, ↓ct_X3_ownerOf, ycl_X3_ownerOf, cX_nil mhh_X4_payFor]
    simp (disch := omega) only [i32_lit, i32_neg, i32_add, i32_mul, i32_sub, i32_nI, i32_lt, i32_le, i32_eq, inR_i, i32_clamp, i32_div, i32_max, i32_min, ite_max, ite_min, b2i_0, b2i_1, b2i_01, i32_toInt, tn_i, Int.toNat_natCast, em_t, true_and, and_true, Int.reduceToNat, Int.reduceLE, Int.reduceLT, Int.reduceAdd, Int.reduceMul, Int.reduceSub, Int.reduceNeg, Int.reduceEq, true_implies, not_true_eq_false, false_implies, not_false_eq_true, kC, rC0, rC1, rC2, rC3, rC4, kQ, rQ0, rQ1, kV, lV, kG, lG, kP, lP, kT, lT, LB1, LB2, LB3, LH1, LH2, LH3, LL1, LL2, LL3, dDy, dEv, true_and, and_true, Option.some.injEq, exists_eq_left', nmOf_0, nmOf_1, nmOf_2, nmOf_3, nmOf_4, nmOf_5, nmOf_6, Nat.add_sub_cancel, Nat.reduceSub, Nat.reduceLT, Nat.reduceEqDiff, ne_eq, not_false_eq_true]
    exact ⟨fun _ => hz, fun z => by omega⟩
  | succ k ih =>
    intro n hn S e hW h f hI hL o3 o4 o5
    have e1 : S.nl = S0.nl := by rw [e]; rfl
    have hn' : n < S.nl := by omega
    have hD := hI.cd
    have hD0 := hD
    have w3 := hW.2.2.2.1 n hn'
    have w4 := hW.2.2.1 (S.lf n 0).toNat (by omega)
    obtain ⟨o, ho⟩ := Int.eq_ofNat_of_zero_le (show 0 ≤ S.bf (S.lf n 0).toNat 5 by omega)
    obtain ⟨t, ht⟩ := Int.eq_ofNat_of_zero_le (show 0 ≤ S.lf n 1 by omega)
    have eg : gts S n r = gts S0 n r := by
      rw [e]
      obtain ⟨s1, s2, s3, s4, s5⟩ := sml_paS (S := S0) (A := pay1 S0 r n)
      exact gts_cg s1 s2 s3 s4 s5 n r
    have e5 : S.lf n 5 = S0.lf n 5 := by rw [e, lf_paS, if_neg (by omega)]
    have e0 : S.lf n 0 = S0.lf n 0 := by rw [e, lf_paS, if_neg (by omega)]
    have e01 : S.lf n 1 = S0.lf n 1 := by rw [e, lf_paS, if_neg (by omega)]
    have ebf : SS.bf S = SS.bf S0 := by rw [e]; rfl
    have eS : ((S.uG o (S.gt o + S.lf n 5 * gts S n r)).uP t (S.pd t + S.lf n 5 * gts S n r)).uL n 8 (S.lf n 8 + S.lf n 5 * gts S n r) = paS S0 (pay1 S0 r (n + 1)) := by
      rw [eg, e5]
      have q := paS_s (S := S0) (A := pay1 S0 r n) (n := n) (o := o) (t := t) (x := S0.lf n 5 * gts S0 n r) (by omega) (by rw [← e0, ← ebf]; exact ho) (by rw [← e01]; exact ht)
      rw [← e] at q
      rw [q]
      congr 1
      funext l
      unfold pay1
      by_cases z : l = n
      · subst z
        rw [if_pos rfl, if_neg (by omega), if_pos (by omega)]
        omega
      · rw [if_neg z]
        by_cases y : l < n
        · rw [if_pos y, if_pos (by omega)]
        · rw [if_neg y, if_neg (by omega)]
    have hI3 := CI_pay (k := 8) (v := S.lf n 8 + S.lf n 5 * gts S n r) (CI_pad (o := t) (v := S.pd t + S.lf n 5 * gts S n r) (CI_got (o := o) (v := S.gt o + S.lf n 5 * gts S n r) hI)) (l := n) hn' (by omega)
    rw [eS] at hI3
    have hJ := hD.1.2.2.2.2.2.2.2.2.2.2.2.2.2.2.2
    have n76 : ¬ D 7 r = D 0 6 := fun q => by have := hJ 7 r 0 6 (Or.inr ⟨by omega, by omega, hr⟩) (Or.inl (by omega)) q; omega
    have n77 : ¬ D 7 r = D 0 7 := fun q => by have := hJ 7 r 0 7 (Or.inr ⟨by omega, by omega, hr⟩) (Or.inl (by omega)) q; omega
    have n67 : ¬ D 0 7 = D 0 6 := fun q => by have := hJ 0 7 0 6 (Or.inl (by omega)) (Or.inl (by omega)) q; omega
    have hs := fun o3 o4 o5 => ih (n + 1) (by omega) _ rfl (WF_paS hW0) _ (((f.tr (Fr.sA (a := D 0 6) (i := o) (v := i32 (S.gt o + S.lf n 5 * gts S n r)) (WO.s (by omega)))).tr (Fr.sA (a := D 0 7) (i := t) (v := i32 (S.pd t + S.lf n 5 * gts S n r)) (WO.s (by omega)))).tr (Fr.sI (c := 3) (k := 9) (a := D 3 n) (v := i32 (S.lf n 8 + S.lf n 5 * gts S n r)) (WO.l (by omega)))) hI3 (HL_sm hL (by
        obtain ⟨s1, s2, s3, s4, s5⟩ := sml_paS (S := S0) (A := pay1 S0 r n)
        obtain ⟨t1, t2, t3, t4, t5⟩ := sml_paS (S := S0) (A := pay1 S0 r (n + 1))
        rw [← e] at s1 s2 s3 s4 s5
        exact ⟨t1.trans s1.symm, t2.trans s2.symm, t3.trans s3.symm, t4.trans s4.symm, fun l k hk => (t5 l k hk).trans (s5 l k hk).symm⟩) (fun i => by rw [ia_setI, ia_setIA, if_neg (fun y => n77 y.1), ia_setIA, if_neg (fun y => n76 y.1)]) (by rw [fi_setI, if_neg (by omega)]; rfl) (by rw [fi_setI, if_neg (by omega)]; rfl)) o3 o4 o5
    have hA0 := hD.1
    have hB0 := hD.2
    obtain ⟨⟨kC, rC0, rC1, rC2, rC3, rC4⟩, ⟨kQ, rQ0, rQ1⟩, ⟨kV, lV⟩, ⟨kG, lG⟩, ⟨kP, lP⟩, ⟨kT, lT⟩, ⟨⟨LB1, LB2, LB3, LB4, LB5, LB6, LB7⟩, ⟨LH1, LH2, LH3, LH4, LH5, LH6, LH7⟩, ⟨LL1, LL2, LL3, LL4, LL5, LL6, LL7⟩⟩, hKB, hHA, hKL, hCJ⟩ := hA0
    obtain ⟨dDy, dEv, dG, dP, dV, dB, dL, dH⟩ := hB0
    have hnb := hW.1
    have hnl := hW.2.1
    obtain ⟨kH, ⟨rH5, rH6, rH7, rH8, rH12⟩, ⟨kH4, lH4⟩, ⟨kH5, lH5⟩, ⟨kH6, lH6⟩, ⟨kH7, lH7⟩⟩ := hHA r hr
    obtain ⟨eH0, eH1, eH2, eH3⟩ := dH r hr
    have qH := LH7 r hr
    obtain ⟨kqH, lqH⟩ := LH6 (by omega)
    obtain ⟨vH0, vH0', vH1, vH1', -, vH2, vH2'⟩ := hW.2.2.2.2.1 r hr
    have kL := hKL n hn'
    obtain ⟨eL0, eL1, eL2, eL3, eL4, eL5, eL6, eL7, eL8, eL9⟩ := dL n hn'
    have qL := LL7 n hn'
    obtain ⟨kqL, lqL⟩ := LL6 (by omega)
    obtain ⟨vL0, vL0', vL1, vL1', vL2, vL2', vL3, vL4, vL4', vL5, vL5', vL6, vL7, vL7'⟩ := hW.2.2.2.1 n hn'
    have hGo := dG o (by omega)
    have hPt := dP t (by omega)
    refine wpW (cs := [(49, ce_Jx4a65c_size_8abf5), (84, ce_Jx4a65c_get_915e3), (205, ce_X1_givenTo G D S), (313, ce_X3_ownerOf G D S)]) (stop := [2]) (n := 200) (env_cons (ceV (by decide +kernel) ⟨by decide, by decide, by decide +kernel⟩ (by decide) rfl (ok_Jx4a65c_size_8abf5 G)) (env_cons (ceV (by decide +kernel) ⟨by decide, by decide, by decide +kernel⟩ (by decide) rfl (ok_Jx4a65c_get_915e3 G)) (env_cons (ceV (by decide +kernel) ⟨by decide, by decide, by decide +kernel⟩ (by decide) rfl (ok_X1_givenTo G G D S hW)) (env_cons (ceV (by decide +kernel) ⟨by decide, by decide, by decide +kernel⟩ (by decide) rfl (ok_X3_ownerOf G G D S hW)) (env_nil0 (env_hh rfl)))))) ?_
    simp only [↓wpN_S, ↓step_u, ↓stC_s, stC_s, ↓stF_u, stF_u, ↓stepI, lenI, ↓kN_u, isS, ↓gI_0, ↓gI_S, ↓gL_0, ↓gL_S, ↓gD_0, ↓gD_S, ↓gR_0, ↓gR_S, ↓sI_c, ↓sL_c, ↓sD_c, ↓sR_c, ↓s1_r, ↓s1_i, ↓vR_r, ↓vR_n, ↓s0_n, s0_n, ↓oR_u, ↓sP_u, ↓sPa_0, ↓sPa_S, ↓lkC_c, ↓callK_u, ↓cQ_s, ↓cQ_n, putL, putW, clr, kil, catS, catN, refF, booF, finF, nF, nmOf_0, nmOf_1, nmOf_2, nmOf_3, nmOf_4, nmOf_5, nmOf_6, nmOf_50, nmOf_51, nmOf_52, ↓reduceIte, reduceIte, Bool.false_eq_true, eq_self, true_or, or_true, true_and, and_true, false_or, or_false, Nat.reduceAdd, Nat.reduceSub, Nat.reduceEqDiff, Nat.reduceLT, Nat.reduceLeDiff, reduceCtorEq, true_implies, List.length_cons, List.length_nil, List.replicate, List.cons_append, List.nil_append, mrt_X4_payFor, mhh_X4_payFor, mow_X4_payFor, mnl_X4_payFor, DX4_payFor_0, DX4_payFor_1, DX4_payFor_2, DX4_payFor_3, DX4_payFor_4, DX4_payFor_7, DX4_payFor_10, DX4_payFor_13, DX4_payFor_14, DX4_payFor_17, DX4_payFor_18, DX4_payFor_21, DX4_payFor_24, DX4_payFor_25, DX4_payFor_26, DX4_payFor_29, DX4_payFor_30, DX4_payFor_31, DX4_payFor_34, DX4_payFor_35, DX4_payFor_37, DX4_payFor_38, DX4_payFor_41, DX4_payFor_42, DX4_payFor_45, DX4_payFor_48, DX4_payFor_50, DX4_payFor_52, DX4_payFor_55, DX4_payFor_57, DX4_payFor_58, DX4_payFor_61, DX4_payFor_62, DX4_payFor_65, DX4_payFor_66, DX4_payFor_69, DX4_payFor_71, DX4_payFor_72, DX4_payFor_73, DX4_payFor_75, DX4_payFor_76, DX4_payFor_77, DX4_payFor_78, DX4_payFor_81, DX4_payFor_84, DX4_payFor_85, DX4_payFor_88, DX4_payFor_89, DX4_payFor_92, DX4_payFor_93, DX4_payFor_96, DX4_payFor_97, DX4_payFor_100, DX4_payFor_101, DX4_payFor_104, DX4_payFor_105, DX4_payFor_106, DX4_payFor_108, DX4_payFor_109, DX4_payFor_110, DX4_payFor_111, DX4_payFor_112, DX4_payFor_115, DX4_payFor_117, DX4_payFor_118, DX4_payFor_121, DX4_payFor_124, DX4_payFor_127, ce_Jx4a65c_size_8abf5, ↓ct_Jx4a65c_size_8abf5, ycl_Jx4a65c_size_8abf5, ce_Jx4a65c_get_915e3, ↓ct_Jx4a65c_get_915e3, ycl_Jx4a65c_get_915e3, ce_X1_givenTo, ↓ct_X1_givenTo, ycl_X1_givenTo, ce_X3_ownerOf, ↓ct_X3_ownerOf, ycl_X3_ownerOf, cX_nil mhh_X4_payFor]
    simp (disch := omega) only [i32_lit, i32_neg, i32_add, i32_mul, i32_sub, i32_nI, i32_lt, i32_le, i32_eq, inR_i, i32_clamp, i32_div, i32_max, i32_min, ite_max, ite_min, b2i_0, b2i_1, b2i_01, i32_toInt, tn_i, Int.toNat_natCast, em_t, true_and, and_true, Int.reduceToNat, Int.reduceLE, Int.reduceLT, Int.reduceAdd, Int.reduceMul, Int.reduceSub, Int.reduceNeg, Int.reduceEq, true_implies, not_true_eq_false, false_implies, not_false_eq_true, kC, rC0, rC1, rC2, rC3, rC4, kQ, rQ0, rQ1, kV, lV, kG, lG, kP, lP, kT, lT, LB1, LB2, LB3, LH1, LH2, LH3, LL1, LL2, LL3, dDy, dEv, true_and, and_true, Option.some.injEq, exists_eq_left', nmOf_0, nmOf_1, nmOf_2, nmOf_3, nmOf_4, nmOf_5, nmOf_6, Nat.add_sub_cancel, Nat.reduceSub, Nat.reduceLT, Nat.reduceEqDiff, ne_eq, not_false_eq_true, kH, rH5, rH6, rH7, rH8, rH12, kH4, lH4, kH5, lH5, kH6, lH6, kH7, lH7, eH0, eH1, eH2, eH3, qH, kqH, lqH, kL, eL0, eL1, eL2, eL3, eL4, eL5, eL6, eL7, eL8, eL9, qL, kqL, lqL, hD0, ho, ht, hGo, hPt, kd_setI, fi_setI, fr_setI, ln_setI, ia_setI, ja_setI, ra_setI, kd_setR, fi_setR, fr_setR, ln_setR, ia_setR, ja_setR, ra_setR, kd_setIA, fi_setIA, fr_setIA, ln_setIA, ia_setIA, ja_setIA, ra_setIA, kd_setLA, fi_setLA, fr_setLA, ln_setLA, ia_setLA, ja_setLA, ra_setLA, kd_setRA, fi_setRA, fr_setRA, ln_setRA, ia_setRA, ja_setRA, ra_setRA, kd_cpRA, fi_cpRA, fr_cpRA, ln_cpRA, ia_cpRA, ja_cpRA, ra_cpRA, kd_cpIA, fi_cpIA, fr_cpIA, ln_cpIA, ia_cpIA, ja_cpIA, ra_cpIA, kd_newO, fi_newO, fr_newO, ln_newO, ia_newO, ja_newO, ra_newO, kd_newA, fi_newA, fr_newA, ln_newA, ia_newA, ja_newA, ra_newA, n67, false_and, if_false]
    rw [show (n : Int) + 1 = ((n + 1 : Nat) : Int) by omega]
    exact ⟨fun z => by omega, fun _ => ⟨by omega, by omega, by omega, by omega, r, hr, rfl, hL, by omega, fun z => by omega, fun _ => ⟨by omega, by omega, fun z => by omega, fun _ => ⟨by omega, by omega, fun z => by omega, fun _ => ⟨by omega, by omega, fun z => by omega, fun _ => ⟨by omega, by omega, hs _ _ _⟩⟩⟩⟩⟩⟩
set_option maxRecDepth 100000 in
set_option maxHeartbeats 4000000 in
theorem ok_X4_payFor (G : GT) (G : GT) (D : WD) (S : SS) (hW : WF S) : OKm G yX4_payFor MX4_payFor 4 0 0 (ct_X4_payFor G D S) := by
  refine mkOK (ini := false) (by decide) rfl (by first | exact fun _ => rfl | (intro hh; cases hh)) (fun As h Q QX hc => ?_)
  replace hc := sR_e hc; obtain ⟨c, r, rfl, hc⟩ := hc
  replace hc := sR_e hc; obtain ⟨a, r, rfl, hc⟩ := hc
  replace hc := s0_e hc; obtain ⟨rfl, hc⟩ := hc
  obtain ⟨hI, rfl, r, hr, rfl, hL, hq⟩ := hc
  have e : S = paS S (pay1 S r 0) := by
    have : pay1 S r 0 = fun _ => 0 := by
      funext l
      unfold pay1
      rw [if_neg (by omega)]
    rw [this, paS_0]
  have hz := lp_X4_payFor (Q := Q) (QX := QX) G hW hr hq S.nl 0 (Nat.zero_add _) S e hW h Fr.rf hI hL none none none
  refine ⟨Nat.le_of_ble_eq_true rfl, ?_⟩
  simp only [ent, entL, catN, List.length_cons, List.length_nil, List.replicate, List.cons_append, List.nil_append, reduceIte, Nat.reduceEqDiff,  Nat.reduceAdd, Nat.reduceSub, mnl_X4_payFor]
  refine wpW (cs := [(49, ce_Jx4a65c_size_8abf5), (84, ce_Jx4a65c_get_915e3), (205, ce_X1_givenTo G D S), (313, ce_X3_ownerOf G D S)]) (stop := [2]) (n := 200) (env_cons (ceV (by decide +kernel) ⟨by decide, by decide, by decide +kernel⟩ (by decide) rfl (ok_Jx4a65c_size_8abf5 G)) (env_cons (ceV (by decide +kernel) ⟨by decide, by decide, by decide +kernel⟩ (by decide) rfl (ok_Jx4a65c_get_915e3 G)) (env_cons (ceV (by decide +kernel) ⟨by decide, by decide, by decide +kernel⟩ (by decide) rfl (ok_X1_givenTo G G D S hW)) (env_cons (ceV (by decide +kernel) ⟨by decide, by decide, by decide +kernel⟩ (by decide) rfl (ok_X3_ownerOf G G D S hW)) (env_nil0 (env_hh rfl)))))) ?_
  simp only [↓wpN_S, ↓step_u, ↓stC_s, stC_s, ↓stF_u, stF_u, ↓stepI, lenI, ↓kN_u, isS, ↓gI_0, ↓gI_S, ↓gL_0, ↓gL_S, ↓gD_0, ↓gD_S, ↓gR_0, ↓gR_S, ↓sI_c, ↓sL_c, ↓sD_c, ↓sR_c, ↓s1_r, ↓s1_i, ↓vR_r, ↓vR_n, ↓s0_n, s0_n, ↓oR_u, ↓sP_u, ↓sPa_0, ↓sPa_S, ↓lkC_c, ↓callK_u, ↓cQ_s, ↓cQ_n, putL, putW, clr, kil, catS, catN, refF, booF, finF, nF, nmOf_0, nmOf_1, nmOf_2, nmOf_3, nmOf_4, nmOf_5, nmOf_6, nmOf_50, nmOf_51, nmOf_52, ↓reduceIte, reduceIte, Bool.false_eq_true, eq_self, true_or, or_true, true_and, and_true, false_or, or_false, Nat.reduceAdd, Nat.reduceSub, Nat.reduceEqDiff, Nat.reduceLT, Nat.reduceLeDiff, reduceCtorEq, true_implies, List.length_cons, List.length_nil, List.replicate, List.cons_append, List.nil_append, mrt_X4_payFor, mhh_X4_payFor, mow_X4_payFor, mnl_X4_payFor, DX4_payFor_0, DX4_payFor_1, DX4_payFor_2, DX4_payFor_3, DX4_payFor_4, DX4_payFor_7, DX4_payFor_10, DX4_payFor_13, DX4_payFor_14, DX4_payFor_17, DX4_payFor_18, DX4_payFor_21, DX4_payFor_24, DX4_payFor_25, DX4_payFor_26, DX4_payFor_29, DX4_payFor_30, DX4_payFor_31, DX4_payFor_34, DX4_payFor_35, DX4_payFor_37, DX4_payFor_38, DX4_payFor_41, DX4_payFor_42, DX4_payFor_45, DX4_payFor_48, DX4_payFor_50, DX4_payFor_52, DX4_payFor_55, DX4_payFor_57, DX4_payFor_58, DX4_payFor_61, DX4_payFor_62, DX4_payFor_65, DX4_payFor_66, DX4_payFor_69, DX4_payFor_71, DX4_payFor_72, DX4_payFor_73, DX4_payFor_75, DX4_payFor_76, DX4_payFor_77, DX4_payFor_78, DX4_payFor_81, DX4_payFor_84, DX4_payFor_85, DX4_payFor_88, DX4_payFor_89, DX4_payFor_92, DX4_payFor_93, DX4_payFor_96, DX4_payFor_97, DX4_payFor_100, DX4_payFor_101, DX4_payFor_104, DX4_payFor_105, DX4_payFor_106, DX4_payFor_108, DX4_payFor_109, DX4_payFor_110, DX4_payFor_111, DX4_payFor_112, DX4_payFor_115, DX4_payFor_117, DX4_payFor_118, DX4_payFor_121, DX4_payFor_124, DX4_payFor_127, ce_Jx4a65c_size_8abf5, ↓ct_Jx4a65c_size_8abf5, ycl_Jx4a65c_size_8abf5, ce_Jx4a65c_get_915e3, ↓ct_Jx4a65c_get_915e3, ycl_Jx4a65c_get_915e3, ce_X1_givenTo, ↓ct_X1_givenTo, ycl_X1_givenTo, ce_X3_ownerOf, ↓ct_X3_ownerOf, ycl_X3_ownerOf, cX_nil mhh_X4_payFor]
  exact hz
/-! the hours of a day -/
theorem pay_sum {S : SS} {r : Nat} {A : Nat → Int} : paS (paS S A) (pay1 (paS S A) r S.nl) = paS S (fun l => A l + pay1 S r S.nl l) := by
  rw [paS_ab]
  congr 1
  funext l
  unfold pay1
  obtain ⟨s1, s2, s3, s4, s5⟩ := sml_paS (S := S) (A := A)
  rw [gts_cg s1 s2 s3 s4 s5, s5 l 5 (by omega)]

