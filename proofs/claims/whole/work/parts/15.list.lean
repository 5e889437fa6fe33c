/-! ===== ArrayList: size, get ===== -/
def ct_size : Ct := fun As h Q _ => sR As fun a r => s0 r (kd h a = 1 ∧ Q (some (.int (fi h 0 2 a))) h)
theorem ok_size (G : GT) : OKm G yJx4a65c_size_8abf5 MJx4a65c_size_8abf5 0 0 0 ct_size := by
  refine mkOK (ini := false) (by decide) rfl (by simp) (fun As h Q QX hc => ?_)
  obtain ⟨a, r, rfl, hc⟩ := sR_e hc
  obtain ⟨rfl, hk, hq⟩ := s0_e hc
  refine ⟨Nat.le_of_ble_eq_true rfl, wpW (cs := []) (stop := []) (n := 50) (env_nil rfl) ?_⟩
  simp only [ent, entL, catN, List.length_cons, List.length_nil, List.replicate, List.cons_append, List.nil_append, reduceIte, Nat.reduceEqDiff,  Nat.reduceAdd, Nat.reduceSub, mnl_Jx4a65c_size_8abf5]
  simp only [↓wpN_S, ↓step_u, ↓stC_s, stC_s, ↓stF_u, stF_u, ↓stepI, lenI, ↓kN_u, isS, ↓gI_0, ↓gI_S, ↓gL_0, ↓gL_S, ↓gD_0, ↓gD_S, ↓gR_0, ↓gR_S, ↓sI_c, ↓sL_c, ↓sD_c, ↓sR_c, ↓s1_r, ↓s1_i, ↓vR_r, ↓vR_n, ↓s0_n, ↓oR_u, ↓sP_u, ↓sPa_0, ↓sPa_S, ↓lkC_c, ↓callK_u, ↓cQ_s, ↓cQ_n, putL, putW, clr, kil, catS, catN, refF, booF, finF, nF, nmOf, ↓reduceIte, reduceIte, Bool.false_eq_true, eq_self, true_or, or_true, true_and, and_true, false_or, or_false, Nat.reduceAdd, Nat.reduceSub, Nat.reduceEqDiff, Nat.reduceLT, Nat.reduceLeDiff, reduceCtorEq, true_implies, List.length_cons, List.length_nil, List.replicate, List.cons_append, List.nil_append, mrt_Jx4a65c_size_8abf5, mhh_Jx4a65c_size_8abf5, mow_Jx4a65c_size_8abf5, mnl_Jx4a65c_size_8abf5, DJx4a65c_size_8abf5_0, DJx4a65c_size_8abf5_1, DJx4a65c_size_8abf5_4]
  trace_state
  simp [hk, hq]
