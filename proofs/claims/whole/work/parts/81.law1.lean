/-! ===== the law: digest, fulfilled, its loop ===== -/
section LAW1
variable {G : GT} {pc : Nat} {ls : Ls} {st : List Value} {h : Hp} {b : Nat × Nat}
theorem WpL.ds {n : Nat} {w : UInt64} (hd : rs ML_law pc = some (.dstore n, 2, 0, 0, 0, [])) (hn : n + 1 < ls.length) (K : WpL G (pc + 2) (putW ls n (.double w)) st h b) : WpL G pc ls (.double w :: st) h b :=
  Wp.st1 envL hd (Or.inl rfl) (And.intro hn K)
theorem WpL.dl {n : Nat} {w : UInt64} (hd : rs ML_law pc = some (.dload n, 2, 0, 0, 0, [])) (hg : getL ls n = some (.double w)) (K : WpL G (pc + 2) ls (.double w :: st) h b) : WpL G pc ls st h b := by
  refine Wp.st1 envL hd (Or.inl rfl) ?_
  show gD ls n _
  unfold gD
  rw [hg]
  exact K
theorem WpL.gt {t : Nat} {off : Int} (hd : rs ML_law pc = some (.goto off, 3, t, 0, 0, [])) (ht : 0 < t) (K : WpL G t ls st h b) : WpL G pc ls st h b := Wp.st1 envL hd (Or.inl rfl) (And.intro ht K)
end LAW1
theorem JI.rd {G : GT} {h h1 : Hp} {D : WD} {m o : Nat} {A : Nat → Nat} {S : SS} (J : JI G h D m A S o) (f : Fr h h1 (WK D)) (hI : CI G h1 D S) : MD h1 m A S ∧ MC h1 A S ∧ (kd (t0 h1 m) G.2.2.1.2.1 = 0 → JI G (t0 h1 m) D m A S o) := by
  have f' : Fr h h1 (fun a => WO D S a ∨ a = o) := f.up (fun a q => Or.inl (WK.wo a q))
  obtain ⟨hM1, hC1⟩ := J.md f'
  exact ⟨hM1, hC1, fun hE => J.nx f' (fun _ => Or.inl) hI hE (Fr.sI WM.m) (MD_s0 hM1) (MC_s0 hC1) J.1 J.2.1⟩
set_option maxRecDepth 100000 in
set_option maxHeartbeats 4000000 in
theorem lc_digest (G : GT) {D : WD} {S : SS} {A : Nat → Nat} {h : Hp} {m o i : Nat} {o5 o6 o7 o8 : Option Value} {b : Nat × Nat} (J : JI G h D m A S o)
    (K : ∀ h', JI G h' D m A S o → WpL G 1743 [some (.ref (scB G)), some (.ref (D 0 0)), some (.ref m), some (.ref o), some (.int (i32 i)), o5, o6, o7, o8] [] h' b) :
    WpL G 1729 [some (.ref (scB G)), some (.ref (D 0 0)), some (.ref m), some (.ref o), some (.int (i32 i)), o5, o6, o7, o8] [] h b := by
  have hW := J.1
  have hI := J.2.2.1
  refine WpL.al DL_law_1729 rfl ?_
  refine WpL.cV (x := 5) (ce := ce_X4_digest G D S) (As := []) (rest := []) DL_law_1730 (env_cons (ceV (by decide +kernel) ⟨by decide, by decide, by decide +kernel⟩ (by decide) rfl (ok_X4_digest G G D S hW)) envL) rfl (fun _ => rfl) hI.1.1.1 (by omega) rfl (Nat.le_of_ble_eq_true rfl) (Nat.zero_le _) (Nat.zero_le _) (Nat.le_of_ble_eq_true rfl) ?_
  refine And.intro hI (And.intro rfl (fun h1 f hI1 => ?_))
  obtain ⟨hM1, hC1, hJ⟩ := J.rd f hI1
  show WpL G 1733 [some (.ref (scB G)), some (.ref (D 0 0)), some (.ref m), some (.ref o), some (.int (i32 i)), o5, o6, o7, o8] [.long (dgV S)] h1 b
  refine WpL.al DL_law_1733 rfl ?_
  refine WpL.cV (x := 6) (ce := ce_X5_digest A S) (As := []) (rest := [.long (dgV S)]) DL_law_1734 (env_cons (ceV (by decide +kernel) ⟨by decide, by decide, by decide +kernel⟩ (by decide) rfl (ok_X5_digest G A S hW)) envL) rfl (fun _ => rfl) hM1.1.1 (by omega) rfl (Nat.le_of_ble_eq_true rfl) (Nat.zero_le _) (Nat.zero_le _) (Nat.le_of_ble_eq_true rfl) ?_
  refine And.intro hM1 (And.intro hC1 ?_)
  show WpL G 1737 [some (.ref (scB G)), some (.ref (D 0 0)), some (.ref m), some (.ref o), some (.int (i32 i)), o5, o6, o7, o8] [.long (dgV S), .long (dgV S)] (t0 h1 m) b
  refine Wp.emp (fun hE => ?_)
  refine Wp.st1 envL DL_law_1737 (Or.inl rfl) ?_
  refine Wp.st1 envL DL_law_1738 (Or.inl rfl) (And.intro (Nat.succ_pos _) (And.intro (fun _ => K _ (hJ hE)) (fun z => ?_)))
  exact absurd (by unfold lg_cmp; simp) z
set_option maxRecDepth 100000 in
set_option maxHeartbeats 4000000 in
theorem lc_fulfilled (G : GT) {D : WD} {S : SS} {A : Nat → Nat} {h : Hp} {m o i : Nat} {o5 o6 o7 o8 : Option Value} {b : Nat × Nat} (J : JI G h D m A S o)
    (K : ∀ h' o5 o6 o7 o8, JI G h' D m A S o → WpL G 1743 [some (.ref (scB G)), some (.ref (D 0 0)), some (.ref m), some (.ref o), some (.int (i32 i)), o5, o6, o7, o8] [] h' b) :
    WpL G 1688 [some (.ref (scB G)), some (.ref (D 0 0)), some (.ref m), some (.ref o), some (.int (i32 i)), o5, o6, o7, o8] [] h b := by
  have hW := J.1
  have hI := J.2.2.1
  refine WpL.al DL_law_1688 rfl ?_
  refine WpL.cV (x := 5) (ce := ce_X4_fulfilled G D S) (As := []) (rest := []) DL_law_1689 (env_cons (ceV (by decide +kernel) ⟨by decide, by decide, by decide +kernel⟩ (by decide) rfl (ok_X4_fulfilled G G D S hW)) envL) rfl (fun _ => rfl) hI.1.1.1 (by omega) rfl (Nat.le_of_ble_eq_true rfl) (Nat.zero_le _) (Nat.zero_le _) (Nat.le_of_ble_eq_true rfl) ?_
  refine And.intro hI (And.intro rfl (fun h1 f hI1 => ?_))
  obtain ⟨hM1, hC1, hJ⟩ := J.rd f hI1
  show WpL G 1692 [some (.ref (scB G)), some (.ref (D 0 0)), some (.ref m), some (.ref o), some (.int (i32 i)), o5, o6, o7, o8] [.double (flV S)] h1 b
  refine WpL.ds DL_law_1692 (by show 5 + 1 < 9; omega) ?_
  show WpL G 1694 [some (.ref (scB G)), some (.ref (D 0 0)), some (.ref m), some (.ref o), some (.int (i32 i)), some (.double (flV S)), none, o7, o8] [] h1 b
  refine WpL.al DL_law_1694 rfl ?_
  refine WpL.cV (x := 6) (ce := ce_X5_fulfilled A S) (As := []) (rest := []) DL_law_1695 (env_cons (ceV (by decide +kernel) ⟨by decide, by decide, by decide +kernel⟩ (by decide) rfl (ok_X5_fulfilled G A S hW)) envL) rfl (fun _ => rfl) hM1.1.1 (by omega) rfl (Nat.le_of_ble_eq_true rfl) (Nat.zero_le _) (Nat.zero_le _) (Nat.le_of_ble_eq_true rfl) ?_
  refine And.intro hM1 (And.intro hC1 ?_)
  show WpL G 1698 [some (.ref (scB G)), some (.ref (D 0 0)), some (.ref m), some (.ref o), some (.int (i32 i)), some (.double (flV S)), none, o7, o8] [.double (flV S)] (t0 h1 m) b
  refine Wp.emp (fun hE => ?_)
  refine WpL.ds DL_law_1698 (by show 7 + 1 < 9; omega) ?_
  show WpL G 1700 [some (.ref (scB G)), some (.ref (D 0 0)), some (.ref m), some (.ref o), some (.int (i32 i)), some (.double (flV S)), none, some (.double (flV S)), none] [] (t0 h1 m) b
  have K26 : WpL G 1726 [some (.ref (scB G)), some (.ref (D 0 0)), some (.ref m), some (.ref o), some (.int (i32 i)), some (.double (flV S)), none, some (.double (flV S)), none] [] (t0 h1 m) b := WpL.gt DL_law_1726 (by omega) (K _ _ _ _ _ (hJ hE))
  refine WpL.dl DL_law_1700 rfl (WpL.dl DL_law_1702 rfl ?_)
  refine Wp.st1 envL DL_law_1704 (Or.inl rfl) ?_
  refine Wp.st1 envL DL_law_1705 (Or.inl rfl) (And.intro (Nat.succ_pos _) (And.intro (fun _ => K26) (fun z => ?_)))
  refine WpL.dl DL_law_1708 rfl (WpL.dl DL_law_1710 rfl ?_)
  refine Wp.st1 envL DL_law_1712 (Or.inl rfl) ?_
  refine Wp.st1 envL DL_law_1713 (Or.inl rfl) (And.intro (Nat.succ_pos _) (And.intro (fun y => absurd y z) (fun _ => ?_)))
  refine WpL.dl DL_law_1716 rfl (WpL.dl DL_law_1718 rfl ?_)
  refine Wp.st1 envL DL_law_1720 (Or.inl rfl) ?_
  exact Wp.st1 envL DL_law_1721 (Or.inl rfl) (And.intro (Nat.succ_pos _) (And.intro (fun _ => K26) (fun y => absurd y z)))
theorem swP_k {x : Int32} {v : Int} {t : Nat} {r : List Nat} {f : Nat → Prop} (h1 : 0 < t ∧ f t) (h2 : swP x (v + 1) r f) : swP x v (t :: r) f := ⟨fun _ => h1, h2⟩
theorem swP_z {x : Int32} {v : Int} {f : Nat → Prop} : swP x v [] f := trivial
set_option maxRecDepth 100000 in
set_option maxHeartbeats 4000000 in
theorem law_loop (G : GT) {m o : Nat} {A : Nat → Nat} (hL : scL G ≤ 3584) : ∀ n i : Nat, scL G < i + 7 * n + 7 → i ≤ 3584 → ∀ (D : WD) (S : SS) (h : Hp) (o5 o6 o7 o8 : Option Value) (b : Nat × Nat), JI G h D m A S o → 60 * n ≤ b.1 → 1600 * n ≤ b.2 →
    WpL G 23 [some (.ref (scB G)), some (.ref (D 0 0)), some (.ref m), some (.ref o), some (.int (i32 i)), o5, o6, o7, o8] [] h b := by
  intro n
  induction n with
  | zero =>
    intro i hi hi2 D S h o5 o6 o7 o8 b J h1 h2
    refine WpL.il DL_law_23 rfl ?_
    refine WpL.al DL_law_25 rfl ?_
    refine Wp.slen (rs_dec DL_law_26) ?_
    refine Wp.st1 envL DL_law_27 (Or.inl rfl) ?_
    refine Wp.st1 envL DL_law_29 (Or.inl rfl) ?_
    show WpL G 30 _ [.int (i32 (scL G) - i32 7), .int (i32 i)] h b
    rw [i32_sub]
    refine Wp.st1 envL DL_law_30 (Or.inl rfl) (And.intro (Nat.succ_pos _) (And.intro (fun _ => ?_) (fun z => ?_)))
    · refine Wp.st1 envL DL_law_1749 (Or.inl rfl) ?_
      exact Wp.st1 envL DL_law_1750 (Or.inl rfl) (And.intro (Or.inr rfl) rfl)
    · rw [i32_lt (by omega) (by omega)] at z
      omega
  | succ n ih =>
    intro i hi hi2 D S h o5 o6 o7 o8 b J h1 h2
    refine WpL.il DL_law_23 rfl ?_
    refine WpL.al DL_law_25 rfl ?_
    refine Wp.slen (rs_dec DL_law_26) ?_
    refine Wp.st1 envL DL_law_27 (Or.inl rfl) ?_
    refine Wp.st1 envL DL_law_29 (Or.inl rfl) ?_
    show WpL G 30 _ [.int (i32 (scL G) - i32 7), .int (i32 i)] h b
    rw [i32_sub]
    refine Wp.st1 envL DL_law_30 (Or.inl rfl) (And.intro (Nat.succ_pos _) (And.intro (fun _ => ?_) (fun z => ?_)))
    · refine Wp.st1 envL DL_law_1749 (Or.inl rfl) ?_
      exact Wp.st1 envL DL_law_1750 (Or.inl rfl) (And.intro (Or.inr rfl) rfl)
    · rw [i32_lt (by omega) (by omega)] at z
      have hi6 : i + 6 < scL G := by omega
      have K : ∀ (D' : WD) (T : SS) (h' : Hp) (o5 o6 o7 o8 : Option Value) (b' : Nat × Nat), JI G h' D' m A T o → b.1 ≤ b'.1 + 60 → b.2 ≤ b'.2 + 1600 → WpL G 1743 [some (.ref (scB G)), some (.ref (D' 0 0)), some (.ref m), some (.ref o), some (.int (i32 i)), o5, o6, o7, o8] [] h' b' := fun D' T h' o5 o6 o7 o8 b' J' c1 c2 => by
        refine Wp.st1 envL DL_law_1743 (Or.inl rfl) (And.intro (by show 4 < 9; omega) ?_)
        refine WpL.gt DL_law_1746 (by omega) ?_
        show WpL G 23 [some (.ref (scB G)), some (.ref (D' 0 0)), some (.ref m), some (.ref o), some (.int (i32 i + i32 7)), o5, o6, o7, o8] [] h' b'
        rw [i32_add, show (i : Int) + 7 = ((i + 7 : Nat) : Int) by omega]
        exact ih (i + 7) (by omega) (by omega) D' T h' o5 o6 o7 o8 b' J' (by omega) (by omega)
      have Kc : ∀ (D' : WD) (T : SS) (h' : Hp) (o5 o6 : Option Value) (b' : Nat × Nat), JI G h' D' m A T o → b.1 ≤ b'.1 + 60 → b.2 ≤ b'.2 + 1600 → WpL G 1743 [some (.ref (scB G)), some (.ref (D' 0 0)), some (.ref m), some (.ref o), some (.int (i32 i)), o5, o6, o7, o8] [] h' b' := fun D' T h' o5 o6 b' J' c1 c2 => K D' T h' o5 o6 o7 o8 b' J' c1 c2
      have hb : 60 ≤ b.1 ∧ 1600 ≤ b.2 := ⟨by omega, by omega⟩
      refine WpL.al DL_law_33 rfl ?_
      refine WpL.il DL_law_34 rfl ?_
      refine Wp.sld (rs_dec DL_law_36) ((inR_i (by omega)).mpr ⟨by omega, by omega⟩) ?_
      refine Wp.st1 envL DL_law_37 (Or.inl rfl) ?_
      refine Wp.st1 envL DL_law_39 (Or.inl rfl) ?_
      refine Wp.st1 envL DL_law_40 (Or.inr rfl) (And.intro (Nat.succ_pos _) (And.intro (by decide) (And.intro (by decide) (And.intro ?_ (fun _ => K D S h o5 o6 o7 o8 b J (by omega) (by omega))))))
      refine swP_k ⟨by omega, lc_build G J hL hi6 hb Kc⟩ ?_
      refine swP_k ⟨by omega, lc_tearDown G J hL hi6 hb Kc⟩ ?_
      refine swP_k ⟨by omega, lc_raise G J hL hi6 hb Kc⟩ ?_
      refine swP_k ⟨by omega, lc_setSun G J hL hi6 hb Kc⟩ ?_
      refine swP_k ⟨by omega, lc_building G J hL hi6 hb Kc⟩ ?_
      refine swP_k ⟨by omega, lc_shade G J hL hi6 hb Kc⟩ ?_
      refine swP_k ⟨by omega, lc_shades G J hL hi6 hb Kc⟩ ?_
      refine swP_k ⟨by omega, lc_area G J hL hi6 hb Kc⟩ ?_
      refine swP_k ⟨by omega, lc_inHour G J hL hi6 hb Kc⟩ ?_
      refine swP_k ⟨by omega, lc_let G J hL hi6 hb Kc⟩ ?_
      refine swP_k ⟨by omega, lc_end G J hL hi6 hb Kc⟩ ?_
      refine swP_k ⟨by omega, lc_setPrice G J hL hi6 hb Kc⟩ ?_
      refine swP_k ⟨by omega, lc_lease G J hL hi6 hb Kc⟩ ?_
      refine swP_k ⟨by omega, lc_gets G J hL hi6 hb Kc⟩ ?_
      refine swP_k ⟨by omega, lc_cellOf G J hL hi6 hb Kc⟩ ?_
      refine swP_k ⟨by omega, lc_pass G J hL hi6 hb Kc⟩ ?_
      refine swP_k ⟨by omega, lc_count G J hL hi6 hb Kc⟩ ?_
      refine swP_k ⟨by omega, lc_got G J hL hi6 hb Kc⟩ ?_
      refine swP_k ⟨by omega, lc_paid G J hL hi6 hb Kc⟩ ?_
      refine swP_k ⟨by omega, lc_advise G J hL hi6 hb Kc⟩ ?_
      refine swP_k ⟨by omega, lc_wouldGet G J hL hi6 hb Kc⟩ ?_
      refine swP_k ⟨by omega, lc_fulfilled G J (fun h' o5 o6 o7 o8 J' => K D S h' o5 o6 o7 o8 b J' (by omega) (by omega))⟩ ?_
      refine swP_k ⟨by omega, lc_digest G J (fun h' J' => K D S h' o5 o6 o7 o8 b J' (by omega) (by omega))⟩ ?_
      exact swP_z
