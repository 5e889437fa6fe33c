/-! ===== the law: its start ===== -/
section LAW2
variable {G : GT} {pc : Nat} {ls : Ls} {st : List Value} {h : Hp} {b : Nat × Nat}
theorem WpL.nw {j x : Nat} (hd : rs ML_law pc = some (.new j, 3, x, 0, 0, [])) (hx : x < 7) (h1 : 1 ≤ b.1) (h2 : nF x ≤ b.2) (K : ∀ a, kd h a = 0 → a ≠ G.2.2.1.2.1 → WpL G (pc + 3) ls (.ref a :: st) (newO h a x) (b.1 - 1, b.2 - nF x)) : WpL G pc ls st h b := by
  refine Wp.st1 envL hd (Or.inl rfl) ?_
  show if x < 7 then _ else _
  rw [if_pos hx]
  exact And.intro h1 (And.intro h2 K)
theorem WpL.dp {a : Nat} (hd : rs ML_law pc = some (.dup, 1, 0, 0, 0, [])) (K : WpL G (pc + 1) ls (.ref a :: .ref a :: st) h b) : WpL G pc ls (.ref a :: st) h b := Wp.st1 envL hd (Or.inl rfl) K
theorem WpL.as {fn : Fin 4} {n a : Nat} (hd : rs ML_law pc = some (.astore_n fn, 1, n, 0, 0, [])) (hn : n < ls.length) (K : WpL G (pc + 1) (putL ls n (.ref a)) st h b) : WpL G pc ls (.ref a :: st) h b := Wp.st1 envL hd (Or.inl rfl) (And.intro hn K)
theorem WpL.cI {j a : Nat} {ce : CE} {As rest : List Value} (hd : rs ML_law pc = some (.invokespecial j, 3, 0, 0, 0, [])) (hE : EnvOK G ML_law [(j, ce)]) (h1 : ce.1 = 2) (hs : ∀ f, sP ce.2.2.2.1 st f = f As (.ref a :: rest)) (hk : kd h a ≠ 0 ∧ kd h a < 21) (k1 : ce.2.2.2.2.1 + 1 ≤ 14) (k2 : ce.2.2.2.2.2.1 ≤ b.1) (k3 : ce.2.2.2.2.2.2.1 ≤ b.2) (k4 : catS rest ≤ 8) (k5 : ce.2.2.2.2.2.2.2 (.ref a :: As) h (cQ (Wp G ML_law false 14 PL PXL) pc ls rest (b.1 - ce.2.2.2.2.2.1, b.2 - ce.2.2.2.2.2.2.1)) (cX ML_law PXL (Wp G ML_law false 14 PL PXL) pc ls (b.1 - ce.2.2.2.2.2.1, b.2 - ce.2.2.2.2.2.2.1))) : WpL G pc ls st h b := by
  refine Wp.st1 hE hd (Or.inl rfl) ?_
  show lkC [(j, ce)] j _
  rw [lkC_c, if_pos rfl, if_pos (Or.inl h1), hs]
  exact And.intro hk.1 (And.intro hk.2 (And.intro k1 (And.intro k2 (And.intro k3 (And.intro k4 k5)))))
end LAW2
theorem CI.kz {G : GT} {h : Hp} {D : WD} {S : SS} (hI : CI G h D S) {a : Nat} (ha : WO D S a) : kd h a ≠ 0 ∨ a = G.2.2.1.2.1 := by
  obtain ⟨⟨⟨a1, -⟩, ⟨b1, -⟩, ⟨c1, -⟩, ⟨c2, -⟩, ⟨c3, -⟩, ⟨c4, -⟩, ⟨d1, d2, d3⟩, e1, e2, e3, e4⟩, -, -⟩ := hI
  have lst : ∀ {x q cap n f}, Lst G h x q cap n f → kd h q ≠ 0 ∨ q = G.2.2.1.2.1 := fun {x q cap n f} hL => by
    rcases Nat.eq_zero_or_pos cap with z | z
    · exact Or.inr (hL.2.2.2.2.1 z).1
    · exact Or.inl (by rw [(hL.2.2.2.2.2.1 z).1]; omega)
  rcases ha with ⟨i, hi, rfl⟩ | ⟨i, hi, rfl⟩ | ⟨i, hi, rfl⟩ | ⟨t, r, ht, hr, rfl⟩
  · rcases (show i = 0 ∨ i = 1 ∨ i = 2 ∨ i = 3 ∨ i = 4 ∨ i = 5 ∨ i = 6 ∨ i = 7 ∨ i = 8 ∨ i = 9 ∨ i = 10 ∨ i = 11 by omega) with rfl | rfl | rfl | rfl | rfl | rfl | rfl | rfl | rfl | rfl | rfl | rfl
    · exact Or.inl (by rw [a1]; omega)
    · exact Or.inl (by rw [b1]; omega)
    · exact Or.inl (by rw [d1.1]; omega)
    · exact Or.inl (by rw [c1]; omega)
    · exact Or.inl (by rw [d2.1]; omega)
    · exact Or.inl (by rw [d3.1]; omega)
    · exact Or.inl (by rw [c2]; omega)
    · exact Or.inl (by rw [c3]; omega)
    · exact Or.inl (by rw [c4]; omega)
    · exact lst d1
    · exact lst d2
    · exact lst d3
  · exact Or.inl (by rw [e1 i hi]; omega)
  · exact Or.inl (by rw [e3 i hi]; omega)
  · obtain ⟨k, -, ⟨k4, -⟩, ⟨k5, -⟩, ⟨k6, -⟩, ⟨k7, -⟩⟩ := e2 r hr
    rcases (show t = 2 ∨ t = 4 ∨ t = 5 ∨ t = 6 ∨ t = 7 by omega) with rfl | rfl | rfl | rfl | rfl
    · exact Or.inl (by rw [k]; omega)
    · exact Or.inl (by rw [k4]; omega)
    · exact Or.inl (by rw [k5]; omega)
    · exact Or.inl (by rw [k6]; omega)
    · exact Or.inl (by rw [k7]; omega)
/-- no cells -/
def hp0 : Hp := (fun _ => 0, fun _ _ _ => 0, fun _ _ _ => none, fun _ => 0, fun _ _ => 0, fun _ _ => 0, fun _ _ => none)
theorem kd_hp0 (a : Nat) : kd hp0 a = 0 := rfl
set_option maxRecDepth 100000 in
set_option maxHeartbeats 4000000 in
theorem law_run (G : GT) (hL : scL G ≤ 3584) : WpL G 0 [some (.ref (scB G)), none, none, none, none, none, none, none, none] [] hp0 (31000, 840000) := by
  refine WpL.nw (x := 5) DL_law_0 (by omega) (by show 1 ≤ 31000; omega) (by show 7 ≤ 840000; omega) (fun x hx hxe => ?_)
  refine WpL.dp DL_law_3 ?_
  have kx : kd (newO hp0 x 5) x = 6 := by rw [kd_newO, if_pos rfl]
  refine WpL.cI (ce := ce_X4_init G) (As := []) (rest := [.ref x]) DL_law_4 (env_cons (ceI ⟨by decide +kernel, rfl⟩ ⟨by decide, by decide, by decide +kernel⟩ (by decide) rfl (ok_X4_init G G)) envL) rfl (fun _ => rfl) ⟨by omega, by omega⟩ (Nat.le_of_ble_eq_true rfl) (by show 100 ≤ 31000 - 1; omega) (by show 9000 ≤ 840000 - 7; omega) (Nat.le_of_ble_eq_true rfl) ?_
  refine And.intro kx (And.intro (by rw [fi_newO, if_pos rfl]; rfl) (And.intro (by rw [fi_newO, if_pos rfl]; rfl) (fun h1 D f1 w1 ex hI => ?_)))
  subst ex
  show WpL G 7 [some (.ref (scB G)), none, none, none, none, none, none, none, none] [.ref (D 0 0)] h1 (31000 - 1 - 100, 840000 - 7 - 9000)
  refine WpL.as DL_law_7 (by show 1 < 9; omega) ?_
  refine Wp.emp (fun hE1 => ?_)
  refine WpL.nw (x := 6) DL_law_8 (by omega) (by show 1 ≤ 31000 - 1 - 100; omega) (by show 12 ≤ 840000 - 7 - 9000; omega) (fun m hm hme => ?_)
  refine WpL.dp DL_law_11 ?_
  have km : kd (newO h1 m 6) m = 7 := by rw [kd_newO, if_pos rfl]
  refine WpL.cI (ce := ce_X5_init) (As := []) (rest := [.ref m]) DL_law_12 (env_cons (ceI ⟨by decide +kernel, rfl⟩ ⟨by decide, by decide, by decide +kernel⟩ (by decide) rfl (ok_X5_init G)) envL) rfl (fun _ => rfl) ⟨by omega, by omega⟩ (Nat.le_of_ble_eq_true rfl) (by show 7 ≤ 31000 - 1 - 100 - 1; omega) (by show 6648 ≤ 840000 - 7 - 9000 - 12; omega) (Nat.le_of_ble_eq_true rfl) ?_
  refine And.intro km (And.intro (fun k _ => by rw [fi_newO, if_pos rfl]; rfl) (fun h3 A f3 w3 _ hM hC => ?_))
  show WpL G 15 [some (.ref (scB G)), some (.ref (D 0 0)), none, none, none, none, none, none, none] [.ref m] h3 (31000 - 1 - 100 - 1 - 7, 840000 - 7 - 9000 - 12 - 6648)
  refine WpL.as DL_law_15 (by show 2 < 9; omega) ?_
  refine Wp.emp (fun hE3 => ?_)
  have f13 : Fr h1 h3 (fun _ => False) := (Fr.nO hm).nw f3 (fun a e => Or.inr (by rw [e]; exact hm))
  have hI3 : CI G h3 D (SI 12) := hI.frm hE3 f13 (fun _ z => z.elim)
  have wm : ∀ a, WM m A a → kd h1 a = 0 := fun a ha => by
    rcases ha with rfl | ⟨k, hk, rfl⟩
    · exact hm
    · exact (Fr.nO (W := fun _ => False) hm).kz (w3 k hk.1 hk.2)
  have hd : ∀ a, WO D (SI 12) a → ¬ WM m A a := fun a ha hma => by
    rcases hI.kz ha with z | z
    · exact z (wm a hma)
    · exact hM.ex hma (by rw [z]; exact hE3)
  refine Wp.st1 envL DL_law_16 (Or.inl rfl) ?_
  refine Wp.st1 envL DL_law_17 (Or.inl rfl) (And.intro (Or.inr (Or.inr rfl)) (And.intro (by decide) (And.intro (by decide) (And.intro (by show 1 ≤ 31000 - 1 - 100 - 1 - 7; omega) (And.intro (by decide) (fun o ho hoe => ?_))))))
  show WpL G 19 [some (.ref (scB G)), some (.ref (D 0 0)), some (.ref m), none, none, none, none, none, none] [.ref o] (newA h3 o 23 1) (31000 - 1 - 100 - 1 - 7 - 1, 840000 - 7 - 9000 - 12 - 6648 - 1)
  have fo : Fr h3 (newA h3 o 23 1) (fun _ => False) := Fr.nA ho
  have J : JI G (newA h3 o 23 1) D m A (SI 12) o := ⟨WF_SI 12, fun l hl => absurd hl (Nat.not_lt_zero l), hI3.frm (by rw [kd_newA, if_neg (fun z => hoe z.symm)]; exact hE3) fo (fun _ z => z.elim), hM.fr fo (fun _ z => z.elim), hC.fr hM fo (fun _ z => z.elim), hd, by rw [kd_newA, if_pos rfl], by rw [ln_newA, if_pos rfl]⟩
  refine WpL.as DL_law_19 (by show 3 < 9; omega) ?_
  refine Wp.st1 envL DL_law_20 (Or.inl rfl) ?_
  refine WpL.is DL_law_21 (by show 4 < 9; omega) ?_
  exact law_loop G hL 512 0 (by omega) (by omega) D (SI 12) _ none none none none _ J (by show 60 * 512 ≤ 31000 - 1 - 100 - 1 - 7 - 1; omega) (by show 1600 * 512 ≤ 840000 - 7 - 9000 - 12 - 6648 - 1; omega)
