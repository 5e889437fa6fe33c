/-! ===== steps that make cells, calls, throws ===== -/
theorem ia_new0 {h : Hp} {a t n : Nat} : ia (newA h a t n) a = fun _ => 0 := by
  funext i
  rw [ia_newA, if_pos rfl]
theorem ja_new0 {h : Hp} {a t n : Nat} : ja (newA h a t n) a = fun _ => 0 := by
  funext i
  rw [ja_newA, if_pos rfl]
theorem ra_new0 {h : Hp} {a t n : Nat} : ra (newA h a t n) a = fun _ => none := by
  funext i
  rw [ra_newA, if_pos rfl]
theorem fcls_inj {s : State} {n : String} {a b : ClassId} (h1 : s.vm.findClass n = some a) (h2 : s.vm.findClass n = some b) : a = b := Option.some.inj (h1.symm.trans h2)
theorem rs_new {own : String} {pc idx x y : Nat} {v : Int32} {tg : List Nat} (hr : rsOf own pc (.new idx) = (x, y, v, tg)) (hx : x ≠ 99) : clss.lookup (own, idx) = some x := by
  have hr : (match clss.lookup (own, idx) with | some q => (q, (0 : Nat), (0 : Int32), ([] : List Nat)) | none => (99, 0, 0, [])) = (x, y, v, tg) := hr
  split at hr
  · rename_i q hq; cases hr; exact hq
  · cases hr; exact absurd rfl hx
theorem rs_anew {own : String} {pc idx x y : Nat} {v : Int32} {tg : List Nat} (hr : rsOf own pc (.anewarray idx) = (x, y, v, tg)) (hx : x ≠ 99) : clss.lookup (own, idx) = some x := by
  have hr : (match clss.lookup (own, idx) with | some q => (q, (0 : Nat), (0 : Int32), ([] : List Nat)) | none => (99, 0, 0, [])) = (x, y, v, tg) := hr
  split at hr
  · rename_i q hq; cases hr; exact hq
  · cases hr; exact absurd rfl hx
theorem rs_cast {own : String} {pc idx x y : Nat} {v : Int32} {tg : List Nat} (hr : rsOf own pc (.checkcast idx) = (x, y, v, tg)) (hx : x ≠ 99) : clss.lookup (own, idx) = some x := by
  have hr : (match clss.lookup (own, idx) with | some q => (q, (0 : Nat), (0 : Int32), ([] : List Nat)) | none => (99, 0, 0, [])) = (x, y, v, tg) := hr
  split at hr
  · rename_i q hq; cases hr; exact hq
  · cases hr; exact absurd rfl hx
theorem rs_ldc {own : String} {pc idx x y : Nat} {v : Int32} {tg : List Nat} (hr : rsOf own pc (.ldc idx) = (x, y, v, tg)) (hx : x ≠ 99) : clss.lookup (own, idx) = some x := by
  have hr : (match clss.lookup (own, idx) with | some q => (q, (0 : Nat), (0 : Int32), ([] : List Nat)) | none => (99, 0, 0, [])) = (x, y, v, tg) := hr
  split at hr
  · rename_i q hq; cases hr; exact hq
  · cases hr; exact absurd rfl hx
theorem rs_ldc2 {own : String} {pc idx x : Nat} {v : Int32} {tg : List Nat} (hr : rsOf own pc (.ldc2_w idx) = (x, 1, v, tg)) : lcns.lookup (own, idx) = some x := by
  have hr : (match lcns.lookup (own, idx) with | some q => (q, (1 : Nat), (0 : Int32), ([] : List Nat)) | none => (0, 0, 0, [])) = (x, 1, v, tg) := hr
  split at hr
  · rename_i q hq; cases hr; exact hq
  · cases hr
theorem cls_ok : clss.all (fun q => decide (Cond.classLink q.1.1 q.1.2 (nmOf q.2) ∈ gw)) = true := by decide +kernel
theorem ldc_word : Cond.constant RJ8 200 2147483639 ∈ gw := by decide +kernel
theorem lcn_ok : lcns.all (fun q => decide (Cond.constantLong q.1.1 q.1.2 (Int64.ofNat q.2) ∈ gw)) = true := by decide +kernel
theorem cls_link {own : String} {idx x : Nat} (hf : clss.lookup (own, idx) = some x) : Cond.classLink own idx (nmOf x) ∈ gw := by
  have h1 := List.all_eq_true.mp cls_ok _ (lk_mem _ hf)
  simpa only [decide_eq_true_eq] using h1
theorem lcn_link {own : String} {idx x : Nat} (hf : lcns.lookup (own, idx) = some x) : Cond.constantLong own idx (Int64.ofNat x) ∈ gw := by
  have h1 := List.all_eq_true.mp lcn_ok _ (lk_mem _ hf)
  simpa only [decide_eq_true_eq] using h1
theorem cl_ini : ∀ x, x < 7 → (Cond.initialized (nmOf x) ∈ gw) ∧ (Cond.instantiable (nmOf x) (nF x) ∈ gw) := lt7 (by decide +kernel) (by decide +kernel) (by decide +kernel) (by decide +kernel) (by decide +kernel) (by decide +kernel) (by decide +kernel)
theorem cl_def : ∀ x, x < 7 → ∀ k, k < nF x → defaultValue (clY x k) = if refF x k = true then .null else .int 0 := lt7 (by decide +kernel) (by decide +kernel) (by decide +kernel) (by decide +kernel) (by decide +kernel) (by decide +kernel) (by decide +kernel)
theorem arr_words : Cond.arrayClass .int ∈ gw ∧ Cond.arrayClass .boolean ∈ gw ∧ Cond.arrayClass .long ∈ gw := by decide +kernel
section STPB
variable {G : GT} {M : MI} {ini : Bool} {d : Nat} {P : Option Value → Hp → Prop} {PX : String → Hp → Prop}
variable {p : Program} {l : Launch} {e : Env} {R : Room} {s : State} {m : MethodId} {args : Array Value} {below : List Frame} {meth : Method} {c : Code} {Q : State → Prop} {H : Heap} {locs : List Loc} {cells slots : Nat} {la : Array Slot}
variable {pc : Nat} {ls : Ls} {st rest : List Value} {h : Hp} {b : Nat × Nat}
theorem Mach.A {q : Nat} (hM : Mach G M ini d P PX p l e R s m args below meth c Q) (hq : s.heap.size ≤ q) : AA G q := Nat.le_trans hM.2.2.2.2.2.2.2.2.2.2.1 hq
theorem fresh_kd {a : Nat} (hP1 : va_P G.1 vwCl ([] ++ va_pl [] (cellOf G h)) H) (hR : Rel G h H) (ha : ¬ a < H.size) : kd h a = 0 := by
  rcases Nat.eq_zero_or_pos (kd h a) with q | q
  · exact q
  · exact absurd (hR.lt (by omega)).1 ha
theorem fresh_of {L : List Nat} {f : Nat → va_E} {a : Nat} {ee : va_E} (hR1 : ∀ a, kd h a ≠ 0 ↔ a ∈ L) (hD : va_D (AA G) (([] ++ va_pl L f) ++ [(a, ee)])) : kd h a = 0 := by
  rcases Nat.eq_zero_or_pos (kd h a) with q | q
  · exact q
  · exfalso
    obtain ⟨k, hk⟩ := va_pl_get (X := []) (f := f) ((hR1 a).mp (by omega))
    have hl := (List.getElem?_eq_some_iff.mp hk).1
    have h1 : (([] ++ va_pl L f) ++ [(a, ee)])[k]? = some (a, f a) := by rw [List.getElem?_append_left hl]; exact hk
    have h2 : (([] ++ va_pl L f) ++ [(a, ee)])[([] ++ va_pl L f).length]? = some (a, ee) := by rw [List.getElem?_append_right (Nat.le_refl _), Nat.sub_self]; rfl
    have := hD.1 _ _ _ _ h1 h2 rfl
    omega
theorem AA_of {L : List Nat} {f : Nat → va_E} {a : Nat} {ee : va_E} (hD : va_D (AA G) (([] ++ va_pl L f) ++ [(a, ee)])) : AA G a := by
  have h2 : (([] ++ va_pl L f) ++ [(a, ee)])[([] ++ va_pl L f).length]? = some (a, ee) := by rw [List.getElem?_append_right (Nat.le_refl _), Nat.sub_self]; rfl
  exact hD.2 _ _ h2
theorem st_new {idx x y : Nat} {v : Int32} {tg : List Nat} (hM : Mach G M ini d P PX p l e R s m args below meth c Q) (hR : Rel G h H) (hS : va_S (AA G) s.heap H locs) (hdec : decode M.2.1 pc = .ok (.new idx, 3)) (hr : rsOf M.1 pc (.new idx) = (x, y, v, tg)) (hx7 : x < 7)
    (hc : cells + 1 ≤ R.cells) (hs : slots + nF x ≤ R.slots)
    (kk : ∀ (a : Nat) (H1 : Heap), kd h a = 0 → a ≠ G.2.2.1.2.1 → Rel G (newO h a x) H1 → va_S (AA G) s.heap H1 locs → W p l e R s m args below meth c H1 locs (cells + 1) (slots + nF x) Q (F0 m (pc + 3) la (.ref a :: rest))) : W p l e R s m args below meth c H locs cells slots Q (F0 m pc la rest) := by
  have hA : ∀ q, s.heap.size ≤ q → AA G q := fun q hq => hM.A hq
  obtain ⟨hx, hb, hml, hown, hts, hg, h7, h8, h9, h10, h11, h12, -⟩ := hM
  obtain ⟨L, h1, h2, h3⟩ := hR
  refine va_new (T := clT x) (N := nF x) (C := nmOf x) (fs := flL (newO h (H.size) x) x H.size) hx hb hts (cl_in x hx7) (clY x) (cl_ty x hx7) hown (hts _ (cls_link (rs_new hr (by omega)))) (hts _ (cl_ini x hx7).2) (hts _ (cl_ini x hx7).1) hg.1 h2 h3 hS hA (cl_at x hx7) (fun j hj => ?_) hc hs hdec (fun q H1 hP1 hD1 hS1 => ?_)
  · rw [cl_def x hx7 j hj]
    unfold vp_V
    rw [List.getD_eq_getElem?_getD, flL_at hj, Option.getD_some, fvV, fr_newO, if_pos rfl, fi_newO, if_pos rfl]
    cases hrf : refF x j <;> simp [va_rf]
  · have hk := fresh_of h1 hD1
    have hq := AA_of hD1
    have hfl : flL (newO h H.size x) x H.size = flL (newO h q x) x q := by
      unfold flL
      apply List.map_congr_left
      intro k _
      unfold fvV
      rw [fr_newO, if_pos rfl, fi_newO, if_pos rfl, fr_newO, if_pos rfl, fi_newO, if_pos rfl]
    have hne : q ≠ G.2.2.1.2.1 := fun z => by
      have h13 : G.2.2.1.1 ≤ q := hq
      omega
    refine kk q H1 hk hne (Rel.push h1 hk hP1 hD1 (by rw [kd_newO, if_pos rfl]; omega) (fun z hz => by rw [kd_newO, if_neg hz]) ?_ (fun z hz => newO_o hz)) hS1
    rw [cell_obj hx7 (by rw [kd_newO, if_pos rfl]), hfl]
theorem st_newarr {t : ArrayType} {n : Int32} (hM : Mach G M ini d P PX p l e R s m args below meth c Q) (hR : Rel G h H) (hS : va_S (AA G) s.heap H locs) (hdec : decode M.2.1 pc = .ok (.newarray t, 2)) (ht : t = .int ∨ t = .boolean ∨ t = .long) (hn : ¬ n < 0) (hN : n.toNatClampNeg ≤ 5000)
    (hc : cells + 1 ≤ R.cells) (hs : slots + n.toNatClampNeg ≤ R.slots)
    (kk : ∀ (a : Nat) (H1 : Heap), kd h a = 0 → a ≠ G.2.2.1.2.1 → Rel G (newA h a (if t = .int then 21 else if t = .boolean then 22 else 23) n.toNatClampNeg) H1 → va_S (AA G) s.heap H1 locs → W p l e R s m args below meth c H1 locs (cells + 1) (slots + n.toNatClampNeg) Q (F0 m (pc + 2) la (.ref a :: rest))) : W p l e R s m args below meth c H locs cells slots Q (F0 m pc la (.int n :: rest)) := by
  have hA : ∀ q, s.heap.size ≤ q → AA G q := fun q hq => hM.A hq
  obtain ⟨hx, hb, hml, hown, hts, hg, h7, h8, h9, h10, h11, h12, -⟩ := hM
  obtain ⟨L, h1, h2, h3⟩ := hR
  have fin : ∀ (kn : Nat) (cA : ClassId) (a0 : vp_A) (q : Nat) (H1 : Heap), kn ≠ 0 → (cellOf G (newA h q kn n.toNatClampNeg) q = .inl (cA, a0)) → va_P G.1 vwCl (([] ++ va_pl L (cellOf G h)) ++ [(q, .inl (cA, a0))]) H1 → va_D (AA G) (([] ++ va_pl L (cellOf G h)) ++ [(q, .inl (cA, a0))]) → kd h q = 0 ∧ q ≠ G.2.2.1.2.1 ∧ Rel G (newA h q kn n.toNatClampNeg) H1 := by
    intro kn cA a0 q H1 hkn hcell hP1 hD1
    have hk := fresh_of h1 hD1
    have hq : G.2.2.1.1 ≤ q := AA_of hD1
    exact ⟨hk, fun z => by omega, Rel.push h1 hk hP1 hD1 (by rw [kd_newA, if_pos rfl]; exact hkn) (fun z hz => by rw [kd_newA, if_neg hz]) hcell (fun z hz => newA_o hz)⟩
  rcases ht with rfl | rfl | rfl
  · refine va_newa (atype := .int) (a0 := (n.toNatClampNeg, .inl (fun _ => 0))) hx hb (hts _ arr_words.1) rfl hg.1 h2 h3 hS hA (fun cA => rfl) hn rfl (by show _ * 4 ≤ _; omega) hc hs hdec (fun q cA H1 hK1 hP1 hD1 hS1 => ?_)
    have e1 : cA = G.2.1.1 := fcls_inj (hK1.2 4 _ rfl).2 (hg.1.2 0 _ rfl).2
    subst e1
    obtain ⟨f1, f2, f3⟩ := fin 21 _ _ q H1 (by omega) (by rw [cell_I (by rw [kd_newA, if_pos rfl]), ln_newA, if_pos rfl, ia_new0]) hP1 hD1
    exact kk q H1 f1 f2 f3 hS1
  · refine va_newa (atype := .boolean) (a0 := (n.toNatClampNeg, .inl (fun _ => 0))) hx hb (hts _ arr_words.2.1) rfl hg.1 h2 h3 hS hA (fun cA => rfl) hn rfl (by show _ * 1 ≤ _; omega) hc hs hdec (fun q cA H1 hK1 hP1 hD1 hS1 => ?_)
    have e1 : cA = G.2.1.2.1 := fcls_inj (hK1.2 4 _ rfl).2 (hg.1.2 1 _ rfl).2
    subst e1
    obtain ⟨f1, f2, f3⟩ := fin 22 _ _ q H1 (by omega) (by rw [cell_Z (by rw [kd_newA, if_pos rfl]), ln_newA, if_pos rfl, ia_new0]) hP1 hD1
    exact kk q H1 f1 f2 f3 hS1
  · refine va_newa (atype := .long) (a0 := (n.toNatClampNeg, .inr (.inl (fun _ => 0)))) hx hb (hts _ arr_words.2.2) rfl hg.1 h2 h3 hS hA (fun cA => rfl) hn rfl (by show _ * 8 ≤ _; omega) hc hs hdec (fun q cA H1 hK1 hP1 hD1 hS1 => ?_)
    have e1 : cA = G.2.1.2.2.1 := fcls_inj (hK1.2 4 _ rfl).2 (hg.1.2 2 _ rfl).2
    subst e1
    obtain ⟨f1, f2, f3⟩ := fin 23 _ _ q H1 (by omega) (by rw [cell_J (by rw [kd_newA, if_pos rfl]), ln_newA, if_pos rfl, ja_new0]) hP1 hD1
    exact kk q H1 f1 f2 f3 hS1
theorem st_anew {idx x y : Nat} {v : Int32} {tg : List Nat} {n : Int32} (hM : Mach G M ini d P PX p l e R s m args below meth c Q) (hR : Rel G h H) (hS : va_S (AA G) s.heap H locs) (hdec : decode M.2.1 pc = .ok (.anewarray idx, 3)) (hr : rsOf M.1 pc (.anewarray idx) = (x, y, v, tg)) (hx61 : x = 61) (hn : ¬ n < 0) (hN : n.toNatClampNeg ≤ 5000)
    (hc : cells + 1 ≤ R.cells) (hs : slots + n.toNatClampNeg ≤ R.slots)
    (kk : ∀ (a : Nat) (H1 : Heap), kd h a = 0 → a ≠ G.2.2.1.2.1 → Rel G (newA h a 24 n.toNatClampNeg) H1 → va_S (AA G) s.heap H1 locs → W p l e R s m args below meth c H1 locs (cells + 1) (slots + n.toNatClampNeg) Q (F0 m (pc + 3) la (.ref a :: rest))) : W p l e R s m args below meth c H locs cells slots Q (F0 m pc la (.int n :: rest)) := by
  have hA : ∀ q, s.heap.size ≤ q → AA G q := fun q hq => hM.A hq
  obtain ⟨hx, hb, hml, hown, hts, hg, h7, h8, h9, h10, h11, h12, -⟩ := hM
  obtain ⟨L, h1, h2, h3⟩ := hR
  have hcl := cls_link (rs_anew hr (by omega))
  subst hx61
  refine va_newq hx hb hown (hts _ hcl) hg.2.2.2.2.2.2.2.2.2.1 hg.1 h2 h3 hS hA hn rfl (by omega) hc hs hdec (fun q cA H1 hK1 hP1 hD1 hS1 => ?_)
  have e1 : cA = G.2.1.2.2.2 := by
    obtain ⟨_, _, _, _, _, q4⟩ := (hK1.2 4 _ rfl).2
    obtain ⟨_, _, _, _, _, r4⟩ := (hg.1.2 3 _ rfl).2
    exact fcls_inj q4 r4
  subst e1
  have hk := fresh_of h1 hD1
  have hq : G.2.2.1.1 ≤ q := AA_of hD1
  refine kk q H1 hk (fun z => by omega) (Rel.push h1 hk hP1 hD1 (by rw [kd_newA, if_pos rfl]; omega) (fun z hz => by rw [kd_newA, if_neg hz]) ?_ (fun z hz => newA_o hz)) hS1
  rw [cell_O (by rw [kd_newA, if_pos rfl]), ln_newA, if_pos rfl, ra_new0]
/-! calls -/
theorem g_call {Qv : Option Value → Hp → Prop} {QX : String → Hp → Prop} {mc ms : Nat} {a : Array Value} {st0 : List Value} (hr : vx_Run p l e R s m args below meth c H locs cells slots mc ms (F0 m pc la st0) rest (QcG G Qv a) (XcG G QX) (AA G)) (hS : va_S (AA G) s.heap H locs)
    (kk : ∀ (v : Option Value) (u : Hp) (H1 : Heap) (locs1 : List Loc), Qv v u → Rel G u H1 → va_S (AA G) s.heap H1 locs1 → W p l e R s m args below meth c H1 locs1 (cells + mc) (slots + ms) Q (F0 m (pc + 3) la (v.toList ++ rest)))
    (kx : ∀ (E : String) (ce : Cell) (q : Addr) (u : Hp) (H1 : Heap) (locs1 : List Loc), QX E u → Rel G u H1 → va_S (AA G) s.heap H1 locs1 → H1[q]? = some ce → ce.vm = .none → s.vm.findClass E = some ce.cls → vx_W p l e R s m args below meth c H1 locs1 (cells + mc) (slots + ms) Q (F0 m pc la rest) q) : W p l e R s m args below meth c H locs cells slots Q (F0 m pc la st0) := by
  intro T hT X
  rcases hr T hT X with ⟨v, st₀, t, T', L, h0, X', hL, e1, e2, ⟨⟨v', u, hv, hq, hRu⟩, hF⟩, st⟩ | ⟨q, st₀, t, T', L, E, ce, h0, X', hL, e1, e2, ⟨u, -, ⟨hq, hRu⟩, hF⟩, hce, hcv, hcl, st⟩
  · cases hv
    obtain ⟨-, -, k3⟩ := vx_keep h0 e1 hS (fun _ _ h => h) (fun _ h => h) hL hF
    obtain ⟨t2, a1, b1⟩ := kk v u T'.heap (locs ++ L) hq (by rw [e1]; exact hRu) k3 T' rfl X'
    exact ⟨t2, st t2 a1, b1⟩
  · obtain ⟨-, -, k3⟩ := vx_keep h0 e1 hS (fun _ _ h => h) (fun _ h => h) hL hF
    obtain ⟨t2, a1, b1⟩ := kx E ce q u T'.heap (locs ++ L) hq (by rw [e1]; exact hRu) k3 (by rw [e1]; exact hce) hcv hcl T' rfl X'
    exact ⟨t2, st.trans a1, b1⟩
theorem hndl_e {own : String} {E : String} : ∀ (hh : List (Nat × Nat × Nat × Nat)) (t : Nat), hndl own pc E hh = some t → ∃ pre r suf, hh = pre ++ r :: suf ∧ r.2.2.1 = t ∧ (r.1 ≤ pc ∧ pc < r.2.1) ∧ (clss.lookup (own, r.2.2.2)).map nmOf = some E ∧ ∀ z ∈ pre, ¬ (z.1 ≤ pc ∧ pc < z.2.1) ∨ (clss.lookup (own, z.2.2.2)).map nmOf ≠ some E
  | [], t, h => by cases h
  | (a, b, u, k) :: r, t, h => by
    unfold hndl at h
    split at h
    · rename_i hc
      cases h
      exact ⟨[], _, r, rfl, rfl, ⟨hc.1, hc.2.1⟩, hc.2.2, fun z hz => by cases hz⟩
    · rename_i hc
      obtain ⟨pre, x, suf, e1, e2, e3, e4, e5⟩ := hndl_e r t h
      refine ⟨(a, b, u, k) :: pre, x, suf, by rw [e1]; rfl, e2, e3, e4, fun z hz => ?_⟩
      rcases List.mem_cons.mp hz with rfl | hz
      · by_cases h1 : a ≤ pc ∧ pc < b
        · exact Or.inr (fun q => hc ⟨h1.1, h1.2, q⟩)
        · exact Or.inl h1
      · exact e5 z hz
theorem ex_in {x : Nat} (h1 : 50 ≤ x) (h2 : x ≤ 52) : nmOf x ∈ exN := by
  rcases (show x = 50 ∨ x = 51 ∨ x = 52 by omega) with rfl | rfl | rfl <;> decide
theorem ex_cast {x : Nat} (h1 : 50 ≤ x) (h2 : x ≤ 52) : Cond.castable (nmOf x) (nmOf x) ∈ bw := by
  rcases (show x = 50 ∨ x = 51 ∨ x = 52 by omega) with rfl | rfl | rfl <;> decide +kernel
theorem st_catch {E : String} {ce : Cell} {q : Addr} {t : Nat} (hM : Mach G M ini d P PX p l e R s m args below meth c Q) (hH : hhOK (mow M) (mhh M)) (ht : hndl (mow M) pc E (mhh M) = some t) (hce : H[q]? = some ce) (hcv : ce.vm = .none) (hcl : s.vm.findClass E = some ce.cls)
    (kk : W p l e R s m args below meth c H locs cells slots Q (F0 m t la [.ref q])) : vx_W p l e R s m args below meth c H locs cells slots Q (F0 m pc la rest) q := by
  obtain ⟨pre, r, suf, e1, e2, e3, e4, e5⟩ := hndl_e _ _ ht
  obtain ⟨hx, hb, hml, hown, hts, hg, h7, h8, h9, -⟩ := hM
  have hr : r ∈ mhh M := by rw [e1]; simp
  obtain ⟨r1, x, x1, x2, x3, x4⟩ := hH r hr
  have hE : E = nmOf x := by rw [x3] at e4; exact (Option.some.inj e4).symm
  have htab : c.exceptionTable.toList = tableOf pre ++ ⟨r.1, r.2.1, r.2.2.1, r.2.2.2⟩ :: tableOf suf := by
    rw [h9, show M.2.2.2.2 = pre ++ r :: suf from e1]
    simp [tableOf]
  refine vx_catch (own := mow M) (name := nmOf x) (E := E) hown (tableOf pre) ⟨r.1, r.2.1, r.2.2.1, r.2.2.2⟩ (tableOf suf) htab ?_ ?_ r1 (hts _ x4) ?_ hce hcv hcl (by rw [show (⟨r.1, r.2.1, r.2.2.1, r.2.2.2⟩ : ExceptionTableEntry).handlerPc = t from e2]; exact kk)
  · intro z hz
    unfold tableOf at hz
    obtain ⟨w, hw, rfl⟩ := List.mem_map.mp hz
    obtain ⟨w1, y, y1, y2, y3, y4⟩ := hH w (by rw [e1]; exact List.mem_append_left _ hw)
    rcases e5 w hw with h | h
    · refine Or.inl ?_
      unfold covers
      simp only [Bool.and_eq_false_iff, decide_eq_false_iff_not]
      omega
    · refine Or.inr ⟨w1, nmOf y, hts _ y4, ?_⟩
      have hne : nmOf x ≠ nmOf y := fun z => h (by rw [y3, hE, z]; rfl)
      rw [hE]
      exact hg.2.2.2.2.2.1 _ (ex_in x1 x2) _ (ex_in y1 y2) hne
  · unfold covers
    simp only [Bool.and_eq_true, decide_eq_true_eq]
    exact e3
  · rw [hE]
    exact va_Nw.use rfl (hg.2.2.2.2.1 _ (ex_cast x1 x2))
end STPB
