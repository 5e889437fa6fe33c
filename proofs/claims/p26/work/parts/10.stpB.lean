/-! ===== steps that make cells, calls, throws ===== -/
theorem ia_new0 {h : Hp} {a t n : Nat} : ia (newA h a t n) a = fun _ => 0 := by
  funext i
  rw [ia_newA, if_pos rfl]
theorem ja_new0 {h : Hp} {a t n : Nat} : ja (newA h a t n) a = fun _ => 0 := by
  funext i
  rw [ja_newA, if_pos rfl]
theorem ra_new0 {h : Hp} {a t n : Nat} : ra (newA h a t n) a = fun _ => none := by
  funext i
  rw [ra_newA, if_pos rfl]
theorem fcls_inj {s : State} {n : String} {a b : ClassId} (h1 : s.vm.findClass n = some a) (h2 : s.vm.findClass n = some b) : a = b := Option.some.inj (h1.symm.trans h2)
theorem rs_new {own : String} {pc idx x y : Nat} {v : Int32} {tg : List Nat} (hr : rsOf own pc (.new idx) = (x, y, v, tg)) (hx : x ≠ 99) : clss.lookup (own, idx) = some x := by
  have hr : (match clss.lookup (own, idx) with | some q => (q, (0 : Nat), (0 : Int32), ([] : List Nat)) | none => (99, 0, 0, [])) = (x, y, v, tg) := hr
  split at hr
  · rename_i q hq; cases hr; exact hq
  · cases hr; exact absurd rfl hx
theorem rs_anew {own : String} {pc idx x y : Nat} {v : Int32} {tg : List Nat} (hr : rsOf own pc (.anewarray idx) = (x, y, v, tg)) (hx : x ≠ 99) : clss.lookup (own, idx) = some x := by
  have hr : (match clss.lookup (own, idx) with | some q => (q, (0 : Nat), (0 : Int32), ([] : List Nat)) | none => (99, 0, 0, [])) = (x, y, v, tg) := hr
  split at hr
  · rename_i q hq; cases hr; exact hq
  · cases hr; exact absurd rfl hx
theorem rs_cast {own : String} {pc idx x y : Nat} {v : Int32} {tg : List Nat} (hr : rsOf own pc (.checkcast idx) = (x, y, v, tg)) (hx : x ≠ 99) : clss.lookup (own, idx) = some x := by
  have hr : (match clss.lookup (own, idx) with | some q => (q, (0 : Nat), (0 : Int32), ([] : List Nat)) | none => (99, 0, 0, [])) = (x, y, v, tg) := hr
  split at hr
  · rename_i q hq; cases hr; exact hq
  · cases hr; exact absurd rfl hx
theorem rs_ldc {own : String} {pc idx x y : Nat} {v : Int32} {tg : List Nat} (hr : rsOf own pc (.ldc idx) = (x, y, v, tg)) (hx : x ≠ 99) (hx2 : x ≠ 98) : clss.lookup (own, idx) = some x := by
  have hr : (match clss.lookup (own, idx) with | some q => (q, (0 : Nat), (0 : Int32), ([] : List Nat)) | none => (match icns.lookup (own, idx) with | some v => (98, 0, v, []) | none => (99, 0, 0, []))) = (x, y, v, tg) := hr
  split at hr
  · rename_i q hq; cases hr; exact hq
  · split at hr
    · cases hr; exact absurd rfl hx2
    · cases hr; exact absurd rfl hx
theorem clss_98 : clss.all (fun q => decide (q.2 ≠ 98)) = true := by decide +kernel
theorem rs_ldci {own : String} {pc idx y : Nat} {v : Int32} {tg : List Nat} (hr : rsOf own pc (.ldc idx) = (98, y, v, tg)) : icns.lookup (own, idx) = some v := by
  have hr : (match clss.lookup (own, idx) with | some q => (q, (0 : Nat), (0 : Int32), ([] : List Nat)) | none => (match icns.lookup (own, idx) with | some v => (98, 0, v, []) | none => (99, 0, 0, []))) = (98, y, v, tg) := hr
  split at hr
  · rename_i q hq
    have h1 := List.all_eq_true.mp clss_98 _ (lk_mem _ hq)
    have h2 : q = 98 := congrArg Prod.fst hr
    simp [h2] at h1
  · split at hr
    · rename_i w hw
      have h2 : w = v := congrArg (fun z => z.2.2.1) hr
      rw [← h2]
      exact hw
    · cases hr
theorem rs_mna {own : String} {pc idx dm x y : Nat} {v : Int32} {tg : List Nat} (hr : rsOf own pc (.multianewarray idx dm) = (x, y, v, tg)) (hx : x ≠ 99) : clss.lookup (own, idx) = some x := by
  have hr : (match clss.lookup (own, idx) with | some q => (q, (0 : Nat), (0 : Int32), ([] : List Nat)) | none => (99, 0, 0, [])) = (x, y, v, tg) := hr
  split at hr
  · rename_i q hq; cases hr; exact hq
  · cases hr; exact absurd rfl hx
theorem rs_ldc2 {own : String} {pc idx x : Nat} {v : Int32} {tg : List Nat} (hr : rsOf own pc (.ldc2_w idx) = (x, 1, v, tg)) : lcns.lookup (own, idx) = some x := by
  have hr : (match lcns.lookup (own, idx) with | some q => (q, (1 : Nat), (0 : Int32), ([] : List Nat)) | none => (0, 0, 0, [])) = (x, 1, v, tg) := hr
  split at hr
  · rename_i q hq; cases hr; exact hq
  · cases hr
theorem cls_ok : clss.all (fun q => decide (Cond.classLink q.1.1 q.1.2 (nmOf q.2) ∈ gw)) = true := by decide +kernel
theorem ldc_word : Cond.constant RJ8 200 2147483639 ∈ gw := by decide +kernel
theorem lcn_ok : lcns.all (fun q => decide (Cond.constantLong q.1.1 q.1.2 (Int64.ofNat q.2) ∈ gw)) = true := by decide +kernel
theorem icn_ok : icns.all (fun q => decide (Cond.constant q.1.1 q.1.2 q.2 ∈ gw)) = true := by decide +kernel
theorem icn_link {own : String} {idx : Nat} {v : Int32} (hf : icns.lookup (own, idx) = some v) : Cond.constant own idx v ∈ gw := by
  have h1 := List.all_eq_true.mp icn_ok _ (lk_mem _ hf)
  simpa only [decide_eq_true_eq] using h1
theorem cls_link {own : String} {idx x : Nat} (hf : clss.lookup (own, idx) = some x) : Cond.classLink own idx (nmOf x) ∈ gw := by
  have h1 := List.all_eq_true.mp cls_ok _ (lk_mem _ hf)
  simpa only [decide_eq_true_eq] using h1
theorem lcn_link {own : String} {idx x : Nat} (hf : lcns.lookup (own, idx) = some x) : Cond.constantLong own idx (Int64.ofNat x) ∈ gw := by
  have h1 := List.all_eq_true.mp lcn_ok _ (lk_mem _ hf)
  simpa only [decide_eq_true_eq] using h1
theorem cl_ini : ∀ x, x < 7 → (Cond.initialized (nmOf x) ∈ gw) ∧ (Cond.instantiable (nmOf x) (nF x) ∈ gw) := lt7 (by decide +kernel) (by decide +kernel) (by decide +kernel) (by decide +kernel) (by decide +kernel) (by decide +kernel) (by decide +kernel)
theorem cl_def : ∀ x, x < 7 → ∀ k, k < nF x → defaultValue (clY x k) = if refF x k = true then .null else .int 0 := lt7 (by decide +kernel) (by decide +kernel) (by decide +kernel) (by decide +kernel) (by decide +kernel) (by decide +kernel) (by decide +kernel)
theorem arr_words : Cond.arrayClass .int ∈ gw ∧ Cond.arrayClass .boolean ∈ gw := by decide +kernel
section STPB
variable {G : GT} {M : MI} {ini : Bool} {d : Nat} {P : Option Value → Hp → Prop} {PX : String → Hp → Prop}
variable {p : Program} {l : Launch} {e : Env} {R : Room} {s : State} {m : MethodId} {args : Array Value} {below : List Frame} {meth : Method} {c : Code} {Q : State → Prop} {H : Heap} {locs : List Loc} {cells slots : Nat} {la : Array Slot}
variable {pc : Nat} {ls : Ls} {st rest : List Value} {h : Hp} {b : Nat × Nat}
theorem Mach.A {q : Nat} (hM : Mach G M ini d P PX p l e R s m args below meth c Q) (hq : s.heap.size ≤ q) : AA G q := Nat.le_trans hM.2.2.2.2.2.2.2.2.2.2.1 hq
theorem fresh_kd {a : Nat} (hP1 : va_P G.1 vwCl ([] ++ va_pl [] (cellOf G h)) H) (hR : Rel G h H) (ha : ¬ a < H.size) : kd h a = 0 := by
  rcases Nat.eq_zero_or_pos (kd h a) with q | q
  · exact q
  · exact absurd (hR.lt (by omega)).1 ha
theorem fresh_of {L : List Nat} {f : Nat → va_E} {a : Nat} {ee : va_E} (hR1 : ∀ a, kd h a ≠ 0 ↔ a ∈ L) (hD : va_D (AA G) (([] ++ va_pl L f) ++ [(a, ee)])) : kd h a = 0 := by
  rcases Nat.eq_zero_or_pos (kd h a) with q | q
  · exact q
  · exfalso
    obtain ⟨k, hk⟩ := va_pl_get (X := []) (f := f) ((hR1 a).mp (by omega))
    have hl := (List.getElem?_eq_some_iff.mp hk).1
    have h1 : (([] ++ va_pl L f) ++ [(a, ee)])[k]? = some (a, f a) := by rw [List.getElem?_append_left hl]; exact hk
    have h2 : (([] ++ va_pl L f) ++ [(a, ee)])[([] ++ va_pl L f).length]? = some (a, ee) := by rw [List.getElem?_append_right (Nat.le_refl _), Nat.sub_self]; rfl
    have := hD.1 _ _ _ _ h1 h2 rfl
    omega
theorem AA_of {L : List Nat} {f : Nat → va_E} {a : Nat} {ee : va_E} (hD : va_D (AA G) (([] ++ va_pl L f) ++ [(a, ee)])) : AA G a := by
  have h2 : (([] ++ va_pl L f) ++ [(a, ee)])[([] ++ va_pl L f).length]? = some (a, ee) := by rw [List.getElem?_append_right (Nat.le_refl _), Nat.sub_self]; rfl
  exact hD.2 _ _ h2
theorem st_new {idx x y : Nat} {v : Int32} {tg : List Nat} (hM : Mach G M ini d P PX p l e R s m args below meth c Q) (hR : Rel G h H) (hS : va_S (AA G) s.heap H locs) (hdec : decode M.2.1 pc = .ok (.new idx, 3)) (hr : rsOf M.1 pc (.new idx) = (x, y, v, tg)) (hx7 : x < 7)
    (hc : cells + 1 ≤ R.cells) (hs : slots + nF x ≤ R.slots)
    (kk : ∀ (a : Nat) (H1 : Heap), kd h a = 0 → a ≠ G.2.2.1.2.1 → Rel G (newO h a x) H1 → va_S (AA G) s.heap H1 locs → W p l e R s m args below meth c H1 locs (cells + 1) (slots + nF x) Q (F0 m (pc + 3) la (.ref a :: rest))) : W p l e R s m args below meth c H locs cells slots Q (F0 m pc la rest) := by
  have hA : ∀ q, s.heap.size ≤ q → AA G q := fun q hq => hM.A hq
  obtain ⟨hx, hb, hml, hown, hts, hg, h7, h8, h9, h10, h11, h12, -⟩ := hM
  obtain ⟨L, h1, h2, h3⟩ := hR
  refine va_new (T := clT x) (N := nF x) (C := nmOf x) (fs := flL (newO h (H.size) x) x H.size) hx hb hts (cl_in x hx7) (clY x) (cl_ty x hx7) hown (hts _ (cls_link (rs_new hr (by omega)))) (hts _ (cl_ini x hx7).2) (hts _ (cl_ini x hx7).1) hg.1 h2 h3 hS hA (cl_at x hx7) (fun j hj => ?_) hc hs hdec (fun q H1 hP1 hD1 hS1 => ?_)
  · rw [cl_def x hx7 j hj]
    unfold vp_V
    rw [List.getD_eq_getElem?_getD, flL_at hj, Option.getD_some, fvV, fr_newO, if_pos rfl, fi_newO, if_pos rfl]
    cases hrf : refF x j <;> simp [va_rf]
  · have hk := fresh_of h1 hD1
    have hq := AA_of hD1
    have hfl : flL (newO h H.size x) x H.size = flL (newO h q x) x q := by
      unfold flL
      apply List.map_congr_left
      intro k _
      unfold fvV
      rw [fr_newO, if_pos rfl, fi_newO, if_pos rfl, fr_newO, if_pos rfl, fi_newO, if_pos rfl]
    have hne : q ≠ G.2.2.1.2.1 := fun z => by
      have h13 : G.2.2.1.1 ≤ q := hq
      omega
    refine kk q H1 hk hne (Rel.push h1 hk hP1 hD1 (by rw [kd_newO, if_pos rfl]; omega) (fun z hz => by rw [kd_newO, if_neg hz]) ?_ (fun z hz => newO_o hz)) hS1
    rw [cell_obj hx7 (by rw [kd_newO, if_pos rfl]), hfl]
theorem st_newarr {t : ArrayType} {n : Int32} (hM : Mach G M ini d P PX p l e R s m args below meth c Q) (hR : Rel G h H) (hS : va_S (AA G) s.heap H locs) (hdec : decode M.2.1 pc = .ok (.newarray t, 2)) (ht : t = .int ∨ t = .boolean) (hn : ¬ n < 0) (hN : n.toNatClampNeg ≤ 5000)
    (hc : cells + 1 ≤ R.cells) (hs : slots + n.toNatClampNeg ≤ R.slots)
    (kk : ∀ (a : Nat) (H1 : Heap), kd h a = 0 → a ≠ G.2.2.1.2.1 → Rel G (newA h a (if t = .int then 21 else if t = .boolean then 22 else 23) n.toNatClampNeg) H1 → va_S (AA G) s.heap H1 locs → W p l e R s m args below meth c H1 locs (cells + 1) (slots + n.toNatClampNeg) Q (F0 m (pc + 2) la (.ref a :: rest))) : W p l e R s m args below meth c H locs cells slots Q (F0 m pc la (.int n :: rest)) := by
  have hA : ∀ q, s.heap.size ≤ q → AA G q := fun q hq => hM.A hq
  obtain ⟨hx, hb, hml, hown, hts, hg, h7, h8, h9, h10, h11, h12, -⟩ := hM
  obtain ⟨L, h1, h2, h3⟩ := hR
  have fin : ∀ (kn : Nat) (cA : ClassId) (a0 : vp_A) (q : Nat) (H1 : Heap), kn ≠ 0 → (cellOf G (newA h q kn n.toNatClampNeg) q = .inl (cA, a0)) → va_P G.1 vwCl (([] ++ va_pl L (cellOf G h)) ++ [(q, .inl (cA, a0))]) H1 → va_D (AA G) (([] ++ va_pl L (cellOf G h)) ++ [(q, .inl (cA, a0))]) → kd h q = 0 ∧ q ≠ G.2.2.1.2.1 ∧ Rel G (newA h q kn n.toNatClampNeg) H1 := by
    intro kn cA a0 q H1 hkn hcell hP1 hD1
    have hk := fresh_of h1 hD1
    have hq : G.2.2.1.1 ≤ q := AA_of hD1
    exact ⟨hk, fun z => by omega, Rel.push h1 hk hP1 hD1 (by rw [kd_newA, if_pos rfl]; exact hkn) (fun z hz => by rw [kd_newA, if_neg hz]) hcell (fun z hz => newA_o hz)⟩
  rcases ht with rfl | rfl
  · refine va_newa (atype := .int) (a0 := (n.toNatClampNeg, .inl (fun _ => 0))) hx hb (hts _ arr_words.1) rfl hg.1 h2 h3 hS hA (fun cA => rfl) hn rfl (by show _ * 4 ≤ _; omega) hc hs hdec (fun q cA H1 hK1 hP1 hD1 hS1 => ?_)
    have e1 : cA = G.2.1.1 := fcls_inj (hK1.2 5 _ rfl).2 (hg.1.2 0 _ rfl).2
    subst e1
    obtain ⟨f1, f2, f3⟩ := fin 21 _ _ q H1 (by omega) (by rw [cell_I (by rw [kd_newA, if_pos rfl]), ln_newA, if_pos rfl, ia_new0]) hP1 hD1
    exact kk q H1 f1 f2 f3 hS1
  · refine va_newa (atype := .boolean) (a0 := (n.toNatClampNeg, .inl (fun _ => 0))) hx hb (hts _ arr_words.2) rfl hg.1 h2 h3 hS hA (fun cA => rfl) hn rfl (by show _ * 1 ≤ _; omega) hc hs hdec (fun q cA H1 hK1 hP1 hD1 hS1 => ?_)
    have e1 : cA = G.2.1.2.1 := fcls_inj (hK1.2 5 _ rfl).2 (hg.1.2 1 _ rfl).2
    subst e1
    obtain ⟨f1, f2, f3⟩ := fin 22 _ _ q H1 (by omega) (by rw [cell_Z (by rw [kd_newA, if_pos rfl]), ln_newA, if_pos rfl, ia_new0]) hP1 hD1
    exact kk q H1 f1 f2 f3 hS1
theorem st_anew {idx x y : Nat} {v : Int32} {tg : List Nat} {n : Int32} (hM : Mach G M ini d P PX p l e R s m args below meth c Q) (hR : Rel G h H) (hS : va_S (AA G) s.heap H locs) (hdec : decode M.2.1 pc = .ok (.anewarray idx, 3)) (hr : rsOf M.1 pc (.anewarray idx) = (x, y, v, tg)) (hx61 : x = 61) (hn : ¬ n < 0) (hN : n.toNatClampNeg ≤ 5000)
    (hc : cells + 1 ≤ R.cells) (hs : slots + n.toNatClampNeg ≤ R.slots)
    (kk : ∀ (a : Nat) (H1 : Heap), kd h a = 0 → a ≠ G.2.2.1.2.1 → Rel G (newA h a 24 n.toNatClampNeg) H1 → va_S (AA G) s.heap H1 locs → W p l e R s m args below meth c H1 locs (cells + 1) (slots + n.toNatClampNeg) Q (F0 m (pc + 3) la (.ref a :: rest))) : W p l e R s m args below meth c H locs cells slots Q (F0 m pc la (.int n :: rest)) := by
  have hA : ∀ q, s.heap.size ≤ q → AA G q := fun q hq => hM.A hq
  obtain ⟨hx, hb, hml, hown, hts, hg, h7, h8, h9, h10, h11, h12, -⟩ := hM
  obtain ⟨L, h1, h2, h3⟩ := hR
  have hcl := cls_link (rs_anew hr (by omega))
  subst hx61
  refine va_newq hx hb hown (hts _ hcl) hg.2.2.2.2.2.2.2.2.2.1 hg.1 h2 h3 hS hA hn rfl (by omega) hc hs hdec (fun q cA H1 hK1 hP1 hD1 hS1 => ?_)
  have e1 : cA = G.2.1.2.2.2.1 := by
    obtain ⟨_, _, _, _, _, q4⟩ := (hK1.2 5 _ rfl).2
    obtain ⟨_, _, _, _, _, r4⟩ := (hg.1.2 3 _ rfl).2
    exact fcls_inj q4 r4
  subst e1
  have hk := fresh_of h1 hD1
  have hq : G.2.2.1.1 ≤ q := AA_of hD1
  refine kk q H1 hk (fun z => by omega) (Rel.push h1 hk hP1 hD1 (by rw [kd_newA, if_pos rfl]; omega) (fun z hz => by rw [kd_newA, if_neg hz]) ?_ (fun z hz => newA_o hz)) hS1
  rw [cell_O (by rw [kd_newA, if_pos rfl]), ln_newA, if_pos rfl, ra_new0]
theorem st_anewM {idx x y : Nat} {v : Int32} {tg : List Nat} {n : Int32} (hM : Mach G M ini d P PX p l e R s m args below meth c Q) (hR : Rel G h H) (hS : va_S (AA G) s.heap H locs) (hdec : decode M.2.1 pc = .ok (.anewarray idx, 3)) (hr : rsOf M.1 pc (.anewarray idx) = (x, y, v, tg)) (hx62 : x = 62) (hn : ¬ n < 0) (hN : n.toNatClampNeg ≤ 5000)
    (hc : cells + 1 ≤ R.cells) (hs : slots + n.toNatClampNeg ≤ R.slots)
    (kk : ∀ (a : Nat) (H1 : Heap), kd h a = 0 → a ≠ G.2.2.1.2.1 → Rel G (newA h a 25 n.toNatClampNeg) H1 → va_S (AA G) s.heap H1 locs → W p l e R s m args below meth c H1 locs (cells + 1) (slots + n.toNatClampNeg) Q (F0 m (pc + 3) la (.ref a :: rest))) : W p l e R s m args below meth c H locs cells slots Q (F0 m pc la (.int n :: rest)) := by
  have hA : ∀ q, s.heap.size ≤ q → AA G q := fun q hq => hM.A hq
  obtain ⟨hx, hb, hml, hown, hts, hg, h7, h8, h9, h10, h11, h12, -⟩ := hM
  obtain ⟨L, h1, h2, h3⟩ := hR
  have hcl := cls_link (rs_anew hr (by omega))
  subst hx62
  have hcl2 : (Cond.classLink M.1 idx (FieldType.array .int).toString).before args s = true := by
    have e : (FieldType.array .int).toString = nmOf 62 := by decide +kernel
    rw [e]
    exact hts _ hcl
  refine W.anewA hx hb hown hcl2 (va_AOA.use hg.2.2.2.2.2.2.2.2.2.2.2.2) rfl hdec rfl hn (by omega) hc hs fun cA kA comp f1 f2 f3 f4 => ?_
  have eA : cA = G.2.1.2.2.2.2 := Option.some.inj (f1.symm.trans (hg.1.2 4 _ rfl).2)
  subst eA
  generalize hH1 : H.push ({ cls := G.2.1.2.2.2.2, slots := Array.replicate n.toNatClampNeg .null, vm := .none } : Cell) = H1
  have z1 : H1.size = H.size + 1 := by rw [← hH1, Array.size_push]
  have e1 : H1[H.size]? = some (arrV G.2.1.2.2.2.2 n.toNatClampNeg (fun _ => .null)) := by rw [← hH1, Array.getElem?_push_size, ← arrV_new]
  have o1 : ∀ q : Nat, q < H.size → H1[q]? = H[q]? := fun q hq => by rw [← hH1, Array.getElem?_push, if_neg (Nat.ne_of_lt hq)]
  have hP1 : va_P G.1 vwCl (([] ++ va_pl L (cellOf G h)) ++ [(H.size, .inl (G.2.1.2.2.2.2, n.toNatClampNeg, .inr (.inr (.inr (.inr (fun _ => none))))))]) H1 := (h2.kept (fun k x hx => o1 x.1 ((h2 k x hx).lt))).app (fun k x hx => by
    have hz : k < 1 := (List.getElem?_eq_some_iff.mp hx).1
    rw [show k = 0 by omega] at hx
    cases hx
    show H1[H.size]? = some (vp_cell _ _)
    rw [vp_cell_q]
    exact e1)
  have hD1 := h3.push (e := .inl (G.2.1.2.2.2.2, n.toNatClampNeg, .inr (.inr (.inr (.inr (fun _ => none)))))) h2 rfl (hA _ hS.1)
  have hk := fresh_of h1 hD1
  have hq : G.2.2.1.1 ≤ H.size := AA_of hD1
  refine kk H.size H1 hk (fun z => by omega) (Rel.push h1 hk hP1 hD1 (by rw [kd_newA, if_pos rfl]; omega) (fun z hz => by rw [kd_newA, if_neg hz]) ?_ (fun z hz => newA_o hz)) ⟨Nat.le_trans hS.1 (by omega), fun x q1 q2 => (o1 x (Nat.lt_of_lt_of_le q1 hS.1)).trans (hS.2.1 x q1 q2), hS.2.2⟩
  rw [cell_M (by rw [kd_newA, if_pos rfl]), ln_newA, if_pos rfl, ra_new0]
/-! what a row of rows is, once made -/
theorem newM_f {h : Hp} {a m n : Nat} {B : Nat → Nat} (hB : ∀ i, i < n → B i ≠ a) (hI : ∀ i j, i < n → j < n → B i = B j → i = j) : ∀ i, i ≤ n →
    (∀ q, kd (newM h a B m n i) q = if q = a then 25 else if ∃ j, j < i ∧ q = B j then 21 else kd h q) ∧ (ln (newM h a B m n i) a = n) ∧ (∀ j, j < i → ln (newM h a B m n i) (B j) = m) ∧ (∀ j, ra (newM h a B m n i) a j = if j < i then some (B j) else none) ∧ (∀ j k, j < i → ia (newM h a B m n i) (B j) k = 0) ∧
    (∀ c k q, fi (newM h a B m n i) c k q = fi h c k q) ∧ (∀ c k q, fr (newM h a B m n i) c k q = fr h c k q) ∧ ∀ q, q ≠ a → (∀ j, j < i → q ≠ B j) → ln (newM h a B m n i) q = ln h q ∧ (∀ k, ia (newM h a B m n i) q k = ia h q k) ∧ (∀ k, ja (newM h a B m n i) q k = ja h q k) ∧ ∀ k, ra (newM h a B m n i) q k = ra h q k := by
  intro i
  induction i with
  | zero =>
    intro _
    refine ⟨fun q => ?_, ?_, fun j hj => absurd hj (Nat.not_lt_zero j), fun j => ?_, fun j k hj => absurd hj (Nat.not_lt_zero j), fun _ _ _ => rfl, fun _ _ _ => rfl, fun q hq _ => ?_⟩
    · show kd (newA h a 25 n) q = _
      rw [kd_newA]
      by_cases e : q = a
      · rw [if_pos e, if_pos e]
      · rw [if_neg e, if_neg e, if_neg (fun z => by obtain ⟨j, hj, -⟩ := z; omega)]
    · show ln (newA h a 25 n) a = n
      rw [ln_newA, if_pos rfl]
    · show ra (newA h a 25 n) a j = _
      rw [ra_newA, if_pos rfl, if_neg (Nat.not_lt_zero j)]
    · show ln (newA h a 25 n) q = _ ∧ (∀ k, ia (newA h a 25 n) q k = _) ∧ (∀ k, ja (newA h a 25 n) q k = _) ∧ ∀ k, ra (newA h a 25 n) q k = _
      simp only [ln_newA, ia_newA, ja_newA, ra_newA, hq, if_false]
      simp
  | succ i ih =>
    intro hi
    obtain ⟨h1, h2, h3, h4, h5, h6, h7, h8⟩ := ih (by omega)
    have hBi := hB i (by omega)
    refine ⟨fun q => ?_, ?_, fun j hj => ?_, fun j => ?_, fun j k hj => ?_, fun c k q => ?_, fun c k q => ?_, fun q hq hq2 => ?_⟩
    · show kd (setRA (newA (newM h a B m n i) (B i) 21 m) a i (some (B i))) q = _
      rw [kd_setRA, kd_newA, h1]
      by_cases e : q = a
      · rw [if_neg (fun z => hBi (z.symm.trans e)), if_pos e, if_pos e]
      · rw [if_neg e, if_neg e]
        by_cases e2 : q = B i
        · rw [if_pos e2, if_pos ⟨i, by omega, e2⟩]
        · rw [if_neg e2]
          by_cases e3 : ∃ j, j < i ∧ q = B j
          · rw [if_pos e3, if_pos (by obtain ⟨j, hj, hq⟩ := e3; exact ⟨j, by omega, hq⟩)]
          · rw [if_neg e3, if_neg (fun z => by
              obtain ⟨j, hj, hq⟩ := z
              by_cases e4 : j = i
              · exact e2 (e4 ▸ hq)
              · exact e3 ⟨j, by omega, hq⟩)]
    · show ln (setRA (newA (newM h a B m n i) (B i) 21 m) a i (some (B i))) a = n
      rw [ln_setRA, ln_newA, if_neg (fun z => hBi z.symm), h2]
    · show ln (setRA (newA (newM h a B m n i) (B i) 21 m) a i (some (B i))) (B j) = m
      rw [ln_setRA, ln_newA]
      by_cases e : j = i
      · rw [e, if_pos rfl]
      · rw [if_neg (fun z => e (hI j i (by omega) (by omega) z)), h3 j (by omega)]
    · show ra (setRA (newA (newM h a B m n i) (B i) 21 m) a i (some (B i))) a j = _
      rw [ra_setRA]
      by_cases e : j = i
      · rw [if_pos ⟨rfl, e⟩, if_pos (by omega), e]
      · rw [if_neg (fun z => e z.2), ra_newA, if_neg (fun z => hBi z.symm), h4]
        by_cases e2 : j < i
        · rw [if_pos e2, if_pos (by omega)]
        · rw [if_neg e2, if_neg (by omega)]
    · show ia (setRA (newA (newM h a B m n i) (B i) 21 m) a i (some (B i))) (B j) k = 0
      rw [ia_setRA, ia_newA]
      by_cases e : j = i
      · rw [e, if_pos rfl]
      · rw [if_neg (fun z => e (hI j i (by omega) (by omega) z)), h5 j k (by omega)]
    · exact h6 c k q
    · exact h7 c k q
    · have e2 := hq2 i (by omega)
      obtain ⟨g1, g2, g3, g4⟩ := h8 q hq (fun j hj => hq2 j (by omega))
      show ln (setRA (newA (newM h a B m n i) (B i) 21 m) a i (some (B i))) q = _ ∧ (∀ k, ia (setRA (newA (newM h a B m n i) (B i) 21 m) a i (some (B i))) q k = _) ∧ (∀ k, ja (setRA (newA (newM h a B m n i) (B i) 21 m) a i (some (B i))) q k = _) ∧ ∀ k, ra (setRA (newA (newM h a B m n i) (B i) 21 m) a i (some (B i))) q k = _
      simp only [ln_setRA, ia_setRA, ja_setRA, ra_setRA, ln_newA, ia_newA, ja_newA, ra_newA, e2, hq, if_false, false_and]
      exact ⟨g1, g2, g3, g4⟩
theorem st_mna {idx x y : Nat} {v : Int32} {tg : List Nat} {n k : Int32} (hM : Mach G M ini d P PX p l e R s m args below meth c Q) (hR : Rel G h H) (hS : va_S (AA G) s.heap H locs) (hdec : decode M.2.1 pc = .ok (.multianewarray idx 2, 4)) (hr : rsOf M.1 pc (.multianewarray idx 2) = (x, y, v, tg)) (hx63 : x = 63) (hn : ¬ n < 0) (hk : ¬ k < 0) (hN : n.toNatClampNeg ≤ 100) (hK : k.toNatClampNeg ≤ 5000)
    (hc : cells + (1 + n.toNatClampNeg) ≤ R.cells) (hs : slots + (n.toNatClampNeg + n.toNatClampNeg * k.toNatClampNeg) ≤ R.slots)
    (kk : ∀ (a : Nat) (B : Nat → Nat) (H1 : Heap), kd h a = 0 → a ≠ G.2.2.1.2.1 → (∀ i, i < n.toNatClampNeg → kd h (B i) = 0 ∧ B i ≠ a ∧ B i ≠ G.2.2.1.2.1) → (∀ i j, i < n.toNatClampNeg → j < n.toNatClampNeg → B i = B j → i = j) → Rel G (newM h a B k.toNatClampNeg n.toNatClampNeg n.toNatClampNeg) H1 → va_S (AA G) s.heap H1 locs →
      W p l e R s m args below meth c H1 locs (cells + 1 + n.toNatClampNeg) (slots + n.toNatClampNeg + n.toNatClampNeg * k.toNatClampNeg) Q (F0 m (pc + 4) la (.ref a :: rest))) : W p l e R s m args below meth c H locs cells slots Q (F0 m pc la (.int k :: .int n :: rest)) := by
  have hA : ∀ q, s.heap.size ≤ q → AA G q := fun q hq => hM.A hq
  obtain ⟨hx, hb, hml, hown, hts, hg, h7, h8, h9, h10, h11, h12, -⟩ := hM
  obtain ⟨L, h1, h2, h3⟩ := hR
  have hcl := cls_link (rs_mna hr (by omega))
  subst hx63
  have hcl2 : (Cond.classLink M.1 idx ("[" ++ (FieldType.array .int).toString)).before args s = true := by
    have e : "[" ++ (FieldType.array .int).toString = nmOf 63 := by decide +kernel
    rw [e]
    exact hts _ hcl
  have hcy : s.vm.findClass (FieldType.array .int).toString = some G.2.1.1 := (hg.1.2 0 _ rfl).2
  generalize hNN : n.toNatClampNeg = N at hN hc hs kk
  generalize hMM : k.toNatClampNeg = K at hK hc hs kk
  refine va_mna (z := (K, .inl (fun _ => 0))) hx hb hown hcl2 hg.2.2.2.2.2.2.2.2.2.2.2.2 (hts _ arr_words.1) hcy hg.1 h2 h3 hS hA hn hk hNN hMM (by omega) (by show _ * 4 ≤ _; omega) (by omega) rfl rfl hc hs (fun c => ?_) hdec (fun q r cA H1 rI rL hK1 hP1 hD1 hS1 => ?_)
  · show ({ cls := c, slots := Array.replicate _ _, vm := .none } : Cell) = vp_cell _ _
    rw [vp_cell_i, arrV_new]
    rfl
  have eA : cA = G.2.1.2.2.2.2 := Option.some.inj ((hK1.2 5 _ rfl).2.symm.trans (hg.1.2 4 _ rfl).2)
  subst eA
  generalize hE0 : (.inl (G.2.1.2.2.2.2, N, .inr (.inr (.inr (.inr (fun i => if i < N then some (r i) else none))))) : va_E) = E0 at hP1 hD1
  generalize hF : vr_up (cellOf G h) ((List.range N).map r) (.inl (G.2.1.1, (K, .inl (fun _ => 0)))) = F at hP1 hD1
  have hP2 : va_P G.1 vwCl ((q, E0) :: va_pl (L ++ (List.range N).map r) F) H1 := hP1
  have hD2 : va_D (AA G) ((q, E0) :: va_pl (L ++ (List.range N).map r) F) := hD1
  have hqL : ∀ a, a ∈ L ++ (List.range N).map r → a ≠ q := fun a ha e => by
    obtain ⟨j, hj⟩ := List.getElem?_of_mem (show (a, F a) ∈ va_pl (L ++ (List.range N).map r) F from List.mem_map.mpr ⟨a, ha, rfl⟩)
    have := hD2.1 0 (j + 1) (q, E0) (a, F a) rfl hj e.symm
    omega
  have hAA : ∀ a, a ∈ L ++ (List.range N).map r → G.2.2.1.1 ≤ a := fun a ha => by
    obtain ⟨j, hj⟩ := List.getElem?_of_mem (show (a, F a) ∈ va_pl (L ++ (List.range N).map r) F from List.mem_map.mpr ⟨a, ha, rfl⟩)
    exact hD2.2 (j + 1) _ hj
  have hAq : G.2.2.1.1 ≤ q := hD2.2 0 _ rfl
  have hrm : ∀ i, i < N → r i ∈ L ++ (List.range N).map r := fun i hi => List.mem_append_right _ (List.mem_map.mpr ⟨i, List.mem_range.mpr hi, rfl⟩)
  have kq : kd h q = 0 := by
    rcases Nat.eq_zero_or_pos (kd h q) with z | z
    · exact z
    · exact absurd rfl (hqL q (List.mem_append_left _ ((h1 q).mp (by omega))))
  have kr : ∀ i, i < N → kd h (r i) = 0 := fun i hi => by
    rcases Nat.eq_zero_or_pos (kd h (r i)) with z | z
    · exact z
    · exact absurd ((h1 (r i)).mp (by omega)) (rL i hi)
  have hrq : ∀ i, i < N → r i ≠ q := fun i hi => hqL _ (hrm i hi)
  obtain ⟨f1, f2, f3, f4, f5, f6, f7, f8⟩ := newM_f (h := h) (m := K) hrq rI N (Nat.le_refl N)
  have hR1 : Rel G (newM h q r K N N) H1 := by
    refine ⟨q :: (L ++ (List.range N).map r), fun a => ?_, ?_⟩
    · rw [f1, List.mem_cons, List.mem_append]
      by_cases e : a = q
      · rw [if_pos e]; simp [e]
      · rw [if_neg e]
        by_cases e2 : ∃ j, j < N ∧ a = r j
        · rw [if_pos e2]
          obtain ⟨j, hj, rfl⟩ := e2
          refine ⟨fun _ => Or.inr (Or.inr (List.mem_map.mpr ⟨j, List.mem_range.mpr hj, rfl⟩)), fun _ => by omega⟩
        · rw [if_neg e2, h1]
          refine ⟨fun z => Or.inr (Or.inl z), fun z => ?_⟩
          rcases z with z | z | z
          · exact absurd z e
          · exact z
          · obtain ⟨j, hj, rfl⟩ := List.mem_map.mp z
            exact absurd ⟨j, List.mem_range.mp hj, rfl⟩ e2
    · have hl : ([] ++ va_pl (q :: (L ++ (List.range N).map r)) (cellOf G (newM h q r K N N))) = (q, E0) :: va_pl (L ++ (List.range N).map r) F := by
        rw [List.nil_append]
        unfold va_pl
        rw [List.map_cons]
        congr 1
        · rw [cell_M (by rw [f1, if_pos rfl]), f2, ← hE0]
          have e : ra (newM h q r K N N) q = fun i => if i < N then some (r i) else none := funext f4
          rw [e]
        · apply List.map_congr_left
          intro a ha
          have hne := hqL a ha
          rw [← hF]
          by_cases e : a ∈ (List.range N).map r
          · rw [vr_up_in e]
            obtain ⟨j, hj, rfl⟩ := List.mem_map.mp e
            have hj := List.mem_range.mp hj
            rw [cell_I (by rw [f1, if_neg hne, if_pos ⟨j, hj, rfl⟩]), f3 j hj]
            have e2 : ia (newM h q r K N N) (r j) = fun _ => 0 := funext (fun k9 => f5 j k9 hj)
            rw [e2]
          · rw [vr_up_ne e]
            have e2 : ∀ j, j < N → a ≠ r j := fun j hj z => e (z ▸ List.mem_map.mpr ⟨j, List.mem_range.mpr hj, rfl⟩)
            obtain ⟨g1, g2, g3, g4⟩ := f8 a hne e2
            have e3 : cellOf G (newM h q r K N N) a = cellOf G h a := cell_ne (by rw [f1, if_neg hne, if_neg (fun z => by obtain ⟨j, hj, hz⟩ := z; exact e2 j hj hz)]) g1 (funext g2) (funext g3) (funext g4) (fun _ _ => f6 _ _ _) (fun _ _ => f7 _ _ _)
            rw [e3]
      rw [hl]
      exact ⟨hP2, hD2⟩
  exact kk q r H1 kq (by omega) (fun i hi => ⟨kr i hi, hrq i hi, by have := hAA _ (hrm i hi); omega⟩) rI hR1 hS1
/-! calls -/
theorem g_call {Qv : Option Value → Hp → Prop} {QX : String → Hp → Prop} {mc ms : Nat} {a : Array Value} {st0 : List Value} (hr : vx_Run p l e R s m args below meth c H locs cells slots mc ms (F0 m pc la st0) rest (QcG G Qv a) (XcG G QX) (AA G)) (hS : va_S (AA G) s.heap H locs)
    (kk : ∀ (v : Option Value) (u : Hp) (H1 : Heap) (locs1 : List Loc), Qv v u → Rel G u H1 → va_S (AA G) s.heap H1 locs1 → W p l e R s m args below meth c H1 locs1 (cells + mc) (slots + ms) Q (F0 m (pc + 3) la (v.toList ++ rest)))
    (kx : ∀ (E : String) (ce : Cell) (q : Addr) (u : Hp) (H1 : Heap) (locs1 : List Loc), QX E u → Rel G u H1 → va_S (AA G) s.heap H1 locs1 → H1[q]? = some ce → ce.vm = .none → s.vm.findClass E = some ce.cls → vx_W p l e R s m args below meth c H1 locs1 (cells + mc) (slots + ms) Q (F0 m pc la rest) q) : W p l e R s m args below meth c H locs cells slots Q (F0 m pc la st0) := by
  intro T hT X
  rcases hr T hT X with ⟨v, st₀, t, T', L, h0, X', hL, e1, e2, ⟨⟨v', u, hv, hq, hRu⟩, hF⟩, st⟩ | ⟨q, st₀, t, T', L, E, ce, h0, X', hL, e1, e2, ⟨u, -, ⟨hq, hRu⟩, hF⟩, hce, hcv, hcl, st⟩
  · cases hv
    obtain ⟨-, -, k3⟩ := vx_keep h0 e1 hS (fun _ _ h => h) (fun _ h => h) hL hF
    obtain ⟨t2, a1, b1⟩ := kk v u T'.heap (locs ++ L) hq (by rw [e1]; exact hRu) k3 T' rfl X'
    exact ⟨t2, st t2 a1, b1⟩
  · obtain ⟨-, -, k3⟩ := vx_keep h0 e1 hS (fun _ _ h => h) (fun _ h => h) hL hF
    obtain ⟨t2, a1, b1⟩ := kx E ce q u T'.heap (locs ++ L) hq (by rw [e1]; exact hRu) k3 (by rw [e1]; exact hce) hcv hcl T' rfl X'
    exact ⟨t2, st.trans a1, b1⟩
theorem hndl_e {own : String} {E : String} : ∀ (hh : List (Nat × Nat × Nat × Nat)) (t : Nat), hndl own pc E hh = some t → ∃ pre r suf, hh = pre ++ r :: suf ∧ r.2.2.1 = t ∧ (r.1 ≤ pc ∧ pc < r.2.1) ∧ (clss.lookup (own, r.2.2.2)).map nmOf = some E ∧ ∀ z ∈ pre, ¬ (z.1 ≤ pc ∧ pc < z.2.1) ∨ (clss.lookup (own, z.2.2.2)).map nmOf ≠ some E
  | [], t, h => by cases h
  | (a, b, u, k) :: r, t, h => by
    unfold hndl at h
    split at h
    · rename_i hc
      cases h
      exact ⟨[], _, r, rfl, rfl, ⟨hc.1, hc.2.1⟩, hc.2.2, fun z hz => by cases hz⟩
    · rename_i hc
      obtain ⟨pre, x, suf, e1, e2, e3, e4, e5⟩ := hndl_e r t h
      refine ⟨(a, b, u, k) :: pre, x, suf, by rw [e1]; rfl, e2, e3, e4, fun z hz => ?_⟩
      rcases List.mem_cons.mp hz with rfl | hz
      · by_cases h1 : a ≤ pc ∧ pc < b
        · exact Or.inr (fun q => hc ⟨h1.1, h1.2, q⟩)
        · exact Or.inl h1
      · exact e5 z hz
theorem ex_in {x : Nat} (h1 : 50 ≤ x) (h2 : x ≤ 52) : nmOf x ∈ exN := by
  rcases (show x = 50 ∨ x = 51 ∨ x = 52 by omega) with rfl | rfl | rfl <;> decide
theorem ex_cast {x : Nat} (h1 : 50 ≤ x) (h2 : x ≤ 52) : Cond.castable (nmOf x) (nmOf x) ∈ bw := by
  rcases (show x = 50 ∨ x = 51 ∨ x = 52 by omega) with rfl | rfl | rfl <;> decide +kernel
theorem st_catch {E : String} {ce : Cell} {q : Addr} {t : Nat} (hM : Mach G M ini d P PX p l e R s m args below meth c Q) (hH : hhOK (mow M) (mhh M)) (ht : hndl (mow M) pc E (mhh M) = some t) (hce : H[q]? = some ce) (hcv : ce.vm = .none) (hcl : s.vm.findClass E = some ce.cls)
    (kk : W p l e R s m args below meth c H locs cells slots Q (F0 m t la [.ref q])) : vx_W p l e R s m args below meth c H locs cells slots Q (F0 m pc la rest) q := by
  obtain ⟨pre, r, suf, e1, e2, e3, e4, e5⟩ := hndl_e _ _ ht
  exact (hH r (by rw [e1]; simp)).elim
end STPB
