/-! ===== one step ===== -/
section STPD
variable {G : GT} {M : MI} {ini : Bool} {d : Nat} {P : Option Value → Hp → Prop} {PX : String → Hp → Prop} {cs : List (Nat × CE)}
theorem tg_of {pc x : Nat} {o : Int} (h : tgN pc o = x) (hx : 0 < x) : (pc : Int) + o = (x : Int) := by
  unfold tgN at h
  omega
theorem lkp_mem {l : List (Nat × CE)} {i : Nat} {ce : CE} (h : lkp l i = some ce) : (i, ce) ∈ l := by
  induction l with
  | nil => cases h
  | cons q r ih =>
    obtain ⟨j, e⟩ := q
    unfold lkp at h
    split at h
    · rename_i hj; cases h; rw [hj]; exact List.mem_cons_self
    · exact List.mem_cons_of_mem _ (ih h)
theorem swP_e {x : Int32} {f : Nat → Prop} : ∀ (tg : List Nat) (v : Int), swP x v tg f → ∀ (k t : Nat), tg[k]? = some t → x.toInt = v + k → 0 < t ∧ f t
  | [], _, _, k, t, hk, _ => by cases k <;> cases hk
  | t0 :: r, v, h, 0, t, hk, hx => by cases hk; exact h.1 (by omega)
  | t0 :: r, v, h, k + 1, t, hk, hx => swP_e r (v + 1) h.2 k t hk (by omega)
theorem gs_word : Cond.fieldLink RJx4a65c 39 "java/util/ArrayList" "DEFAULTCAPACITY_EMPTY_ELEMENTDATA" "[Ljava/lang/Object;" ∈ gw := by decide +kernel
theorem nm_far {x : Nat} (h7 : 7 ≤ x) (h20 : x < 20) (hw : Cond.initialized (nmOf x) ∈ gw) : False := by
  have e : nmOf x = "java/lang/Object" := by
    unfold nmOf
    split <;> first | omega | rfl
  rw [e] at hw
  exact absurd hw (by decide +kernel)
variable {p : Program} {l : Launch} {e : Env} {R : Room} {s : State} {m : MethodId} {args : Array Value} {below : List Frame} {meth : Method} {c : Code} {Q : State → Prop} {H : Heap} {locs : List Loc} {cells slots : Nat} {la : Array Slot}
variable {pc : Nat} {ls : Ls} {st rest : List Value} {h : Hp} {b : Nat × Nat}
theorem st_copy {j a a0 k : Nat} {sp dp n : Int32} (hM : Mach G M ini d P PX p l e R s m args below meth c Q) (hR : Rel G h H) (hS : va_S (AA G) s.heap H locs) (hlink : (Cond.methodLink M.1 j arraycopyName).before args s = true) (hnat : (Cond.native arraycopyName).before args s = true) (hstat : (Cond.static arraycopyName).before args s = true) (hini : (Cond.initialized "java/lang/System").before args s = true)
    (hml : c.maxLocals = la.size) (hdec : decode M.2.1 pc = .ok (.invokestatic j, 3)) (k1 : kd h a0 = 24) (k2 : kd h a = 24) (k3 : ¬ sp < 0) (k4 : ¬ dp < 0) (k5 : ¬ n < 0) (k6 : sp.toNatClampNeg + n.toNatClampNeg ≤ ln h a0) (k7 : dp.toNatClampNeg + n.toNatClampNeg ≤ ln h a)
    (kk : k = 2 ∨ k = 3 ∨ k = 4) (kel : ∀ i w, i < n.toNatClampNeg → ra h a0 (sp.toNatClampNeg + i) = some w → kd h w = k) (hfr : 1 ≤ R.frames) (hlo : (rest.map fun v => v.category).sum + (nativeFrameWords "java/lang/System" "arraycopy" 5 + 11) ≤ R.locals)
    (kt : ∀ (H1 : Heap) (locs1 : List Loc), Rel G (cpRA h a0 a sp.toNatClampNeg dp.toNatClampNeg n.toNatClampNeg) H1 → va_S (AA G) s.heap H1 locs1 → W p l e R s m args below meth c H1 locs1 cells slots Q (F0 m (pc + 3) la rest)) : W p l e R s m args below meth c H locs cells slots Q (F0 m pc la (.int n :: .int dp :: .ref a :: .int sp :: .ref a0 :: rest)) := by
  have hg := hM.2.2.2.2.2.1
  have hR0 := hR
  obtain ⟨L, h1, h2, h3⟩ := hR
  obtain ⟨i0, hi0⟩ := va_pl_get (X := []) (f := cellOf G h) ((h1 a0).mp (by omega))
  obtain ⟨i1, hi1⟩ := va_pl_get (X := []) (f := cellOf G h) ((h1 a).mp (by omega))
  have hj0 := hi0
  have hj1 := hi1
  rw [cell_O k1] at hi0
  rw [cell_O k2] at hi1
  have hcl : nmOf (k - 1) = nmOf (k - 1) := rfl
  refine va_copyq (C := nmOf (k - 1)) (E0 := "java/lang/Object") (E1 := "java/lang/Object") hM.1 hM.2.1 hml hM.2.2.2.1 hlink hnat hstat hini hg.1 h2 h3 hS i0 i1 3 3 hi0 hi1 rfl rfl k3 k4 k5 k6 k7 (fun i hi y hy => ?_) (fun comp c0 q1 q2 => ?_) hfr hlo hdec (fun H1 locs1 hP1 hD1 hS1 => kt H1 locs1 ?_ hS1)
  · have hky := kel i y hi hy
    have := Rel.recv hM hR0 (a := y) (by omega) (by omega)
    rw [hky] at this
    exact this
  · have hb : va_Nw (.castable (nmOf (k - 1)) "java/lang/Object") s := by
      refine hg.2.2.2.2.1 _ ?_
      rcases kk with q | q | q <;> rw [q] <;> decide +kernel
    exact vb_asgC hb comp c0 q1 q2
  · refine Rel.set h1 h3 (by omega) hj1 hP1 hD1 (fun _ => rfl) ?_ (fun q hq => cpRA_o hq)
    have he : ra (cpRA h a0 a sp.toNatClampNeg dp.toNatClampNeg n.toNatClampNeg) a = va_cpy (ra h a0) (ra h a) sp.toNatClampNeg dp.toNatClampNeg n.toNatClampNeg := by
      funext i'
      rw [ra_cpRA]
      unfold va_cpy
      simp
    rw [cell_O (show kd (cpRA h a0 a sp.toNatClampNeg dp.toNatClampNeg n.toNatClampNeg) a = 24 from k2), he]
    rfl
theorem st_copyI {j a a0 : Nat} {sp dp n : Int32} (hM : Mach G M ini d P PX p l e R s m args below meth c Q) (hR : Rel G h H) (hS : va_S (AA G) s.heap H locs) (hlink : (Cond.methodLink M.1 j arraycopyName).before args s = true) (hnat : (Cond.native arraycopyName).before args s = true) (hstat : (Cond.static arraycopyName).before args s = true) (hini : (Cond.initialized "java/lang/System").before args s = true)
    (hml : c.maxLocals = la.size) (hdec : decode M.2.1 pc = .ok (.invokestatic j, 3)) (k1 : kd h a0 = 21) (k2 : kd h a = 21) (k3 : ¬ sp < 0) (k4 : ¬ dp < 0) (k5 : ¬ n < 0) (k6 : sp.toNatClampNeg + n.toNatClampNeg ≤ ln h a0) (k7 : dp.toNatClampNeg + n.toNatClampNeg ≤ ln h a)
    (hfr : 1 ≤ R.frames) (hlo : (rest.map fun v => v.category).sum + (nativeFrameWords "java/lang/System" "arraycopy" 5 + 11) ≤ R.locals)
    (kt : ∀ (H1 : Heap) (locs1 : List Loc), Rel G (cpIA h a0 a sp.toNatClampNeg dp.toNatClampNeg n.toNatClampNeg) H1 → va_S (AA G) s.heap H1 locs1 → W p l e R s m args below meth c H1 locs1 cells slots Q (F0 m (pc + 3) la rest)) : W p l e R s m args below meth c H locs cells slots Q (F0 m pc la (.int n :: .int dp :: .ref a :: .int sp :: .ref a0 :: rest)) := by
  have hg := hM.2.2.2.2.2.1
  obtain ⟨L, h1, h2, h3⟩ := hR
  obtain ⟨i0, hi0⟩ := va_pl_get (X := []) (f := cellOf G h) ((h1 a0).mp (by omega))
  obtain ⟨i1, hi1⟩ := va_pl_get (X := []) (f := cellOf G h) ((h1 a).mp (by omega))
  have hj1 := hi1
  rw [cell_I k1] at hi0
  rw [cell_I k2] at hi1
  refine va_copyi hM.1 hM.2.1 hml hM.2.2.2.1 hlink hnat hstat hini hg.1 h2 h3 hS i0 i1 0 0 hi0 hi1 rfl rfl rfl k3 k4 k5 k6 k7 (fun _ _ => rfl) hfr hlo hdec (fun H1 locs1 hP1 hD1 hS1 => kt H1 locs1 ?_ hS1)
  refine Rel.set h1 h3 (by omega) hj1 hP1 hD1 (fun _ => rfl) ?_ (fun q hq => cpIA_o hq)
  have he : ia (cpIA h a0 a sp.toNatClampNeg dp.toNatClampNeg n.toNatClampNeg) a = va_cpy (ia h a0) (ia h a) sp.toNatClampNeg dp.toNatClampNeg n.toNatClampNeg := by
    funext i'
    rw [ia_cpIA]
    unfold va_cpy
    simp
  rw [cell_I (show kd (cpIA h a0 a sp.toNatClampNeg dp.toNatClampNeg n.toNatClampNeg) a = 21 from k2), he]
  rfl
theorem st_switch {dd lo hi : Int} {offs : Array Int} {len x y : Nat} {v : Int32} {tg : List Nat} {K : Nat → Ls → List Value → Hp → Nat × Nat → Prop} (hM : Mach G M ini d P PX p l e R s m args below meth c Q) (hR : Rel G h H) (hS : va_S (AA G) s.heap H locs) (hc : cells + b.1 ≤ R.cells) (hs : slots + b.2 ≤ R.slots) (hl : LsR M.2.2.1 ls la)
    (hdec : decode M.2.1 pc = .ok (.tableswitch dd lo hi offs, len)) (hr : rsOf M.1 pc (.tableswitch dd lo hi offs) = (x, y, v, tg)) (hK : ∀ pc ls st h b, K pc ls st h b → Wp G M ini d P PX pc ls st h b) (hst : stepI G M ini d cs P PX (.tableswitch dd lo hi offs) x y v tg pc ls st h b K) : W p l e R s m args below meth c H locs cells slots Q (F0 m pc la st) := by
  simp only [stepI] at hst
  obtain ⟨h0, hlo, hhi, hst⟩ := hst
  obtain ⟨w, r, rfl, h1, h2⟩ := sI_e hst
  have e1 : tgN pc dd = x := congrArg (fun q => q.1) hr
  have e2 : Int32.ofInt lo = v := congrArg (fun q => q.2.2.1) hr
  have e3 : offs.toList.map (tgN pc) = tg := congrArg (fun q => q.2.2.2) hr
  rw [← e2] at h1 h2
  rw [hlo] at h1 h2
  have hx := hM.1
  have hb := hM.2.1
  by_cases hin : w.toInt < lo ∨ hi < w.toInt
  · exact lv_tableOut hx hb hdec hin (tg_of e1 h0) (hK _ _ _ _ _ (h2 (by omega)) hM hR hS hc hs hl)
  · have hk : (w.toInt - lo).toNat < tg.length := by omega
    obtain ⟨t0, hkt⟩ : ∃ t0, tg[(w.toInt - lo).toNat]? = some t0 := ⟨_, List.getElem?_eq_getElem hk⟩
    obtain ⟨q1, q2⟩ := swP_e tg lo h1 _ _ hkt (by omega)
    rw [← e3, List.getElem?_map] at hkt
    obtain ⟨o, ho, ho2⟩ := Option.map_eq_some_iff.mp hkt
    rw [Array.getElem?_toList] at ho
    exact lv_tableIn hx hb hdec (by omega) (by omega) ho (tg_of ho2 q1) (hK _ _ _ _ _ q2 hM hR hS hc hs hl)
set_option maxHeartbeats 4000000 in
theorem stepI_sound {i : Instr} {len x y : Nat} {v : Int32} {tg : List Nat} {pc : Nat} {ls : Ls} {st : List Value} {h : Hp} {b : Nat × Nat} {K : Nat → Ls → List Value → Hp → Nat × Nat → Prop}
    (hH : hhOK (mow M) (mhh M)) (hcs : ∀ q ∈ cs, ceOK G (mow M) q) (hdec : decode M.2.1 pc = .ok (i, len)) (hlen : lenI i = len ∨ lenI i = 0) (hr : rsOf M.1 pc i = (x, y, v, tg))
    (hK : ∀ pc ls st h b, K pc ls st h b → Wp G M ini d P PX pc ls st h b) (hst : stepI G M ini d cs P PX i x y v tg pc ls st h b K) : Wp G M ini d P PX pc ls st h b := by
  intro p l e R s m args below meth c Q H locs cells slots la hM hR hS hc hs hl
  have hx := hM.1
  have hb := hM.2.1
  have hown := hM.2.2.2.1
  have hts := hM.2.2.2.2.1
  have hg := hM.2.2.2.2.2.1
  have hml : c.maxLocals = la.size := by rw [hM.2.2.1, hl.2.1]
  cases i <;> first | exact hst.elim | skip
  case iconst n =>
    simp only [stepI] at hst
    obtain rfl : 1 = len := by simpa [lenI] using hlen
    obtain rfl : Int32.ofInt n = v := congrArg (fun q => q.2.2.1) hr
    exact lv_iconst hx hb hdec rfl (hK _ _ _ _ _ hst hM hR hS hc hs hl)
  case bipush n =>
    simp only [stepI] at hst
    obtain rfl : 2 = len := by simpa [lenI] using hlen
    obtain rfl : (Int8.ofInt n).toInt32 = v := congrArg (fun q => q.2.2.1) hr
    exact lv_bipush hx hb hdec rfl (hK _ _ _ _ _ hst hM hR hS hc hs hl)
  case sipush n =>
    simp only [stepI] at hst
    obtain rfl : 3 = len := by simpa [lenI] using hlen
    obtain rfl : (Int16.ofInt n).toInt32 = v := congrArg (fun q => q.2.2.1) hr
    exact lv_sipush hx hb hdec rfl (hK _ _ _ _ _ hst hM hR hS hc hs hl)
  case aconst_null =>
    simp only [stepI] at hst
    obtain rfl : 1 = len := by simpa [lenI] using hlen
    exact lv_null hx hb hdec (hK _ _ _ _ _ hst hM hR hS hc hs hl)
  case dconst n =>
    simp only [stepI] at hst
    obtain rfl : 1 = len := by simpa [lenI] using hlen
    split at hst
    · rename_i hn; subst hn; exact lv_dconst0 hx hb hdec (hK _ _ _ _ _ hst hM hR hS hc hs hl)
    · obtain ⟨hn, hst1⟩ := hst; subst hn; exact lv_dconst1 hx hb hdec (hK _ _ _ _ _ hst1 hM hR hS hc hs hl)
  case ldc2_w j =>
    simp only [stepI] at hst
    obtain rfl : 3 = len := by simpa [lenI] using hlen
    obtain ⟨rfl, hst1⟩ := hst
    exact lv_ldc2 hx hb hown (hts _ (lcn_link (rs_ldc2 hr))) hdec (hK _ _ _ _ _ hst1 hM hR hS hc hs hl)
  case ldc j =>
    simp only [stepI] at hst
    obtain rfl : 2 = len := by simpa [lenI] using hlen
    split at hst
    · rename_i h98
      subst h98
      exact lv_ldc hx hb hown (hts _ (icn_link (rs_ldci hr))) hdec (hK _ _ _ _ _ hst hM hR hS hc hs hl)
    split at hst
    · rename_i hxx
      subst hxx
      obtain ⟨ho, hst⟩ := hst
      exact va_ldcM hx hb hown (hts _ (cls_link (rs_ldc hr (by omega) (by omega)))) hg.2.2.2.2.2.2.2.2.1 hdec (hK _ _ _ _ _ hst hM hR hS hc hs hl)
    · obtain ⟨ho, rfl, hst⟩ := hst
      exact lv_ldc hx hb (show s.vm.findClass RJ8 = some m.cls by rw [← ho]; exact hown) (hts _ ldc_word) hdec (hK _ _ _ _ _ hst hM hR hS hc hs hl)
  case getstatic j =>
    simp only [stepI] at hst
    obtain rfl : 3 = len := by simpa [lenI] using hlen
    obtain ⟨ho, rfl, hst⟩ := hst
    exact va_gets (C := "java/util/ArrayList") hx hb hg.2.2.2.2.2.2.1 hS (show s.vm.findClass RJx4a65c = some m.cls by rw [← ho]; exact hown) (ref := "java/util/ArrayList") (hts _ gs_word) (fun z hz => hz) hdec (hK _ _ _ _ _ hst hM hR hS hc hs hl)
  case iload j =>
    simp only [stepI] at hst
    obtain rfl : 2 = len := by simpa [lenI] using hlen
    replace hst := gI_e hst; obtain ⟨w, hw, hst⟩ := hst
    exact lv_iload hx hb hdec (hl.2.2.2 _ _ hw) (hK _ _ _ _ _ hst hM hR hS hc hs hl)
  case lload j =>
    simp only [stepI] at hst
    obtain rfl : 2 = len := by simpa [lenI] using hlen
    replace hst := gL_e hst; obtain ⟨w, hw, hst⟩ := hst
    exact lv_lload hx hb hdec (hl.2.2.2 _ _ hw) (hK _ _ _ _ _ hst hM hR hS hc hs hl)
  case dload j =>
    simp only [stepI] at hst
    obtain rfl : 2 = len := by simpa [lenI] using hlen
    replace hst := gD_e hst; obtain ⟨w, hw, hst⟩ := hst
    exact lv_dload hx hb hdec (hl.2.2.2 _ _ hw) (hK _ _ _ _ _ hst hM hR hS hc hs hl)
  case aload j =>
    simp only [stepI] at hst
    obtain rfl : 2 = len := by simpa [lenI] using hlen
    replace hst := gR_e hst; obtain ⟨w, hw, hst⟩ := hst
    exact lv_aload hx hb hdec (hl.2.2.2 _ _ hw) (hK _ _ _ _ _ hst hM hR hS hc hs hl)
  case iload_n j =>
    simp only [stepI] at hst
    obtain rfl : 1 = len := by simpa [lenI] using hlen
    obtain rfl : (j : Nat) = x := congrArg (fun q => q.1) hr
    replace hst := gI_e hst; obtain ⟨w, hw, hst⟩ := hst
    exact lv_iload_n hx hb hdec rfl (hl.2.2.2 _ _ hw) (hK _ _ _ _ _ hst hM hR hS hc hs hl)
  case lload_n j =>
    simp only [stepI] at hst
    obtain rfl : 1 = len := by simpa [lenI] using hlen
    obtain rfl : (j : Nat) = x := congrArg (fun q => q.1) hr
    replace hst := gL_e hst; obtain ⟨w, hw, hst⟩ := hst
    exact lv_lload_n hx hb hdec rfl (hl.2.2.2 _ _ hw) (hK _ _ _ _ _ hst hM hR hS hc hs hl)
  case aload_n j =>
    simp only [stepI] at hst
    obtain rfl : 1 = len := by simpa [lenI] using hlen
    obtain rfl : (j : Nat) = x := congrArg (fun q => q.1) hr
    replace hst := gR_e hst; obtain ⟨w, hw, hst⟩ := hst
    exact lv_aload_n hx hb hdec rfl (hl.2.2.2 _ _ hw) (hK _ _ _ _ _ hst hM hR hS hc hs hl)
  case istore j =>
    simp only [stepI] at hst
    obtain rfl : 2 = len := by simpa [lenI] using hlen
    replace hst := sI_e hst; obtain ⟨w, r, rfl, hj, hst⟩ := hst
    exact lv_istore hx hb hdec hl.has (by rw [← hl.1]; exact hj) rfl (fun la' h' => hK _ _ _ _ _ hst hM hR hS hc hs (hl.put h'))
  case istore_n j =>
    simp only [stepI] at hst
    obtain rfl : 1 = len := by simpa [lenI] using hlen
    obtain rfl : (j : Nat) = x := congrArg (fun q => q.1) hr
    replace hst := sI_e hst; obtain ⟨w, r, rfl, hj, hst⟩ := hst
    exact lv_istore_n hx hb hdec rfl hl.has (by rw [← hl.1]; exact hj) rfl (fun la' h' => hK _ _ _ _ _ hst hM hR hS hc hs (hl.put h'))
  case astore j =>
    simp only [stepI] at hst
    obtain rfl : 2 = len := by simpa [lenI] using hlen
    replace hst := sR_e hst; obtain ⟨w, r, rfl, hj, hst⟩ := hst
    exact lv_astore hx hb hdec hl.has (by rw [← hl.1]; exact hj) rfl (fun la' h' => hK _ _ _ _ _ hst hM hR hS hc hs (hl.put h'))
  case astore_n j =>
    simp only [stepI] at hst
    obtain rfl : 1 = len := by simpa [lenI] using hlen
    obtain rfl : (j : Nat) = x := congrArg (fun q => q.1) hr
    replace hst := sR_e hst; obtain ⟨w, r, rfl, hj, hst⟩ := hst
    exact lv_astore_n hx hb hdec rfl hl.has (by rw [← hl.1]; exact hj) rfl (fun la' h' => hK _ _ _ _ _ hst hM hR hS hc hs (hl.put h'))
  case lstore j =>
    simp only [stepI] at hst
    obtain rfl : 2 = len := by simpa [lenI] using hlen
    replace hst := sL_e hst; obtain ⟨w, r, rfl, hj, hst⟩ := hst
    exact lv_lstore hx hb hdec hl.has (by rw [← hl.1]; exact hj) rfl (fun la' h' => hK _ _ _ _ _ hst hM hR hS hc hs (hl.putW h'))
  case dstore j =>
    simp only [stepI] at hst
    obtain rfl : 2 = len := by simpa [lenI] using hlen
    replace hst := sD_e hst; obtain ⟨w, r, rfl, hj, hst⟩ := hst
    exact lv_dstore hx hb hdec hl.has (by rw [← hl.1]; exact hj) rfl (fun la' h' => hK _ _ _ _ _ hst hM hR hS hc hs (hl.putW h'))
  case lstore_n j =>
    simp only [stepI] at hst
    obtain rfl : 1 = len := by simpa [lenI] using hlen
    obtain rfl : (j : Nat) = x := congrArg (fun q => q.1) hr
    replace hst := sL_e hst; obtain ⟨w, r, rfl, hj, hst⟩ := hst
    exact lv_lstore_n hx hb hdec rfl hl.has (by rw [← hl.1]; exact hj) rfl (fun la' h' => hK _ _ _ _ _ hst hM hR hS hc hs (hl.putW h'))
  case iinc j n =>
    simp only [stepI] at hst
    obtain rfl : 3 = len := by simpa [lenI] using hlen
    obtain rfl : Int32.ofInt n = v := congrArg (fun q => q.2.2.1) hr
    replace hst := gI_e hst; obtain ⟨w, hw, hj, hst⟩ := hst
    obtain ⟨k, hk⟩ := List.getElem?_of_mem (mem_asL.mpr hw)
    exact lv_iinc hx hb hdec hl.has hk rfl (by rw [← hl.1]; exact hj) rfl (fun la' h' => hK _ _ _ _ _ hst hM hR hS hc hs (hl.put h'))
  case iadd =>
    simp only [stepI] at hst
    obtain rfl : 1 = len := by simpa [lenI] using hlen
    replace hst := sI_e hst; obtain ⟨q, r, rfl, hst⟩ := hst
    replace hst := sI_e hst; obtain ⟨w, r, rfl, hst⟩ := hst
    exact lv_iadd hx hb hdec (hK _ _ _ _ _ hst hM hR hS hc hs hl)
  case isub =>
    simp only [stepI] at hst
    obtain rfl : 1 = len := by simpa [lenI] using hlen
    replace hst := sI_e hst; obtain ⟨q, r, rfl, hst⟩ := hst
    replace hst := sI_e hst; obtain ⟨w, r, rfl, hst⟩ := hst
    exact lv_isub hx hb hdec (hK _ _ _ _ _ hst hM hR hS hc hs hl)
  case imul =>
    simp only [stepI] at hst
    obtain rfl : 1 = len := by simpa [lenI] using hlen
    replace hst := sI_e hst; obtain ⟨q, r, rfl, hst⟩ := hst
    replace hst := sI_e hst; obtain ⟨w, r, rfl, hst⟩ := hst
    exact lv_imul hx hb hdec (hK _ _ _ _ _ hst hM hR hS hc hs hl)
  case iand =>
    simp only [stepI] at hst
    obtain rfl : 1 = len := by simpa [lenI] using hlen
    replace hst := sI_e hst; obtain ⟨q, r, rfl, hst⟩ := hst
    replace hst := sI_e hst; obtain ⟨w, r, rfl, hst⟩ := hst
    exact lv_iand hx hb hdec (hK _ _ _ _ _ hst hM hR hS hc hs hl)
  case ishr =>
    simp only [stepI] at hst
    obtain rfl : 1 = len := by simpa [lenI] using hlen
    replace hst := sI_e hst; obtain ⟨q, r, rfl, hst⟩ := hst
    replace hst := sI_e hst; obtain ⟨w, r, rfl, hst⟩ := hst
    exact lv_ishr hx hb hdec (hK _ _ _ _ _ hst hM hR hS hc hs hl)
  case idiv =>
    simp only [stepI] at hst
    obtain rfl : 1 = len := by simpa [lenI] using hlen
    replace hst := sI_e hst; obtain ⟨q, r, rfl, hst⟩ := hst
    replace hst := sI_e hst; obtain ⟨w, r, rfl, hq, hst⟩ := hst
    exact lv_idiv hx hb hdec hq (hK _ _ _ _ _ hst hM hR hS hc hs hl)
  case irem =>
    simp only [stepI] at hst
    obtain rfl : 1 = len := by simpa [lenI] using hlen
    replace hst := sI_e hst; obtain ⟨q, r, rfl, hst⟩ := hst
    replace hst := sI_e hst; obtain ⟨w, r, rfl, hq, hst⟩ := hst
    exact lv_irem hx hb hdec hq (hK _ _ _ _ _ hst hM hR hS hc hs hl)
  case ladd =>
    simp only [stepI] at hst
    obtain rfl : 1 = len := by simpa [lenI] using hlen
    replace hst := sL_e hst; obtain ⟨q, r, rfl, hst⟩ := hst
    replace hst := sL_e hst; obtain ⟨w, r, rfl, hst⟩ := hst
    exact lv_ladd hx hb hdec (hK _ _ _ _ _ hst hM hR hS hc hs hl)
  case lmul =>
    simp only [stepI] at hst
    obtain rfl : 1 = len := by simpa [lenI] using hlen
    replace hst := sL_e hst; obtain ⟨q, r, rfl, hst⟩ := hst
    replace hst := sL_e hst; obtain ⟨w, r, rfl, hst⟩ := hst
    exact lv_lmul hx hb hdec (hK _ _ _ _ _ hst hM hR hS hc hs hl)
  case lcmp =>
    simp only [stepI] at hst
    obtain rfl : 1 = len := by simpa [lenI] using hlen
    replace hst := sL_e hst; obtain ⟨q, r, rfl, hst⟩ := hst
    replace hst := sL_e hst; obtain ⟨w, r, rfl, hst⟩ := hst
    exact W.lcmp hx hb hdec (hK _ _ _ _ _ hst hM hR hS hc hs hl)
  case i2l =>
    simp only [stepI] at hst
    obtain rfl : 1 = len := by simpa [lenI] using hlen
    replace hst := sI_e hst; obtain ⟨q, r, rfl, hst⟩ := hst
    exact lv_i2l hx hb hdec rfl (hK _ _ _ _ _ hst hM hR hS hc hs hl)
  case i2d =>
    simp only [stepI] at hst
    obtain rfl : 1 = len := by simpa [lenI] using hlen
    replace hst := sI_e hst; obtain ⟨q, r, rfl, hst⟩ := hst
    exact lv_i2d hx hb hdec (hK _ _ _ _ _ hst hM hR hS hc hs hl)
  case ddiv =>
    simp only [stepI] at hst
    obtain rfl : 1 = len := by simpa [lenI] using hlen
    replace hst := sD_e hst; obtain ⟨q, r, rfl, hst⟩ := hst
    replace hst := sD_e hst; obtain ⟨w, r, rfl, hq, hst⟩ := hst
    exact lv_ddiv hx hb hdec hq (hK _ _ _ _ _ hst hM hR hS hc hs hl)
  case dcmp o =>
    simp only [stepI] at hst
    obtain rfl : 1 = len := by simpa [lenI] using hlen
    replace hst := sD_e hst; obtain ⟨q, r, rfl, hst⟩ := hst
    replace hst := sD_e hst; obtain ⟨w, r, rfl, hst⟩ := hst
    exact lv_dcmp hx hb hdec (hK _ _ _ _ _ hst hM hR hS hc hs hl)
  case dup =>
    simp only [stepI] at hst
    obtain rfl : 1 = len := by simpa [lenI] using hlen
    replace hst := s1_e hst; obtain ⟨q, r, rfl, hq, hst⟩ := hst
    exact lv_dup hx hb hdec hq (hK _ _ _ _ _ hst hM hR hS hc hs hl)
  case dup2 =>
    simp only [stepI] at hst
    obtain rfl : 1 = len := by simpa [lenI] using hlen
    replace hst := s1_e hst; obtain ⟨q, r, rfl, hq, hst⟩ := hst
    replace hst := s1_e hst; obtain ⟨w, r, rfl, hw, hst⟩ := hst
    exact lv_dup2_11 hx hb hdec hq hw (hK _ _ _ _ _ hst hM hR hS hc hs hl)
  case dup_x1 =>
    simp only [stepI] at hst
    obtain rfl : 1 = len := by simpa [lenI] using hlen
    replace hst := s1_e hst; obtain ⟨q, r, rfl, hq, hst⟩ := hst
    replace hst := s1_e hst; obtain ⟨w, r, rfl, hw, hst⟩ := hst
    exact lv_dup_x1 hx hb hdec hq hw (hK _ _ _ _ _ hst hM hR hS hc hs hl)
  case pop =>
    simp only [stepI] at hst
    obtain rfl : 1 = len := by simpa [lenI] using hlen
    replace hst := s1_e hst; obtain ⟨q, r, rfl, hq, hst⟩ := hst
    exact lv_pop hx hb hdec hq (hK _ _ _ _ _ hst hM hR hS hc hs hl)
  case goto o =>
    simp only [stepI] at hst
    obtain rfl : 3 = len := by simpa [lenI] using hlen
    obtain ⟨h0, hst⟩ := hst
    exact lv_goto hx hb hdec (tg_of (congrArg (fun q => q.1) hr) h0) (hK _ _ _ _ _ hst hM hR hS hc hs hl)
  case ifCond cc o =>
    obtain rfl : 3 = len := by simpa [lenI] using hlen
    have ht := congrArg (fun q => q.1) hr
    cases cc
    case eq =>
      simp only [stepI] at hst
      obtain ⟨h0, hst⟩ := hst
      replace hst := sI_e hst; obtain ⟨q, r, rfl, h1, h2⟩ := hst
      exact lv_if_eq hx hb hdec (tg_of ht h0) (fun z => hK _ _ _ _ _ (h1 z) hM hR hS hc hs hl) (fun z => hK _ _ _ _ _ (h2 z) hM hR hS hc hs hl)
    case ne =>
      simp only [stepI] at hst
      obtain ⟨h0, hst⟩ := hst
      replace hst := sI_e hst; obtain ⟨q, r, rfl, h1, h2⟩ := hst
      exact lv_if_ne hx hb hdec (tg_of ht h0) (fun z => hK _ _ _ _ _ (h1 z) hM hR hS hc hs hl) (fun z => hK _ _ _ _ _ (h2 z) hM hR hS hc hs hl)
    case lt =>
      simp only [stepI] at hst
      obtain ⟨h0, hst⟩ := hst
      replace hst := sI_e hst; obtain ⟨q, r, rfl, h1, h2⟩ := hst
      exact lv_if_lt hx hb hdec (tg_of ht h0) (fun z => hK _ _ _ _ _ (h1 z) hM hR hS hc hs hl) (fun z => hK _ _ _ _ _ (h2 z) hM hR hS hc hs hl)
    case ge =>
      simp only [stepI] at hst
      obtain ⟨h0, hst⟩ := hst
      replace hst := sI_e hst; obtain ⟨q, r, rfl, h1, h2⟩ := hst
      exact lv_if_ge hx hb hdec (tg_of ht h0) (fun z => hK _ _ _ _ _ (h1 z) hM hR hS hc hs hl) (fun z => hK _ _ _ _ _ (h2 z) hM hR hS hc hs hl)
    case gt =>
      simp only [stepI] at hst
      obtain ⟨h0, hst⟩ := hst
      replace hst := sI_e hst; obtain ⟨q, r, rfl, h1, h2⟩ := hst
      exact lv_if_gt hx hb hdec (tg_of ht h0) (fun z => hK _ _ _ _ _ (h1 z) hM hR hS hc hs hl) (fun z => hK _ _ _ _ _ (h2 z) hM hR hS hc hs hl)
    case le =>
      simp only [stepI] at hst
      obtain ⟨h0, hst⟩ := hst
      replace hst := sI_e hst; obtain ⟨q, r, rfl, h1, h2⟩ := hst
      exact lv_if_le hx hb hdec (tg_of ht h0) (fun z => hK _ _ _ _ _ (h1 z) hM hR hS hc hs hl) (fun z => hK _ _ _ _ _ (h2 z) hM hR hS hc hs hl)
  case if_icmp cc o =>
    obtain rfl : 3 = len := by simpa [lenI] using hlen
    have ht := congrArg (fun q => q.1) hr
    cases cc
    case eq =>
      simp only [stepI] at hst
      obtain ⟨h0, hst⟩ := hst
      replace hst := sI_e hst; obtain ⟨q, r, rfl, hst⟩ := hst
      replace hst := sI_e hst; obtain ⟨w, r, rfl, h1, h2⟩ := hst
      exact lv_icmp_eq hx hb hdec (tg_of ht h0) (fun z => hK _ _ _ _ _ (h1 z) hM hR hS hc hs hl) (fun z => hK _ _ _ _ _ (h2 z) hM hR hS hc hs hl)
    case ne =>
      simp only [stepI] at hst
      obtain ⟨h0, hst⟩ := hst
      replace hst := sI_e hst; obtain ⟨q, r, rfl, hst⟩ := hst
      replace hst := sI_e hst; obtain ⟨w, r, rfl, h1, h2⟩ := hst
      exact lv_icmp_ne hx hb hdec (tg_of ht h0) (fun z => hK _ _ _ _ _ (h1 z) hM hR hS hc hs hl) (fun z => hK _ _ _ _ _ (h2 z) hM hR hS hc hs hl)
    case lt =>
      simp only [stepI] at hst
      obtain ⟨h0, hst⟩ := hst
      replace hst := sI_e hst; obtain ⟨q, r, rfl, hst⟩ := hst
      replace hst := sI_e hst; obtain ⟨w, r, rfl, h1, h2⟩ := hst
      exact lv_icmp_lt hx hb hdec (tg_of ht h0) (fun z => hK _ _ _ _ _ (h1 z) hM hR hS hc hs hl) (fun z => hK _ _ _ _ _ (h2 z) hM hR hS hc hs hl)
    case ge =>
      simp only [stepI] at hst
      obtain ⟨h0, hst⟩ := hst
      replace hst := sI_e hst; obtain ⟨q, r, rfl, hst⟩ := hst
      replace hst := sI_e hst; obtain ⟨w, r, rfl, h1, h2⟩ := hst
      exact lv_icmp_ge hx hb hdec (tg_of ht h0) (fun z => hK _ _ _ _ _ (h1 z) hM hR hS hc hs hl) (fun z => hK _ _ _ _ _ (h2 z) hM hR hS hc hs hl)
    case gt =>
      simp only [stepI] at hst
      obtain ⟨h0, hst⟩ := hst
      replace hst := sI_e hst; obtain ⟨q, r, rfl, hst⟩ := hst
      replace hst := sI_e hst; obtain ⟨w, r, rfl, h1, h2⟩ := hst
      exact lv_icmp_gt hx hb hdec (tg_of ht h0) (fun z => hK _ _ _ _ _ (h1 z) hM hR hS hc hs hl) (fun z => hK _ _ _ _ _ (h2 z) hM hR hS hc hs hl)
    case le =>
      simp only [stepI] at hst
      obtain ⟨h0, hst⟩ := hst
      replace hst := sI_e hst; obtain ⟨q, r, rfl, hst⟩ := hst
      replace hst := sI_e hst; obtain ⟨w, r, rfl, h1, h2⟩ := hst
      exact lv_icmp_le hx hb hdec (tg_of ht h0) (fun z => hK _ _ _ _ _ (h1 z) hM hR hS hc hs hl) (fun z => hK _ _ _ _ _ (h2 z) hM hR hS hc hs hl)
  case if_acmp cc o =>
    obtain rfl : 3 = len := by simpa [lenI] using hlen
    have ht := congrArg (fun q => q.1) hr
    cases cc
    case eq =>
      simp only [stepI] at hst
      obtain ⟨h0, hst⟩ := hst
      replace hst := sR_e hst; obtain ⟨q, r, rfl, hst⟩ := hst
      replace hst := sR_e hst; obtain ⟨w, r, rfl, h1, h2⟩ := hst
      exact lv_acmp_eq (rx := some w) (ry := some q) hx hb hdec (tg_of ht h0) (fun z => hK _ _ _ _ _ (h1 (Option.some.inj z)) hM hR hS hc hs hl) (fun z => hK _ _ _ _ _ (h2 (fun e => z (congrArg some e))) hM hR hS hc hs hl)
    case ne =>
      simp only [stepI] at hst
      obtain ⟨h0, hst⟩ := hst
      replace hst := sR_e hst; obtain ⟨q, r, rfl, hst⟩ := hst
      replace hst := sR_e hst; obtain ⟨w, r, rfl, h1, h2⟩ := hst
      exact lv_acmp_ne (rx := some w) (ry := some q) hx hb hdec (tg_of ht h0) (fun z => hK _ _ _ _ _ (h1 (fun e => z (congrArg some e))) hM hR hS hc hs hl) (fun z => hK _ _ _ _ _ (h2 (Option.some.inj z)) hM hR hS hc hs hl)
  case getfield j =>
    simp only [stepI] at hst
    obtain rfl : 3 = len := by simpa [lenI] using hlen
    replace hst := sR_e hst; obtain ⟨a, r, rfl, hk, hy, hst⟩ := hst
    refine st_getfield hM hR hdec hr hk hy ?_
    unfold fvV
    split at hst
    · rename_i hrf
      rw [if_pos hrf]
      exact hK _ _ _ _ _ (oR_e hst) hM hR hS hc hs hl
    · rename_i hrf
      rw [if_neg hrf]
      exact hK _ _ _ _ _ hst hM hR hS hc hs hl
  case putfield j =>
    simp only [stepI] at hst
    obtain rfl : 3 = len := by simpa [lenI] using hlen
    split at hst
    · rename_i hrf
      replace hst := vR_e hst; obtain ⟨q, r, rfl, hst⟩ := hst
      replace hst := sR_e hst; obtain ⟨a, r, rfl, hk, hy, hfin, hst⟩ := hst
      have hty := cl_ref x (nF_lt hy) y hy hrf
      refine st_putfield (h' := setR h x y a q) hM hR hS hdec hr hk hy hfin ?_ ?_ (fun _ => rfl) ?_ ?_ (fun z hz => setR_o hz) (fun H1 locs1 hR1 hS1 => hK _ _ _ _ _ hst hM hR1 hS1 hc hs hl)
      · cases q <;> (generalize clY x y = ty at hty; cases ty <;> first | rfl | cases hty)
      · cases q <;> (generalize clY x y = ty at hty; cases ty <;> first | rfl | cases hty)
      · unfold fvV; rw [if_pos hrf, fr_setR, if_pos (show x = x ∧ y = y ∧ a = a from ⟨rfl, rfl, rfl⟩)]
      · intro z hz
        unfold fvV
        rw [fr_setR, if_neg (show ¬ (x = x ∧ z = y ∧ a = a) from fun w => hz w.2.1)]
        rfl
    · rename_i hrf
      replace hst := sI_e hst; obtain ⟨w, r, rfl, hst⟩ := hst
      replace hst := sR_e hst; obtain ⟨a, r, rfl, hk, hy, hfin, hbo, hst⟩ := hst
      have hrf : refF x y = false := by cases hq : refF x y <;> simp_all
      have hty := cl_int x (nF_lt hy) y hy hrf
      refine st_putfield (h' := setI h x y a w) hM hR hS hdec hr hk hy hfin ?_ ?_ (fun _ => rfl) ?_ ?_ (fun z hz => setI_o hz) (fun H1 locs1 hR1 hS1 => hK _ _ _ _ _ hst hM hR1 hS1 hc hs hl)
      · generalize clY x y = ty at hty
        cases ty <;> first | rfl | cases hty | (rcases hbo hty with rfl | rfl <;> rfl)
      · generalize clY x y = ty at hty
        cases ty <;> first | rfl | cases hty | (rcases hbo hty with rfl | rfl <;> rfl)
      · unfold fvV; rw [hrf, fi_setI, if_pos (show x = x ∧ y = y ∧ a = a from ⟨rfl, rfl, rfl⟩)]; rfl
      · intro z hz
        unfold fvV
        rw [fi_setI, if_neg (show ¬ (x = x ∧ z = y ∧ a = a) from fun w => hz w.2.1)]
        rfl
  case iaload =>
    simp only [stepI] at hst
    obtain rfl : 1 = len := by simpa [lenI] using hlen
    replace hst := sI_e hst; obtain ⟨j, r, rfl, hst⟩ := hst
    replace hst := sR_e hst; obtain ⟨a, r, rfl, hk, hj, hst⟩ := hst
    exact st_iald hM hR hdec hk hj (hK _ _ _ _ _ hst hM hR hS hc hs hl)
  case baload =>
    simp only [stepI] at hst
    obtain rfl : 1 = len := by simpa [lenI] using hlen
    replace hst := sI_e hst; obtain ⟨j, r, rfl, hst⟩ := hst
    replace hst := sR_e hst; obtain ⟨a, r, rfl, hk, hj, hst⟩ := hst
    exact st_zald hM hR hdec hk hj (hK _ _ _ _ _ hst hM hR hS hc hs hl)
  case aaload =>
    simp only [stepI] at hst
    obtain rfl : 1 = len := by simpa [lenI] using hlen
    split at hst
    · replace hst := sI_e hst; obtain ⟨j, r, rfl, hst⟩ := hst
      replace hst := sR_e hst; obtain ⟨a, r, rfl, hk, hj, hst⟩ := hst
      exact st_mald hM hR hdec hk hj (hK _ _ _ _ _ (oR_e hst) hM hR hS hc hs hl)
    replace hst := sI_e hst; obtain ⟨j, r, rfl, hst⟩ := hst
    replace hst := sR_e hst; obtain ⟨a, r, rfl, hk, hj, hst⟩ := hst
    exact st_aald hM hR hdec hk hj (hK _ _ _ _ _ (oR_e hst) hM hR hS hc hs hl)
  case iastore =>
    simp only [stepI] at hst
    obtain rfl : 1 = len := by simpa [lenI] using hlen
    replace hst := sI_e hst; obtain ⟨w, r, rfl, hst⟩ := hst
    replace hst := sI_e hst; obtain ⟨j, r, rfl, hst⟩ := hst
    replace hst := sR_e hst; obtain ⟨a, r, rfl, hk, hj, hst⟩ := hst
    exact st_iast hM hR hS hdec hk hj (fun H1 locs1 hR1 hS1 => hK _ _ _ _ _ hst hM hR1 hS1 hc hs hl)
  case bastore =>
    simp only [stepI] at hst
    obtain rfl : 1 = len := by simpa [lenI] using hlen
    replace hst := sI_e hst; obtain ⟨w, r, rfl, hst⟩ := hst
    replace hst := sI_e hst; obtain ⟨j, r, rfl, hst⟩ := hst
    replace hst := sR_e hst; obtain ⟨a, r, rfl, hk, hj, hw, hst⟩ := hst
    exact st_zast hM hR hS hdec hk hj hw (fun H1 locs1 hR1 hS1 => hK _ _ _ _ _ hst hM hR1 hS1 hc hs hl)
  case aastore =>
    simp only [stepI] at hst
    obtain rfl : 1 = len := by simpa [lenI] using hlen
    split at hst
    · replace hst := sR_e hst; obtain ⟨w, r, rfl, hst⟩ := hst
      replace hst := sI_e hst; obtain ⟨j, r, rfl, hst⟩ := hst
      replace hst := sR_e hst; obtain ⟨a, r, rfl, hk, hj, hw, hst⟩ := hst
      exact st_mast hM hR hS hdec hk hj hw (fun H1 locs1 hR1 hS1 => hK _ _ _ _ _ hst hM hR1 hS1 hc hs hl)
    replace hst := sR_e hst; obtain ⟨w, r, rfl, hst⟩ := hst
    replace hst := sI_e hst; obtain ⟨j, r, rfl, hst⟩ := hst
    replace hst := sR_e hst; obtain ⟨a, r, rfl, hk, hj, hw, hst⟩ := hst
    exact st_aast hM hR hS hdec hk hj hw (fun H1 locs1 hR1 hS1 => hK _ _ _ _ _ hst hM hR1 hS1 hc hs hl)
  case arraylength =>
    simp only [stepI] at hst
    obtain rfl : 1 = len := by simpa [lenI] using hlen
    split at hst
    · replace hst := sR_e hst; obtain ⟨a, r, rfl, hk, hst⟩ := hst
      exact st_mlen hM hR hdec hk (hK _ _ _ _ _ hst hM hR hS hc hs hl)
    replace hst := sR_e hst; obtain ⟨a, r, rfl, h0, h1⟩ := hst
    by_cases hk : kd h a = 0
    · obtain ⟨rfl, hst⟩ := h0 hk
      exact va_tlen hx hb hg.2.2.2.2.2.2.2.1 hS rfl hdec (hK _ _ _ _ _ hst hM hR hS hc hs hl)
    · obtain ⟨k1, k2, hst⟩ := h1 hk
      exact st_alen hM hR hdec ⟨k1, k2⟩ (hK _ _ _ _ _ hst hM hR hS hc hs hl)
  case newarray t =>
    simp only [stepI] at hst
    obtain rfl : 2 = len := by simpa [lenI] using hlen
    replace hst := sI_e hst; obtain ⟨n, r, rfl, ht, hn, hN, h1, h2, hst⟩ := hst
    exact st_newarr hM hR hS hdec ht hn hN (by omega) (by omega) (fun a H1 k1 k2 hR1 hS1 => hK _ _ _ _ _ (hst a k1 k2) hM hR1 hS1 (by dsimp only; omega) (by dsimp only; omega) hl)
  case anewarray j =>
    simp only [stepI] at hst
    obtain rfl : 3 = len := by simpa [lenI] using hlen
    split at hst
    · rename_i h62
      replace hst := sI_e hst; obtain ⟨n, r, rfl, hn, hN, h1, h2, hst⟩ := hst
      exact st_anewM hM hR hS hdec hr h62 hn hN (by omega) (by omega) (fun a H1 k1 k2 hR1 hS1 => hK _ _ _ _ _ (hst a k1 k2) hM hR1 hS1 (by dsimp only; omega) (by dsimp only; omega) hl)
    replace hst := sI_e hst; obtain ⟨n, r, rfl, hx61, hn, hN, h1, h2, hst⟩ := hst
    exact st_anew hM hR hS hdec hr hx61 hn hN (by omega) (by omega) (fun a H1 k1 k2 hR1 hS1 => hK _ _ _ _ _ (hst a k1 k2) hM hR1 hS1 (by dsimp only; omega) (by dsimp only; omega) hl)
  case multianewarray j dm =>
    simp only [stepI] at hst
    obtain rfl : 4 = len := by simpa [lenI] using hlen
    obtain ⟨h63, rfl, hst⟩ := hst
    replace hst := sI_e hst; obtain ⟨k, r, rfl, hst⟩ := hst
    replace hst := sI_e hst; obtain ⟨n, r, rfl, hn, hk, hN, hK0, h1, h2, hst⟩ := hst
    exact st_mna hM hR hS hdec hr h63 hn hk hN hK0 (by omega) (by omega) (fun a B H1 k1 k2 k3 k4 hR1 hS1 => hK _ _ _ _ _ (hst a B k1 k2 k3 k4) hM hR1 hS1 (by dsimp only; omega) (by dsimp only; omega) hl)
  case new j =>
    simp only [stepI] at hst
    obtain rfl : 3 = len := by simpa [lenI] using hlen
    split at hst
    · rename_i h7
      obtain ⟨h1, h2, hst⟩ := hst
      exact st_new hM hR hS hdec hr h7 (by omega) (by omega) (fun a H1 k1 k2 hR1 hS1 => hK _ _ _ _ _ (hst a k1 k2) hM hR1 hS1 (by dsimp only; omega) (by dsimp only; omega) hl)
    · obtain ⟨h1, h2, h3, h4, h5, h6, h7, h8, h9, h10⟩ := hst
      exact hM.2.2.2.2.2.2.2.2.2.2.2.2.2.2.1 x h H locs cells slots pc la st h1 h2 h3 h4 h5 h6 h9 hl.2.1 h10 hR hS (by omega) (by omega)
  case checkcast j =>
    simp only [stepI] at hst
    obtain rfl : 3 = len := by simpa [lenI] using hlen
    replace hst := sR_e hst; obtain ⟨a, r, rfl, h1, hst⟩ := hst
    split at h1
    · rename_i h60
      subst h60
      obtain ⟨L, k, q1, q2, q3, q4⟩ := hR.at (a := a) (by omega)
      rw [cell_O h1] at q4
      obtain ⟨_, _, _, _, _, f4⟩ := (hg.1.2 3 _ rfl).2
      exact va_castA hx hb hown (hts _ (cls_link (rs_cast hr (by omega)))) q2 k q4 f4 hdec (hK _ _ _ _ _ hst hM hR hS hc hs hl)
    · obtain ⟨h1, h2⟩ := h1
      have hx7 : x < 7 := by omega
      have hrec := Rel.recv hM hR (a := a) (by omega) (by omega)
      rw [h1, Nat.add_sub_cancel] at hrec
      exact va_castS hx hb hown (hts _ (cls_link (rs_cast hr (by omega)))) (hg.1.1 x _ (cl_at x hx7)).2 hrec hdec (hK _ _ _ _ _ hst hM hR hS hc hs hl)
  case invokevirtual j =>
    simp only [stepI] at hst
    obtain rfl : 3 = len := by simpa [lenI] using hlen
    replace hst := lkC_e hst
    obtain ⟨ce, hce, hst⟩ := hst
    have hok := hcs _ (lkp_mem hce)
    split at hst
    · rename_i h0
      replace hst := sP_e hst; obtain ⟨As, r, hn, rfl, hst⟩ := hst
      replace hst := sR_e hst; obtain ⟨a, r, rfl, k1, k2, k3, hst⟩ := hst
      have k7 : kd h a - 1 < 7 := by
        rcases Nat.lt_or_ge (kd h a - 1) 7 with q | q
        · exact q
        · exfalso
          refine nm_far (x := kd h a - 1) q (by omega) ?_
          rw [k3]
          have := hok.1 (.initialized ce.2.1.cls) (by unfold ceW; rw [show ((j, ce) : Nat × CE).2.1 = 0 from h0]; simp)
          exact this
      exact st_callV hM hH hR hS hl hc hs hK hdec hok h0 hn k1 k2 k3 k7 hst
    · obtain ⟨h5, hst⟩ := hst
      replace hst := sR_e hst; obtain ⟨a, r, rfl, hk, hd2, h8, hst⟩ := hst
      obtain ⟨w1, -⟩ := hok
      unfold ceW at w1
      rw [show ((j, ce) : Nat × CE).2.1 = 5 from h5] at w1
      have hwd : (Cond.declares ⟨"java/lang/Object", "getClass", "()Ljava/lang/Class;"⟩).before args s = true := va_Nw.use rfl (hg.2.2.2.2.1 _ (by decide +kernel))
      obtain ⟨L, k, q1, q2, q3, q4⟩ := hR.at (a := a) (by omega)
      rw [cell_O hk] at q4
      obtain ⟨_, _, _, _, _, f4⟩ := (hg.1.2 3 _ rfl).2
      exact va_getC (C := "[Ljava/lang/Object;") hx hb hml hown (hts _ (w1 _ (by simp [mow]))) hwd (hts _ (w1 _ (by simp))) (hts _ (w1 _ (by simp))) (hts _ (w1 _ (by simp))) hg.2.2.2.2.2.2.2.2.1 ⟨_, q2 k _ q4, rfl, f4⟩ (by have := hM.2.2.2.2.2.2.1; omega) (by rw [catS_e]; have := hM.2.2.2.2.2.2.2.1; omega) hdec (hK _ _ _ _ _ hst hM hR hS hc hs hl)
  case invokestatic j =>
    simp only [stepI] at hst
    obtain rfl : 3 = len := by simpa [lenI] using hlen
    replace hst := lkC_e hst
    obtain ⟨ce, hce, hst⟩ := hst
    have hok := hcs _ (lkp_mem hce)
    split at hst
    · rename_i h0
      replace hst := sP_e hst; obtain ⟨As, r, hn, rfl, hst⟩ := hst
      exact st_callS hM hH hR hS hl hc hs hK hdec hok h0 hn hst
    · split at hst
      · rename_i h7'
        replace hst := sI_e hst; obtain ⟨n, r, rfl, hst⟩ := hst
        replace hst := sI_e hst; obtain ⟨dp, r, rfl, hst⟩ := hst
        replace hst := sR_e hst; obtain ⟨a, r, rfl, hst⟩ := hst
        replace hst := sI_e hst; obtain ⟨sp, r, rfl, hst⟩ := hst
        replace hst := sR_e hst; obtain ⟨a0, r, rfl, k1, k2, k3, k4, k5, k6, k7, hd2, h8, hst⟩ := hst
        obtain ⟨w1, -⟩ := hok
        have h7' : ((j, ce) : Nat × CE).2.1 = 7 := h7'
        unfold ceW at w1
        rw [h7'] at w1
        exact st_copyI hM hR hS (hts _ (w1 _ (by simp [mow]))) (hts _ (w1 _ (by simp))) (hts _ (w1 _ (by simp))) (hts _ (w1 _ (by simp))) hml hdec k1 k2 k3 k4 k5 k6 k7 (by have := hM.2.2.2.2.2.2.1; omega) (by rw [catS_e]; have := hM.2.2.2.2.2.2.2.1; have e : nativeFrameWords "java/lang/System" "arraycopy" 5 ≤ 20 := (by decide); omega) (fun H1 locs1 hR1 hS1 => hK _ _ _ _ _ hst hM hR1 hS1 hc hs hl)
      split at hst
      · rename_i h8'
        replace hst := sI_e hst; obtain ⟨q, r, rfl, hst⟩ := hst
        replace hst := sI_e hst; obtain ⟨w, r, rfl, hd2, h8, hst⟩ := hst
        obtain ⟨w1, -⟩ := hok
        have h8' : ((j, ce) : Nat × CE).2.1 = 8 := h8'
        unfold ceW at w1
        rw [h8'] at w1
        exact va_mmax hx hb hml hown (hts _ (w1 _ (by simp [mow]))) (hts _ (w1 _ (by simp))) (hts _ (w1 _ (by simp))) (hts _ (w1 _ (by simp))) (by have := hM.2.2.2.2.2.2.1; omega) (by rw [catS_e]; have := hM.2.2.2.2.2.2.2.1; omega) (by omega) (by omega) hdec (hK _ _ _ _ _ hst hM hR hS hc hs hl)
      split at hst
      · rename_i h8'
        replace hst := sI_e hst; obtain ⟨q, r, rfl, hst⟩ := hst
        replace hst := sI_e hst; obtain ⟨w, r, rfl, hd2, h8, hst⟩ := hst
        obtain ⟨w1, -⟩ := hok
        have h8' : ((j, ce) : Nat × CE).2.1 = 9 := h8'
        unfold ceW at w1
        rw [h8'] at w1
        exact va_mmin hx hb hml hown (hts _ (w1 _ (by simp [mow]))) (hts _ (w1 _ (by simp))) (hts _ (w1 _ (by simp))) (hts _ (w1 _ (by simp))) (by have := hM.2.2.2.2.2.2.1; omega) (by rw [catS_e]; have := hM.2.2.2.2.2.2.2.1; omega) (by omega) (by omega) hdec (hK _ _ _ _ _ hst hM hR hS hc hs hl)
      obtain ⟨h6, hst⟩ := hst
      replace hst := sI_e hst; obtain ⟨n, r, rfl, hst⟩ := hst
      replace hst := sI_e hst; obtain ⟨dp, r, rfl, hst⟩ := hst
      replace hst := sR_e hst; obtain ⟨a, r, rfl, hst⟩ := hst
      replace hst := sI_e hst; obtain ⟨sp, r, rfl, hst⟩ := hst
      replace hst := sR_e hst; obtain ⟨a0, r, rfl, k1, k2, k3, k4, k5, k6, k7, ⟨k, kk, kel⟩, hd2, h8, hst⟩ := hst
      obtain ⟨w1, -⟩ := hok
      have h6 : ((j, ce) : Nat × CE).2.1 = 6 := h6
      unfold ceW at w1
      rw [h6] at w1
      exact st_copy hM hR hS (hts _ (w1 _ (by simp [mow]))) (hts _ (w1 _ (by simp))) (hts _ (w1 _ (by simp))) (hts _ (w1 _ (by simp))) hml hdec k1 k2 k3 k4 k5 k6 k7 kk kel (by have := hM.2.2.2.2.2.2.1; omega) (by rw [catS_e]; have := hM.2.2.2.2.2.2.2.1; have e : nativeFrameWords "java/lang/System" "arraycopy" 5 ≤ 20 := (by decide); omega) (fun H1 locs1 hR1 hS1 => hK _ _ _ _ _ hst hM hR1 hS1 hc hs hl)
  case invokespecial j =>
    simp only [stepI] at hst
    obtain rfl : 3 = len := by simpa [lenI] using hlen
    replace hst := lkC_e hst
    obtain ⟨ce, hce, hst⟩ := hst
    have hok := hcs _ (lkp_mem hce)
    split at hst
    · rename_i h0
      replace hst := sP_e hst; obtain ⟨As, r, hn, rfl, hst⟩ := hst
      replace hst := sR_e hst; obtain ⟨a, r, rfl, k1, k2, hst⟩ := hst
      exact st_callI hM hH hR hS hl hc hs hK hdec hok h0 hn hst
    · obtain ⟨h4, hst⟩ := hst
      replace hst := sR_e hst; obtain ⟨a, r, rfl, hd1, h8, hst⟩ := hst
      obtain ⟨w1, -⟩ := hok
      unfold ceW at w1
      rw [show ((j, ce) : Nat × CE).2.1 = 4 from h4] at w1
      refine W.objInit hx hb hown (hts _ (w1 (.methodLink M.1 j Lib.objectInit) (by simp [mow]))) (hts _ (w1 _ (by simp))) (hts _ (w1 _ (by simp))) rfl (by rw [hml]) rfl hdec (by have := hM.2.2.2.2.2.2.1; omega) ?_ (hK _ _ _ _ _ hst hM hR hS hc hs hl)
      show 2 * 0 + _ + 12 ≤ R.locals
      rw [catS_e]
      have := hM.2.2.2.2.2.2.2.1
      omega
  case ireturn =>
    simp only [stepI] at hst
    obtain rfl : 1 = len := by simpa [lenI] using hlen
    replace hst := sI_e hst; obtain ⟨w, r, rfl, hst⟩ := hst
    replace hst := s0_e hst; obtain ⟨rfl, hst⟩ := hst
    refine hM.2.2.2.2.2.2.2.2.2.2.2.2.2.1 (some (.int w)) h H locs cells slots pc la ⟨hdec, ?_⟩ ?_ hR hS (by omega) (by omega)
    · split at hst
      · rename_i e1; exact ⟨_, e1, rfl⟩
      · rename_i e1; refine ⟨_, e1, ?_⟩; rcases hst.1 with rfl | rfl <;> rfl
      · exact hst.elim
    · split at hst
      · exact hst
      · exact hst.2
      · exact hst.elim
  case lreturn =>
    simp only [stepI] at hst
    obtain rfl : 1 = len := by simpa [lenI] using hlen
    replace hst := sL_e hst; obtain ⟨w, r, rfl, hst⟩ := hst
    replace hst := s0_e hst; obtain ⟨rfl, e1, hst⟩ := hst
    exact hM.2.2.2.2.2.2.2.2.2.2.2.2.2.1 (some (.long w)) h H locs cells slots pc la ⟨hdec, e1⟩ hst hR hS (by omega) (by omega)
  case dreturn =>
    simp only [stepI] at hst
    obtain rfl : 1 = len := by simpa [lenI] using hlen
    replace hst := sD_e hst; obtain ⟨w, r, rfl, hst⟩ := hst
    replace hst := s0_e hst; obtain ⟨rfl, e1, hst⟩ := hst
    exact hM.2.2.2.2.2.2.2.2.2.2.2.2.2.1 (some (.double w)) h H locs cells slots pc la ⟨hdec, e1⟩ hst hR hS (by omega) (by omega)
  case areturn =>
    simp only [stepI] at hst
    obtain rfl : 1 = len := by simpa [lenI] using hlen
    replace hst := sR_e hst; obtain ⟨w, r, rfl, hst⟩ := hst
    replace hst := s0_e hst; obtain ⟨rfl, e1, hst⟩ := hst
    refine hM.2.2.2.2.2.2.2.2.2.2.2.2.2.1 (some (.ref w)) h H locs cells slots pc la ⟨hdec, ?_⟩ hst hR hS (by omega) (by omega)
    split at e1
    · rename_i e2; exact ⟨_, e2, Or.inl ⟨_, rfl⟩⟩
    · rename_i e2; exact ⟨_, e2, Or.inr ⟨_, rfl⟩⟩
    · exact e1.elim
  case return_ =>
    simp only [stepI] at hst
    obtain rfl : 1 = len := by simpa [lenI] using hlen
    replace hst := s0_e hst; obtain ⟨rfl, e1, hst⟩ := hst
    exact hM.2.2.2.2.2.2.2.2.2.2.2.2.2.1 none h H locs cells slots pc la ⟨hdec, e1⟩ hst hR hS (by omega) (by omega)
  case tableswitch dd lo hi offs =>
    exact st_switch hM hR hS hc hs hl hdec hr hK hst
end STPD
