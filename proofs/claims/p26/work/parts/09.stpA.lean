/-! ===== the steps that touch cells ===== -/
section STPA
variable {G : GT} {M : MI} {ini : Bool} {d : Nat} {P : Option Value → Hp → Prop} {PX : String → Hp → Prop}
variable {p : Program} {l : Launch} {e : Env} {R : Room} {s : State} {m : MethodId} {args : Array Value} {below : List Frame} {meth : Method} {c : Code} {Q : State → Prop} {H : Heap} {locs : List Loc} {cells slots : Nat} {la : Array Slot}
variable {pc : Nat} {ls : Ls} {st rest : List Value} {h : Hp} {b : Nat × Nat}
theorem fld_ok : flds.all (fun q => decide (q.2.1 < 7) && decide (q.2.2 < nF q.2.1) && (decide (Cond.fieldLink q.1.1 q.1.2 (clT q.2.1 q.2.2).1 (clT q.2.1 q.2.2).2.1 (clT q.2.1 q.2.2).2.2.1 ∈ gw) || (decide (Cond.fieldLink q.1.1 q.1.2 (nmOf q.2.1) (clT q.2.1 q.2.2).2.1 (clT q.2.1 q.2.2).2.2.1 ∈ gw) && decide (Cond.sameField (nmOf q.2.1) (clT q.2.1 q.2.2).1 (clT q.2.1 q.2.2).2.1 (clT q.2.1 q.2.2).2.2.1 ∈ gw)))) = true := by decide +kernel
theorem fld_link {own : String} {idx x y : Nat} {args : Array Value} {s : State} (hts : ∀ w ∈ gw, w.before args s = true) (hf : flds.lookup (own, idx) = some (x, y)) : x < 7 ∧ y < nF x ∧ ∃ ref, (Cond.fieldLink own idx ref (clT x y).2.1 (clT x y).2.2.1).before args s = true ∧ ∀ z, s.fieldFound? (clT x y).1 (clT x y).2.1 (clT x y).2.2.1 = some z → s.fieldFound? ref (clT x y).2.1 (clT x y).2.2.1 = some z := by
  have h1 := List.all_eq_true.mp fld_ok _ (lk_mem _ hf)
  simp only [Bool.and_eq_true, Bool.or_eq_true, decide_eq_true_eq] at h1
  obtain ⟨⟨h2, h3⟩, h4 | ⟨h4, h5⟩⟩ := h1
  · exact ⟨h2, h3, _, hts _ h4, fun z hz => hz⟩
  · exact ⟨h2, h3, _, hts _ h4, fun z hz => u_same (hts _ h5) z hz⟩
theorem rs_getfield {own : String} {pc idx x y : Nat} {v : Int32} {tg : List Nat} (hr : rsOf own pc (.getfield idx) = (x, y, v, tg)) (hx : x ≠ 99) : flds.lookup (own, idx) = some (x, y) := by
  have hr : (match flds.lookup (own, idx) with | some q => (q.1, q.2, (0 : Int32), ([] : List Nat)) | none => (99, 0, 0, [])) = (x, y, v, tg) := hr
  split at hr
  · rename_i q hq; cases hr; exact hq
  · cases hr; exact absurd rfl hx
theorem rs_putfield {own : String} {pc idx x y : Nat} {v : Int32} {tg : List Nat} (hr : rsOf own pc (.putfield idx) = (x, y, v, tg)) (hx : x ≠ 99) : flds.lookup (own, idx) = some (x, y) := by
  have hr : (match flds.lookup (own, idx) with | some q => (q.1, q.2, (0 : Int32), ([] : List Nat)) | none => (99, 0, 0, [])) = (x, y, v, tg) := hr
  split at hr
  · rename_i q hq; cases hr; exact hq
  · cases hr; exact absurd rfl hx
theorem nF_lt {x y : Nat} (h : y < nF x) : x < 7 := by
  rcases Nat.lt_or_ge x 7 with q | q
  · exact q
  · have : nF x = 0 := by
      unfold nF
      split <;> first | omega | rfl
    omega
theorem st_getfield {idx x y a : Nat} {v : Int32} {tg : List Nat} (hM : Mach G M ini d P PX p l e R s m args below meth c Q) (hR : Rel G h H) (hdec : decode M.2.1 pc = .ok (.getfield idx, 3)) (hr : rsOf M.1 pc (.getfield idx) = (x, y, v, tg)) (hk : kd h a = x + 1) (hy : y < nF x)
    (kk : W p l e R s m args below meth c H locs cells slots Q (F0 m (pc + 3) la (fvV h x a y :: rest))) : W p l e R s m args below meth c H locs cells slots Q (F0 m pc la (.ref a :: rest)) := by
  have hx7 := nF_lt hy
  obtain ⟨hx, hb, hml, hown, hts, hg, -⟩ := hM
  obtain ⟨-, -, ref, hl, hsame⟩ := fld_link hts (rs_getfield hr (by omega))
  obtain ⟨L, h1, h2, h3⟩ := hR
  obtain ⟨k, hk2⟩ := va_pl_get (X := []) (f := cellOf G h) ((h1 a).mp (by omega))
  rw [cell_obj hx7 hk] at hk2
  exact va_get hx hb (C := nmOf x) (T := clT x) (N := nF x) hts (cl_in x hx7) hown hg.1 h2 k hk2 (cl_at x hx7) y hy hl hsame (flL_at hy) hdec kk
theorem st_putfield {idx x y a : Nat} {v : Int32} {tg : List Nat} {w : Value} {h' : Hp} (hM : Mach G M ini d P PX p l e R s m args below meth c Q) (hR : Rel G h H) (hS : va_S (AA G) s.heap H locs) (hdec : decode M.2.1 pc = .ok (.putfield idx, 3)) (hr : rsOf M.1 pc (.putfield idx) = (x, y, v, tg)) (hk : kd h a = x + 1) (hy : y < nF x)
    (hfin : finF x y = true → ini = true ∧ mow M = nmOf x) (hn : narrow (clY x y) w = w) (hfit : fits (clY x y) w = true)
    (hkd : ∀ q, kd h' q = kd h q) (hs : fvV h' x a y = w) (hs2 : ∀ j, j ≠ y → fvV h' x a j = fvV h x a j) (ho : ∀ q, q ≠ a → cellOf G h' q = cellOf G h q)
    (kk : ∀ (H1 : Heap) (locs1 : List Loc), Rel G h' H1 → va_S (AA G) s.heap H1 locs1 → W p l e R s m args below meth c H1 locs1 cells slots Q (F0 m (pc + 3) la rest)) : W p l e R s m args below meth c H locs cells slots Q (F0 m pc la (w :: .ref a :: rest)) := by
  have hx7 := nF_lt hy
  obtain ⟨hx, hb, hml, hown, hts, hg, -, -, -, hini, -⟩ := hM
  obtain ⟨-, -, ref, hl, hsame⟩ := fld_link hts (rs_putfield hr (by omega))
  obtain ⟨L, h1, h2, h3⟩ := hR
  obtain ⟨k, hk0⟩ := va_pl_get (X := []) (f := cellOf G h) ((h1 a).mp (by omega))
  have hk2 := hk0
  rw [cell_obj hx7 hk] at hk2
  have hcl := cl_fin x hx7 y hy
  have hcell : cellOf G h' a = .inr (x, (flL h x a).set y w) := by
    rw [cell_obj hx7 (by rw [hkd]; exact hk), flL_set hs hs2]
  cases hf : finF x y with
  | false =>
    refine va_put hx hb (C := nmOf x) (T := clT x) (N := nF x) hts (cl_in x hx7) (clY x) (cl_ty x hx7) (cl_nm x hx7) hown hg.1 h2 h3 hS k hk2 (cl_at x hx7) y hy hl hsame (by rw [hcl.1, hf]) (cl_ty x hx7 y hy) hn hfit (by rw [flL_len]; exact hy) hdec (fun H1 locs1 hP1 hD1 hS1 => ?_)
    exact kk H1 locs1 (Rel.set h1 h3 (by omega) hk0 hP1 hD1 hkd hcell ho) hS1
  | true =>
    obtain ⟨q1, q2⟩ := hfin hf
    refine va_putF hx hb (C := nmOf x) (T := clT x) (N := nF x) hts (cl_in x hx7) (clY x) (cl_ty x hx7) (cl_nm x hx7) hown hg.1 h2 h3 hS k hk2 (cl_at x hx7) y hy hl hsame (by rw [hcl.1, hf]) (hini q1) (by rw [hcl.2 hf]; exact q2.symm) (cl_ty x hx7 y hy) hn hfit (by rw [flL_len]; exact hy) hdec (fun H1 locs1 hP1 hD1 hS1 => ?_)
    exact kk H1 locs1 (Rel.set h1 h3 (by omega) hk0 hP1 hD1 hkd hcell ho) hS1
/-! rows -/
theorem cell_I {a : Nat} (hk : kd h a = 21) : cellOf G h a = .inl (G.2.1.1, ln h a, .inl (ia h a)) := by unfold cellOf; rw [if_pos hk]
theorem cell_Z {a : Nat} (hk : kd h a = 22) : cellOf G h a = .inl (G.2.1.2.1, ln h a, .inl (ia h a)) := by unfold cellOf; rw [if_neg (by omega), if_pos hk]
theorem cell_J {a : Nat} (hk : kd h a = 23) : cellOf G h a = .inl (G.2.1.1, ln h a, .inl (ia h a)) := by unfold cellOf; rw [if_neg (by omega), if_neg (by omega), if_pos hk]
theorem cell_O {a : Nat} (hk : kd h a = 24) : cellOf G h a = .inl (G.2.1.2.2.2.1, ln h a, .inr (.inr (.inr (.inr (ra h a))))) := by unfold cellOf; rw [if_neg (by omega), if_neg (by omega), if_neg (by omega), if_pos hk]
theorem cell_M {a : Nat} (hk : kd h a = 25) : cellOf G h a = .inl (G.2.1.2.2.2.2, ln h a, .inr (.inr (.inr (.inr (ra h a))))) := by unfold cellOf; rw [if_neg (by omega), if_neg (by omega), if_neg (by omega), if_neg (by omega), if_pos hk]
theorem Rel.at {a : Nat} (hR : Rel G h H) (hk : kd h a ≠ 0) : ∃ (L : List Nat) (k : Nat), (∀ a, kd h a ≠ 0 ↔ a ∈ L) ∧ va_P G.1 vwCl ([] ++ va_pl L (cellOf G h)) H ∧ va_D (AA G) ([] ++ va_pl L (cellOf G h)) ∧ ([] ++ va_pl L (cellOf G h))[k]? = some (a, cellOf G h a) := by
  obtain ⟨L, h1, h2, h3⟩ := hR
  obtain ⟨k, hk2⟩ := va_pl_get (X := []) (f := cellOf G h) ((h1 a).mp hk)
  exact ⟨L, k, h1, h2, h3, hk2⟩
theorem st_iald {a : Nat} {j : Int32} (hM : Mach G M ini d P PX p l e R s m args below meth c Q) (hR : Rel G h H) (hdec : decode M.2.1 pc = .ok (.iaload, 1)) (hk : kd h a = 21) (hin : inR j (ln h a))
    (kk : W p l e R s m args below meth c H locs cells slots Q (F0 m (pc + 1) la (.int (ia h a j.toNatClampNeg) :: rest))) : W p l e R s m args below meth c H locs cells slots Q (F0 m pc la (.int j :: .ref a :: rest)) := by
  obtain ⟨L, k, h1, h2, h3, hk2⟩ := hR.at (a := a) (by omega)
  rw [cell_I hk] at hk2
  exact va_iald hM.1 hM.2.1 hM.2.2.2.2.2.1.1 h2 k 0 hk2 rfl hin hdec kk
theorem st_zald {a : Nat} {j : Int32} (hM : Mach G M ini d P PX p l e R s m args below meth c Q) (hR : Rel G h H) (hdec : decode M.2.1 pc = .ok (.baload, 1)) (hk : kd h a = 22) (hin : inR j (ln h a))
    (kk : W p l e R s m args below meth c H locs cells slots Q (F0 m (pc + 1) la (.int (ia h a j.toNatClampNeg) :: rest))) : W p l e R s m args below meth c H locs cells slots Q (F0 m pc la (.int j :: .ref a :: rest)) := by
  obtain ⟨L, k, h1, h2, h3, hk2⟩ := hR.at (a := a) (by omega)
  rw [cell_Z hk] at hk2
  exact va_zald hM.1 hM.2.1 hM.2.2.2.2.2.1.1 h2 k 1 hk2 rfl hin hdec kk
theorem st_aald {a : Nat} {j : Int32} (hM : Mach G M ini d P PX p l e R s m args below meth c Q) (hR : Rel G h H) (hdec : decode M.2.1 pc = .ok (.aaload, 1)) (hk : kd h a = 24) (hin : inR j (ln h a))
    (kk : W p l e R s m args below meth c H locs cells slots Q (F0 m (pc + 1) la (va_rf (ra h a j.toNatClampNeg) :: rest))) : W p l e R s m args below meth c H locs cells slots Q (F0 m pc la (.int j :: .ref a :: rest)) := by
  obtain ⟨L, k, h1, h2, h3, hk2⟩ := hR.at (a := a) (by omega)
  rw [cell_O hk] at hk2
  exact va_aldq hM.1 hM.2.1 hM.2.2.2.2.2.1.1 h2 k 3 hk2 rfl hin hdec kk
theorem st_mald {a : Nat} {j : Int32} (hM : Mach G M ini d P PX p l e R s m args below meth c Q) (hR : Rel G h H) (hdec : decode M.2.1 pc = .ok (.aaload, 1)) (hk : kd h a = 25) (hin : inR j (ln h a))
    (kk : W p l e R s m args below meth c H locs cells slots Q (F0 m (pc + 1) la (va_rf (ra h a j.toNatClampNeg) :: rest))) : W p l e R s m args below meth c H locs cells slots Q (F0 m pc la (.int j :: .ref a :: rest)) := by
  obtain ⟨L, k, h1, h2, h3, hk2⟩ := hR.at (a := a) (by omega)
  rw [cell_M hk] at hk2
  have hlt : j.toNatClampNeg < ln h a := Nat.not_le.mp fun q => hin (Or.inr q)
  exact W.aald (v := va_rf (ra h a j.toNatClampNeg)) (ty := .array .int) hM.1 hM.2.1 (h2 k _ hk2) ((hM.2.2.2.2.2.1.1.2 4 _ rfl).1 (ln h a) (fun j => va_rf (ra h a j))) rfl (fun q => by cases q) (by show ¬ (j < 0 ∨ (arrV _ _ _).slots.size ≤ _); rw [arrV_size]; exact hin) (by show (arrV _ _ _).slots[_]? = _; rw [arrV_read _ _ hlt]) rfl rfl hdec kk
theorem kd_ne {h : Hp} {q a : Nat} (h1 : kd h q ≠ kd h a) : q ≠ a := fun z => h1 (by rw [z])
theorem setIA_o {a i : Nat} {v : Int32} {q : Nat} (hq : q ≠ a) : cellOf G (setIA h a i v) q = cellOf G h q := cell_ne rfl rfl (by funext i'; rw [ia_setIA, if_neg (fun z => hq z.1)]) rfl rfl (fun _ _ => rfl) (fun _ _ => rfl)
theorem setLA_o {a i : Nat} {v : Int64} {q : Nat} (hq : q ≠ a) : cellOf G (setLA h a i v) q = cellOf G h q := cell_ne rfl rfl rfl (by funext i'; rw [ja_setLA, if_neg (fun z => hq z.1)]) rfl (fun _ _ => rfl) (fun _ _ => rfl)
theorem setRA_o {a i : Nat} {v : Option Nat} {q : Nat} (hq : q ≠ a) : cellOf G (setRA h a i v) q = cellOf G h q := cell_ne rfl rfl rfl rfl (by funext i'; rw [ra_setRA, if_neg (fun z => hq z.1)]) (fun _ _ => rfl) (fun _ _ => rfl)
theorem cpRA_o {a0 a sp dp n : Nat} {q : Nat} (hq : q ≠ a) : cellOf G (cpRA h a0 a sp dp n) q = cellOf G h q := cell_ne rfl rfl rfl rfl (by funext i'; rw [ra_cpRA, if_neg (fun z => hq z.1)]) (fun _ _ => rfl) (fun _ _ => rfl)
theorem cpIA_o {a0 a sp dp n : Nat} {q : Nat} (hq : q ≠ a) : cellOf G (cpIA h a0 a sp dp n) q = cellOf G h q := cell_ne rfl rfl (by funext i'; rw [ia_cpIA, if_neg (fun z => hq z.1)]) rfl rfl (fun _ _ => rfl) (fun _ _ => rfl)
theorem setI_o {c k a : Nat} {v : Int32} {q : Nat} (hq : q ≠ a) : cellOf G (setI h c k a v) q = cellOf G h q := cell_ne rfl rfl rfl rfl rfl (fun _ _ => by rw [fi_setI, if_neg (fun z => hq z.2.2)]) (fun _ _ => rfl)
theorem setR_o {c k a : Nat} {v : Option Nat} {q : Nat} (hq : q ≠ a) : cellOf G (setR h c k a v) q = cellOf G h q := cell_ne rfl rfl rfl rfl rfl (fun _ _ => rfl) (fun _ _ => by rw [fr_setR, if_neg (fun z => hq z.2.2)])
theorem newO_o {a c : Nat} {q : Nat} (hq : q ≠ a) : cellOf G (newO h a c) q = cellOf G h q := cell_ne (by rw [kd_newO, if_neg hq]) rfl rfl rfl rfl (fun _ _ => by rw [fi_newO, if_neg hq]) (fun _ _ => by rw [fr_newO, if_neg hq])
theorem newA_o {a t n : Nat} {q : Nat} (hq : q ≠ a) : cellOf G (newA h a t n) q = cellOf G h q := cell_ne (by rw [kd_newA, if_neg hq]) (by rw [ln_newA, if_neg hq]) (by funext i'; rw [ia_newA, if_neg hq]) (by funext i'; rw [ja_newA, if_neg hq]) (by funext i'; rw [ra_newA, if_neg hq]) (fun _ _ => rfl) (fun _ _ => rfl)
theorem st_iast {a : Nat} {j w : Int32} (hM : Mach G M ini d P PX p l e R s m args below meth c Q) (hR : Rel G h H) (hS : va_S (AA G) s.heap H locs) (hdec : decode M.2.1 pc = .ok (.iastore, 1)) (hk : kd h a = 21) (hin : inR j (ln h a))
    (kk : ∀ (H1 : Heap) (locs1 : List Loc), Rel G (setIA h a j.toNatClampNeg w) H1 → va_S (AA G) s.heap H1 locs1 → W p l e R s m args below meth c H1 locs1 cells slots Q (F0 m (pc + 1) la rest)) : W p l e R s m args below meth c H locs cells slots Q (F0 m pc la (.int w :: .int j :: .ref a :: rest)) := by
  obtain ⟨L, k, h1, h2, h3, hk2⟩ := hR.at (a := a) (by omega)
  have hk0 := hk2
  rw [cell_I hk] at hk2
  refine va_iast hM.1 hM.2.1 hM.2.2.2.2.2.1.1 h2 h3 hS k 0 hk2 rfl hin hdec (fun H1 locs1 hP1 hD1 hS1 => kk H1 locs1 ?_ hS1)
  refine Rel.set h1 h3 (by omega) hk0 hP1 hD1 (fun _ => rfl) ?_ (fun q hq => setIA_o hq)
  have he : ia (setIA h a j.toNatClampNeg w) a = upd (ia h a) j.toNatClampNeg w := by
    funext i'
    rw [ia_setIA]
    simp [upd]
  rw [cell_I (show kd (setIA h a j.toNatClampNeg w) a = 21 from hk), he]
  rfl
theorem st_zast {a : Nat} {j w : Int32} (hM : Mach G M ini d P PX p l e R s m args below meth c Q) (hR : Rel G h H) (hS : va_S (AA G) s.heap H locs) (hdec : decode M.2.1 pc = .ok (.bastore, 1)) (hk : kd h a = 22) (hin : inR j (ln h a)) (hw : w = 0 ∨ w = 1)
    (kk : ∀ (H1 : Heap) (locs1 : List Loc), Rel G (setIA h a j.toNatClampNeg w) H1 → va_S (AA G) s.heap H1 locs1 → W p l e R s m args below meth c H1 locs1 cells slots Q (F0 m (pc + 1) la rest)) : W p l e R s m args below meth c H locs cells slots Q (F0 m pc la (.int w :: .int j :: .ref a :: rest)) := by
  obtain ⟨L, k, h1, h2, h3, hk2⟩ := hR.at (a := a) (by omega)
  have hk0 := hk2
  rw [cell_Z hk] at hk2
  have hb : vp_nar .boolean w = w := by rcases hw with rfl | rfl <;> rfl
  refine va_zast hM.1 hM.2.1 hM.2.2.2.2.2.1.1 h2 h3 hS k 1 hk2 rfl hin hdec (fun H1 locs1 hP1 hD1 hS1 => kk H1 locs1 ?_ hS1)
  refine Rel.set h1 h3 (by omega) hk0 hP1 hD1 (fun _ => rfl) ?_ (fun q hq => setIA_o hq)
  have he : ia (setIA h a j.toNatClampNeg w) a = upd (ia h a) j.toNatClampNeg w := by
    funext i'
    rw [ia_setIA]
    simp [upd]
  rw [cell_Z (show kd (setIA h a j.toNatClampNeg w) a = 22 from hk), hb, he]
  rfl
theorem st_aast {a w : Nat} {j : Int32} (hM : Mach G M ini d P PX p l e R s m args below meth c Q) (hR : Rel G h H) (hS : va_S (AA G) s.heap H locs) (hdec : decode M.2.1 pc = .ok (.aastore, 1)) (hk : kd h a = 24) (hin : inR j (ln h a)) (hw : kd h w = 2 ∨ kd h w = 3 ∨ kd h w = 4)
    (kk : ∀ (H1 : Heap) (locs1 : List Loc), Rel G (setRA h a j.toNatClampNeg (some w)) H1 → va_S (AA G) s.heap H1 locs1 → W p l e R s m args below meth c H1 locs1 cells slots Q (F0 m (pc + 1) la rest)) : W p l e R s m args below meth c H locs cells slots Q (F0 m pc la (.ref w :: .int j :: .ref a :: rest)) := by
  obtain ⟨L, k, h1, h2, h3, hk2⟩ := hR.at (a := a) (by omega)
  have hk0 := hk2
  rw [cell_O hk] at hk2
  obtain ⟨kw, hkw⟩ := va_pl_get (X := []) (f := cellOf G h) ((h1 w).mp (by omega))
  rw [cell_obj (x := kd h w - 1) (by omega) (by omega)] at hkw
  have hcast : va_Nw (.castable (nmOf (kd h w - 1)) "java/lang/Object") s := by
    refine hM.2.2.2.2.2.1.2.2.2.2.1 _ ?_
    rcases hw with q | q | q <;> rw [q] <;> decide +kernel
  refine va_astqO (r := (nmOf (kd h w - 1), clT (kd h w - 1), nF (kd h w - 1))) hM.1 hM.2.1 hM.2.2.2.2.2.1.1 h2 h3 hS k 3 kw (kd h w - 1) hk2 rfl hcast hkw (cl_at _ (by omega)) hin hdec (fun H1 locs1 hP1 hD1 hS1 => kk H1 locs1 ?_ hS1)
  refine Rel.set h1 h3 (by omega) hk0 hP1 hD1 (fun _ => rfl) ?_ (fun q hq => setRA_o hq)
  have he : ra (setRA h a j.toNatClampNeg (some w)) a = va_up (ra h a) j.toNatClampNeg (some w) := by
    funext i'
    rw [ra_setRA]
    simp [va_up]
  rw [cell_O (show kd (setRA h a j.toNatClampNeg (some w)) a = 24 from hk), he]
  rfl
theorem assign_self (vm : Vm) (c : ClassId) : vm.assignable c c = true := by
  show vm.assignableAux (255 + 1) c c = true
  rw [Vm.assignableAux]
  simp
theorem st_mast {a w : Nat} {j : Int32} (hM : Mach G M ini d P PX p l e R s m args below meth c Q) (hR : Rel G h H) (hS : va_S (AA G) s.heap H locs) (hdec : decode M.2.1 pc = .ok (.aastore, 1)) (hk : kd h a = 25) (hin : inR j (ln h a)) (hw : kd h w = 21)
    (kk : ∀ (H1 : Heap) (locs1 : List Loc), Rel G (setRA h a j.toNatClampNeg (some w)) H1 → va_S (AA G) s.heap H1 locs1 → W p l e R s m args below meth c H1 locs1 cells slots Q (F0 m (pc + 1) la rest)) : W p l e R s m args below meth c H locs cells slots Q (F0 m pc la (.ref w :: .int j :: .ref a :: rest)) := by
  obtain ⟨L, k, h1, h2, h3, hk2⟩ := hR.at (a := a) (by omega)
  have hk0 := hk2
  rw [cell_M hk] at hk2
  obtain ⟨kw, hkw⟩ := va_pl_get (X := []) (f := cellOf G h) ((h1 w).mp (by omega))
  rw [cell_I hw] at hkw
  have hlt : j.toNatClampNeg < ln h a := Nat.not_le.mp fun q => hin (Or.inr q)
  have hj0 : ¬ j < 0 := fun q => hin (Or.inl q)
  have hg := hM.2.2.2.2.2.1
  obtain ⟨comp, cA, kA, f1, -, f2, f3, f4⟩ := arrayOverA_spec hg.2.2.2.2.2.2.2.2.2.2.2.2
  have eA : cA = G.2.1.2.2.2.2 := Option.some.inj (f4.symm.trans (hg.1.2 4 _ rfl).2)
  have eI : comp = G.2.1.1 := Option.some.inj (f1.symm.trans (hg.1.2 0 _ rfl).2)
  subst eA
  subst eI
  obtain ⟨kI, hkI, -⟩ := Vm.findClass_spec f1
  have hcw := h2 kw _ hkw
  have hca := h2 k _ hk2
  refine W.aast (cv := vp_cell G.2.1.1 (ln h w, .inl (ia h w))) hM.1 hM.2.1 hca (fun q z => by cases z) (fun z => by cases z) f2 f3 rfl hkI ⟨hj0, by show _ < (arrV _ _ _).slots.size; rw [arrV_size]; exact hlt⟩ hcw (fun q z => by cases z) hkI (assign_self _ _) rfl rfl hdec fun H1 ee z oq => ?_
  refine kk H1 _ (Rel.set h1 h3 (by omega) hk0 (h2.set (e := .inl (G.2.1.2.2.2.2, ln h a, .inr (.inr (.inr (.inr (va_up (ra h a) j.toNatClampNeg (some w))))))) h3 hk2 ?_ oq) (h3.set hk2) (fun _ => rfl) ?_ (fun q hq => setRA_o hq)) (hS.put z oq (h3.2 k _ hk2))
  · show H1[a]? = some (vp_cell _ _)
    rw [ee]
    rw [vp_cell_q, vp_cell_q, arrV_store]
    congr 2
    funext q
    by_cases hq : q = j.toNatClampNeg
    · subst hq
      simp [updV, va_up, va_rf]
    · simp [updV, va_up, hq]
  · have he : ra (setRA h a j.toNatClampNeg (some w)) a = va_up (ra h a) j.toNatClampNeg (some w) := by
      funext i'
      rw [ra_setRA]
      simp [va_up]
    rw [cell_M (show kd (setRA h a j.toNatClampNeg (some w)) a = 25 from hk), he]
    rfl
theorem st_mlen {a : Nat} (hM : Mach G M ini d P PX p l e R s m args below meth c Q) (hR : Rel G h H) (hdec : decode M.2.1 pc = .ok (.arraylength, 1)) (hk : kd h a = 25)
    (kk : W p l e R s m args below meth c H locs cells slots Q (F0 m (pc + 1) la (.int (nI (ln h a)) :: rest))) : W p l e R s m args below meth c H locs cells slots Q (F0 m pc la (.ref a :: rest)) := by
  obtain ⟨L, k, h1, h2, h3, hk2⟩ := hR.at (a := a) (by omega)
  rw [cell_M hk] at hk2
  exact va_alen hM.1 hM.2.1 hM.2.2.2.2.2.1.1 h2 k 4 hk2 rfl rfl hdec kk
theorem st_alen {a : Nat} (hM : Mach G M ini d P PX p l e R s m args below meth c Q) (hR : Rel G h H) (hdec : decode M.2.1 pc = .ok (.arraylength, 1)) (hk : 21 ≤ kd h a ∧ kd h a ≤ 24)
    (kk : W p l e R s m args below meth c H locs cells slots Q (F0 m (pc + 1) la (.int (nI (ln h a)) :: rest))) : W p l e R s m args below meth c H locs cells slots Q (F0 m pc la (.ref a :: rest)) := by
  obtain ⟨L, k, h1, h2, h3, hk2⟩ := hR.at (a := a) (by omega)
  rcases (show kd h a = 21 ∨ kd h a = 22 ∨ kd h a = 23 ∨ kd h a = 24 by omega) with q | q | q | q
  · rw [cell_I q] at hk2; exact va_alen hM.1 hM.2.1 hM.2.2.2.2.2.1.1 h2 k 0 hk2 rfl rfl hdec kk
  · rw [cell_Z q] at hk2; exact va_alen hM.1 hM.2.1 hM.2.2.2.2.2.1.1 h2 k 1 hk2 rfl rfl hdec kk
  · rw [cell_J q] at hk2; exact va_alen hM.1 hM.2.1 hM.2.2.2.2.2.1.1 h2 k 2 hk2 rfl rfl hdec kk
  · rw [cell_O q] at hk2; exact va_alen hM.1 hM.2.1 hM.2.2.2.2.2.1.1 h2 k 3 hk2 rfl rfl hdec kk
theorem Rel.recv {a : Nat} (hM : Mach G M ini d P PX p l e R s m args below meth c Q) (hR : Rel G h H) (hk : kd h a ≠ 0) (h7 : kd h a - 1 < 7) : ∃ cell : Cell, H[a]? = some cell ∧ cell.vm.isStatics = false ∧ s.vm.findClass (nmOf (kd h a - 1)) = some cell.cls := by
  obtain ⟨L, k, h1, h2, h3, hk2⟩ := hR.at hk
  rw [cell_obj h7 (by omega)] at hk2
  exact va_recv hM.2.2.2.2.2.1.1 h2 (cl_at _ h7) hk2
end STPA
