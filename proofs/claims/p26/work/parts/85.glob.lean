/-! ===== what holds at the law's entry ===== -/
theorem arr_at {args : Array Value} {s : State} {ty : FieldType} (h : (Cond.arrayClass ty).before args s = true) : ∃ c : ClassId, ArrOfT s c ty ∧ s.vm.findClass ("[" ++ ty.toString) = some c := by
  obtain ⟨c, k, comp, h1, h2, h3⟩ := Cond.arrayClass_spec h
  exact ⟨c, fun n z => ⟨(fun k h => by cases h), k, h2, comp, h3⟩, h1⟩
theorem arro_at {args : Array Value} {s : State} {C : String} (h : (Cond.arrayOver (.object C)).before args s = true) : ∃ c : ClassId, ArrOfT s c (.object C) ∧ va_RA s c (.object C) := by
  obtain ⟨comp, c, k, h1, h2, h3, h4, h5⟩ := Cond.arrayOver_spec h
  exact ⟨c, fun n z => ⟨(fun k h => by cases h), k, h3, comp, h4⟩, k, comp, h3, h4, h1, h5⟩
theorem arra_at {args : Array Value} {s : State} {t : FieldType} (h : (Cond.arrayOver (.array t)).before args s = true) : ∃ c : ClassId, ArrOfT s c (.array t) ∧ va_RA s c (.array t) := by
  obtain ⟨comp, c, k, h1, h2, h3, h4, h5⟩ := arrayOverA_spec h
  exact ⟨c, fun n z => ⟨(fun k h => by cases h), k, h3, comp, h4⟩, h5⟩
theorem cls_at {args : Array Value} {s : State} (hts : ∀ w ∈ gw, w.before args s = true) : ∃ D : va_G, ∀ (c : Nat) (q : vw_C), vwCl[c]? = some q → u_Kn s q.1 q.2.1 q.2.2 (D.1 c) (D.2 c) := by
  have h : ∀ x : Nat, ∃ p : ClassId × (Nat → Nat), x < 7 → u_Kn s (nmOf x) (clT x) (nF x) p.1 p.2 := fun x => by
    by_cases hx : x < 7
    · obtain ⟨cC, iS, hk⟩ := u_known hts (cl_in x hx) (hts _ (cl_ini x hx).2)
      exact ⟨(cC, iS), fun _ => hk⟩
    · exact ⟨(default, fun _ => 0), fun z => absurd z hx⟩
  refine ⟨(fun x => (Classical.choose (h x)).1, fun x => (Classical.choose (h x)).2), fun c q hq => ?_⟩
  have hc : c < 7 := by
    rcases Nat.lt_or_ge c 7 with z | z
    · exact z
    · rw [List.getElem?_eq_none (by show 7 ≤ c; exact z)] at hq; cases hq
  rw [cl_at c hc] at hq
  cases hq
  exact Classical.choose_spec (h c) hc
/-- a text's address -/
noncomputable def txA (args : Array Value) (s : State) (own : String) (k : Nat) : Nat := match (Term.string own k).eval args s none [] s with
  | some (.ref a) => a
  | _ => 0
theorem txA_e {args : Array Value} {s : State} {own : String} {k : Nat} (h : (Cond.exactly (.string own k) "java/lang/String").before args s = true) : (Term.string own k).eval args s none [] s = some (.ref (txA args s own k)) := by
  obtain ⟨a, c, cell, kk, h1, -⟩ := Cond.exactly_spec h
  unfold txA
  rw [h1]
noncomputable def gtx (args : Array Value) (s : State) (b L : Nat) (xs : Nat → Int32) : String → Nat → Nat := fun t n => if t = "script" then (match n with | 0 => b | 1 => L | n + 2 => (xs n).toBitVec.toNat) else txA args s t n
theorem i32_rt (x : Int32) : Int32.ofNat x.toBitVec.toNat = x := by
  apply Int32.toBitVec_inj.mp
  simp
set_option maxRecDepth 100000 in
set_option maxHeartbeats 4000000 in
theorem glob_at {p : Program} {s : State} {m : MethodId} {meth : Method} {c : Code} {b L : Nat} {xs : Nat → Int32} (C0 : lw_At p s m meth c b L xs) : ∃ G : GT, G.2.2.1.1 = s.heap.size ∧ G.2.2.1.2.1 < s.heap.size ∧ Glob G s s.heap ∧ scB G = b ∧ scL G = L := by
  obtain ⟨hx, hb, hr, hml, hown, hts, hX, hbl, hlocks, hgv, -⟩ := C0
  have hs := flat_of_before _ hgv
  have hgw : ∀ w ∈ gw, w.before #[Value.ref b] s = true := fun w hw => hts w (gw_tbl hw)
  obtain ⟨D, hD⟩ := cls_at hgw
  obtain ⟨c1, r1, q1⟩ := arr_at (hgw _ arr_words.1)
  obtain ⟨c2, r2, q2⟩ := arr_at (hgw _ arr_words.2)
  have hao : (Cond.arrayOver (.object "java/lang/Object")).before #[Value.ref b] s = true := hts _ (by decide +kernel)
  obtain ⟨c4, r4, q4⟩ := arro_at hao
  have hao5 : (Cond.arrayOver (.array .int)).before #[Value.ref b] s = true := hts _ (by decide +kernel)
  obtain ⟨c5, r5, q5⟩ := arra_at hao5
  have hem : (Cond.exactly (.static "java/util/ArrayList" "DEFAULTCAPACITY_EMPTY_ELEMENTDATA" "[Ljava/lang/Object;") "[Ljava/lang/Object;").before #[Value.ref b] s = true := hs _ (by decide +kernel)
  obtain ⟨em, _, cell, _, he1, _, he2, -⟩ := Cond.exactly_spec hem
  obtain ⟨mi, hmi⟩ := va_Mi.of (hs (Cond.isRef (.mirror "[Ljava/lang/Object;")) (by decide +kernel))
  have hA : ∀ a : Nat, a < s.heap.size → ¬ s.heap.size ≤ a := fun a h => Nat.not_le.mpr h
  have hem2 : em < s.heap.size := (Array.getElem?_eq_some_iff.mp he2).1
  refine ⟨(D, (c1, c2, c1, c4, c5), (s.heap.size, em, mi), gtx #[Value.ref b] s b L xs), rfl, hem2, ⟨⟨hD, ?_⟩, ?_, ?_, ?_, ?_, ?_, ?_, ?_, hmi, va_AO.of hao, ?_, ?_, hao5⟩, rfl, rfl⟩
  · intro k q hk
    match k, hk with
    | 0, hk => cases hk; exact ⟨r1, q1⟩
    | 1, hk => cases hk; exact ⟨r2, q2⟩
    | 2, hk => cases hk; exact ⟨r1, q1⟩
    | 3, hk => cases hk; exact ⟨r4, q4⟩
    | 4, hk => cases hk; exact ⟨r5, q5⟩
  · exact vx_Zqof (hts _ (by decide +kernel)) (hts _ (by decide +kernel)) (hs _ (by decide +kernel)) hA
  · exact vx_Zqof (hts _ (by decide +kernel)) (hts _ (by decide +kernel)) (hs _ (by decide +kernel)) hA
  · have h1 : ∀ q ∈ strs, Cond.stringRef RX4 q.1 q.2 ∈ lw_tbl := by decide +kernel
    have h2 : ∀ q ∈ strs, Cond.exactly (.string RX4 q.1) "java/lang/String" ∈ flatC (Jvm.Cond.and given_1 narrow_1) := by decide +kernel
    intro q hq
    have e : gtx #[Value.ref b] s b L xs RX4 q.1 = txA #[Value.ref b] s RX4 q.1 := by
      unfold gtx
      rw [if_neg (by decide)]
    show vk_R RX4 q.1 q.2 (gtx #[Value.ref b] s b L xs RX4 q.1) s
    rw [e]
    exact vk_R.of (hts _ (h1 q hq)) (txA_e (hs _ (h2 q hq)))
  · exact fun w hw => va_Nw.of (bw_on (List.mem_filter.mp hw).2) (hts w (List.mem_filter.mp hw).1)
  · trivial
  · exact va_Zof (hts _ (by decide +kernel)) (hts _ (by decide +kernel)) he1 hA
  · obtain ⟨t, e1, e2⟩ := va_Tof (N := 0) (f := fun _ => .null) (tm := .static "java/util/ArrayList" "DEFAULTCAPACITY_EMPTY_ELEMENTDATA" "[Ljava/lang/Object;") (ty := .object "java/lang/Object") (A := fun q => s.heap.size ≤ q) (by decide) (hs _ (by decide +kernel)) (va_eqt (hs _ (by decide +kernel))) (fun j hj => absurd hj (Nat.not_lt_zero j)) hA
    cases he1.symm.trans e1
    exact e2
  · have e : (fun j => Int32.ofNat (gtx #[Value.ref b] s b L xs "script" (j + 2))) = xs := by
      funext j
      exact i32_rt (xs j)
    show va_X b L (fun j => Int32.ofNat (gtx #[Value.ref b] s b L xs "script" (j + 2))) s s.heap
    rw [e]
    exact hX
  · exact hA b hbl
