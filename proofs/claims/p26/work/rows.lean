section
-- ===== PART A: goes FIRST, ahead of the names: the tables' words, and 'selects' of the private methods out of them =====
/-- a private method of a class that the tables say can be made, by its rows of tables_1 -/
def lw_okq (q : MethodName × Nat) : Prop := (q.1.cls ≠ "java/lang/invoke/MethodHandle" ∧ q.1.cls ≠ "java/lang/invoke/VarHandle") ∧ Cond.instantiable q.1.cls q.2 ∈ tables_1 ∧ Cond.privateMethod q.1 ∈ tables_1 ∧ Cond.instanceMethod q.1 ∈ tables_1
theorem lw_p0 : lw_okq (⟨"java/util/ArrayList", "add", "(Ljava/lang/Object;[Ljava/lang/Object;I)V"⟩, 3) := ⟨⟨by decide +kernel, by decide +kernel⟩, List.mem_of_getElem? (i := 37) (by decide +kernel), List.mem_of_getElem? (i := 140) (by decide +kernel), List.mem_of_getElem? (i := 141) (by decide +kernel)⟩
theorem lw_p1 : lw_okq (⟨"java/util/ArrayList", "grow", "()[Ljava/lang/Object;"⟩, 3) := ⟨⟨by decide +kernel, by decide +kernel⟩, List.mem_of_getElem? (i := 37) (by decide +kernel), List.mem_of_getElem? (i := 144) (by decide +kernel), List.mem_of_getElem? (i := 145) (by decide +kernel)⟩
theorem lw_p2 : lw_okq (⟨"java/util/ArrayList", "grow", "(I)[Ljava/lang/Object;"⟩, 3) := ⟨⟨by decide +kernel, by decide +kernel⟩, List.mem_of_getElem? (i := 37) (by decide +kernel), List.mem_of_getElem? (i := 148) (by decide +kernel), List.mem_of_getElem? (i := 149) (by decide +kernel)⟩
theorem lw_p3 : lw_okq (⟨"ShadowLeases", "standingBuilding", "(I)LShadowLeases$Building;"⟩, 7) := ⟨⟨by decide +kernel, by decide +kernel⟩, List.mem_of_getElem? (i := 23) (by decide +kernel), List.mem_of_getElem? (i := 219) (by decide +kernel), List.mem_of_getElem? (i := 220) (by decide +kernel)⟩
theorem lw_p4 : lw_okq (⟨"ShadowLeases", "buildingAt", "(I)LShadowLeases$Building;"⟩, 7) := ⟨⟨by decide +kernel, by decide +kernel⟩, List.mem_of_getElem? (i := 23) (by decide +kernel), List.mem_of_getElem? (i := 223) (by decide +kernel), List.mem_of_getElem? (i := 224) (by decide +kernel)⟩
theorem lw_p5 : lw_okq (⟨"java/lang/Throwable", "fillInStackTrace", "(I)Ljava/lang/Throwable;"⟩, 6) := ⟨⟨by decide +kernel, by decide +kernel⟩, List.mem_of_getElem? (i := 272) (by decide +kernel), List.mem_of_getElem? (i := 270) (by decide +kernel), List.mem_of_getElem? (i := 271) (by decide +kernel)⟩
theorem lw_p6 : lw_okq (⟨"ShadowLeases", "changeHeight", "(LShadowLeases$Building;I)V"⟩, 7) := ⟨⟨by decide +kernel, by decide +kernel⟩, List.mem_of_getElem? (i := 23) (by decide +kernel), List.mem_of_getElem? (i := 337) (by decide +kernel), List.mem_of_getElem? (i := 338) (by decide +kernel)⟩
theorem lw_p7 : lw_okq (⟨"ShadowLeases", "forgetShades", "()V"⟩, 7) := ⟨⟨by decide +kernel, by decide +kernel⟩, List.mem_of_getElem? (i := 23) (by decide +kernel), List.mem_of_getElem? (i := 341) (by decide +kernel), List.mem_of_getElem? (i := 342) (by decide +kernel)⟩
theorem lw_p8 : lw_okq (⟨"ShadowLeases", "measuredHour", "(I)LShadowLeases$Hour;"⟩, 7) := ⟨⟨by decide +kernel, by decide +kernel⟩, List.mem_of_getElem? (i := 23) (by decide +kernel), List.mem_of_getElem? (i := 353) (by decide +kernel), List.mem_of_getElem? (i := 354) (by decide +kernel)⟩
theorem lw_p9 : lw_okq (⟨"ShadowLeases", "hourAt", "(I)LShadowLeases$Hour;"⟩, 7) := ⟨⟨by decide +kernel, by decide +kernel⟩, List.mem_of_getElem? (i := 23) (by decide +kernel), List.mem_of_getElem? (i := 357) (by decide +kernel), List.mem_of_getElem? (i := 358) (by decide +kernel)⟩
theorem lw_p10 : lw_okq (⟨"ShadowLeases$Hour", "castFrom", "(LShadowLeases$Building;)V"⟩, 15) := ⟨⟨by decide +kernel, by decide +kernel⟩, List.mem_of_getElem? (i := 75) (by decide +kernel), List.mem_of_getElem? (i := 375) (by decide +kernel), List.mem_of_getElem? (i := 376) (by decide +kernel)⟩
theorem lw_p11 : lw_okq (⟨"ShadowLeases$Hour", "castRay", "(LShadowLeases$Building;II)V"⟩, 15) := ⟨⟨by decide +kernel, by decide +kernel⟩, List.mem_of_getElem? (i := 75) (by decide +kernel), List.mem_of_getElem? (i := 383) (by decide +kernel), List.mem_of_getElem? (i := 384) (by decide +kernel)⟩
theorem lw_p12 : lw_okq (⟨"ShadowLeases$Hour", "sumUpShade", "()V"⟩, 15) := ⟨⟨by decide +kernel, by decide +kernel⟩, List.mem_of_getElem? (i := 75) (by decide +kernel), List.mem_of_getElem? (i := 387) (by decide +kernel), List.mem_of_getElem? (i := 388) (by decide +kernel)⟩
theorem lw_p13 : lw_okq (⟨"ShadowLeases", "allottedHour", "(I)LShadowLeases$Hour;"⟩, 7) := ⟨⟨by decide +kernel, by decide +kernel⟩, List.mem_of_getElem? (i := 23) (by decide +kernel), List.mem_of_getElem? (i := 407) (by decide +kernel), List.mem_of_getElem? (i := 408) (by decide +kernel)⟩
theorem lw_p14 : lw_okq (⟨"ShadowLeases", "leaseAt", "(I)LShadowLeases$Lease;"⟩, 7) := ⟨⟨by decide +kernel, by decide +kernel⟩, List.mem_of_getElem? (i := 23) (by decide +kernel), List.mem_of_getElem? (i := 439) (by decide +kernel), List.mem_of_getElem? (i := 440) (by decide +kernel)⟩
theorem lw_p15 : lw_okq (⟨"ShadowLeases", "shortHours", "(LShadowLeases$Lease;)I"⟩, 7) := ⟨⟨by decide +kernel, by decide +kernel⟩, List.mem_of_getElem? (i := 23) (by decide +kernel), List.mem_of_getElem? (i := 444) (by decide +kernel), List.mem_of_getElem? (i := 445) (by decide +kernel)⟩
def lw_privs_1 : List (MethodName × Nat) := [(⟨"java/util/ArrayList", "add", "(Ljava/lang/Object;[Ljava/lang/Object;I)V"⟩, 3), (⟨"java/util/ArrayList", "grow", "()[Ljava/lang/Object;"⟩, 3), (⟨"java/util/ArrayList", "grow", "(I)[Ljava/lang/Object;"⟩, 3), (⟨"ShadowLeases", "standingBuilding", "(I)LShadowLeases$Building;"⟩, 7), (⟨"ShadowLeases", "buildingAt", "(I)LShadowLeases$Building;"⟩, 7), (⟨"java/lang/Throwable", "fillInStackTrace", "(I)Ljava/lang/Throwable;"⟩, 6), (⟨"ShadowLeases", "changeHeight", "(LShadowLeases$Building;I)V"⟩, 7), (⟨"ShadowLeases", "forgetShades", "()V"⟩, 7), (⟨"ShadowLeases", "measuredHour", "(I)LShadowLeases$Hour;"⟩, 7), (⟨"ShadowLeases", "hourAt", "(I)LShadowLeases$Hour;"⟩, 7), (⟨"ShadowLeases$Hour", "castFrom", "(LShadowLeases$Building;)V"⟩, 15), (⟨"ShadowLeases$Hour", "castRay", "(LShadowLeases$Building;II)V"⟩, 15), (⟨"ShadowLeases$Hour", "sumUpShade", "()V"⟩, 15), (⟨"ShadowLeases", "allottedHour", "(I)LShadowLeases$Hour;"⟩, 7), (⟨"ShadowLeases", "leaseAt", "(I)LShadowLeases$Lease;"⟩, 7), (⟨"ShadowLeases", "shortHours", "(LShadowLeases$Lease;)I"⟩, 7)]
theorem lw_r1 : ∀ q ∈ lw_privs_1, lw_okq q := List.forall_mem_cons.mpr ⟨lw_p0, List.forall_mem_cons.mpr ⟨lw_p1, List.forall_mem_cons.mpr ⟨lw_p2, List.forall_mem_cons.mpr ⟨lw_p3, List.forall_mem_cons.mpr ⟨lw_p4, List.forall_mem_cons.mpr ⟨lw_p5, List.forall_mem_cons.mpr ⟨lw_p6, List.forall_mem_cons.mpr ⟨lw_p7, List.forall_mem_cons.mpr ⟨lw_p8, List.forall_mem_cons.mpr ⟨lw_p9, List.forall_mem_cons.mpr ⟨lw_p10, List.forall_mem_cons.mpr ⟨lw_p11, List.forall_mem_cons.mpr ⟨lw_p12, List.forall_mem_cons.mpr ⟨lw_p13, List.forall_mem_cons.mpr ⟨lw_p14, List.forall_mem_cons.mpr ⟨lw_p15, fun _ h => absurd h List.not_mem_nil⟩⟩⟩⟩⟩⟩⟩⟩⟩⟩⟩⟩⟩⟩⟩⟩
theorem lw_p16 : lw_okq (⟨"ShadowLeases", "payFor", "(LShadowLeases$Hour;)V"⟩, 7) := ⟨⟨by decide +kernel, by decide +kernel⟩, List.mem_of_getElem? (i := 23) (by decide +kernel), List.mem_of_getElem? (i := 481) (by decide +kernel), List.mem_of_getElem? (i := 482) (by decide +kernel)⟩
theorem lw_p17 : lw_okq (⟨"ShadowLeases", "warn", "()V"⟩, 7) := ⟨⟨by decide +kernel, by decide +kernel⟩, List.mem_of_getElem? (i := 23) (by decide +kernel), List.mem_of_getElem? (i := 492) (by decide +kernel), List.mem_of_getElem? (i := 493) (by decide +kernel)⟩
theorem lw_p18 : lw_okq (⟨"ShadowLeases", "evict", "()V"⟩, 7) := ⟨⟨by decide +kernel, by decide +kernel⟩, List.mem_of_getElem? (i := 23) (by decide +kernel), List.mem_of_getElem? (i := 500) (by decide +kernel), List.mem_of_getElem? (i := 501) (by decide +kernel)⟩
theorem lw_p19 : lw_okq (⟨"ShadowLeases", "forgetAllotments", "()V"⟩, 7) := ⟨⟨by decide +kernel, by decide +kernel⟩, List.mem_of_getElem? (i := 23) (by decide +kernel), List.mem_of_getElem? (i := 504) (by decide +kernel), List.mem_of_getElem? (i := 505) (by decide +kernel)⟩
theorem lw_p20 : lw_okq (⟨"ShadowLeases", "standingLeases", "()I"⟩, 7) := ⟨⟨by decide +kernel, by decide +kernel⟩, List.mem_of_getElem? (i := 23) (by decide +kernel), List.mem_of_getElem? (i := 516) (by decide +kernel), List.mem_of_getElem? (i := 517) (by decide +kernel)⟩
theorem lw_p21 : lw_okq (⟨"ShadowLeases", "paidByAll", "()I"⟩, 7) := ⟨⟨by decide +kernel, by decide +kernel⟩, List.mem_of_getElem? (i := 23) (by decide +kernel), List.mem_of_getElem? (i := 520) (by decide +kernel), List.mem_of_getElem? (i := 521) (by decide +kernel)⟩
def lw_privs_2 : List (MethodName × Nat) := [(⟨"ShadowLeases", "payFor", "(LShadowLeases$Hour;)V"⟩, 7), (⟨"ShadowLeases", "warn", "()V"⟩, 7), (⟨"ShadowLeases", "evict", "()V"⟩, 7), (⟨"ShadowLeases", "forgetAllotments", "()V"⟩, 7), (⟨"ShadowLeases", "standingLeases", "()I"⟩, 7), (⟨"ShadowLeases", "paidByAll", "()I"⟩, 7)]
theorem lw_r2 : ∀ q ∈ lw_privs_2, lw_okq q := List.forall_mem_cons.mpr ⟨lw_p16, List.forall_mem_cons.mpr ⟨lw_p17, List.forall_mem_cons.mpr ⟨lw_p18, List.forall_mem_cons.mpr ⟨lw_p19, List.forall_mem_cons.mpr ⟨lw_p20, List.forall_mem_cons.mpr ⟨lw_p21, fun _ h => absurd h List.not_mem_nil⟩⟩⟩⟩⟩⟩
def lw_privs : List (MethodName × Nat) := lw_privs_1 ++ (lw_privs_2)
def lw_tbl : List Cond := k2_sels lw_privs ++ tables_1
theorem lw_privs_ok : ∀ q ∈ lw_privs, lw_okq q := by
  show ∀ q ∈ lw_privs_1 ++ (lw_privs_2), lw_okq q
  exact List.forall_mem_append.mpr ⟨lw_r1, lw_r2⟩
/-- the streams that the claim lets the run draw from -/
abbrev lw_cs : List Choice := [Jvm.Choice.named "NaN.bits"]
theorem lw_bits : nanBits ∈ lw_cs := by first | decide | exact List.mem_cons_self | simp [lw_cs, nanBits]
end
section
/-! ===== the printed text of this claim names va_AOA (rows of rows), the kit has no such word: it is made here, as va_AO is for objects ===== -/
def va_AOA (ty : FieldType) (U : State) : Prop := (Cond.arrayOver (.array ty)).before #[] U = true
theorem va_AOA.use {ty : FieldType} {A : Array Value} {U : State} (h : va_AOA ty U) : (Cond.arrayOver (.array ty)).before A U = true := h
theorem va_AOA.moved {ty : FieldType} {u U : State} (hvm : u.vm.Alike U.vm) (h : va_AOA ty u) : va_AOA ty U := by
  obtain ⟨comp, c, k, h1, h2, h3, h4, h5⟩ := arrayOverA_spec h
  obtain ⟨k', hk', he⟩ := hvm.2.2 _ _ h3
  have hi : (U.vm.classes.findIdx? fun (x : Class) => match x.kind with | .array component _ => component == comp | _ => false) = some c := by
    rw [hvm.findIdx?_eq _ (fun _ => rfl)]
    exact h2
  have hkind : k'.kind = .array comp (.array ty) := by rw [he]; exact h4
  have f1 : U.vm.findClass (FieldType.array ty).toString = some comp := by rw [hvm.findClass]; exact h1
  have f2 : U.vm.findClass ("[" ++ (FieldType.array ty).toString) = some c := by rw [hvm.findClass]; exact h5
  unfold va_AOA Cond.before Cond.holds
  simp only [Cond.value]
  rw [f1, Option.bind_some]
  refine (congrArg (fun o : Option Nat => (o.bind (fun c => (U.vm.classes[c]?).map fun (k : Class) => match k.kind with | .array _ t => decide (t = FieldType.array ty) && decide (U.vm.findClass ("[" ++ (FieldType.array ty).toString) = some c) | _ => false) == some true)) hi).trans ?_
  simp [hk', hkind, f2]
end
section
/-! ===== BEGIN words of one list among another's, by their places ===== -/
theorem goodIn_r {big : List Cond} (ws : List Cond) (ps : List Nat) (hp : ws = ps.filterMap (fun i => big[i]?)) (h : ws.all goodWord = true) : GoodIn big ws := by
  intro w hw
  have h1 := List.all_eq_true.mp h w hw
  rw [hp] at hw
  obtain ⟨i, -, hi⟩ := List.mem_filterMap.mp hw
  have hm : w ∈ big := by first | exact List.mem_of_getElem? hi | exact List.getElem?_mem hi
  exact ⟨hm, good_of_word h1⟩
theorem goodIn_app {big a b : List Cond} (ha : GoodIn big a) (hb : GoodIn big b) : GoodIn big (a ++ b) := fun w h => (List.mem_append.mp h).elim (ha w) (hb w)
theorem goodIn_ca {big a b : List Cond} {c : Cond} (ha : GoodIn big (c :: a)) (hb : GoodIn big b) : GoodIn big (c :: (a ++ b)) := fun w h => (List.mem_cons.mp h).elim (fun e => ha w (List.mem_cons.mpr (Or.inl e))) (fun h => (List.mem_append.mp h).elim (fun h => ha w (List.mem_cons.mpr (Or.inr h))) (hb w))
theorem goodIn_sub {big ws : List Cond} (hm : ∀ w ∈ ws, w ∈ big) (h : ws.all goodWord = true) : GoodIn big ws := fun w hw => ⟨hm w hw, good_of_word (List.all_eq_true.mp h w hw)⟩
/-! ===== END ===== -/

/-! ===== BEGIN new T[n][m]: the outer array a place, the inner ones among the pooled ===== -/
/-- f, but v at every address of l -/
def vr_up {α : Type} (f : Nat → α) (l : List Nat) (v : α) : Nat → α := fun a => if a ∈ l then v else f a
theorem vr_up_in {α : Type} {f : Nat → α} {l : List Nat} {v : α} {a : Nat} (h : a ∈ l) : vr_up f l v a = v := if_pos h
theorem vr_up_ne {α : Type} {f : Nat → α} {l : List Nat} {v : α} {a : Nat} (h : a ∉ l) : vr_up f l v a = f a := if_neg h
theorem vr_rows {L l : List Nat} {f : Nat → va_E} {e : va_E} (h : ∀ a, a ∈ l → a ∉ L) : va_pl L f ++ l.map (fun a => (a, e)) = va_pl (L ++ l) (vr_up f l e) := by
  unfold va_pl
  rw [List.map_append]
  congr 1
  · apply List.map_congr_left
    intro a ha
    rw [vr_up_ne (fun q => h a q ha)]
  · apply List.map_congr_left
    intro a ha
    rw [vr_up_in ha]
theorem vr_lay {X rows : va_W} {x : Nat × va_E} {pl : va_W} {D : va_G} {cl : List vw_C} {H : Heap} (hP : va_P D cl (((X ++ pl) ++ [x]) ++ rows) H) : va_P D cl ((X ++ [x]) ++ (pl ++ rows)) H := by
  rw [List.append_assoc (X ++ pl)] at hP
  have h := va_P.swap hP
  rw [← List.append_assoc X] at h
  have h2 := va_P.swap h
  rw [List.append_assoc (X ++ [x])] at h2
  exact h2
theorem vr_layD {X rows : va_W} {x : Nat × va_E} {pl : va_W} {A : Nat → Prop} (hD : va_D A (((X ++ pl) ++ [x]) ++ rows)) : va_D A ((X ++ [x]) ++ (pl ++ rows)) := by
  rw [List.append_assoc (X ++ pl)] at hD
  have h := va_D.swap hD
  rw [← List.append_assoc X] at h
  have h2 := va_D.swap h
  rw [List.append_assoc (X ++ [x])] at h2
  exact h2
theorem vr_outer (c : ClassId) (N h0 : Nat) : ∀ i : Nat, Jvm.Free.Multi.outerC c N h0 i = arrV c N (fun j => va_rf (if j < i then some (h0 + 1 + j) else none))
  | 0 => by
    show ({ cls := c, slots := Array.replicate N .null, vm := .none } : Cell) = _
    rw [arrV_new]
    refine congrArg (arrV c N) (funext fun j => ?_)
    simp [va_rf]
  | i + 1 => by
    show (Jvm.Free.Multi.outerC c N h0 i).setSlot i (.ref (h0 + 1 + i)) = _
    rw [vr_outer c N h0 i, arrV_store]
    refine congrArg (arrV c N) (funext fun j => ?_)
    by_cases e : j = i
    · subst e
      simp [updV, va_rf]
    · by_cases h : j < i
      · simp [updV, e, h, Nat.lt_succ_of_lt h]
      · simp [updV, e, h, show ¬ j < i + 1 by omega]
section VGM
variable {p : Program} {l : Launch} {e : Env} {R : Room} {s : State} {m : MethodId} {args : Array Value} {below : List Frame} {meth : Method} {c : Code} {H : Heap} {locs : List Loc} {cells slots : Nat} {Q : State → Prop}
variable {cc : ByteArray} {pc : Nat} {ls : Array Slot} {rest : List Value} {D : va_G} {cl : List vw_C} {A : Nat → Prop} {a : Nat} {tys : List (ClassId × FieldType)} {ws : va_W} {H0 : Heap}
theorem va_mna {X : va_W} {L : List Nat} {f : Nat → va_E} {cc : ByteArray} (hexec : p.tables.exec = Jvm.exec) (hb : c.code = cc) {own : String} {index : Nat} {ty : FieldType} {cy : ClassId} (hown : s.vm.findClass own = some m.cls) (hclink : (Cond.classLink own index ("[" ++ (FieldType.array ty).toString)).before args s = true) (hover : va_AOA ty s) (harr : (Cond.arrayClass ty).before args s = true) (hcy : s.vm.findClass (FieldType.array ty).toString = some cy)
    (hK : va_K D cl tys s) (hP : va_P D cl (X ++ va_pl L f) H) (hD : va_D A (X ++ va_pl L f)) (hS : va_S A H0 H locs) (hA : ∀ q, H0.size ≤ q → A q) {n k : Int32} {N' K' : Nat} {z : vp_A} (hn : ¬ n < 0) (hk : ¬ k < 0) (hN : n.toNatClampNeg = N') (hM : k.toNatClampNeg = K')
    (hb1 : N' * 4 ≤ 536870912) (hb2 : K' * componentBytes ty ≤ 536870912) (hb3 : K' ≤ 536870912) (hdf : fits ty (defaultValue ty) = true) (hdd : (defaultValue ty).isDefault = true) (hcells : cells + (1 + N') ≤ R.cells) (hslots : slots + (N' + N' * K') ≤ R.slots) (hz : ∀ c : ClassId, Jvm.Free.Multi.innerC c K' (defaultValue ty) = vp_cell c z) (hdg : decode cc pc = .ok (.multianewarray index 2, 4))
    (kk : ∀ (q : Nat) (r : Nat → Nat) (cA : ClassId) (H1 : Heap), (∀ i j : Nat, i < N' → j < N' → r i = r j → i = j) → (∀ i : Nat, i < N' → r i ∉ L) → va_K D cl (tys ++ [(cA, .array ty)]) s →
      va_P D cl ((X ++ [(q, .inl (cA, N', .inr (.inr (.inr (.inr (fun i => if i < N' then some (r i) else none))))))]) ++ va_pl (L ++ (List.range N').map r) (vr_up f ((List.range N').map r) (.inl (cy, z)))) H1 → va_D A ((X ++ [(q, .inl (cA, N', .inr (.inr (.inr (.inr (fun i => if i < N' then some (r i) else none))))))]) ++ va_pl (L ++ (List.range N').map r) (vr_up f ((List.range N').map r) (.inl (cy, z)))) → va_S A H0 H1 locs →
      W p l e R s m args below meth c H1 locs (cells + 1 + N') (slots + N' + N' * K') Q (F0 m (pc + 4) ls (.ref q :: rest))) : W p l e R s m args below meth c H locs cells slots Q (F0 m pc ls (.int k :: .int n :: rest)) := by
  subst hN
  subst hM
  intro T hT Xs
  obtain ⟨vm₁, cA, comp, -, fA, fC, hO, -, X', step⟩ := Xs.multianewarray2F hexec hown hclink (va_AOA.use hover) harr (g := F0 m pc ls (.int k :: .int n :: rest)) rfl (by rw [hb]; exact hdg) rfl hn hk hb1 hb2 hb3 hdf hdd hcells hslots
  have ec : some cy = some comp := hcy.symm.trans fC
  cases ec
  generalize hF : Jvm.Free.Multi.fill (T.setVm vm₁) cA cy n.toNatClampNeg k.toNatClampNeg (defaultValue ty) n.toNatClampNeg = F at X' step
  have hTh : (T.setVm vm₁).heap = H := hT
  obtain ⟨f1, f2, -, -⟩ := Jvm.Free.Multi.fill_facts (T.setVm vm₁) cA cy n.toNatClampNeg k.toNatClampNeg (defaultValue ty) n.toNatClampNeg
  rw [hF, hTh] at f1 f2
  have hold : ∀ x : Nat, x < H.size → F.heap[x]? = H[x]? := fun x hx => by
    have := Jvm.Free.Multi.fill_old (T.setVm vm₁) cA cy n.toNatClampNeg k.toNatClampNeg (defaultValue ty) (a := x) (by rw [hTh]; exact hx) n.toNatClampNeg
    rw [hF, hTh] at this
    exact this
  have hrow : ∀ j : Nat, j < n.toNatClampNeg → F.heap[H.size + 1 + j]? = some (vp_cell cy z) := fun j hj => by
    have := Jvm.Free.Multi.fill_inner (T.setVm vm₁) cA cy n.toNatClampNeg k.toNatClampNeg (defaultValue ty) n.toNatClampNeg j hj
    rw [hF, hTh, hz] at this
    exact this
  have hout : Jvm.Free.Multi.outerC cA n.toNatClampNeg H.size n.toNatClampNeg = vp_cell cA (n.toNatClampNeg, .inr (.inr (.inr (.inr (fun i => if i < n.toNatClampNeg then some (H.size + 1 + i) else none))))) := by
    rw [vp_cell_q]
    exact vr_outer cA n.toNatClampNeg H.size n.toNatClampNeg
  rw [hout] at f2
  have hlt : ∀ a, a ∈ L → a < H.size := fun a ha => by
    obtain ⟨k9, hk9⟩ := va_pl_get (X := X) (f := f) ha
    exact (hP k9 _ hk9).lt
  have hnl : ∀ i : Nat, i < n.toNatClampNeg → H.size + 1 + i ∉ L := fun i _ h => by
    have := hlt _ h
    omega
  have hnm : ∀ a, a ∈ (List.range n.toNatClampNeg).map (fun i => H.size + 1 + i) → a ∉ L := fun a ha h => by
    obtain ⟨i, -, rfl⟩ := List.mem_map.mp ha
    have := hlt _ h
    omega
  have hP0 : va_P D cl (X ++ va_pl L f) F.heap := hP.kept (fun k9 x hx => hold x.1 ((hP k9 x hx).lt))
  have hP1 : va_P D cl ((X ++ va_pl L f) ++ [(H.size, .inl (cA, n.toNatClampNeg, .inr (.inr (.inr (.inr (fun i => if i < n.toNatClampNeg then some (H.size + 1 + i) else none))))))]) F.heap := hP0.app (fun k9 x hx => by
    have h0 : k9 < 1 := (List.getElem?_eq_some_iff.mp hx).1
    rw [show k9 = 0 by omega] at hx
    cases hx
    exact f2)
  have hP2 : va_P D cl (((X ++ va_pl L f) ++ [(H.size, .inl (cA, n.toNatClampNeg, .inr (.inr (.inr (.inr (fun i => if i < n.toNatClampNeg then some (H.size + 1 + i) else none))))))]) ++ ((List.range n.toNatClampNeg).map (fun i => H.size + 1 + i)).map (fun a => (a, .inl (cy, z)))) F.heap := hP1.app (fun k9 x hx => by
    obtain ⟨a, ha, rfl⟩ := List.mem_map.mp (List.mem_of_getElem? hx)
    obtain ⟨i, hi, rfl⟩ := List.mem_map.mp ha
    exact hrow i (List.mem_range.mp hi))
  have hD2 : va_D A (((X ++ va_pl L f) ++ [(H.size, .inl (cA, n.toNatClampNeg, .inr (.inr (.inr (.inr (fun i => if i < n.toNatClampNeg then some (H.size + 1 + i) else none))))))]) ++ ((List.range n.toNatClampNeg).map (fun i => H.size + 1 + i)).map (fun a => (a, .inl (cy, z)))) := by
    have hD1 := hD.push (e := .inl (cA, n.toNatClampNeg, .inr (.inr (.inr (.inr (fun i => if i < n.toNatClampNeg then some (H.size + 1 + i) else none)))))) hP rfl (hA _ hS.1)
    generalize hW1 : (X ++ va_pl L f) ++ [(H.size, .inl (cA, n.toNatClampNeg, .inr (.inr (.inr (.inr (fun i => if i < n.toNatClampNeg then some (H.size + 1 + i) else none))))))] = W1 at hD1 hP1 ⊢
    have hle : ∀ (k9 : Nat) (x : Nat × va_E), W1[k9]? = some x → x.1 ≤ H.size := fun k9 x hx => by
      rw [← hW1] at hx
      by_cases hl : k9 < (X ++ va_pl L f).length
      · rw [List.getElem?_append_left hl] at hx
        exact Nat.le_of_lt ((hP k9 x hx).lt)
      · rw [List.getElem?_append_right (by omega)] at hx
        have h0 : k9 - (X ++ va_pl L f).length < 1 := (List.getElem?_eq_some_iff.mp hx).1
        rw [show k9 - (X ++ va_pl L f).length = 0 by omega] at hx
        cases hx
        exact Nat.le_refl _
    have hr : ∀ (k9 : Nat) (x : Nat × va_E), (((List.range n.toNatClampNeg).map (fun i => H.size + 1 + i)).map (fun a => ((a, .inl (cy, z)) : Nat × va_E)))[k9]? = some x → x.1 = H.size + 1 + k9 := fun k9 x hx => by
      rw [List.getElem?_map, List.getElem?_map] at hx
      by_cases h9 : k9 < n.toNatClampNeg
      · rw [List.getElem?_range h9] at hx
        cases hx
        rfl
      · have hn0 : (List.range n.toNatClampNeg)[k9]? = none := List.getElem?_eq_none (by rw [List.length_range]; omega)
        rw [hn0] at hx
        cases hx
    refine ⟨fun i j x y hi hj hxy => ?_, fun k9 x hx => ?_⟩
    · by_cases h1 : i < W1.length <;> by_cases h2 : j < W1.length
      · rw [List.getElem?_append_left h1] at hi
        rw [List.getElem?_append_left h2] at hj
        exact hD1.1 i j x y hi hj hxy
      · rw [List.getElem?_append_left h1] at hi
        rw [List.getElem?_append_right (by omega)] at hj
        have := hle _ _ hi
        have := hr _ _ hj
        omega
      · rw [List.getElem?_append_right (by omega)] at hi
        rw [List.getElem?_append_left h2] at hj
        have := hle _ _ hj
        have := hr _ _ hi
        omega
      · rw [List.getElem?_append_right (by omega)] at hi hj
        have := hr _ _ hi
        have := hr _ _ hj
        omega
    · by_cases h1 : k9 < W1.length
      · rw [List.getElem?_append_left h1] at hx
        exact hD1.2 k9 x hx
      · rw [List.getElem?_append_right (by omega)] at hx
        have := hr _ _ hx
        exact hA _ (by have := hS.1; omega)
  have hAr : ArrOfT s cA (.array ty) := fun N9 z9 => by
    obtain ⟨-, k9, hk9, cm9, hkk9⟩ := (hO 0 0 0).1
    exact ⟨(fun q hq => by cases hq), k9, hk9, cm9, hkk9⟩
  have hK2 : va_K D cl (tys ++ [(cA, .array ty)]) s := ⟨hK.1, fun k9 x hx => by
    by_cases hl : k9 < tys.length
    · rw [List.getElem?_append_left hl] at hx
      exact hK.2 k9 x hx
    · rw [List.getElem?_append_right (by omega)] at hx
      have h0 : k9 - tys.length < 1 := (List.getElem?_eq_some_iff.mp hx).1
      rw [show k9 - tys.length = 0 by omega] at hx
      cases hx
      exact ⟨hAr, fA⟩⟩
  obtain ⟨t, a1, b1⟩ := kk H.size (fun i => H.size + 1 + i) cA F.heap (fun i j _ _ h => by have h9 : H.size + 1 + i = H.size + 1 + j := h; omega) hnl hK2 (by rw [← vr_rows hnm]; exact vr_lay hP2) (by rw [← vr_rows hnm]; exact vr_layD hD2) ⟨by rw [f1]; have := hS.1; omega, fun x h1 h2 => (hold x (Nat.lt_of_lt_of_le h1 hS.1)).trans (hS.2.1 x h1 h2), hS.2.2⟩ F rfl X'
  refine ⟨t, step t ?_, b1⟩
  have e : T.heap.size = H.size := by rw [hT]
  rw [e]
  exact a1
end VGM
/-! ===== END ===== -/

/-! ===== BEGIN exceptions that leave a method, and their catching by the caller (launches without stack traces) ===== -/
section VXA
/-! The laws vx_back, vx_callV, vx_callS, vx_callSW, vx_throw0, vx_throwS follow proofs of the library, with one case more: JvmDerived/Free/Laws.lean (Back.of_free), Shelf42/LK1.lean (callV, callS), Shelf/KitTraced.lean (throwNew0V, throwNewS). -/
/-- where a method has thrown q: the class by its name, the cell, what was written, the world -/
def vx_T (XC : String → State → State → Prop) (st : State) (q : Addr) (t : State) (mc ms : Nat) (free : Addr → Prop) : Prop :=
  ∃ (E : String) (ce : Cell) (L : List Loc), XC E st t ∧ t.heap[q]? = some ce ∧ ce.vm = .none ∧ st.vm.findClass E = some ce.cls ∧ st.WarmedH t.vm ∧ st.sameButNew ({ t with vm := st.vm } : State) L mc ms ∧ ∀ z ∈ L, free z.base
def vx_Q (Qc : Array Value → State → Outcome → State → Prop) (XC : String → State → State → Prop) (mc ms : Nat) (free : Addr → Prop) : Array Value → State → Outcome → State → Prop := fun a st o t =>
  (Qc a st o t ∧ ∃ L, FrameEnd st o t L mc ms ∧ ∀ q ∈ L, free q.base) ∨ ∃ q, o = .threw q ∧ vx_T XC st q t mc ms free
/-- a callee that returns or throws -/
def vx_Met (l : Launch) (y : MethodName) (ws : List Cond) (rm : Room) (Pc : Array Value → State → Prop) (Qc : Array Value → State → Outcome → State → Prop) (XC : String → State → State → Prop) (mc ms : Nat) (free : Addr → Prop) : Prop :=
  MetFree l y (headSpec ws rm) Pc (fun _ _ _ _ _ => True) (vx_Q Qc XC mc ms free)
def vx_Post (XC : String → State → State → Prop) (mc ms : Nat) (free : Addr → Prop) : Pt → Array Value → Addr → Pt → Prop := fun A a q B =>
  ∃ (g : JFrame) (mk : MethodId) (t : State) (L : List Loc) (E : String) (ce : Cell), B.U.heap = t.heap ∧ B.U.vm = t.vm ∧ XC E (A.U.calling g mk a) t ∧ t.heap[q]? = some ce ∧ ce.vm = .none ∧ A.U.vm.findClass E = some ce.cls ∧ B.locs = A.locs ++ L ∧ (∀ z ∈ L, free z.base) ∧ B.cells = A.cells + mc ∧ B.slots = A.slots + ms
def vx_Back (l : Launch) (R : Room) (p : Program) (e : Env) (below : List Frame) (s : State) (sargs : Array Value) (y : MethodName) (len W9 : Nat)
    (Pre : Pt → Array Value → Prop) (Post : Pt → Array Value → Option Value → Pt → Prop) (PostX : Pt → Array Value → Addr → Pt → Prop) : Prop :=
  ∀ (m : MethodId) (meth : Method) (c : Code) (A : Pt) (g : JFrame) (ig : Instr) (mk : MethodId) (a : Array Value),
    Stand p l e R s m sargs below meth c A.U A.locs A.cells A.slots → g.method = m → g.locals.size = c.maxLocals → decode c.code g.pc = .ok (ig, len) →
    2 * g.monitorRoom + (g.stack.map fun v => v.category).sum ≤ W9 → A.U.methodNamed? y = some mk → Pre A a →
    (∃ (v : Option Value) (B : Pt), Stand p l e R s m sargs below meth c B.U B.locs B.cells B.slots ∧ Post A a v B ∧
      Steps p.tables e below (doInvoke e (A.U.setTop g) [] mk a).1 (B.U.setTop { g with pc := g.pc + len, stack := v.toList ++ g.stack })) ∨
    (∃ (q : Addr) (B : Pt), Stand p l e R s m sargs below meth c B.U B.locs B.cells B.slots ∧ PostX A a q B ∧
      Steps p.tables e below (doInvoke e (A.U.setTop g) [] mk a).1 ((B.U.setTop g).pushFrame (.throwing q)))
section Payer
variable {l : Launch} {R : Room} {p : Program} {e : Env} {below : List Frame} {s : State} {sargs : Array Value} {y : MethodName} {len W9 : Nat}
theorem vx_back {ws : List Cond} {rm : Room} {Pc : Array Value → State → Prop} {Qc : Array Value → State → Outcome → State → Prop} {XC : String → State → State → Prop} {mc ms : Nat} {free : Addr → Prop} {bytes : ByteArray} {maxL : Nat} {ret : Option FieldType}
    (hM : vx_Met l y ws rm Pc Qc XC mc ms free) (hblind : FrameBlind Pc) (hrc : rm.cells = mc) (hrs : rm.slots = ms)
    (hframes : rm.frames + 1 ≤ R.frames) (hlocals : W9 + (maxL + 11) + rm.locals ≤ R.locals)
    (hws : ∀ w ∈ ws, ∀ a' U, s.WarmedH U.vm → w.before a' U = true) (hcode : Cond.code y bytes maxL ret ∈ ws) (hinit : ∀ a' U, s.WarmedH U.vm → (Cond.initialized y.cls).before a' U = true) :
    vx_Back l R p e below s sargs y len W9 (PreOf R mc ms Pc) (PostOf Qc mc ms free) (vx_Post XC mc ms free) := by
  intro m meth c A g ig mk a X hg hsize hdg hW hn hp
  have h1 : (headSpec ws rm).pre.before a A.U = true := atoms_intro fun w hw => hws w hw _ _ X.warmed
  have h2 : (Cond.code y bytes maxL ret).before a A.U = true := hws _ hcode _ _ X.warmed
  have h3 : (Cond.initialized y.cls).before a A.U = true := hinit _ _ X.warmed
  have h4 : A.cells + (headSpec ws rm).room.cells ≤ R.cells := by rw [show (headSpec ws rm).room.cells = mc from hrc]; exact hp.1
  have h5 : A.slots + (headSpec ws rm).room.slots ≤ R.slots := by rw [show (headSpec ws rm).room.slots = ms from hrs]; exact hp.2.1
  have hPc : Pc a (A.U.calling g mk a) := hblind _ _ _ _ hp.2.2
  obtain ⟨U, Ls, c0, s0⟩ := A
  dsimp only [Pt.U, Pt.locs, Pt.cells, Pt.slots] at h1 h2 h3 h4 h5 X hn hPc ⊢
  obtain ⟨methY, cY, hmY, hcY, -, hlY, -, -, -, -⟩ := Cond.code_spec hn h2
  obtain ⟨kY, hkY, -⟩ := className_of_methodNamed hn
  have hinitY : kY.init = .initialized := Cond.initialized_spec (findClass_of_methodNamed hn) hkY h3
  have h : At U g.method c below := by rw [hg]; exact X.here
  have hlocals9 : W9 + (maxL + 11) + (headSpec ws rm).room.locals ≤ R.locals := hlocals
  have happ : (headSpec ws rm).appliesLoose y e.platform (U.calling g mk a) = true :=
    Spec.appliesLoose_calling (g := g) h hdg hn hkY hinitY
      (X.room_calling (g := g) (R' := (headSpec ws rm).room) hsize hmY hcY hframes (by rw [hlY]; omega) h4 h5) h1
  obtain ⟨mid, hmid⟩ := h.above
  have hfr : (U.setTop g).frames = (.java g :: mid) ++ below := by rw [State.frames_setTop' g h.top, hmid]; rfl
  obtain ⟨o, s₂, hsteps, -, hend, hq⟩ := Steps.callFree hM p X.admits X.cas X.clock (acts := []) hfr happ hPc trivial
  have hq' : vx_Q Qc XC mc ms free a (U.calling g mk a) o s₂ := hq
  rw [State.frames_setTop' g h.top] at hend
  obtain ⟨g₀, hg0⟩ := Option.isSome_iff_exists.mp h.top
  obtain ⟨r, hr⟩ := State.topJava?_eq_some.mp hg0
  have hr' : (({ U with heap := s₂.heap, slotsUsed := s₂.slotsUsed } : State).setVm s₂.vm).frames = .java g₀ :: r := hr
  rcases hq' with ⟨hqc, L, hfe, hL⟩ | ⟨q, rfl, E, ce, L, hx, hce, hcv, hcl, hW₂, hsm, hL⟩
  · obtain ⟨⟨v, rfl⟩, hW₂, e2, q2, q3, q4, q5, q6⟩ := id hfe
    have e3 : s₂ = ({ (U.calling g mk a).setFrames s₂.frames with heap := s₂.heap, slotsUsed := s₂.slotsUsed } : State).setVm s₂.vm := by
      have : s₂ = ({ s₂ with vm := (U.calling g mk a).vm } : State).setVm s₂.vm := rfl
      rw [e2] at this
      exact this
    obtain ⟨c₂, i₂, len₂, hc₂, hd₂, hf₂⟩ := hend
    have hW' : U.WarmedH s₂.vm := hW₂
    have hcc : c₂ = c := by
      have h1 : s₂.code? g.method = U.code? g.method := by
        rw [State.code?_eq, State.code?_eq, hW'.alike.method?]
      exact Option.some.inj (hc₂.symm.trans (h1.trans h.code))
    subst hcc
    have hlen : len₂ = len := by rw [hdg] at hd₂; cases hd₂; rfl
    subst hlen
    have hs₂ : s₂ = (({ U with heap := s₂.heap, slotsUsed := s₂.slotsUsed } : State).setVm s₂.vm).setTop { g with pc := g.pc + len₂, stack := v.toList ++ g.stack } := by
      refine e3.trans ?_
      rw [hf₂, State.calling_eq h.top, State.setFrames_setFrames, State.setTop_of_frames _ hr', hr]
      rfl
    have hsame : U.sameButNew ({ U with heap := s₂.heap, slotsUsed := s₂.slotsUsed } : State) L mc ms := by
      refine ⟨?_, q2, q3, q4, q5, q6⟩
      obtain ⟨t, ht, -⟩ := State.frames_cons hr
      show ({ U with heap := s₂.heap, slotsUsed := s₂.slotsUsed } : State) = { U.setFrames U.frames with heap := s₂.heap, slotsUsed := s₂.slotsUsed }
      rw [State.setFrames_self ht]
    subst hg
    refine Or.inl ⟨v, ⟨(({ U with heap := s₂.heap, slotsUsed := s₂.slotsUsed } : State).setVm s₂.vm), Ls ++ L, c0 + mc, s0 + ms⟩,
      ⟨X.admits, X.cas, X.clock, X.frames, X.room, X.hears, X.method, X.code, (X.here.setHeapUsed s₂.heap s₂.slotsUsed).setVm hW'.alike, X.tail, State.WarmedH.trans X.warmed hW', X.limits, X.bytes, X.same.trans (hsame.setVm s.vm)⟩,
      ⟨g, mk, s₂, L, rfl, rfl, hqc, rfl, hL, rfl, rfl⟩, ?_⟩
    show Steps p.tables e below _ ((({ U with heap := s₂.heap, slotsUsed := s₂.slotsUsed } : State).setVm s₂.vm).setTop { g with pc := g.pc + len₂, stack := v.toList ++ g.stack })
    rw [← hs₂]
    exact hsteps
  · obtain ⟨e2, q2, q3, q4, q5, q6⟩ := id hsm
    have e3 : s₂ = ({ (U.calling g mk a).setFrames s₂.frames with heap := s₂.heap, slotsUsed := s₂.slotsUsed } : State).setVm s₂.vm := by
      have : s₂ = ({ s₂ with vm := (U.calling g mk a).vm } : State).setVm s₂.vm := rfl
      rw [e2] at this
      exact this
    have hf₂ : s₂.frames = .throwing q :: .java g :: U.frames.tail := hend
    have hW' : U.WarmedH s₂.vm := hW₂
    have hs₂ : s₂ = ((({ U with heap := s₂.heap, slotsUsed := s₂.slotsUsed } : State).setVm s₂.vm).setTop g).pushFrame (.throwing q) := by
      refine e3.trans ?_
      rw [hf₂, State.calling_eq h.top, State.setFrames_setFrames, State.pushFrame, State.frames_setTop _ hr', State.setTop_of_frames _ hr', State.setFrames_setFrames, hr]
      rfl
    have hsame : U.sameButNew ({ U with heap := s₂.heap, slotsUsed := s₂.slotsUsed } : State) L mc ms := by
      refine ⟨?_, q2, q3, q4, q5, q6⟩
      obtain ⟨t, ht, -⟩ := State.frames_cons hr
      show ({ U with heap := s₂.heap, slotsUsed := s₂.slotsUsed } : State) = { U.setFrames U.frames with heap := s₂.heap, slotsUsed := s₂.slotsUsed }
      rw [State.setFrames_self ht]
    subst hg
    refine Or.inr ⟨q, ⟨(({ U with heap := s₂.heap, slotsUsed := s₂.slotsUsed } : State).setVm s₂.vm), Ls ++ L, c0 + mc, s0 + ms⟩,
      ⟨X.admits, X.cas, X.clock, X.frames, X.room, X.hears, X.method, X.code, (X.here.setHeapUsed s₂.heap s₂.slotsUsed).setVm hW'.alike, X.tail, State.WarmedH.trans X.warmed hW', X.limits, X.bytes, X.same.trans (hsame.setVm s.vm)⟩,
      ⟨g, mk, s₂, L, E, ce, rfl, rfl, hx, hce, hcv, hcl, rfl, hL, rfl, rfl⟩, ?_⟩
    show Steps p.tables e below _ (((({ U with heap := s₂.heap, slotsUsed := s₂.slotsUsed } : State).setVm s₂.vm).setTop g).pushFrame (.throwing q))
    rw [← hs₂]
    exact hsteps
end Payer
section Calls
variable {p : Program} {l : Launch} {e : Env} {R : Room} {s : State} {m : MethodId} {args : Array Value} {below : List Frame} {meth : Method} {c : Code} {T : State} {locs : List Loc} {cells slots : Nat}
theorem vx_callV (X : Stand p l e R s m args below meth c T locs cells slots) (hexec : p.tables.exec = Jvm.exec) {own C : String} {index : Nat} {y : MethodName} {bytes : ByteArray} {maxL : Nat} {ret : Option FieldType}
    (hown : s.vm.findClass own = some m.cls) (hlink : (Cond.methodLink own index y).before args s = true) (hinst : (Cond.instanceMethod y).before args s = true) (hsel : (Cond.selects C y y).before args s = true)
    (hcode : (Cond.code y bytes maxL ret).before args s = true) (hy : y.cls ≠ "java/lang/invoke/MethodHandle" ∧ y.cls ≠ "java/lang/invoke/VarHandle")
    {W9 : Nat} {Pre : Pt → Array Value → Prop} {Post : Pt → Array Value → Option Value → Pt → Prop} {PostX : Pt → Array Value → Addr → Pt → Prop} (hK : vx_Back l R p e below s args y 3 W9 Pre Post PostX)
    {b : Addr} {cellB : Cell} (hcell : T.heap[b]? = some cellB) (hobj : cellB.vm.isStatics = false) (hcls : s.vm.findClass C = some cellB.cls)
    {g : JFrame} (hg : g.method = m) (hsize : g.locals.size = c.maxLocals) {argsL rest : List Value} (hlen : ∀ sig, parseMethodDescriptor y.desc = some sig → argsL.length = sig.parameters.length)
    (hstack : g.stack = argsL.reverse ++ .ref b :: rest) (hW : 2 * g.monitorRoom + (rest.map fun v => v.category).sum ≤ W9) (hdg : decode c.code g.pc = .ok (.invokevirtual index, 3))
    (hpre : ∀ vm₁, s.WarmedH vm₁ → Pre ⟨T.setVm vm₁, locs, cells, slots⟩ (Value.ref b :: argsL).toArray) :
    (∃ (v : Option Value) (vm₁ : Vm) (B : Pt), s.WarmedH vm₁ ∧ Stand p l e R s m args below meth c B.U B.locs B.cells B.slots ∧ Post ⟨T.setVm vm₁, locs, cells, slots⟩ (Value.ref b :: argsL).toArray v B ∧
      ∀ target, Steps p.tables e below (B.U.setTop { g with pc := g.pc + 3, stack := v.toList ++ rest }) target → Steps p.tables e below (T.setTop g) target) ∨
    (∃ (q : Addr) (vm₁ : Vm) (B : Pt), s.WarmedH vm₁ ∧ Stand p l e R s m args below meth c B.U B.locs B.cells B.slots ∧ PostX ⟨T.setVm vm₁, locs, cells, slots⟩ (Value.ref b :: argsL).toArray q B ∧
      Steps p.tables e below (T.setTop g) ((B.U.setTop { g with stack := rest }).pushFrame (.throwing q))) := by
  obtain ⟨mk, methM, hnamed, hmethM, hstM, habM⟩ := Cond.instanceMethod_spec hinst
  obtain ⟨methM', cM, hmethM', -, -, -, -, -, -, hsigM⟩ := Cond.code_spec hnamed hcode
  cases hmethM.symm.trans hmethM'
  obtain ⟨c2, r2, m2, q1, q2, q3, q4, kP, hkP, hkPi⟩ := Cond.selects_spec hsel
  cases hcls.symm.trans q1
  cases (State.methodFound?_of_named hnamed hy).symm.trans q2
  cases hnamed.symm.trans q3
  have hselP : selectMethod e.platform s.vm cellB.cls mk = .method mk := by rw [Launch.admits_selectMethod X.admits]; exact q4
  obtain ⟨vm₁, X₁, hstep₁⟩ := X.invokevirtual hexec hown hlink hnamed hmethM hstM hkP hkPi hy (a := b) (cell := cellB) hcell
    (fun z h => by rw [h] at hobj; cases hobj) hselP hmethM habM hkP hkPi (g := g) hg (argsL := argsL) (rest := rest) (hlen _ hsigM) hstack hdg
  rcases hK m meth c ⟨T.setVm vm₁, locs, cells, slots⟩ { g with stack := rest } (.invokevirtual index) mk (Value.ref b :: argsL).toArray X₁ hg hsize hdg hW (X₁.named hnamed) (hpre vm₁ X₁.warmed) with ⟨v, B, X', hpost, hsteps⟩ | ⟨q, B, X', hpost, hsteps⟩
  · exact Or.inl ⟨v, vm₁, B, X₁.warmed, X', hpost, fun target h => hstep₁ _ fun acts => by rw [doInvoke_state]; exact hsteps.trans h⟩
  · exact Or.inr ⟨q, vm₁, B, X₁.warmed, X', hpost, hstep₁ _ fun acts => by rw [doInvoke_state]; exact hsteps⟩
theorem vx_callS (X : Stand p l e R s m args below meth c T locs cells slots) (hexec : p.tables.exec = Jvm.exec) {own : String} {index : Nat} {y : MethodName} {bytes : ByteArray} {maxL : Nat} {ret : Option FieldType}
    (hown : s.vm.findClass own = some m.cls) (hlink : (Cond.methodLink own index y).before args s = true) (hstat : (Cond.static y).before args s = true) (hinit : (Cond.initialized y.cls).before args s = true)
    (hcode : (Cond.code y bytes maxL ret).before args s = true) (hy : y.cls ≠ "java/lang/invoke/MethodHandle" ∧ y.cls ≠ "java/lang/invoke/VarHandle")
    {W9 : Nat} {Pre : Pt → Array Value → Prop} {Post : Pt → Array Value → Option Value → Pt → Prop} {PostX : Pt → Array Value → Addr → Pt → Prop} (hK : vx_Back l R p e below s args y 3 W9 Pre Post PostX)
    {g : JFrame} (hg : g.method = m) (hsize : g.locals.size = c.maxLocals) {argsL rest : List Value} (hlen : ∀ sig, parseMethodDescriptor y.desc = some sig → argsL.length = sig.parameters.length)
    (hstack : g.stack = argsL.reverse ++ rest) (hW : 2 * g.monitorRoom + (rest.map fun v => v.category).sum ≤ W9) (hdg : decode c.code g.pc = .ok (.invokestatic index, 3))
    (hpre : ∀ vm₁, s.WarmedH vm₁ → Pre ⟨T.setVm vm₁, locs, cells, slots⟩ argsL.toArray) :
    (∃ (v : Option Value) (vm₁ : Vm) (B : Pt), s.WarmedH vm₁ ∧ Stand p l e R s m args below meth c B.U B.locs B.cells B.slots ∧ Post ⟨T.setVm vm₁, locs, cells, slots⟩ argsL.toArray v B ∧
      ∀ target, Steps p.tables e below (B.U.setTop { g with pc := g.pc + 3, stack := v.toList ++ rest }) target → Steps p.tables e below (T.setTop g) target) ∨
    (∃ (q : Addr) (vm₁ : Vm) (B : Pt), s.WarmedH vm₁ ∧ Stand p l e R s m args below meth c B.U B.locs B.cells B.slots ∧ PostX ⟨T.setVm vm₁, locs, cells, slots⟩ argsL.toArray q B ∧
      Steps p.tables e below (T.setTop g) ((B.U.setTop { g with stack := rest }).pushFrame (.throwing q))) := by
  obtain ⟨mk, hnamed⟩ := Cond.code_named hcode
  obtain ⟨methM, cM, hmethM, -, -, -, -, -, -, hsigM⟩ := Cond.code_spec hnamed hcode
  have hstatic : methM.isStatic = true := Cond.static_spec hnamed hmethM hstat
  obtain ⟨kP, hkP, -⟩ := className_of_methodNamed hnamed
  have hinitP : kP.init = .initialized := Cond.initialized_spec (findClass_of_methodNamed hnamed) hkP hinit
  obtain ⟨vm₁, X₁, hstep₁⟩ := X.invokestatic hexec hown hlink hnamed hmethM hstatic hkP hinitP hy (g := g) hg (argsL := argsL) (rest := rest) (hlen _ hsigM) hstack hdg
  rcases hK m meth c ⟨T.setVm vm₁, locs, cells, slots⟩ { g with stack := rest } (.invokestatic index) mk argsL.toArray X₁ hg hsize hdg hW (X₁.named hnamed) (hpre vm₁ X₁.warmed) with ⟨v, B, X', hpost, hsteps⟩ | ⟨q, B, X', hpost, hsteps⟩
  · exact Or.inl ⟨v, vm₁, B, X₁.warmed, X', hpost, fun target h => hstep₁ _ fun acts => by rw [doInvoke_state]; exact hsteps.trans h⟩
  · exact Or.inr ⟨q, vm₁, B, X₁.warmed, X', hpost, hstep₁ _ fun acts => by rw [doInvoke_state]; exact hsteps⟩
end Calls
theorem vx_cls {s : State} {T : State} {vm₁ : Vm} {E : String} {k : ClassId} (hW : s.WarmedH vm₁) (h : (T.setVm vm₁).vm.findClass E = some k) : s.vm.findClass E = some k := by
  have h1 : vm₁.findClass E = some k := h
  rw [hW.alike.findClass] at h1
  exact h1
/-- the method's frame g, with q thrown over it -/
def vx_W (p : Program) (l : Launch) (e : Env) (R : Room) (s : State) (m : MethodId) (args : Array Value) (below : List Frame) (meth : Method) (c : Code) (H : Heap) (locs : List Loc) (cells slots : Nat) (Q : State → Prop) (g : JFrame) (q : Addr) : Prop :=
  ∀ T : State, T.heap = H → Stand p l e R s m args below meth c T locs cells slots → ∃ t, Steps p.tables e below ((T.setTop g).pushFrame (.throwing q)) t ∧ Q t
def vx_Run (p : Program) (l : Launch) (e : Env) (R : Room) (s : State) (m : MethodId) (args : Array Value) (below : List Frame) (meth : Method) (c : Code) (H : Heap) (locs : List Loc) (cells slots mc ms : Nat) (g : JFrame) (rest : List Value) (Qa : State → Outcome → State → Prop) (XC : String → State → State → Prop) (free : Addr → Prop) : Prop :=
  ∀ T : State, T.heap = H → Stand p l e R s m args below meth c T locs cells slots →
    (∃ (v : Option Value) (st₀ t T' : State) (L : List Loc), st₀.heap = H ∧ Stand p l e R s m args below meth c T' (locs ++ L) (cells + mc) (slots + ms) ∧ (∀ q ∈ L, free q.base) ∧ T'.heap = t.heap ∧ T'.vm = t.vm ∧ Qa st₀ (.returned v) t ∧
      Goes p e below T g T' { g with pc := g.pc + 3, stack := v.toList ++ rest }) ∨
    (∃ (q : Addr) (st₀ t T' : State) (L : List Loc) (E : String) (ce : Cell), st₀.heap = H ∧ Stand p l e R s m args below meth c T' (locs ++ L) (cells + mc) (slots + ms) ∧ (∀ z ∈ L, free z.base) ∧ T'.heap = t.heap ∧ T'.vm = t.vm ∧ XC E st₀ t ∧ t.heap[q]? = some ce ∧ ce.vm = .none ∧ s.vm.findClass E = some ce.cls ∧
      Steps p.tables e below (T.setTop g) ((T'.setTop { g with stack := rest }).pushFrame (.throwing q)))
def vx_X {S : Type} (px : S → Prop) (B : String → S → State → Prop) (A : Nat → Prop) : String → State → State → Prop := fun E st t => ∃ u : S, px u ∧ B E u t ∧ va_F A st t
section Runs
variable {p : Program} {l : Launch} {e : Env} {R : Room} {s : State} {m : MethodId} {args : Array Value} {below : List Frame} {meth : Method} {c : Code} {H : Heap} {locs : List Loc} {cells slots : Nat}
variable {y : MethodName} {bytes cc : ByteArray} {maxL nL mc ms n index : Nat} {ret : Option FieldType} {ws : List Cond} {rm : Room} {Pc : Array Value → State → Prop} {Qc : Array Value → State → Outcome → State → Prop} {XC : String → State → State → Prop} {free : Addr → Prop} {Ts : List Cond} {own C : String} {b : Addr} {As rest : List Value} {g : JFrame}
theorem vx_callBack (cb : CallB R s args own index y bytes maxL ret ws rm mc ms n) (hM : vx_Met l y ws rm Pc Qc XC mc ms free) (hbl : FrameBlind Pc) : vx_Back l R p e below s args y 3 8 (PreOf R mc ms Pc) (PostOf Qc mc ms free) (vx_Post XC mc ms free) := by
  obtain ⟨hrc, hrs, hfr, hlo, hws, hcw, -, hini, -⟩ := cb
  exact vx_back (bytes := bytes) (maxL := maxL) (ret := ret) hM hbl hrc hrs hfr hlo hws hcw (fun a' U hW => word_at hW (Or.inl (by first | rfl | simp [Cond.onTables, Cond.keeps, Cond.steady])) hini)
theorem vx_runV (S : CallFix p m c cc nL s args Ts own) (hM : vx_Met l y ws rm Pc Qc XC mc ms free) (cw : CallW R s args own C index y bytes maxL ret ws rm mc ms n) (hp : PreV s H C b Pc As)
    (hg : g.method = m) (hn : As.length = n) (hsize : g.locals.size = nL) (hstack : g.stack = As.reverse ++ .ref b :: rest) (hW : 2 * g.monitorRoom + (rest.map fun v => v.category).sum ≤ 8) (hdg : decode cc g.pc = .ok (.invokevirtual index, 3)) (hf : cells + mc ≤ R.cells ∧ slots + ms ≤ R.slots) :
    vx_Run p l e R s m args below meth c H locs cells slots mc ms g rest (Qc (Value.ref b :: As).toArray) XC free := by
  have hK : vx_Back l R p e below s args y 3 8 (PreOf R mc ms Pc) (PostOf Qc mc ms free) (vx_Post XC mc ms free) := vx_callBack cw.1 hM hp.1
  obtain ⟨⟨-, -, -, -, -, -, hcode, -, hy, hlen, hl⟩, hin, hse⟩ := cw
  obtain ⟨hx, hb, hml, ho, -⟩ := S
  obtain ⟨-, ⟨cellB, hcB, hoB, hclB⟩, hPc⟩ := hp
  intro T hT X
  rcases vx_callV X hx (C := C) (bytes := bytes) (maxL := maxL) (ret := ret) ho hl hin hse hcode hy hK (by rw [hT]; exact hcB) hoB hclB hg (hsize.trans hml.symm) (argsL := As) (rest := rest) (fun sig h => hn.trans (hlen sig h)) hstack hW (by rw [hb]; exact hdg)
    (fun vm₁ hW₁ => ⟨hf.1, hf.2, hPc (T.setVm vm₁) hT hW₁⟩) with ⟨v, vm₁, ⟨U', l2, c2, s2⟩, hW₁, X', ⟨g', mk, t, L, e1, e2, hq, h1, hL, h2, h3⟩, st⟩ | ⟨q, vm₁, ⟨U', l2, c2, s2⟩, hW₁, X', ⟨g', mk, t, L, E, ce, e1, e2, hq, hce, hcv, hcl, h1, hL, h2, h3⟩, st⟩
  · dsimp only [Pt.U, Pt.locs, Pt.cells, Pt.slots] at X' e1 e2 h1 h2 h3 st
    subst h1; subst h2; subst h3
    exact Or.inl ⟨v, (T.setVm vm₁).calling g' mk (Value.ref b :: As).toArray, t, U', L, hT, X', hL, e1, e2, hq, st⟩
  · dsimp only [Pt.U, Pt.locs, Pt.cells, Pt.slots] at X' e1 e2 h1 h2 h3 st hcl
    subst h1; subst h2; subst h3
    exact Or.inr ⟨q, (T.setVm vm₁).calling g' mk (Value.ref b :: As).toArray, t, U', L, E, ce, hT, X', hL, e1, e2, hq, hce, hcv, vx_cls hW₁ hcl, st⟩
theorem vx_runS (S : CallFix p m c cc nL s args Ts own) (hM : vx_Met l y ws rm Pc Qc XC mc ms free) (cw : CallB R s args own index y bytes maxL ret ws rm mc ms n ∧ (Cond.static y).before args s = true) (hp : PreS s H Pc As)
    (hg : g.method = m) (hn : As.length = n) (hsize : g.locals.size = nL) (hstack : g.stack = As.reverse ++ rest) (hW : 2 * g.monitorRoom + (rest.map fun v => v.category).sum ≤ 8) (hdg : decode cc g.pc = .ok (.invokestatic index, 3)) (hf : cells + mc ≤ R.cells ∧ slots + ms ≤ R.slots) :
    vx_Run p l e R s m args below meth c H locs cells slots mc ms g rest (Qc As.toArray) XC free := by
  have hK : vx_Back l R p e below s args y 3 8 (PreOf R mc ms Pc) (PostOf Qc mc ms free) (vx_Post XC mc ms free) := vx_callBack cw.1 hM hp.1
  obtain ⟨⟨-, -, -, -, -, -, hcode, hini, hy, hlen, hl⟩, hstt⟩ := cw
  obtain ⟨hx, hb, hml, ho, -⟩ := S
  intro T hT X
  rcases vx_callS X hx (bytes := bytes) (maxL := maxL) (ret := ret) ho hl hstt hini hcode hy hK hg (hsize.trans hml.symm) (argsL := As) (rest := rest) (fun sig h => hn.trans (hlen sig h)) hstack hW (by rw [hb]; exact hdg)
    (fun vm₁ hW₁ => ⟨hf.1, hf.2, hp.2 (T.setVm vm₁) hT hW₁⟩) with ⟨v, vm₁, ⟨U', l2, c2, s2⟩, hW₁, X', ⟨g', mk, t, L, e1, e2, hq, h1, hL, h2, h3⟩, st⟩ | ⟨q, vm₁, ⟨U', l2, c2, s2⟩, hW₁, X', ⟨g', mk, t, L, E, ce, e1, e2, hq, hce, hcv, hcl, h1, hL, h2, h3⟩, st⟩
  · dsimp only [Pt.U, Pt.locs, Pt.cells, Pt.slots] at X' e1 e2 h1 h2 h3 st
    subst h1; subst h2; subst h3
    exact Or.inl ⟨v, (T.setVm vm₁).calling g' mk As.toArray, t, U', L, hT, X', hL, e1, e2, hq, st⟩
  · dsimp only [Pt.U, Pt.locs, Pt.cells, Pt.slots] at X' e1 e2 h1 h2 h3 st hcl
    subst h1; subst h2; subst h3
    exact Or.inr ⟨q, (T.setVm vm₁).calling g' mk As.toArray, t, U', L, E, ce, hT, X', hL, e1, e2, hq, hce, hcv, vx_cls hW₁ hcl, st⟩
end Runs
section Rows
variable {p : Program} {l : Launch} {e : Env} {R : Room} {s : State} {m : MethodId} {args : Array Value} {below : List Frame} {meth : Method} {c : Code} {H : Heap} {locs : List Loc} {cells slots : Nat} {Q : State → Prop}
variable {mc ms : Nat} {free : Addr → Prop} {A0 A1 : Nat → Prop} {H0 : Heap} {a : Array Value} {pc : Nat} {ls : Array Slot} {st0 rest : List Value}
theorem vx_keep {st₀ t T' : State} {L : List Loc} (h0 : st₀.heap = H) (e1 : T'.heap = t.heap) (hS : va_S A0 H0 H locs) (hA : ∀ q, q < H.size → A1 q → A0 q) (hf : ∀ q, free q → A0 q) (hL : ∀ q ∈ L, free q.base) (hF : va_F A1 st₀ t) :
    H.size ≤ T'.heap.size ∧ (∀ q : Nat, q < H.size → ¬ A1 q → T'.heap[q]? = H[q]?) ∧ va_S A0 H0 T'.heap (locs ++ L) := by
  obtain ⟨hz, hk⟩ := hF
  rw [h0] at hz hk
  exact ⟨by rw [e1]; exact hz, fun q h1 h2 => by rw [e1]; exact hk q h1 h2,
    ⟨Nat.le_trans hS.1 (by rw [e1]; exact hz), fun q h1 h2 => by rw [e1, hk q (Nat.lt_of_lt_of_le h1 hS.1) (fun z => h2 (hA q (Nat.lt_of_lt_of_le h1 hS.1) z))]; exact hS.2.1 q h1 h2, fun q hq => by
      rcases List.mem_append.mp hq with h | h
      · exact hS.2.2 q h
      · exact hf _ (hL q h)⟩⟩
theorem vx_calli {S SX : Type} {post : Int32 → S → Prop} {px : SX → Prop} {B : S → State → Prop} {BX : String → SX → State → Prop} {AX : Nat → Prop} (hr : vx_Run p l e R s m args below meth c H locs cells slots mc ms (F0 m pc ls st0) rest (va_Qi post B A1 a) (vx_X px BX AX) free) (hS : va_S A0 H0 H locs) (hA : ∀ q, q < H.size → A1 q → A0 q) (hf : ∀ q, free q → A0 q) (hAX : ∀ q, q < H.size → AX q → A0 q)
    (kx : ∀ (E : String) (ce : Cell) (q9 : Addr) (u : SX) (t : State) (H1 : Heap) (locs1 : List Loc), t.heap = H1 → s.vm.Alike t.vm → px u → BX E u t → H.size ≤ H1.size → (∀ q : Nat, q < H.size → ¬ AX q → H1[q]? = H[q]?) → va_S A0 H0 H1 locs1 → H1[q9]? = some ce → ce.vm = .none → s.vm.findClass E = some ce.cls → vx_W p l e R s m args below meth c H1 locs1 (cells + mc) (slots + ms) Q (F0 m pc ls rest) q9)
    (kk : ∀ (r : Int32) (u : S) (t : State) (H1 : Heap) (locs1 : List Loc), t.heap = H1 → s.vm.Alike t.vm → post r u → B u t → H.size ≤ H1.size → (∀ q : Nat, q < H.size → ¬ A1 q → H1[q]? = H[q]?) → va_S A0 H0 H1 locs1 → W p l e R s m args below meth c H1 locs1 (cells + mc) (slots + ms) Q (F0 m (pc + 3) ls (.int r :: rest))) : W p l e R s m args below meth c H locs cells slots Q (F0 m pc ls st0) := by
  intro T hT X
  rcases hr T hT X with ⟨v, st₀, t, T', L, h0, X', hL, e1, e2, ⟨⟨r, u, hv, hp, hb⟩, hF⟩, st⟩ | ⟨q, st₀, t, T', L, E, ce, h0, X', hL, e1, e2, ⟨u, hp, hb, hF⟩, hce, hcv, hcl, st⟩
  · cases hv
    obtain ⟨k1, k2, k3⟩ := vx_keep h0 e1 hS hA hf hL hF
    obtain ⟨t2, a1, b1⟩ := kk r u t T'.heap (locs ++ L) e1.symm (by rw [← e2]; exact X'.warmed.alike) hp hb k1 k2 k3 T' rfl X'
    exact ⟨t2, st t2 a1, b1⟩
  · obtain ⟨k1, k2, k3⟩ := vx_keep h0 e1 hS hAX hf hL hF
    obtain ⟨t2, a1, b1⟩ := kx E ce q u t T'.heap (locs ++ L) e1.symm (by rw [← e2]; exact X'.warmed.alike) hp hb k1 k2 k3 (by rw [e1]; exact hce) hcv hcl T' rfl X'
    exact ⟨t2, st.trans a1, b1⟩
theorem vx_calll {S SX : Type} {post : Int64 → S → Prop} {px : SX → Prop} {B : S → State → Prop} {BX : String → SX → State → Prop} {AX : Nat → Prop} (hr : vx_Run p l e R s m args below meth c H locs cells slots mc ms (F0 m pc ls st0) rest (va_Ql post B A1 a) (vx_X px BX AX) free) (hS : va_S A0 H0 H locs) (hA : ∀ q, q < H.size → A1 q → A0 q) (hf : ∀ q, free q → A0 q) (hAX : ∀ q, q < H.size → AX q → A0 q)
    (kx : ∀ (E : String) (ce : Cell) (q9 : Addr) (u : SX) (t : State) (H1 : Heap) (locs1 : List Loc), t.heap = H1 → s.vm.Alike t.vm → px u → BX E u t → H.size ≤ H1.size → (∀ q : Nat, q < H.size → ¬ AX q → H1[q]? = H[q]?) → va_S A0 H0 H1 locs1 → H1[q9]? = some ce → ce.vm = .none → s.vm.findClass E = some ce.cls → vx_W p l e R s m args below meth c H1 locs1 (cells + mc) (slots + ms) Q (F0 m pc ls rest) q9)
    (kk : ∀ (r : Int64) (u : S) (t : State) (H1 : Heap) (locs1 : List Loc), t.heap = H1 → s.vm.Alike t.vm → post r u → B u t → H.size ≤ H1.size → (∀ q : Nat, q < H.size → ¬ A1 q → H1[q]? = H[q]?) → va_S A0 H0 H1 locs1 → W p l e R s m args below meth c H1 locs1 (cells + mc) (slots + ms) Q (F0 m (pc + 3) ls (.long r :: rest))) : W p l e R s m args below meth c H locs cells slots Q (F0 m pc ls st0) := by
  intro T hT X
  rcases hr T hT X with ⟨v, st₀, t, T', L, h0, X', hL, e1, e2, ⟨⟨r, u, hv, hp, hb⟩, hF⟩, st⟩ | ⟨q, st₀, t, T', L, E, ce, h0, X', hL, e1, e2, ⟨u, hp, hb, hF⟩, hce, hcv, hcl, st⟩
  · cases hv
    obtain ⟨k1, k2, k3⟩ := vx_keep h0 e1 hS hA hf hL hF
    obtain ⟨t2, a1, b1⟩ := kk r u t T'.heap (locs ++ L) e1.symm (by rw [← e2]; exact X'.warmed.alike) hp hb k1 k2 k3 T' rfl X'
    exact ⟨t2, st t2 a1, b1⟩
  · obtain ⟨k1, k2, k3⟩ := vx_keep h0 e1 hS hAX hf hL hF
    obtain ⟨t2, a1, b1⟩ := kx E ce q u t T'.heap (locs ++ L) e1.symm (by rw [← e2]; exact X'.warmed.alike) hp hb k1 k2 k3 (by rw [e1]; exact hce) hcv hcl T' rfl X'
    exact ⟨t2, st.trans a1, b1⟩
theorem vx_callf {S SX : Type} {post : UInt32 → S → Prop} {px : SX → Prop} {B : S → State → Prop} {BX : String → SX → State → Prop} {AX : Nat → Prop} (hr : vx_Run p l e R s m args below meth c H locs cells slots mc ms (F0 m pc ls st0) rest (va_Qf post B A1 a) (vx_X px BX AX) free) (hS : va_S A0 H0 H locs) (hA : ∀ q, q < H.size → A1 q → A0 q) (hf : ∀ q, free q → A0 q) (hAX : ∀ q, q < H.size → AX q → A0 q)
    (kx : ∀ (E : String) (ce : Cell) (q9 : Addr) (u : SX) (t : State) (H1 : Heap) (locs1 : List Loc), t.heap = H1 → s.vm.Alike t.vm → px u → BX E u t → H.size ≤ H1.size → (∀ q : Nat, q < H.size → ¬ AX q → H1[q]? = H[q]?) → va_S A0 H0 H1 locs1 → H1[q9]? = some ce → ce.vm = .none → s.vm.findClass E = some ce.cls → vx_W p l e R s m args below meth c H1 locs1 (cells + mc) (slots + ms) Q (F0 m pc ls rest) q9)
    (kk : ∀ (r : UInt32) (u : S) (t : State) (H1 : Heap) (locs1 : List Loc), t.heap = H1 → s.vm.Alike t.vm → post r u → B u t → H.size ≤ H1.size → (∀ q : Nat, q < H.size → ¬ A1 q → H1[q]? = H[q]?) → va_S A0 H0 H1 locs1 → W p l e R s m args below meth c H1 locs1 (cells + mc) (slots + ms) Q (F0 m (pc + 3) ls (.float r :: rest))) : W p l e R s m args below meth c H locs cells slots Q (F0 m pc ls st0) := by
  intro T hT X
  rcases hr T hT X with ⟨v, st₀, t, T', L, h0, X', hL, e1, e2, ⟨⟨r, u, hv, hp, hb⟩, hF⟩, st⟩ | ⟨q, st₀, t, T', L, E, ce, h0, X', hL, e1, e2, ⟨u, hp, hb, hF⟩, hce, hcv, hcl, st⟩
  · cases hv
    obtain ⟨k1, k2, k3⟩ := vx_keep h0 e1 hS hA hf hL hF
    obtain ⟨t2, a1, b1⟩ := kk r u t T'.heap (locs ++ L) e1.symm (by rw [← e2]; exact X'.warmed.alike) hp hb k1 k2 k3 T' rfl X'
    exact ⟨t2, st t2 a1, b1⟩
  · obtain ⟨k1, k2, k3⟩ := vx_keep h0 e1 hS hAX hf hL hF
    obtain ⟨t2, a1, b1⟩ := kx E ce q u t T'.heap (locs ++ L) e1.symm (by rw [← e2]; exact X'.warmed.alike) hp hb k1 k2 k3 (by rw [e1]; exact hce) hcv hcl T' rfl X'
    exact ⟨t2, st.trans a1, b1⟩
theorem vx_calld {S SX : Type} {post : UInt64 → S → Prop} {px : SX → Prop} {B : S → State → Prop} {BX : String → SX → State → Prop} {AX : Nat → Prop} (hr : vx_Run p l e R s m args below meth c H locs cells slots mc ms (F0 m pc ls st0) rest (va_Qd post B A1 a) (vx_X px BX AX) free) (hS : va_S A0 H0 H locs) (hA : ∀ q, q < H.size → A1 q → A0 q) (hf : ∀ q, free q → A0 q) (hAX : ∀ q, q < H.size → AX q → A0 q)
    (kx : ∀ (E : String) (ce : Cell) (q9 : Addr) (u : SX) (t : State) (H1 : Heap) (locs1 : List Loc), t.heap = H1 → s.vm.Alike t.vm → px u → BX E u t → H.size ≤ H1.size → (∀ q : Nat, q < H.size → ¬ AX q → H1[q]? = H[q]?) → va_S A0 H0 H1 locs1 → H1[q9]? = some ce → ce.vm = .none → s.vm.findClass E = some ce.cls → vx_W p l e R s m args below meth c H1 locs1 (cells + mc) (slots + ms) Q (F0 m pc ls rest) q9)
    (kk : ∀ (r : UInt64) (u : S) (t : State) (H1 : Heap) (locs1 : List Loc), t.heap = H1 → s.vm.Alike t.vm → post r u → B u t → H.size ≤ H1.size → (∀ q : Nat, q < H.size → ¬ A1 q → H1[q]? = H[q]?) → va_S A0 H0 H1 locs1 → W p l e R s m args below meth c H1 locs1 (cells + mc) (slots + ms) Q (F0 m (pc + 3) ls (.double r :: rest))) : W p l e R s m args below meth c H locs cells slots Q (F0 m pc ls st0) := by
  intro T hT X
  rcases hr T hT X with ⟨v, st₀, t, T', L, h0, X', hL, e1, e2, ⟨⟨r, u, hv, hp, hb⟩, hF⟩, st⟩ | ⟨q, st₀, t, T', L, E, ce, h0, X', hL, e1, e2, ⟨u, hp, hb, hF⟩, hce, hcv, hcl, st⟩
  · cases hv
    obtain ⟨k1, k2, k3⟩ := vx_keep h0 e1 hS hA hf hL hF
    obtain ⟨t2, a1, b1⟩ := kk r u t T'.heap (locs ++ L) e1.symm (by rw [← e2]; exact X'.warmed.alike) hp hb k1 k2 k3 T' rfl X'
    exact ⟨t2, st t2 a1, b1⟩
  · obtain ⟨k1, k2, k3⟩ := vx_keep h0 e1 hS hAX hf hL hF
    obtain ⟨t2, a1, b1⟩ := kx E ce q u t T'.heap (locs ++ L) e1.symm (by rw [← e2]; exact X'.warmed.alike) hp hb k1 k2 k3 (by rw [e1]; exact hce) hcv hcl T' rfl X'
    exact ⟨t2, st.trans a1, b1⟩
theorem vx_callv {S SX : Type} {post : S → Prop} {px : SX → Prop} {B : S → State → Prop} {BX : String → SX → State → Prop} {AX : Nat → Prop} (hr : vx_Run p l e R s m args below meth c H locs cells slots mc ms (F0 m pc ls st0) rest (va_Qv post B A1 a) (vx_X px BX AX) free) (hS : va_S A0 H0 H locs) (hA : ∀ q, q < H.size → A1 q → A0 q) (hf : ∀ q, free q → A0 q) (hAX : ∀ q, q < H.size → AX q → A0 q)
    (kx : ∀ (E : String) (ce : Cell) (q9 : Addr) (u : SX) (t : State) (H1 : Heap) (locs1 : List Loc), t.heap = H1 → s.vm.Alike t.vm → px u → BX E u t → H.size ≤ H1.size → (∀ q : Nat, q < H.size → ¬ AX q → H1[q]? = H[q]?) → va_S A0 H0 H1 locs1 → H1[q9]? = some ce → ce.vm = .none → s.vm.findClass E = some ce.cls → vx_W p l e R s m args below meth c H1 locs1 (cells + mc) (slots + ms) Q (F0 m pc ls rest) q9)
    (kk : ∀ (u : S) (t : State) (H1 : Heap) (locs1 : List Loc), t.heap = H1 → s.vm.Alike t.vm → post u → B u t → H.size ≤ H1.size → (∀ q : Nat, q < H.size → ¬ A1 q → H1[q]? = H[q]?) → va_S A0 H0 H1 locs1 → W p l e R s m args below meth c H1 locs1 (cells + mc) (slots + ms) Q (F0 m (pc + 3) ls (rest))) : W p l e R s m args below meth c H locs cells slots Q (F0 m pc ls st0) := by
  intro T hT X
  rcases hr T hT X with ⟨v, st₀, t, T', L, h0, X', hL, e1, e2, ⟨⟨u, hv, hp, hb⟩, hF⟩, st⟩ | ⟨q, st₀, t, T', L, E, ce, h0, X', hL, e1, e2, ⟨u, hp, hb, hF⟩, hce, hcv, hcl, st⟩
  · cases hv
    obtain ⟨k1, k2, k3⟩ := vx_keep h0 e1 hS hA hf hL hF
    obtain ⟨t2, a1, b1⟩ := kk u t T'.heap (locs ++ L) e1.symm (by rw [← e2]; exact X'.warmed.alike) hp hb k1 k2 k3 T' rfl X'
    exact ⟨t2, st t2 a1, b1⟩
  · obtain ⟨k1, k2, k3⟩ := vx_keep h0 e1 hS hAX hf hL hF
    obtain ⟨t2, a1, b1⟩ := kx E ce q u t T'.heap (locs ++ L) e1.symm (by rw [← e2]; exact X'.warmed.alike) hp hb k1 k2 k3 (by rw [e1]; exact hce) hcv hcl T' rfl X'
    exact ⟨t2, st.trans a1, b1⟩
/-- caught by the row x of this method's table; the rows ahead don't take it -/
theorem vx_catch {own name : String} {E : String} {ce : Cell} {q : Addr} (hown : s.vm.findClass own = some m.cls) (pre : List ExceptionTableEntry) (x : ExceptionTableEntry) (suf : List ExceptionTableEntry) (hsplit : c.exceptionTable.toList = pre ++ x :: suf)
    (hpass : ∀ z ∈ pre, covers z pc = false ∨ (z.catchType ≠ 0 ∧ ∃ nm : String, (Cond.classLink own z.catchType nm).before args s = true ∧ va_Nc E nm s)) (hx : covers x pc = true) (h0 : x.catchType ≠ 0)
    (hlink : (Cond.classLink own x.catchType name).before args s = true) (hcast : (Cond.castable E name).before args s = true) (hcell : H[q]? = some ce) (hv : ce.vm = .none) (hcl : s.vm.findClass E = some ce.cls)
    (kk : W p l e R s m args below meth c H locs cells slots Q (F0 m x.handlerPc ls [.ref q])) : vx_W p l e R s m args below meth c H locs cells slots Q (F0 m pc ls rest) q := by
  intro T hT X
  have hpl : e.platform.magicAccessors = ({} : Platform).magicAccessors := by rw [X.admits.platform]
  obtain ⟨c3, c4, hc3, hc4, hasg⟩ := Cond.castable_spec hcast
  cases Option.some.inj (hc3.symm.trans hcl)
  obtain ⟨c5, hc5, hcl5⟩ := Cond.classLink_spec hown hlink e.platform hpl
  cases Option.some.inj (hc4.symm.trans hc5)
  obtain ⟨vm', X', st⟩ := X.thenCaughtThrough q (g := F0 m pc ls rest) rfl (Steps.refl _) (by rw [hT]; exact hcell) (by rw [hv]; rfl) (by obtain ⟨k9, h9, -⟩ := Vm.findClass_spec hcl; exact ⟨k9, h9⟩) pre x suf hsplit
    (fun z hz => by
      rcases hpass z hz with h | ⟨hz0, nm, hl1, hn1⟩
      · exact Or.inl h
      · obtain ⟨c6, hc6, hcl6⟩ := Cond.classLink_spec hown hl1 e.platform hpl
        obtain ⟨a8, b8, h1, h2, h3⟩ := hn1
        cases Option.some.inj (h1.symm.trans hcl)
        cases Option.some.inj (h2.symm.trans hc6)
        exact Or.inr ⟨hz0, _, hcl6, h3⟩) hx (Or.inr ⟨h0, c4, hcl5, hasg⟩)
  obtain ⟨t, a1, b1⟩ := kk (T.setVm vm') hT X'
  exact ⟨t, st.trans a1, b1⟩
end Rows
section Ends
variable {p : Program} {l : Launch} {e : Env} {R : Room} {s : State} {m : MethodId} {args : Array Value} {below : List Frame} {meth : Method} {c : Code} {H : Heap} {locs : List Loc} {cells slots : Nat} {Q : State → Prop}
variable {mc ms : Nat} {free : Addr → Prop} {A0 A1 : Nat → Prop} {H0 : Heap} {a : Array Value} {ls : Array Slot} {st0 rest : List Value}
variable {Qc : Array Value → State → Outcome → State → Prop} {XC : String → State → State → Prop}
/-- what a body that may throw owes at its end -/
def vx_MQ (below : List Frame) (Qc : Array Value → State → Outcome → State → Prop) (XC : String → State → State → Prop) (a : Array Value) (s : State) (mc ms : Nat) (free : Addr → Prop) : State → Prop := fun t =>
  ∃ o, t.status = .running ∧ Ended t below o ∧ vx_Q Qc XC mc ms free a s o t
theorem vx_ret {g : JFrame} {mc ms : Nat} (k : W p l e R s m args below meth c H locs cells slots (MQ below Qc args s mc ms free) g) : W p l e R s m args below meth c H locs cells slots (vx_MQ below Qc XC args s mc ms free) g := by
  intro T hT X
  obtain ⟨t, a1, o, b1, b2, b3, b4⟩ := k T hT X
  exact ⟨t, a1, o, b1, b2, Or.inl ⟨b3, b4⟩⟩
/-- not caught here: it goes on to the caller -/
theorem vx_widen {g : JFrame} {q : Addr} {k n : Nat} (h1 : cells ≤ k) (h2 : slots ≤ n) (kk : vx_W p l e R s m args below meth c H locs k n Q g q) : vx_W p l e R s m args below meth c H locs cells slots Q g q := fun T hT X => kk T hT (stand_widen X h1 h2)
theorem vx_out {pc : Nat} {E : String} {ce : Cell} {q : Addr} {mc ms : Nat} (hout : ∀ x ∈ c.exceptionTable.toList, covers x pc = false) (hlocks : meth.locks = false) (hcell : H[q]? = some ce) (hv : ce.vm = .none) (hcl : s.vm.findClass E = some ce.cls)
    (hx : ∀ t : State, t.heap = H → s.vm.Alike t.vm → XC E s t) (hf : ∀ z ∈ locs, free z.base) (hc : cells ≤ mc) (hs : slots ≤ ms) :
    vx_W p l e R s m args below meth c H locs cells slots (vx_MQ below Qc XC args s mc ms free) (F0 m pc ls rest) q := by
  intro T hT X
  obtain ⟨st1, hrun, hend, hW, hsm⟩ := X.leaveThrown q (g := F0 m pc ls rest) rfl rfl rfl hout hlocks
  have hcell9 : (T.setFrames (.throwing q :: below)).heap[q]? = some ce := by
    show T.heap[q]? = some ce
    rw [hT]; exact hcell
  exact ⟨_, st1, .threw q, hrun, hend, Or.inr ⟨q, rfl, E, ce, locs, hx _ hT hW.alike, hcell9, hv, hcl, hW, hsm.mono hc hs, hf⟩⟩
theorem vx_frame {U : State} {k n : Nat} (h : s.sameButNew ({ U with vm := s.vm } : State) locs k n) : s.heap.size ≤ U.heap.size ∧ ∀ q : Nat, q < s.heap.size → (∀ z ∈ locs, z.base ≠ q) → U.heap[q]? = s.heap[q]? := by
  obtain ⟨-, h2, -, -, -, h6⟩ := h
  refine ⟨h2, fun q hq hz => ?_⟩
  obtain ⟨c9, e1, e2, e3, e4⟩ := h6 q _ (Array.getElem?_eq_getElem hq)
  have hs : c9.slots = (s.heap[q]).slots := Array.ext_getElem? fun i => e4 i fun hm => hz _ hm rfl
  have h9 : c9 = s.heap[q] := by
    rw [hs] at e2
    exact e2
  have e5 : U.heap[q]? = some c9 := e1
  rw [e5, h9, Array.getElem?_eq_getElem hq]
/-- the words of a throw but the four that speak of the heap -/
def vx_no (w : Cond) : Bool := decide (w ≠ .isRef (.static Bundle.tN "UNASSIGNED_STACK" Bundle.steD)) && decide (w ≠ .isRef (.static Bundle.tN "SUPPRESSED_SENTINEL" Bundle.listD)) && decide (w ≠ .laysStatic Bundle.tN "UNASSIGNED_STACK" Bundle.steD) && decide (w ≠ .laysStatic Bundle.tN "SUPPRESSED_SENTINEL" Bundle.listD)
def vx_at0 (own : String) (ic : Nat) (X : String) (names : List String) : List Cond := (Bundle.ownAtoms0 own ic X names).filter vx_no
def vx_atS (own : String) (ic : Nat) (X : String) (names : List String) : List Cond := (Bundle.ownAtoms own ic X names).filter vx_no
/-- a word that the tables alone decide, or a good one -/
def vx_ot (w : Cond) : Bool := w.onTables || goodWord w
theorem vx_ot_at {args a' : Array Value} {s U : State} {w : Cond} (hW : s.WarmedH U.vm) (hvm : s.vm = U.vm) (hg : vx_ot w = true) (h : w.before args s = true) : w.before a' U = true := by
  simp only [vx_ot, Bool.or_eq_true] at hg
  rcases hg with hg | hg
  · exact va_tabs hg hvm h
  · exact word_at hW (good_of_word hg) h
/-- a list's words: the good ones out of the method's own list, the others by premises of their own -/
theorem vx_hat {args : Array Value} {s : State} {L B : List Cond} (h1 : ∀ w ∈ L.filter goodWord, w.before args s = true) (h2 : ∀ w ∈ L.filter (fun w => !goodWord w), w ∈ B) (h3 : ∀ w ∈ B, w.before args s = true) : ∀ w ∈ L, w.before args s = true := by
  intro w hw
  by_cases g : goodWord w = true
  · exact h1 w (List.mem_filter.mpr ⟨hw, g⟩)
  · refine h3 w (h2 w (List.mem_filter.mpr ⟨hw, ?_⟩))
    show (!goodWord w) = true
    cases hgw : goodWord w
    · rfl
    · exact absurd hgw g
theorem vx_c {args : Array Value} {s : State} {w : Cond} {B : List Cond} (h : w.before args s = true) (t : ∀ w ∈ B, w.before args s = true) : ∀ w' ∈ w :: B, w'.before args s = true := fun w' h' => (List.mem_cons.mp h').elim (fun e => by rw [e]; exact h) (t w')
theorem vx_n {args : Array Value} {s : State} : ∀ w ∈ ([] : List Cond), w.before args s = true := fun _ h => nomatch h
theorem vx_own {args : Array Value} {s : State} {L : List Cond} (h1 : ∀ w ∈ L.filter vx_no, w.before args s = true)
    (hU : (Cond.isRef (.static Bundle.tN "UNASSIGNED_STACK" Bundle.steD)).before args s = true) (hN : (Cond.isRef (.static Bundle.tN "SUPPRESSED_SENTINEL" Bundle.listD)).before args s = true)
    (lU : (Cond.laysStatic Bundle.tN "UNASSIGNED_STACK" Bundle.steD).before args s = true) (lN : (Cond.laysStatic Bundle.tN "SUPPRESSED_SENTINEL" Bundle.listD).before args s = true) : ∀ w ∈ L, w.before args s = true := by
  intro w hw
  by_cases e1 : w = .isRef (.static Bundle.tN "UNASSIGNED_STACK" Bundle.steD)
  · rw [e1]; exact hU
  · by_cases e2 : w = .isRef (.static Bundle.tN "SUPPRESSED_SENTINEL" Bundle.listD)
    · rw [e2]; exact hN
    · by_cases e3 : w = .laysStatic Bundle.tN "UNASSIGNED_STACK" Bundle.steD
      · rw [e3]; exact lU
      · by_cases e4 : w = .laysStatic Bundle.tN "SUPPRESSED_SENTINEL" Bundle.listD
        · rw [e4]; exact lN
        · exact h1 w (List.mem_filter.mpr ⟨hw, by unfold vx_no; rw [decide_eq_true e1, decide_eq_true e2, decide_eq_true e3, decide_eq_true e4]; rfl⟩)
/-- where a static field lies, its class's statics cell in H -/
def vx_L (C n d : String) (A : Nat → Prop) (U : State) (H : Heap) : Prop := ∃ (c : ClassId) (k : Class) (i : Nat) (f : Field) (a : Nat) (cell : Cell), U.vm.findClass C = some c ∧ U.fieldFound? C n d = some (c, k, i, f) ∧ f.isStatic = true ∧ k.statics = some a ∧ H[a]? = some cell ∧ cell.vm.isStatics = true ∧ cell.cls = c ∧ f.slot < cell.slots.size ∧ k.staticTypes[f.slot]? = some f.type ∧ ¬ A a
theorem vx_L.moved {C n d : String} {A : Nat → Prop} {u U : State} {H : Heap} (hvm : u.vm.Alike U.vm) (h : vx_L C n d A u H) : vx_L C n d A U H := by
  obtain ⟨c, k, i, f, a, cell, h1, h2, h3, h4, h5, h6, h7, h8, h9, h10⟩ := h
  obtain ⟨k', hi', he⟩ := State.fieldFound?_setVm hvm h2
  exact ⟨c, k', i, f, a, cell, by rw [hvm.findClass]; exact h1, hi', h3, by rw [he]; exact h4, h5, h6, h7, h8, by rw [he]; exact h9, h10⟩
theorem vx_L.kept {C n d : String} {A : Nat → Prop} {U : State} {H H1 : Heap} (h : vx_L C n d A U H) (hq : ∀ a : Nat, a < H.size → ¬ A a → H1[a]? = H[a]?) : vx_L C n d A U H1 := by
  obtain ⟨c, k, i, f, a, cell, h1, h2, h3, h4, h5, h6, h7, h8, h9, h10⟩ := h
  exact ⟨c, k, i, f, a, cell, h1, h2, h3, h4, by rw [hq a (Array.getElem?_eq_some_iff.mp h5).1 h10]; exact h5, h6, h7, h8, h9, h10⟩
theorem vx_L.narrow {C n d : String} {A B : Nat → Prop} {U : State} {H : Heap} (h : vx_L C n d A U H) (hAB : ∀ q, B q → A q) : vx_L C n d B U H := by
  obtain ⟨c, k, i, f, a, cell, h1, h2, h3, h4, h5, h6, h7, h8, h9, h10⟩ := h
  exact ⟨c, k, i, f, a, cell, h1, h2, h3, h4, h5, h6, h7, h8, h9, fun z => h10 (hAB _ z)⟩
theorem vx_L.word {C n d : String} {A : Nat → Prop} {s : State} {args : Array Value} (h : vx_L C n d A s s.heap) : (Cond.laysStatic C n d).before args s = true := by
  obtain ⟨c, k, i, f, a, cell, h1, h2, h3, h4, h5, h6, h7, h8, h9, -⟩ := h
  show (Cond.laysStatic C n d).holds args s none s [] = true
  exact Cond.laysStatic_of h1 h2 h3 h4 h5 h6 h7 h8 h9
/-- .. and what it holds: null or some reference -/
def vx_Zq (C n d : String) (A : Nat → Prop) (U : State) (H : Heap) : Prop := va_Zq C n d A U H ∧ vx_L C n d A U H
theorem vx_Zq.moved {C n d : String} {A : Nat → Prop} {u U : State} {H : Heap} (hvm : u.vm.Alike U.vm) (h : vx_Zq C n d A u H) : vx_Zq C n d A U H := ⟨va_Zq.moved hvm h.1, vx_L.moved hvm h.2⟩
theorem vx_Zq.kept {C n d : String} {A : Nat → Prop} {U : State} {H H1 : Heap} (h : vx_Zq C n d A U H) (hq : ∀ a : Nat, a < H.size → ¬ A a → H1[a]? = H[a]?) : vx_Zq C n d A U H1 := ⟨va_Zq.kept h.1 hq, vx_L.kept h.2 hq⟩
theorem vx_Zq.narrow {C n d : String} {A B : Nat → Prop} {U : State} {H : Heap} (h : vx_Zq C n d A U H) (hAB : ∀ q, B q → A q) : vx_Zq C n d B U H := ⟨va_Zq.narrow h.1 hAB, vx_L.narrow h.2 hAB⟩
theorem vx_Zqof {args : Array Value} {s : State} {C n d : String} {A : Nat → Prop} (hl : (Cond.laysStatic C n d).before args s = true) (hini : (Cond.initialized C).before args s = true) (h : (Cond.isRef (.static C n d)).before args s = true) (hA : ∀ a : Nat, a < s.heap.size → ¬ A a) : vx_Zq C n d A s s.heap := by
  refine ⟨va_Zqof hl hini h hA, ?_⟩
  obtain ⟨c, k, i, f, a, cell, h1, h2, h3, h4, h5, h6, h7, h8, h9⟩ := Cond.laysStatic_spec hl
  exact ⟨c, k, i, f, a, cell, h1, h2, h3, h4, h5, h6, h7, h8, h9, hA a (Array.getElem?_eq_some_iff.mp h5).1⟩
theorem vx_isRef {C n d : String} {v : Value} {A : Nat → Prop} {s : State} {args : Array Value} (h : va_Z C n d v A s s.heap) (hv : v.isRef = true) : (Cond.isRef (.static C n d)).before args s = true := by
  obtain ⟨cf, kf, fi, f, a, cell, h1, h2, h3, h4, h5, h6, h7, -⟩ := h
  have he : (Term.static C n d).eval args s none [] s = some v := by
    simp [Term.eval, State.fieldNamed?, h1, h2, h4, h5, h6, h7]
  simp only [Cond.before, Cond.holds, Cond.value, he]
  cases v <;> simp_all [Value.isRef]
theorem vx_isRefq {C n d : String} {A : Nat → Prop} {s : State} {args : Array Value} (h : va_Zq C n d A s s.heap) : (Cond.isRef (.static C n d)).before args s = true := by
  rcases h with h | ⟨t, h⟩
  · exact vx_isRef h rfl
  · exact vx_isRef h rfl
/-- the same frame, seen from here: as if the method were called anew in this heap -/
theorem vx_rebase {T : State} (X : Stand p l e R s m args below meth c T locs cells slots) {R' : Room} (hf : R'.frames ≤ R.frames) (hl : R'.locals ≤ R.locals) (hc : cells + R'.cells ≤ R.cells) (hs : slots + R'.slots ≤ R.slots) :
    Stand p l e R' ((T.setVm s.vm).setFrames (.invoking m args :: below)) m args below meth c T [] 0 0 := by
  have htop : (T.setVm s.vm).topJava?.isSome := X.here.top
  have hF : ((T.setVm s.vm).setFrames (.invoking m args :: below)).frames = .invoking m args :: below := State.frames_setFrames _ (State.cur_lt_of_top htop)
  obtain ⟨g₀, hg0⟩ := Option.isSome_iff_exists.mp htop
  obtain ⟨r, hr⟩ := State.topJava?_eq_some.mp hg0
  have hl9 : e.platform.stackLimits (T.setVm s.vm).me = e.platform.stackLimits s.me := X.limits
  have hb9 : (T.setVm s.vm).me.stackBytes = s.me.stackBytes := X.bytes
  refine ⟨X.admits, X.cas, X.clock, hF, ?_, X.hears, X.method, X.code, X.here, X.tail, X.warmed, ?_, ?_, ?_⟩
  · have h := X.room
    have hU : ((T.setVm s.vm).setFrames (.invoking m args :: below)).localsInUse = s.localsInUse := by
      rw [State.localsInUse_invoking hF (meth := meth) (c := c) X.method X.code, State.localsInUse_invoking X.frames X.method X.code]
    simp only [State.hasRoom, Bool.and_eq_true, decide_eq_true_eq] at h ⊢
    obtain ⟨⟨⟨⟨h1, h2, h3, h4, h5, h6⟩, h7⟩, h8⟩, h9⟩ := h
    rw [X.frames, List.length_cons] at h2 h3
    have q1 := X.heapSize
    have q2 := X.used
    simp only [hF, hU, List.length_cons, State.stackLimits_setFrames, State.stackBytes_setFrames, hl9, hb9]
    refine ⟨⟨⟨⟨by omega, by omega, by omega, by omega, by omega, h6⟩, ?_⟩, ?_⟩, X.book⟩
    · show T.heap.size + R'.cells ≤ e.platform.maxCells
      omega
    · show T.slotsUsed + R'.slots ≤ e.platform.maxSlots
      omega
  · rw [State.stackLimits_setFrames]; rfl
  · rw [State.stackBytes_setFrames]; rfl
  · refine ⟨?_, Nat.le_refl _, Nat.le_refl _, ?_, ?_, fun a c9 h9 => ⟨c9, h9, rfl, rfl, fun _ _ => rfl⟩⟩
    · obtain ⟨t, ht, -⟩ := State.frames_cons hr
      show T.setVm s.vm = { ((T.setVm s.vm).setFrames (.invoking m args :: below)).setFrames (T.setVm s.vm).frames with heap := T.heap, slotsUsed := T.slotsUsed }
      rw [State.setFrames_setFrames, State.setFrames_self ht]
      rfl
    · show T.slotsUsed = T.slotsUsed + ((T.heap.toList.drop T.heap.size).map (·.slots.size)).sum
      rw [List.drop_eq_nil_of_le (Nat.le_of_eq Array.length_toList)]
      rfl
    · show ((T.heap.toList.drop T.heap.size).map (·.slots.size)).sum ≤ 0
      rw [List.drop_eq_nil_of_le (Nat.le_of_eq Array.length_toList)]
      exact Nat.le_refl _
/-- 'throw new E()': new; dup; invokespecial; athrow -/
theorem vx_throw0 {cc : ByteArray} {pc : Nat} (hexec : p.tables.exec = Jvm.exec) (hb : c.code = cc) (hl : l.stackTraces = false) {own cls : String} {names : List String} {ik ic mc ms : Nat} {A : Nat → Prop}
    (hown : s.vm.findClass own = some m.cls) (hcls : Bundle.fit cls = true) (hnames : ∀ n ∈ names, Bundle.fit n = true)
    (hk : (Cond.classLink own ik cls).before args s = true) (hini : (Cond.initialized cls).before args s = true) (hat : ∀ w ∈ vx_at0 own ic cls names, w.before args s = true)
    (hgood : ∀ w ∈ Cond.classLink own ik cls :: Cond.initialized cls :: vx_at0 own ic cls names, vx_ot w = true)
    (hU : vx_Zq Bundle.tN "UNASSIGNED_STACK" Bundle.steD A s s.heap) (hN : vx_Zq Bundle.tN "SUPPRESSED_SENTINEL" Bundle.listD A s s.heap) (hS : va_S A s.heap H locs) (hsize : ls.size = c.maxLocals)
    (d0 : decode cc pc = .ok (.new ik, 3)) (d3 : decode cc (pc + 3) = .ok (.dup, 1)) (d4 : decode cc (pc + 4) = .ok (.invokespecial ic, 3)) (d7 : decode cc (pc + 7) = .ok (.athrow, 1))
    (hout : ∀ x ∈ c.exceptionTable.toList, covers x (pc + 7) = false)
    (hRframes : names.length + 3 < R.frames) (hRlocals : (rest.map fun v => v.category).sum + (13 * (names.length + 1) + 42) ≤ R.locals) (hRcells : cells + 1 ≤ R.cells) (hRslots : slots + 6 ≤ R.slots) (hlocks : meth.locks = false)
    (hx : ∀ t : State, s.vm.Alike t.vm → H.size ≤ t.heap.size → (∀ q : Nat, q < H.size → t.heap[q]? = H[q]?) → XC cls s t)
    (hf : ∀ z ∈ locs, free z.base) (hc : cells + 1 ≤ mc) (hs : slots + 6 ≤ ms) :
    W p l e R s m args below meth c H locs cells slots (vx_MQ below Qc XC args s mc ms free) (F0 m pc ls rest) := by
  intro T hT X
  have htr : e.platform.stackTraces = false := (show e.platform.stackTraces = l.stackTraces by rw [X.admits.platform]).trans hl
  have Y := vx_rebase X (R' := { frames := R.frames, locals := R.locals, cells := 1, slots := 6 }) (Nat.le_refl _) (Nat.le_refl _) hRcells hRslots
  obtain ⟨s', hA⟩ : ∃ z, z = (T.setVm s.vm).setFrames (.invoking m args :: below) := ⟨_, rfl⟩
  rw [← hA] at Y
  have hvm : s'.vm = s.vm := by rw [hA]; rfl
  have hhp : s'.heap = H := by rw [hA]; exact hT
  have hW0 : s.WarmedH s'.vm := by rw [hvm]; exact State.WarmedH.refl s
  have hat' : ∀ w ∈ vx_at0 own ic cls names, w.before args s' = true := fun w hw => vx_ot_at hW0 hvm.symm (hgood w (List.mem_cons_of_mem _ (List.mem_cons_of_mem _ hw))) (hat w hw)
  have hk' : (Cond.classLink own ik cls).before args s' = true := vx_ot_at hW0 hvm.symm (hgood _ List.mem_cons_self) hk
  have hini' : (Cond.initialized cls).before args s' = true := vx_ot_at hW0 hvm.symm (hgood _ (List.mem_cons_of_mem _ List.mem_cons_self)) hini
  have hU' : vx_Zq Bundle.tN "UNASSIGNED_STACK" Bundle.steD A s' s'.heap := by rw [hhp]; exact vx_Zq.moved hW0.alike (hU.kept hS.2.1)
  have hN' : vx_Zq Bundle.tN "SUPPRESSED_SENTINEL" Bundle.listD A s' s'.heap := by rw [hhp]; exact vx_Zq.moved hW0.alike (hN.kept hS.2.1)
  have h : ∀ w ∈ Bundle.ownAtoms0 own ic cls names, w.before args s' = true := vx_own hat' (vx_isRefq hU'.1) (vx_isRefq hN'.1) hU'.2.word hN'.2.word
  have hown' : s'.vm.findClass own = some m.cls := by rw [hvm]; exact hown
  have hins : (Cond.instantiable cls 6).before args s' = true := h _ (by simp [Bundle.ownAtoms0])
  obtain ⟨vm₁, cX, kX, hfX, hkX, -, -, X₁, st1⟩ := Y.newCold hexec (own := own) (C := cls) (index := ik) (n := 6) hown' hk' hins hini'
    (g := F0 m pc ls rest) rfl (by rw [hb]; exact d0) (Nat.le_refl _) (Nat.le_refl _)
  generalize hT1 : (T.setVm vm₁).pushCell { cls := cX, slots := kX.instanceTypes.map defaultValue, vm := .none } = T1 at X₁ st1
  have hcat : (Value.ref T.heap.size).category = 1 := rfl
  have hcellA : T1.heap[T.heap.size]? = some (freshCell cX kX) := by rw [← hT1]; exact State.heap_pushCell_size _ _
  have d3' : decode c.code (pc + 3) = .ok (.dup, 1) := by rw [hb]; exact d3
  obtain ⟨U, hsteps, hrun, hend, hW, hsame, ce, hce, hO⟩ := X₁.ctorThrow0 hexec htr (own := own) (cls := cls) (names := names) (ic := ic) hown' hcls hnames h (fun x hx => nomatch hx) hfX hkX hcellA (by rw [hhp, hT]; exact Nat.le_refl _)
    (g := { method := m, pc := pc + 4, locals := ls, stack := .ref T.heap.size :: .ref T.heap.size :: rest, locked := none }) rfl hsize rfl rfl (rest := rest) rfl
    (by rw [hb]; exact d4) (by rw [hb]; exact d7) hout hRframes (by simp only [List.map_cons, List.sum_cons, hcat]; omega) hlocks
  obtain ⟨f1, f2⟩ := vx_frame hsame
  rw [hhp] at f1 f2
  have hWs : s.WarmedH U.vm := State.WarmedH.trans hW0 hW
  have hcl : s.vm.findClass cls = some ce.cls := by
    have h9 := hO.cls
    rw [hvm] at h9
    exact h9
  have hall : s.sameButNew ({ U with vm := s.vm } : State) locs mc ms := by
    subst hA
    obtain ⟨e1, e2⟩ := hsame
    rw [State.setFrames_setFrames] at e1
    have h2 : (T.setVm s.vm).sameButNew ({ U with vm := s.vm } : State) [] (0 + 1) (0 + 6) := ⟨e1, e2⟩
    have h3 := X.same.trans h2
    rw [List.append_nil] at h3
    exact h3.mono hc hs
  refine ⟨U, ?_, .threw T.heap.size, hrun, hend, Or.inr ⟨T.heap.size, rfl, cls, ce, locs, hx U hWs.alike f1 (fun q hq => f2 q hq (fun z hz => nomatch hz)), hce, hO.vm, hcl, hWs, hall, hf⟩⟩
  refine st1 _ ?_
  show Steps p.tables e below (T1.setTop { method := m, pc := pc + 3, locals := ls, stack := .ref T.heap.size :: rest, locked := none }) _
  jvm_step X₁.here [X₁.here.top, hexec, d3', Value.category]
  exact hsteps
/-- 'throw new E("text")': new; dup; ldc; invokespecial; athrow -/
theorem vx_throwS {cc : ByteArray} {pc : Nat} (hexec : p.tables.exec = Jvm.exec) (hb : c.code = cc) (hl : l.stackTraces = false) {own cls text : String} {names : List String} {ik is ic mc ms sa : Nat} {A : Nat → Prop}
    (hown : s.vm.findClass own = some m.cls) (hcls : Bundle.fit cls = true) (hnames : ∀ n ∈ names, Bundle.fit n = true)
    (hk : (Cond.classLink own ik cls).before args s = true) (hini : (Cond.initialized cls).before args s = true) (hstr : vk_R own is text sa s) (hat : ∀ w ∈ vx_atS own ic cls names, w.before args s = true)
    (hgood : ∀ w ∈ Cond.classLink own ik cls :: Cond.initialized cls :: vx_atS own ic cls names, vx_ot w = true)
    (hU : vx_Zq Bundle.tN "UNASSIGNED_STACK" Bundle.steD A s s.heap) (hN : vx_Zq Bundle.tN "SUPPRESSED_SENTINEL" Bundle.listD A s s.heap) (hS : va_S A s.heap H locs) (hsize : ls.size = c.maxLocals)
    (d0 : decode cc pc = .ok (.new ik, 3)) (d3 : decode cc (pc + 3) = .ok (.dup, 1)) (d4 : decode cc (pc + 4) = .ok (.ldc is, 2)) (d6 : decode cc (pc + 6) = .ok (.invokespecial ic, 3)) (d9 : decode cc (pc + 9) = .ok (.athrow, 1))
    (hout : ∀ x ∈ c.exceptionTable.toList, covers x (pc + 9) = false)
    (hRframes : names.length + 3 < R.frames) (hRlocals : (rest.map fun v => v.category).sum + (13 * (names.length + 1) + 43) ≤ R.locals) (hRcells : cells + 1 ≤ R.cells) (hRslots : slots + 6 ≤ R.slots) (hlocks : meth.locks = false)
    (hx : ∀ t : State, s.vm.Alike t.vm → H.size ≤ t.heap.size → (∀ q : Nat, q < H.size → t.heap[q]? = H[q]?) → XC cls s t)
    (hf : ∀ z ∈ locs, free z.base) (hc : cells + 1 ≤ mc) (hs : slots + 6 ≤ ms) :
    W p l e R s m args below meth c H locs cells slots (vx_MQ below Qc XC args s mc ms free) (F0 m pc ls rest) := by
  intro T hT X
  have htr : e.platform.stackTraces = false := (show e.platform.stackTraces = l.stackTraces by rw [X.admits.platform]).trans hl
  have Y := vx_rebase X (R' := { frames := R.frames, locals := R.locals, cells := 1, slots := 6 }) (Nat.le_refl _) (Nat.le_refl _) hRcells hRslots
  obtain ⟨s', hA⟩ : ∃ z, z = (T.setVm s.vm).setFrames (.invoking m args :: below) := ⟨_, rfl⟩
  rw [← hA] at Y
  have hvm : s'.vm = s.vm := by rw [hA]; rfl
  have hhp : s'.heap = H := by rw [hA]; exact hT
  have hW0 : s.WarmedH s'.vm := by rw [hvm]; exact State.WarmedH.refl s
  have hat' : ∀ w ∈ vx_atS own ic cls names, w.before args s' = true := fun w hw => vx_ot_at hW0 hvm.symm (hgood w (List.mem_cons_of_mem _ (List.mem_cons_of_mem _ hw))) (hat w hw)
  have hk' : (Cond.classLink own ik cls).before args s' = true := vx_ot_at hW0 hvm.symm (hgood _ List.mem_cons_self) hk
  have hini' : (Cond.initialized cls).before args s' = true := vx_ot_at hW0 hvm.symm (hgood _ (List.mem_cons_of_mem _ List.mem_cons_self)) hini
  have hU' : vx_Zq Bundle.tN "UNASSIGNED_STACK" Bundle.steD A s' s'.heap := by rw [hhp]; exact vx_Zq.moved hW0.alike (hU.kept hS.2.1)
  have hN' : vx_Zq Bundle.tN "SUPPRESSED_SENTINEL" Bundle.listD A s' s'.heap := by rw [hhp]; exact vx_Zq.moved hW0.alike (hN.kept hS.2.1)
  have h : ∀ w ∈ Bundle.ownAtoms own ic cls names, w.before args s' = true := vx_own hat' (vx_isRefq hU'.1) (vx_isRefq hN'.1) hU'.2.word hN'.2.word
  have hown' : s'.vm.findClass own = some m.cls := by rw [hvm]; exact hown
  have hins : (Cond.instantiable cls 6).before args s' = true := h _ (by simp [Bundle.ownAtoms])
  obtain ⟨vm₁, cX, kX, hfX, hkX, -, -, X₁, st1⟩ := Y.newCold hexec (own := own) (C := cls) (index := ik) (n := 6) hown' hk' hins hini'
    (g := F0 m pc ls rest) rfl (by rw [hb]; exact d0) (Nat.le_refl _) (Nat.le_refl _)
  generalize hT1 : (T.setVm vm₁).pushCell { cls := cX, slots := kX.instanceTypes.map defaultValue, vm := .none } = T1 at X₁ st1
  have hcat : (Value.ref T.heap.size).category = 1 := rfl
  have hcellA : T1.heap[T.heap.size]? = some (freshCell cX kX) := by rw [← hT1]; exact State.heap_pushCell_size _ _
  have d3' : decode c.code (pc + 3) = .ok (.dup, 1) := by rw [hb]; exact d3
  have d4' : decode c.code (pc + 4) = .ok (.ldc is, 2) := by rw [hb]; exact d4
  have hstr' : vk_R own is text sa s' := vk_R.warm hW0 hstr
  obtain ⟨U, hsteps, hrun, hend, hW, hsame, ce, hce, hO⟩ := X₁.ctorThrowS hexec htr (own := own) (cls := cls) (names := names) (ic := ic) hown' hcls hnames h (fun x hx => nomatch hx) hfX hkX hcellA (by rw [hhp, hT]; exact Nat.le_refl _) (msg := .ref sa) rfl
    (g := { method := m, pc := pc + 6, locals := ls, stack := .ref sa :: .ref T.heap.size :: .ref T.heap.size :: rest, locked := none }) rfl hsize rfl rfl (rest := rest) rfl
    (by rw [hb]; exact d6) (by rw [hb]; exact d9) hout hRframes (by simp only [List.map_cons, List.sum_cons, hcat]; omega) hlocks
  obtain ⟨f1, f2⟩ := vx_frame hsame
  rw [hhp] at f1 f2
  have hWs : s.WarmedH U.vm := State.WarmedH.trans hW0 hW
  have hcl : s.vm.findClass cls = some ce.cls := by
    have h9 := hO.cls
    rw [hvm] at h9
    exact h9
  have hall : s.sameButNew ({ U with vm := s.vm } : State) locs mc ms := by
    subst hA
    obtain ⟨e1, e2⟩ := hsame
    rw [State.setFrames_setFrames] at e1
    have h2 : (T.setVm s.vm).sameButNew ({ U with vm := s.vm } : State) [] (0 + 1) (0 + 6) := ⟨e1, e2⟩
    have h3 := X.same.trans h2
    rw [List.append_nil] at h3
    exact h3.mono hc hs
  refine ⟨U, ?_, .threw T.heap.size, hrun, hend, Or.inr ⟨T.heap.size, rfl, cls, ce, locs, hx U hWs.alike f1 (fun q hq => f2 q hq (fun z hz => nomatch hz)), hce, hO.vm, hcl, hWs, hall, hf⟩⟩
  refine st1 _ ?_
  show Steps p.tables e below (T1.setTop { method := m, pc := pc + 3, locals := ls, stack := .ref T.heap.size :: rest, locked := none }) _
  jvm_step X₁.here [X₁.here.top, hexec, d3', Value.category]
  exact X₁.ldcString hexec (own := own) (text := text) (index := is) (a := sa) hown' hstr'.1 hstr'.2
    (g := { method := m, pc := pc + 4, locals := ls, stack := .ref T.heap.size :: .ref T.heap.size :: rest, locked := none }) rfl d4' _ hsteps
/-- 'throw new E("text")', the text by a wide index -/
theorem vx_throwSW {cc : ByteArray} {pc : Nat} (hexec : p.tables.exec = Jvm.exec) (hb : c.code = cc) (hl : l.stackTraces = false) {own cls text : String} {names : List String} {ik is ic mc ms sa : Nat} {A : Nat → Prop}
    (hown : s.vm.findClass own = some m.cls) (hcls : Bundle.fit cls = true) (hnames : ∀ n ∈ names, Bundle.fit n = true)
    (hk : (Cond.classLink own ik cls).before args s = true) (hini : (Cond.initialized cls).before args s = true) (hstr : vk_R own is text sa s) (hat : ∀ w ∈ vx_atS own ic cls names, w.before args s = true)
    (hgood : ∀ w ∈ Cond.classLink own ik cls :: Cond.initialized cls :: vx_atS own ic cls names, vx_ot w = true)
    (hU : vx_Zq Bundle.tN "UNASSIGNED_STACK" Bundle.steD A s s.heap) (hN : vx_Zq Bundle.tN "SUPPRESSED_SENTINEL" Bundle.listD A s s.heap) (hS : va_S A s.heap H locs) (hsize : ls.size = c.maxLocals)
    (d0 : decode cc pc = .ok (.new ik, 3)) (d3 : decode cc (pc + 3) = .ok (.dup, 1)) (d4 : decode cc (pc + 4) = .ok (.ldc_w is, 3)) (d7 : decode cc (pc + 7) = .ok (.invokespecial ic, 3)) (d10 : decode cc (pc + 10) = .ok (.athrow, 1))
    (hout : ∀ x ∈ c.exceptionTable.toList, covers x (pc + 10) = false)
    (hRframes : names.length + 3 < R.frames) (hRlocals : (rest.map fun v => v.category).sum + (13 * (names.length + 1) + 43) ≤ R.locals) (hRcells : cells + 1 ≤ R.cells) (hRslots : slots + 6 ≤ R.slots) (hlocks : meth.locks = false)
    (hx : ∀ t : State, s.vm.Alike t.vm → H.size ≤ t.heap.size → (∀ q : Nat, q < H.size → t.heap[q]? = H[q]?) → XC cls s t)
    (hf : ∀ z ∈ locs, free z.base) (hc : cells + 1 ≤ mc) (hs : slots + 6 ≤ ms) :
    W p l e R s m args below meth c H locs cells slots (vx_MQ below Qc XC args s mc ms free) (F0 m pc ls rest) := by
  intro T hT X
  have htr : e.platform.stackTraces = false := (show e.platform.stackTraces = l.stackTraces by rw [X.admits.platform]).trans hl
  have Y := vx_rebase X (R' := { frames := R.frames, locals := R.locals, cells := 1, slots := 6 }) (Nat.le_refl _) (Nat.le_refl _) hRcells hRslots
  obtain ⟨s', hA⟩ : ∃ z, z = (T.setVm s.vm).setFrames (.invoking m args :: below) := ⟨_, rfl⟩
  rw [← hA] at Y
  have hvm : s'.vm = s.vm := by rw [hA]; rfl
  have hhp : s'.heap = H := by rw [hA]; exact hT
  have hW0 : s.WarmedH s'.vm := by rw [hvm]; exact State.WarmedH.refl s
  have hat' : ∀ w ∈ vx_atS own ic cls names, w.before args s' = true := fun w hw => vx_ot_at hW0 hvm.symm (hgood w (List.mem_cons_of_mem _ (List.mem_cons_of_mem _ hw))) (hat w hw)
  have hk' : (Cond.classLink own ik cls).before args s' = true := vx_ot_at hW0 hvm.symm (hgood _ List.mem_cons_self) hk
  have hini' : (Cond.initialized cls).before args s' = true := vx_ot_at hW0 hvm.symm (hgood _ (List.mem_cons_of_mem _ List.mem_cons_self)) hini
  have hU' : vx_Zq Bundle.tN "UNASSIGNED_STACK" Bundle.steD A s' s'.heap := by rw [hhp]; exact vx_Zq.moved hW0.alike (hU.kept hS.2.1)
  have hN' : vx_Zq Bundle.tN "SUPPRESSED_SENTINEL" Bundle.listD A s' s'.heap := by rw [hhp]; exact vx_Zq.moved hW0.alike (hN.kept hS.2.1)
  have h : ∀ w ∈ Bundle.ownAtoms own ic cls names, w.before args s' = true := vx_own hat' (vx_isRefq hU'.1) (vx_isRefq hN'.1) hU'.2.word hN'.2.word
  have hown' : s'.vm.findClass own = some m.cls := by rw [hvm]; exact hown
  have hins : (Cond.instantiable cls 6).before args s' = true := h _ (by simp [Bundle.ownAtoms])
  obtain ⟨vm₁, cX, kX, hfX, hkX, -, -, X₁, st1⟩ := Y.newCold hexec (own := own) (C := cls) (index := ik) (n := 6) hown' hk' hins hini'
    (g := F0 m pc ls rest) rfl (by rw [hb]; exact d0) (Nat.le_refl _) (Nat.le_refl _)
  generalize hT1 : (T.setVm vm₁).pushCell { cls := cX, slots := kX.instanceTypes.map defaultValue, vm := .none } = T1 at X₁ st1
  have hcat : (Value.ref T.heap.size).category = 1 := rfl
  have hcellA : T1.heap[T.heap.size]? = some (freshCell cX kX) := by rw [← hT1]; exact State.heap_pushCell_size _ _
  have d3' : decode c.code (pc + 3) = .ok (.dup, 1) := by rw [hb]; exact d3
  have d4' : decode c.code (pc + 4) = .ok (.ldc_w is, 3) := by rw [hb]; exact d4
  have hstr' : vk_R own is text sa s' := vk_R.warm hW0 hstr
  obtain ⟨U, hsteps, hrun, hend, hW, hsame, ce, hce, hO⟩ := X₁.ctorThrowS hexec htr (own := own) (cls := cls) (names := names) (ic := ic) hown' hcls hnames h (fun x hx => nomatch hx) hfX hkX hcellA (by rw [hhp, hT]; exact Nat.le_refl _) (msg := .ref sa) rfl
    (g := { method := m, pc := pc + 7, locals := ls, stack := .ref sa :: .ref T.heap.size :: .ref T.heap.size :: rest, locked := none }) rfl hsize rfl rfl (rest := rest) rfl
    (by rw [hb]; exact d7) (by rw [hb]; exact d10) hout hRframes (by simp only [List.map_cons, List.sum_cons, hcat]; omega) hlocks
  obtain ⟨f1, f2⟩ := vx_frame hsame
  rw [hhp] at f1 f2
  have hWs : s.WarmedH U.vm := State.WarmedH.trans hW0 hW
  have hcl : s.vm.findClass cls = some ce.cls := by
    have h9 := hO.cls
    rw [hvm] at h9
    exact h9
  have hall : s.sameButNew ({ U with vm := s.vm } : State) locs mc ms := by
    subst hA
    obtain ⟨e1, e2⟩ := hsame
    rw [State.setFrames_setFrames] at e1
    have h2 : (T.setVm s.vm).sameButNew ({ U with vm := s.vm } : State) [] (0 + 1) (0 + 6) := ⟨e1, e2⟩
    have h3 := X.same.trans h2
    rw [List.append_nil] at h3
    exact h3.mono hc hs
  refine ⟨U, ?_, .threw T.heap.size, hrun, hend, Or.inr ⟨T.heap.size, rfl, cls, ce, locs, hx U hWs.alike f1 (fun q hq => f2 q hq (fun z hz => nomatch hz)), hce, hO.vm, hcl, hWs, hall, hf⟩⟩
  refine st1 _ ?_
  show Steps p.tables e below (T1.setTop { method := m, pc := pc + 3, locals := ls, stack := .ref T.heap.size :: rest, locked := none }) _
  jvm_step X₁.here [X₁.here.top, hexec, d3', Value.category]
  exact X₁.ldcStringW hexec (own := own) (text := text) (index := is) (a := sa) hown' hstr'.1 hstr'.2
    (g := { method := m, pc := pc + 4, locals := ls, stack := .ref T.heap.size :: .ref T.heap.size :: rest, locked := none }) rfl d4' _ hsteps
end Ends
section Bodies
variable {l : Launch}
theorem vx_ofW {y : MethodName} {ws ws' : List Cond} {rm : Room} {Pc : Array Value → State → Prop} {Qc : Array Value → State → Outcome → State → Prop} {XC : String → State → State → Prop} {mc ms : Nat} {free : Addr → Prop} {cc : ByteArray} {maxL : Nat} {ret : Option FieldType}
    (hy : plainName y.cls = true) (hw : ws = Cond.code y cc maxL ret :: ws')
    (body : ∀ p e s m args below meth c s₁, BodyLoose p l y (headSpec ws rm) cc maxL ret e s m args below meth c s₁ → c.maxLocals = maxL → (∀ x ∈ c.exceptionTable.toList, False) → Pc args s →
      W p l e (headSpec ws rm).room s m args below meth c s.heap [] 0 0 (vx_MQ below Qc XC args s mc ms free) (entryFrame m args maxL)) : vx_Met l y ws rm Pc Qc XC mc ms free := by
  refine MetFree.of_bodyS (code := cc) (maxLocals := maxL) (ret := ret) hy ?_ ?_
  · intro args s m h hn
    obtain ⟨meth, c, h1, h2, h3, h4, h5, h6, -, -⟩ := Cond.code_spec hn (atoms_spec (ws := ws) h _ (by rw [hw]; exact List.mem_cons_self))
    exact ⟨meth, c, h1, h2, h3, h4, h5, h6⟩
  · intro p e s m args below meth c s₁ B hml hP _
    have hh0 : s₁.heap = s.heap := by rw [B.state]; rfl
    have ht : ∀ x ∈ c.exceptionTable.toList, False := by
      obtain ⟨meth9, c9, h1, h2, -, -, -, -, h7, -⟩ := Cond.code_spec B.named (atoms_spec (ws := ws) B.pre _ (by rw [hw]; exact List.mem_cons_self))
      cases Option.some.inj (h1.symm.trans B.method)
      cases Option.some.inj (h2.symm.trans (Stand.of_body B).code)
      intro x hx
      rw [Array.isEmpty_iff.mp h7] at hx
      cases hx
    obtain ⟨t, a1, o, b1, b2, b3⟩ := body p e s m args below meth c s₁ B hml ht hP s₁ hh0 (Stand.of_body B)
    exact ⟨t, o, a1, b1, b2, b3⟩
/-- the table of a body with handlers -/
theorem vx_table {p : Program} {x y : MethodName} {S : Spec} {cc bytes : ByteArray} {maxL maxL' : Nat} {ret ret' : Option FieldType} {e : Env} {s s₁ : State} {m : MethodId} {args : Array Value} {below : List Frame} {meth : Method} {c : Code} {hh : List (Nat × Nat × Nat × Nat)}
    (B : BodyLoose p l y S cc maxL ret e s m args below meth c s₁) (h : (Cond.codeWith y bytes maxL' ret' hh).before args s = true) : c.exceptionTable.toList = tableOf hh := by
  obtain ⟨m9, meth9, c9, hn9, h1, h2, -, -, h6, -⟩ := Cond.codeWith_spec h
  cases Option.some.inj (hn9.symm.trans B.named)
  cases Option.some.inj (h1.symm.trans B.method)
  cases Option.some.inj (h2.symm.trans (Stand.of_body B).code)
  rw [← h6, table_eq]
end Bodies
end VXA
/-! ===== END ===== -/
/-! ===== BEGIN a static call of a method with an exception table ===== -/
section VXS
variable {p : Program} {l : Launch} {e : Env} {R : Room} {s : State} {m : MethodId} {args : Array Value} {below : List Frame} {meth : Method} {c : Code} {T : State} {H : Heap} {locs : List Loc} {cells slots : Nat}
abbrev vx_CSW (R : Room) (s : State) (args : Array Value) (own : String) (index : Nat) (y : MethodName) (bytes : ByteArray) (maxL : Nat) (ret : Option FieldType) (hh : List (Nat × Nat × Nat × Nat)) (ws : List Cond) (rm : Room) (mc ms n : Nat) : Prop :=
  (rm.cells = mc ∧ rm.slots = ms ∧ rm.frames + 1 ≤ R.frames ∧ 8 + (maxL + 11) + rm.locals ≤ R.locals ∧ (∀ w ∈ ws, ∀ (a' : Array Value) (U : State), s.WarmedH U.vm → w.before a' U = true) ∧ Cond.codeWith y bytes maxL ret hh ∈ ws) ∧
  (Cond.codeWith y bytes maxL ret hh).before args s = true ∧ (Cond.initialized y.cls).before args s = true ∧ (y.cls ≠ "java/lang/invoke/MethodHandle" ∧ y.cls ≠ "java/lang/invoke/VarHandle") ∧
  (∀ sig, parseMethodDescriptor y.desc = some sig → n = sig.parameters.length) ∧ (Cond.methodLink own index y).before args s = true ∧ (Cond.static y).before args s = true
theorem vx_cwSW {own : String} {index maxL mc ms : Nat} {y : MethodName} {bytes : ByteArray} {ret : Option FieldType} {hh : List (Nat × Nat × Nat × Nat)} {Ts ws ws' : List Cond} {rm : Room} (n : Nat) (ht : ∀ w ∈ Ts, w.before args s = true) (hT : GoodIn Ts (va_wsS own index y ws)) (hw : ws = Cond.codeWith y bytes maxL ret hh :: ws') (hrc : rm.cells = mc) (hrs : rm.slots = ms)
    (hd : y.cls ≠ "java/lang/invoke/MethodHandle" ∧ y.cls ≠ "java/lang/invoke/VarHandle" ∧ (parseMethodDescriptor y.desc).map (fun d => d.parameters.length) = some n) (hR : rm.frames + 1 ≤ R.frames ∧ 8 + (maxL + 11) + rm.locals ≤ R.locals) :
    vx_CSW R s args own index y bytes maxL ret hh ws rm mc ms n := by
  have ok : ∀ w ∈ va_wsS own index y ws, w.before args s = true := fun w h => ht w (hT w h).1
  have hG : GoodIn Ts ws := fun w h => hT w (by unfold va_wsS; exact List.mem_append_right _ h)
  have hc : Cond.codeWith y bytes maxL ret hh ∈ ws := by rw [hw]; exact List.mem_cons_self
  refine ⟨⟨hrc, hrs, hR.1, hR.2, pay_in ht hG, hc⟩, ht _ (hG _ hc).1, ok _ (by simp [va_wsS]), ⟨hd.1, hd.2.1⟩, fun sig h => ?_, ok _ (by simp [va_wsS]), ok _ (by simp [va_wsS])⟩
  have h2 := hd.2.2
  rw [h] at h2
  exact (Option.some.inj h2).symm
theorem vx_callSW (X : Stand p l e R s m args below meth c T locs cells slots) (hexec : p.tables.exec = Jvm.exec) {own : String} {index : Nat} {y : MethodName} {bytes : ByteArray} {maxL : Nat} {ret : Option FieldType} {hh : List (Nat × Nat × Nat × Nat)}
    (hown : s.vm.findClass own = some m.cls) (hlink : (Cond.methodLink own index y).before args s = true) (hstat : (Cond.static y).before args s = true) (hinit : (Cond.initialized y.cls).before args s = true)
    (hcode : (Cond.codeWith y bytes maxL ret hh).before args s = true) (hy : y.cls ≠ "java/lang/invoke/MethodHandle" ∧ y.cls ≠ "java/lang/invoke/VarHandle")
    {W9 : Nat} {Pre : Pt → Array Value → Prop} {Post : Pt → Array Value → Option Value → Pt → Prop} (hK : Back l R p e below s args y 3 W9 Pre Post)
    {g : JFrame} (hg : g.method = m) (hsize : g.locals.size = c.maxLocals) {argsL rest : List Value} (hlen : ∀ sig, parseMethodDescriptor y.desc = some sig → argsL.length = sig.parameters.length)
    (hstack : g.stack = argsL.reverse ++ rest) (hW : 2 * g.monitorRoom + (rest.map fun v => v.category).sum ≤ W9) (hdg : decode c.code g.pc = .ok (.invokestatic index, 3))
    (hpre : ∀ vm₁, s.WarmedH vm₁ → Pre ⟨T.setVm vm₁, locs, cells, slots⟩ argsL.toArray) :
    ∃ (v : Option Value) (vm₁ : Vm) (B : Pt), s.WarmedH vm₁ ∧ Stand p l e R s m args below meth c B.U B.locs B.cells B.slots ∧ Post ⟨T.setVm vm₁, locs, cells, slots⟩ argsL.toArray v B ∧
      ∀ target, Steps p.tables e below (B.U.setTop { g with pc := g.pc + 3, stack := v.toList ++ rest }) target → Steps p.tables e below (T.setTop g) target := by
  obtain ⟨mk, methM, cM, hnamed, hmethM, -, -, -, -, -, -, hsigM⟩ := Cond.codeWith_spec hcode
  have hstatic : methM.isStatic = true := Cond.static_spec hnamed hmethM hstat
  obtain ⟨kP, hkP, -⟩ := className_of_methodNamed hnamed
  have hinitP : kP.init = .initialized := Cond.initialized_spec (findClass_of_methodNamed hnamed) hkP hinit
  obtain ⟨vm₁, X₁, hstep₁⟩ := X.invokestatic hexec hown hlink hnamed hmethM hstatic hkP hinitP hy (g := g) hg (argsL := argsL) (rest := rest) (hlen _ hsigM) hstack hdg
  obtain ⟨v, B, X', hpost, hsteps⟩ := hK m meth c ⟨T.setVm vm₁, locs, cells, slots⟩ { g with stack := rest } (.invokestatic index) mk argsL.toArray X₁ hg hsize hdg hW (X₁.named hnamed) (hpre vm₁ X₁.warmed)
  exact ⟨v, vm₁, B, X₁.warmed, X', hpost, fun target h => hstep₁ _ fun acts => by rw [doInvoke_state]; exact hsteps.trans h⟩
theorem vx_runSW {y : MethodName} {bytes cc : ByteArray} {maxL nL mc ms n index : Nat} {ret : Option FieldType} {hh : List (Nat × Nat × Nat × Nat)} {ws : List Cond} {rm : Room} {Pc : Array Value → State → Prop} {Qc : Array Value → State → Outcome → State → Prop} {free : Addr → Prop} {Ts : List Cond} {own : String} {As rest : List Value} {g : JFrame}
    (S : CallFix p m c cc nL s args Ts own) (hM : Met l y ws rm Pc Qc mc ms free) (cw : vx_CSW R s args own index y bytes maxL ret hh ws rm mc ms n) (hp : PreS s H Pc As)
    (hg : g.method = m) (hn : As.length = n) (hsize : g.locals.size = nL) (hstack : g.stack = As.reverse ++ rest) (hW : 2 * g.monitorRoom + (rest.map fun v => v.category).sum ≤ 8) (hdg : decode cc g.pc = .ok (.invokestatic index, 3)) (hf : cells + mc ≤ R.cells ∧ slots + ms ≤ R.slots) :
    va_Run p l e R s m args below meth c H locs cells slots mc ms g rest (Qc As.toArray) (free) := by
  obtain ⟨⟨hrc, hrs, hfr, hlo, hws, hcw⟩, hcode, hini, hy, hlen, hl, hstt⟩ := cw
  have hK : Back l R p e below s args y 3 8 (PreOf R mc ms Pc) (PostOf Qc mc ms free) := va_backW (hh := hh) (bytes := bytes) (maxL := maxL) (ret := ret) hM hp.1 hrc hrs hfr hlo hws hcw (fun a' U hW => word_at hW (Or.inl (by first | rfl | simp [Cond.onTables, Cond.keeps, Cond.steady])) hini)
  obtain ⟨hx, hb, hml, ho, -⟩ := S
  intro T hT X
  obtain ⟨v, vm₁, ⟨U', l2, c2, s2⟩, hW₁, X', ⟨g', mk, t, L, e1, e2, hq, h1, hL, h2, h3⟩, st⟩ := vx_callSW X hx (hh := hh) (bytes := bytes) (maxL := maxL) (ret := ret) ho hl hstt hini hcode hy hK hg (hsize.trans hml.symm) (argsL := As) (rest := rest) (fun sig h => hn.trans (hlen sig h)) hstack hW (by rw [hb]; exact hdg)
    (fun vm₁ hW₁ => ⟨hf.1, hf.2, hp.2 (T.setVm vm₁) hT hW₁⟩)
  dsimp only [Pt.U, Pt.locs, Pt.cells, Pt.slots] at X' e1 e2 h1 h2 h3 st
  subst h1; subst h2; subst h3
  exact ⟨v, (T.setVm vm₁).calling g' mk As.toArray, t, U', L, hT, X', hL, e1, e2, hq, st⟩
/-- not caught here, past rows that name other classes: it goes on to the caller -/
theorem vx_outP {p : Program} {l : Launch} {e : Env} {R : Room} {s : State} {m : MethodId} {args : Array Value} {below : List Frame} {meth : Method} {c : Code} {H : Heap} {locs : List Loc} {cells slots : Nat} {free : Addr → Prop} {ls : Array Slot} {rest : List Value} {Qc : Array Value → State → Outcome → State → Prop} {XC : String → State → State → Prop}
    {pc : Nat} {own E : String} {ce : Cell} {q : Addr} {mc ms : Nat} (hown : s.vm.findClass own = some m.cls) (hlocks : meth.locks = false)
    (hpass : ∀ z ∈ c.exceptionTable.toList, covers z pc = false ∨ (z.catchType ≠ 0 ∧ ∃ nm : String, (Cond.classLink own z.catchType nm).before args s = true ∧ va_Nc E nm s)) (hcell : H[q]? = some ce) (hv : ce.vm = .none) (hcl : s.vm.findClass E = some ce.cls)
    (hx : ∀ t : State, t.heap = H → s.vm.Alike t.vm → XC E s t) (hf : ∀ z ∈ locs, free z.base) (hc : cells ≤ mc) (hs : slots ≤ ms) :
    vx_W p l e R s m args below meth c H locs cells slots (vx_MQ below Qc XC args s mc ms free) (F0 m pc ls rest) q := by
  intro T hT X
  have hpl : e.platform.magicAccessors = ({} : Platform).magicAccessors := by rw [X.admits.platform]
  obtain ⟨vm', hW', X', st⟩ := X.outThrough hlocks q (g := F0 m pc ls rest) rfl rfl rfl (cell := ce) (by rw [hT]; exact hcell) (by rw [hv]; rfl)
    (by obtain ⟨k9, h9, -⟩ := Vm.findClass_spec hcl; exact ⟨k9, h9⟩) (fun z hz => by
      rcases hpass z hz with h | ⟨hz0, nm, hl1, hn1⟩
      · exact Or.inl h
      · obtain ⟨c6, hc6, hcl6⟩ := Cond.classLink_spec hown hl1 e.platform hpl
        obtain ⟨a8, b8, h1, h2, h3⟩ := hn1
        cases Option.some.inj (h1.symm.trans hcl)
        cases Option.some.inj (h2.symm.trans hc6)
        exact Or.inr ⟨hz0, _, hcl6, h3⟩)
  obtain ⟨g₀, hfr⟩ := X'.frames_eq
  have hcell9 : ((T.setVm vm').setFrames (.throwing q :: below)).heap[q]? = some ce := by
    show T.heap[q]? = some ce
    rw [hT]; exact hcell
  have hend : Ended ((T.setVm vm').setFrames (.throwing q :: below)) below (.threw q) := State.frames_setFrames _ (State.cur_lt_of_frames hfr)
  refine ⟨(T.setVm vm').setFrames (.throwing q :: below), ?_, .threw q, X'.here.running, hend, Or.inr ⟨q, rfl, E, ce, locs, hx _ hT (X'.ends _).1.alike, hcell9, hv, hcl, (X'.ends _).1, (X'.ends _).2.mono hc hs, hf⟩⟩
  rw [X.pushThrowing_eq]
  exact st
/-- a thing of a world lies in the heap -/
theorem vx_lt {D : va_G} {cl : List vw_C} {ws : va_W} {H1 : Heap} (h : va_P D cl ws H1) {k : Nat} {q : Nat × va_E} (hk : ws[k]? = some q) : q.1 < H1.size := (h k q hk).lt
end VXS
/-! ===== END ===== -/
/-! ===== BEGIN methods with a table of their own: called by a name, returning or throwing ===== -/
section VXH
/-! vx_backW, vx_callVX, vx_callSX, vx_callVW, vx_runVW, vx_runVX, vx_runSX, vx_ofWH follow the same proofs as their sisters above (Free/Laws.lean, Shelf42/LK1.lean); vx_outP calls Shelf42/NT130.lean (outThrough). -/
section
variable {l : Launch} {R : Room} {p : Program} {e : Env} {below : List Frame} {s : State} {sargs : Array Value} {y : MethodName} {len W9 : Nat}
theorem vx_backW {ws : List Cond} {rm : Room} {Pc : Array Value → State → Prop} {Qc : Array Value → State → Outcome → State → Prop} {XC : String → State → State → Prop} {mc ms : Nat} {free : Addr → Prop} {bytes : ByteArray} {maxL : Nat} {ret : Option FieldType} {hh : List (Nat × Nat × Nat × Nat)}
    (hM : vx_Met l y ws rm Pc Qc XC mc ms free) (hblind : FrameBlind Pc) (hrc : rm.cells = mc) (hrs : rm.slots = ms)
    (hframes : rm.frames + 1 ≤ R.frames) (hlocals : W9 + (maxL + 11) + rm.locals ≤ R.locals)
    (hws : ∀ w ∈ ws, ∀ a' U, s.WarmedH U.vm → w.before a' U = true) (hcode : Cond.codeWith y bytes maxL ret hh ∈ ws) (hinit : ∀ a' U, s.WarmedH U.vm → (Cond.initialized y.cls).before a' U = true) :
    vx_Back l R p e below s sargs y len W9 (PreOf R mc ms Pc) (PostOf Qc mc ms free) (vx_Post XC mc ms free) := by
  intro m meth c A g ig mk a X hg hsize hdg hW hn hp
  have h1 : (headSpec ws rm).pre.before a A.U = true := atoms_intro fun w hw => hws w hw _ _ X.warmed
  have h2 : (Cond.codeWith y bytes maxL ret hh).before a A.U = true := hws _ hcode _ _ X.warmed
  have h3 : (Cond.initialized y.cls).before a A.U = true := hinit _ _ X.warmed
  have h4 : A.cells + (headSpec ws rm).room.cells ≤ R.cells := by rw [show (headSpec ws rm).room.cells = mc from hrc]; exact hp.1
  have h5 : A.slots + (headSpec ws rm).room.slots ≤ R.slots := by rw [show (headSpec ws rm).room.slots = ms from hrs]; exact hp.2.1
  have hPc : Pc a (A.U.calling g mk a) := hblind _ _ _ _ hp.2.2
  obtain ⟨U, Ls, c0, s0⟩ := A
  dsimp only [Pt.U, Pt.locs, Pt.cells, Pt.slots] at h1 h2 h3 h4 h5 X hn hPc ⊢
  obtain ⟨m9, methY, cY, hn9, hmY, hcY, -, hlY, -⟩ := Cond.codeWith_spec h2
  cases Option.some.inj (hn9.symm.trans hn)
  obtain ⟨kY, hkY, -⟩ := className_of_methodNamed hn
  have hinitY : kY.init = .initialized := Cond.initialized_spec (findClass_of_methodNamed hn) hkY h3
  have h : At U g.method c below := by rw [hg]; exact X.here
  have hlocals9 : W9 + (maxL + 11) + (headSpec ws rm).room.locals ≤ R.locals := hlocals
  have happ : (headSpec ws rm).appliesLoose y e.platform (U.calling g mk a) = true :=
    Spec.appliesLoose_calling (g := g) h hdg hn hkY hinitY
      (X.room_calling (g := g) (R' := (headSpec ws rm).room) hsize hmY hcY hframes (by rw [hlY]; omega) h4 h5) h1
  obtain ⟨mid, hmid⟩ := h.above
  have hfr : (U.setTop g).frames = (.java g :: mid) ++ below := by rw [State.frames_setTop' g h.top, hmid]; rfl
  obtain ⟨o, s₂, hsteps, -, hend, hq⟩ := Steps.callFree hM p X.admits X.cas X.clock (acts := []) hfr happ hPc trivial
  have hq' : vx_Q Qc XC mc ms free a (U.calling g mk a) o s₂ := hq
  rw [State.frames_setTop' g h.top] at hend
  obtain ⟨g₀, hg0⟩ := Option.isSome_iff_exists.mp h.top
  obtain ⟨r, hr⟩ := State.topJava?_eq_some.mp hg0
  have hr' : (({ U with heap := s₂.heap, slotsUsed := s₂.slotsUsed } : State).setVm s₂.vm).frames = .java g₀ :: r := hr
  rcases hq' with ⟨hqc, L, hfe, hL⟩ | ⟨q, rfl, E, ce, L, hx, hce, hcv, hcl, hW₂, hsm, hL⟩
  · obtain ⟨⟨v, rfl⟩, hW₂, e2, q2, q3, q4, q5, q6⟩ := id hfe
    have e3 : s₂ = ({ (U.calling g mk a).setFrames s₂.frames with heap := s₂.heap, slotsUsed := s₂.slotsUsed } : State).setVm s₂.vm := by
      have : s₂ = ({ s₂ with vm := (U.calling g mk a).vm } : State).setVm s₂.vm := rfl
      rw [e2] at this
      exact this
    obtain ⟨c₂, i₂, len₂, hc₂, hd₂, hf₂⟩ := hend
    have hW' : U.WarmedH s₂.vm := hW₂
    have hcc : c₂ = c := by
      have h1 : s₂.code? g.method = U.code? g.method := by
        rw [State.code?_eq, State.code?_eq, hW'.alike.method?]
      exact Option.some.inj (hc₂.symm.trans (h1.trans h.code))
    subst hcc
    have hlen : len₂ = len := by rw [hdg] at hd₂; cases hd₂; rfl
    subst hlen
    have hs₂ : s₂ = (({ U with heap := s₂.heap, slotsUsed := s₂.slotsUsed } : State).setVm s₂.vm).setTop { g with pc := g.pc + len₂, stack := v.toList ++ g.stack } := by
      refine e3.trans ?_
      rw [hf₂, State.calling_eq h.top, State.setFrames_setFrames, State.setTop_of_frames _ hr', hr]
      rfl
    have hsame : U.sameButNew ({ U with heap := s₂.heap, slotsUsed := s₂.slotsUsed } : State) L mc ms := by
      refine ⟨?_, q2, q3, q4, q5, q6⟩
      obtain ⟨t, ht, -⟩ := State.frames_cons hr
      show ({ U with heap := s₂.heap, slotsUsed := s₂.slotsUsed } : State) = { U.setFrames U.frames with heap := s₂.heap, slotsUsed := s₂.slotsUsed }
      rw [State.setFrames_self ht]
    subst hg
    refine Or.inl ⟨v, ⟨(({ U with heap := s₂.heap, slotsUsed := s₂.slotsUsed } : State).setVm s₂.vm), Ls ++ L, c0 + mc, s0 + ms⟩,
      ⟨X.admits, X.cas, X.clock, X.frames, X.room, X.hears, X.method, X.code, (X.here.setHeapUsed s₂.heap s₂.slotsUsed).setVm hW'.alike, X.tail, State.WarmedH.trans X.warmed hW', X.limits, X.bytes, X.same.trans (hsame.setVm s.vm)⟩,
      ⟨g, mk, s₂, L, rfl, rfl, hqc, rfl, hL, rfl, rfl⟩, ?_⟩
    show Steps p.tables e below _ ((({ U with heap := s₂.heap, slotsUsed := s₂.slotsUsed } : State).setVm s₂.vm).setTop { g with pc := g.pc + len₂, stack := v.toList ++ g.stack })
    rw [← hs₂]
    exact hsteps
  · obtain ⟨e2, q2, q3, q4, q5, q6⟩ := id hsm
    have e3 : s₂ = ({ (U.calling g mk a).setFrames s₂.frames with heap := s₂.heap, slotsUsed := s₂.slotsUsed } : State).setVm s₂.vm := by
      have : s₂ = ({ s₂ with vm := (U.calling g mk a).vm } : State).setVm s₂.vm := rfl
      rw [e2] at this
      exact this
    have hf₂ : s₂.frames = .throwing q :: .java g :: U.frames.tail := hend
    have hW' : U.WarmedH s₂.vm := hW₂
    have hs₂ : s₂ = ((({ U with heap := s₂.heap, slotsUsed := s₂.slotsUsed } : State).setVm s₂.vm).setTop g).pushFrame (.throwing q) := by
      refine e3.trans ?_
      rw [hf₂, State.calling_eq h.top, State.setFrames_setFrames, State.pushFrame, State.frames_setTop _ hr', State.setTop_of_frames _ hr', State.setFrames_setFrames, hr]
      rfl
    have hsame : U.sameButNew ({ U with heap := s₂.heap, slotsUsed := s₂.slotsUsed } : State) L mc ms := by
      refine ⟨?_, q2, q3, q4, q5, q6⟩
      obtain ⟨t, ht, -⟩ := State.frames_cons hr
      show ({ U with heap := s₂.heap, slotsUsed := s₂.slotsUsed } : State) = { U.setFrames U.frames with heap := s₂.heap, slotsUsed := s₂.slotsUsed }
      rw [State.setFrames_self ht]
    subst hg
    refine Or.inr ⟨q, ⟨(({ U with heap := s₂.heap, slotsUsed := s₂.slotsUsed } : State).setVm s₂.vm), Ls ++ L, c0 + mc, s0 + ms⟩,
      ⟨X.admits, X.cas, X.clock, X.frames, X.room, X.hears, X.method, X.code, (X.here.setHeapUsed s₂.heap s₂.slotsUsed).setVm hW'.alike, X.tail, State.WarmedH.trans X.warmed hW', X.limits, X.bytes, X.same.trans (hsame.setVm s.vm)⟩,
      ⟨g, mk, s₂, L, E, ce, rfl, rfl, hx, hce, hcv, hcl, rfl, hL, rfl, rfl⟩, ?_⟩
    show Steps p.tables e below _ (((({ U with heap := s₂.heap, slotsUsed := s₂.slotsUsed } : State).setVm s₂.vm).setTop g).pushFrame (.throwing q))
    rw [← hs₂]
    exact hsteps
end
variable {p : Program} {l : Launch} {e : Env} {R : Room} {s : State} {m : MethodId} {args : Array Value} {below : List Frame} {meth : Method} {c : Code} {T : State} {H : Heap} {locs : List Loc} {cells slots : Nat}
theorem vx_callVX (X : Stand p l e R s m args below meth c T locs cells slots) (hexec : p.tables.exec = Jvm.exec) {own C : String} {index : Nat} {y : MethodName} {bytes : ByteArray} {maxL : Nat} {ret : Option FieldType} {hh : List (Nat × Nat × Nat × Nat)}
    (hown : s.vm.findClass own = some m.cls) (hlink : (Cond.methodLink own index y).before args s = true) (hinst : (Cond.instanceMethod y).before args s = true) (hsel : (Cond.selects C y y).before args s = true)
    (hcode : (Cond.codeWith y bytes maxL ret hh).before args s = true) (hy : y.cls ≠ "java/lang/invoke/MethodHandle" ∧ y.cls ≠ "java/lang/invoke/VarHandle")
    {W9 : Nat} {Pre : Pt → Array Value → Prop} {Post : Pt → Array Value → Option Value → Pt → Prop} {PostX : Pt → Array Value → Addr → Pt → Prop} (hK : vx_Back l R p e below s args y 3 W9 Pre Post PostX)
    {b : Addr} {cellB : Cell} (hcell : T.heap[b]? = some cellB) (hobj : cellB.vm.isStatics = false) (hcls : s.vm.findClass C = some cellB.cls)
    {g : JFrame} (hg : g.method = m) (hsize : g.locals.size = c.maxLocals) {argsL rest : List Value} (hlen : ∀ sig, parseMethodDescriptor y.desc = some sig → argsL.length = sig.parameters.length)
    (hstack : g.stack = argsL.reverse ++ .ref b :: rest) (hW : 2 * g.monitorRoom + (rest.map fun v => v.category).sum ≤ W9) (hdg : decode c.code g.pc = .ok (.invokevirtual index, 3))
    (hpre : ∀ vm₁, s.WarmedH vm₁ → Pre ⟨T.setVm vm₁, locs, cells, slots⟩ (Value.ref b :: argsL).toArray) :
    (∃ (v : Option Value) (vm₁ : Vm) (B : Pt), s.WarmedH vm₁ ∧ Stand p l e R s m args below meth c B.U B.locs B.cells B.slots ∧ Post ⟨T.setVm vm₁, locs, cells, slots⟩ (Value.ref b :: argsL).toArray v B ∧
      ∀ target, Steps p.tables e below (B.U.setTop { g with pc := g.pc + 3, stack := v.toList ++ rest }) target → Steps p.tables e below (T.setTop g) target) ∨
    (∃ (q : Addr) (vm₁ : Vm) (B : Pt), s.WarmedH vm₁ ∧ Stand p l e R s m args below meth c B.U B.locs B.cells B.slots ∧ PostX ⟨T.setVm vm₁, locs, cells, slots⟩ (Value.ref b :: argsL).toArray q B ∧
      Steps p.tables e below (T.setTop g) ((B.U.setTop { g with stack := rest }).pushFrame (.throwing q))) := by
  obtain ⟨mk, methM, hnamed, hmethM, hstM, habM⟩ := Cond.instanceMethod_spec hinst
  obtain ⟨m8, methM', cM, hn8, hmethM', -, -, -, -, -, -, hsigM⟩ := Cond.codeWith_spec hcode
  cases Option.some.inj (hn8.symm.trans hnamed)
  cases hmethM.symm.trans hmethM'
  obtain ⟨c2, r2, m2, q1, q2, q3, q4, kP, hkP, hkPi⟩ := Cond.selects_spec hsel
  cases hcls.symm.trans q1
  cases (State.methodFound?_of_named hnamed hy).symm.trans q2
  cases hnamed.symm.trans q3
  have hselP : selectMethod e.platform s.vm cellB.cls mk = .method mk := by rw [Launch.admits_selectMethod X.admits]; exact q4
  obtain ⟨vm₁, X₁, hstep₁⟩ := X.invokevirtual hexec hown hlink hnamed hmethM hstM hkP hkPi hy (a := b) (cell := cellB) hcell
    (fun z h => by rw [h] at hobj; cases hobj) hselP hmethM habM hkP hkPi (g := g) hg (argsL := argsL) (rest := rest) (hlen _ hsigM) hstack hdg
  rcases hK m meth c ⟨T.setVm vm₁, locs, cells, slots⟩ { g with stack := rest } (.invokevirtual index) mk (Value.ref b :: argsL).toArray X₁ hg hsize hdg hW (X₁.named hnamed) (hpre vm₁ X₁.warmed) with ⟨v, B, X', hpost, hsteps⟩ | ⟨q, B, X', hpost, hsteps⟩
  · exact Or.inl ⟨v, vm₁, B, X₁.warmed, X', hpost, fun target h => hstep₁ _ fun acts => by rw [doInvoke_state]; exact hsteps.trans h⟩
  · exact Or.inr ⟨q, vm₁, B, X₁.warmed, X', hpost, hstep₁ _ fun acts => by rw [doInvoke_state]; exact hsteps⟩
theorem vx_callSX (X : Stand p l e R s m args below meth c T locs cells slots) (hexec : p.tables.exec = Jvm.exec) {own : String} {index : Nat} {y : MethodName} {bytes : ByteArray} {maxL : Nat} {ret : Option FieldType} {hh : List (Nat × Nat × Nat × Nat)}
    (hown : s.vm.findClass own = some m.cls) (hlink : (Cond.methodLink own index y).before args s = true) (hstat : (Cond.static y).before args s = true) (hinit : (Cond.initialized y.cls).before args s = true)
    (hcode : (Cond.codeWith y bytes maxL ret hh).before args s = true) (hy : y.cls ≠ "java/lang/invoke/MethodHandle" ∧ y.cls ≠ "java/lang/invoke/VarHandle")
    {W9 : Nat} {Pre : Pt → Array Value → Prop} {Post : Pt → Array Value → Option Value → Pt → Prop} {PostX : Pt → Array Value → Addr → Pt → Prop} (hK : vx_Back l R p e below s args y 3 W9 Pre Post PostX)
    {g : JFrame} (hg : g.method = m) (hsize : g.locals.size = c.maxLocals) {argsL rest : List Value} (hlen : ∀ sig, parseMethodDescriptor y.desc = some sig → argsL.length = sig.parameters.length)
    (hstack : g.stack = argsL.reverse ++ rest) (hW : 2 * g.monitorRoom + (rest.map fun v => v.category).sum ≤ W9) (hdg : decode c.code g.pc = .ok (.invokestatic index, 3))
    (hpre : ∀ vm₁, s.WarmedH vm₁ → Pre ⟨T.setVm vm₁, locs, cells, slots⟩ argsL.toArray) :
    (∃ (v : Option Value) (vm₁ : Vm) (B : Pt), s.WarmedH vm₁ ∧ Stand p l e R s m args below meth c B.U B.locs B.cells B.slots ∧ Post ⟨T.setVm vm₁, locs, cells, slots⟩ argsL.toArray v B ∧
      ∀ target, Steps p.tables e below (B.U.setTop { g with pc := g.pc + 3, stack := v.toList ++ rest }) target → Steps p.tables e below (T.setTop g) target) ∨
    (∃ (q : Addr) (vm₁ : Vm) (B : Pt), s.WarmedH vm₁ ∧ Stand p l e R s m args below meth c B.U B.locs B.cells B.slots ∧ PostX ⟨T.setVm vm₁, locs, cells, slots⟩ argsL.toArray q B ∧
      Steps p.tables e below (T.setTop g) ((B.U.setTop { g with stack := rest }).pushFrame (.throwing q))) := by
  obtain ⟨mk, methM, cM, hnamed, hmethM, -, -, -, -, -, -, hsigM⟩ := Cond.codeWith_spec hcode
  have hstatic : methM.isStatic = true := Cond.static_spec hnamed hmethM hstat
  obtain ⟨kP, hkP, -⟩ := className_of_methodNamed hnamed
  have hinitP : kP.init = .initialized := Cond.initialized_spec (findClass_of_methodNamed hnamed) hkP hinit
  obtain ⟨vm₁, X₁, hstep₁⟩ := X.invokestatic hexec hown hlink hnamed hmethM hstatic hkP hinitP hy (g := g) hg (argsL := argsL) (rest := rest) (hlen _ hsigM) hstack hdg
  rcases hK m meth c ⟨T.setVm vm₁, locs, cells, slots⟩ { g with stack := rest } (.invokestatic index) mk argsL.toArray X₁ hg hsize hdg hW (X₁.named hnamed) (hpre vm₁ X₁.warmed) with ⟨v, B, X', hpost, hsteps⟩ | ⟨q, B, X', hpost, hsteps⟩
  · exact Or.inl ⟨v, vm₁, B, X₁.warmed, X', hpost, fun target h => hstep₁ _ fun acts => by rw [doInvoke_state]; exact hsteps.trans h⟩
  · exact Or.inr ⟨q, vm₁, B, X₁.warmed, X', hpost, hstep₁ _ fun acts => by rw [doInvoke_state]; exact hsteps⟩
theorem vx_callVW (X : Stand p l e R s m args below meth c T locs cells slots) (hexec : p.tables.exec = Jvm.exec) {own C : String} {index : Nat} {y : MethodName} {bytes : ByteArray} {maxL : Nat} {ret : Option FieldType} {hh : List (Nat × Nat × Nat × Nat)}
    (hown : s.vm.findClass own = some m.cls) (hlink : (Cond.methodLink own index y).before args s = true) (hinst : (Cond.instanceMethod y).before args s = true) (hsel : (Cond.selects C y y).before args s = true)
    (hcode : (Cond.codeWith y bytes maxL ret hh).before args s = true) (hy : y.cls ≠ "java/lang/invoke/MethodHandle" ∧ y.cls ≠ "java/lang/invoke/VarHandle")
    {W9 : Nat} {Pre : Pt → Array Value → Prop} {Post : Pt → Array Value → Option Value → Pt → Prop} (hK : Back l R p e below s args y 3 W9 Pre Post)
    {b : Addr} {cellB : Cell} (hcell : T.heap[b]? = some cellB) (hobj : cellB.vm.isStatics = false) (hcls : s.vm.findClass C = some cellB.cls)
    {g : JFrame} (hg : g.method = m) (hsize : g.locals.size = c.maxLocals) {argsL rest : List Value} (hlen : ∀ sig, parseMethodDescriptor y.desc = some sig → argsL.length = sig.parameters.length)
    (hstack : g.stack = argsL.reverse ++ .ref b :: rest) (hW : 2 * g.monitorRoom + (rest.map fun v => v.category).sum ≤ W9) (hdg : decode c.code g.pc = .ok (.invokevirtual index, 3))
    (hpre : ∀ vm₁, s.WarmedH vm₁ → Pre ⟨T.setVm vm₁, locs, cells, slots⟩ (Value.ref b :: argsL).toArray) :
    ∃ (v : Option Value) (vm₁ : Vm) (B : Pt), s.WarmedH vm₁ ∧ Stand p l e R s m args below meth c B.U B.locs B.cells B.slots ∧ Post ⟨T.setVm vm₁, locs, cells, slots⟩ (Value.ref b :: argsL).toArray v B ∧
      ∀ target, Steps p.tables e below (B.U.setTop { g with pc := g.pc + 3, stack := v.toList ++ rest }) target → Steps p.tables e below (T.setTop g) target := by
  obtain ⟨mk, methM, hnamed, hmethM, hstM, habM⟩ := Cond.instanceMethod_spec hinst
  obtain ⟨m8, methM', cM, hn8, hmethM', -, -, -, -, -, -, hsigM⟩ := Cond.codeWith_spec hcode
  cases Option.some.inj (hn8.symm.trans hnamed)
  cases hmethM.symm.trans hmethM'
  obtain ⟨c2, r2, m2, q1, q2, q3, q4, kP, hkP, hkPi⟩ := Cond.selects_spec hsel
  cases hcls.symm.trans q1
  cases (State.methodFound?_of_named hnamed hy).symm.trans q2
  cases hnamed.symm.trans q3
  have hselP : selectMethod e.platform s.vm cellB.cls mk = .method mk := by rw [Launch.admits_selectMethod X.admits]; exact q4
  obtain ⟨vm₁, X₁, hstep₁⟩ := X.invokevirtual hexec hown hlink hnamed hmethM hstM hkP hkPi hy (a := b) (cell := cellB) hcell
    (fun z h => by rw [h] at hobj; cases hobj) hselP hmethM habM hkP hkPi (g := g) hg (argsL := argsL) (rest := rest) (hlen _ hsigM) hstack hdg
  obtain ⟨v, B, X', hpost, hsteps⟩ := hK m meth c ⟨T.setVm vm₁, locs, cells, slots⟩ { g with stack := rest } (.invokevirtual index) mk (Value.ref b :: argsL).toArray X₁ hg hsize hdg hW (X₁.named hnamed) (hpre vm₁ X₁.warmed)
  exact ⟨v, vm₁, B, X₁.warmed, X', hpost, fun target h => hstep₁ _ fun acts => by rw [doInvoke_state]; exact hsteps.trans h⟩
abbrev vx_CVW (R : Room) (s : State) (args : Array Value) (own C : String) (index : Nat) (y : MethodName) (bytes : ByteArray) (maxL : Nat) (ret : Option FieldType) (hh : List (Nat × Nat × Nat × Nat)) (ws : List Cond) (rm : Room) (mc ms n : Nat) : Prop :=
  (rm.cells = mc ∧ rm.slots = ms ∧ rm.frames + 1 ≤ R.frames ∧ 8 + (maxL + 11) + rm.locals ≤ R.locals ∧ (∀ w ∈ ws, ∀ (a' : Array Value) (U : State), s.WarmedH U.vm → w.before a' U = true) ∧ Cond.codeWith y bytes maxL ret hh ∈ ws) ∧
  (Cond.codeWith y bytes maxL ret hh).before args s = true ∧ (Cond.initialized y.cls).before args s = true ∧ (y.cls ≠ "java/lang/invoke/MethodHandle" ∧ y.cls ≠ "java/lang/invoke/VarHandle") ∧
  (∀ sig, parseMethodDescriptor y.desc = some sig → n = sig.parameters.length) ∧ (Cond.methodLink own index y).before args s = true ∧ (Cond.instanceMethod y).before args s = true ∧ (Cond.selects C y y).before args s = true
theorem vx_cwVW {own C : String} {index maxL mc ms : Nat} {y : MethodName} {bytes : ByteArray} {ret : Option FieldType} {hh : List (Nat × Nat × Nat × Nat)} {Ts ws ws' : List Cond} {rm : Room} (n : Nat) (ht : ∀ w ∈ Ts, w.before args s = true) (hT : GoodIn Ts (wsV own index C y ws)) (hw : ws = Cond.codeWith y bytes maxL ret hh :: ws') (hrc : rm.cells = mc) (hrs : rm.slots = ms)
    (hd : y.cls = C ∧ y.cls ≠ "java/lang/invoke/MethodHandle" ∧ y.cls ≠ "java/lang/invoke/VarHandle" ∧ (parseMethodDescriptor y.desc).map (fun d => d.parameters.length) = some n) (hR : rm.frames + 1 ≤ R.frames ∧ 8 + (maxL + 11) + rm.locals ≤ R.locals) :
    vx_CVW R s args own C index y bytes maxL ret hh ws rm mc ms n := by
  obtain ⟨hC, hd⟩ := hd
  subst hC
  have ok : ∀ w ∈ wsV own index y.cls y ws, w.before args s = true := fun w h => ht w (hT w h).1
  have hG : GoodIn Ts ws := fun w h => hT w (by unfold wsV; exact List.mem_append_right _ h)
  have hc : Cond.codeWith y bytes maxL ret hh ∈ ws := by rw [hw]; exact List.mem_cons_self
  refine ⟨⟨hrc, hrs, hR.1, hR.2, pay_in ht hG, hc⟩, ht _ (hG _ hc).1, ok _ (by simp [wsV]), ⟨hd.1, hd.2.1⟩, fun sig h => ?_, ok _ (by simp [wsV]), ok _ (by simp [wsV]), ok _ (by simp [wsV])⟩
  have h2 := hd.2.2
  rw [h] at h2
  exact (Option.some.inj h2).symm
theorem vx_runVW {y : MethodName} {bytes cc : ByteArray} {maxL nL mc ms n index : Nat} {ret : Option FieldType} {hh : List (Nat × Nat × Nat × Nat)} {ws : List Cond} {rm : Room} {Pc : Array Value → State → Prop} {Qc : Array Value → State → Outcome → State → Prop} {free : Addr → Prop} {Ts : List Cond} {own C : String} {b : Addr} {As rest : List Value} {g : JFrame}
    (S : CallFix p m c cc nL s args Ts own) (hM : Met l y ws rm Pc Qc mc ms free) (cw : vx_CVW R s args own C index y bytes maxL ret hh ws rm mc ms n) (hp : PreV s H C b Pc As)
    (hg : g.method = m) (hn : As.length = n) (hsize : g.locals.size = nL) (hstack : g.stack = As.reverse ++ .ref b :: rest) (hW : 2 * g.monitorRoom + (rest.map fun v => v.category).sum ≤ 8) (hdg : decode cc g.pc = .ok (.invokevirtual index, 3)) (hf : cells + mc ≤ R.cells ∧ slots + ms ≤ R.slots) :
    va_Run p l e R s m args below meth c H locs cells slots mc ms g rest (Qc (Value.ref b :: As).toArray) free := by
  obtain ⟨⟨hrc, hrs, hfr, hlo, hws, hcw⟩, hcode, hini, hy, hlen, hl, hin, hse⟩ := cw
  have hK : Back l R p e below s args y 3 8 (PreOf R mc ms Pc) (PostOf Qc mc ms free) := va_backW (hh := hh) (bytes := bytes) (maxL := maxL) (ret := ret) hM hp.1 hrc hrs hfr hlo hws hcw (fun a' U hW => word_at hW (Or.inl (by first | rfl | simp [Cond.onTables, Cond.keeps, Cond.steady])) hini)
  obtain ⟨hx, hb, hml, ho, -⟩ := S
  obtain ⟨-, ⟨cellB, hcB, hoB, hclB⟩, hPc⟩ := hp
  intro T hT X
  obtain ⟨v, vm₁, ⟨U', l2, c2, s2⟩, hW₁, X', ⟨g', mk, t, L, e1, e2, hq, h1, hL, h2, h3⟩, st⟩ := vx_callVW X hx (C := C) (hh := hh) (bytes := bytes) (maxL := maxL) (ret := ret) ho hl hin hse hcode hy hK (by rw [hT]; exact hcB) hoB hclB hg (hsize.trans hml.symm) (argsL := As) (rest := rest) (fun sig h => hn.trans (hlen sig h)) hstack hW (by rw [hb]; exact hdg)
    (fun vm₁ hW₁ => ⟨hf.1, hf.2, hPc (T.setVm vm₁) hT hW₁⟩)
  dsimp only [Pt.U, Pt.locs, Pt.cells, Pt.slots] at X' e1 e2 h1 h2 h3 st
  subst h1; subst h2; subst h3
  exact ⟨v, (T.setVm vm₁).calling g' mk (Value.ref b :: As).toArray, t, U', L, hT, X', hL, e1, e2, hq, st⟩
section
variable {y : MethodName} {bytes cc : ByteArray} {maxL nL mc ms n index : Nat} {ret : Option FieldType} {ws : List Cond} {rm : Room} {Pc : Array Value → State → Prop} {Qc : Array Value → State → Outcome → State → Prop} {XC : String → State → State → Prop} {free : Addr → Prop} {Ts : List Cond} {own C : String} {b : Addr} {As rest : List Value} {g : JFrame}
theorem vx_runVX {hh : List (Nat × Nat × Nat × Nat)} (S : CallFix p m c cc nL s args Ts own) (hM : vx_Met l y ws rm Pc Qc XC mc ms free) (cw : vx_CVW R s args own C index y bytes maxL ret hh ws rm mc ms n) (hp : PreV s H C b Pc As)
    (hg : g.method = m) (hn : As.length = n) (hsize : g.locals.size = nL) (hstack : g.stack = As.reverse ++ .ref b :: rest) (hW : 2 * g.monitorRoom + (rest.map fun v => v.category).sum ≤ 8) (hdg : decode cc g.pc = .ok (.invokevirtual index, 3)) (hf : cells + mc ≤ R.cells ∧ slots + ms ≤ R.slots) :
    vx_Run p l e R s m args below meth c H locs cells slots mc ms g rest (Qc (Value.ref b :: As).toArray) XC free := by
  obtain ⟨⟨hrc, hrs, hfr, hlo, hws, hcw⟩, hcode, hini, hy, hlen, hl, hin, hse⟩ := cw
  have hK : vx_Back l R p e below s args y 3 8 (PreOf R mc ms Pc) (PostOf Qc mc ms free) (vx_Post XC mc ms free) := vx_backW (hh := hh) (bytes := bytes) (maxL := maxL) (ret := ret) hM hp.1 hrc hrs hfr hlo hws hcw (fun a' U hW => word_at hW (Or.inl (by first | rfl | simp [Cond.onTables, Cond.keeps, Cond.steady])) hini)
  obtain ⟨hx, hb, hml, ho, -⟩ := S
  obtain ⟨-, ⟨cellB, hcB, hoB, hclB⟩, hPc⟩ := hp
  intro T hT X
  rcases vx_callVX X hx (C := C) (hh := hh) (bytes := bytes) (maxL := maxL) (ret := ret) ho hl hin hse hcode hy hK (by rw [hT]; exact hcB) hoB hclB hg (hsize.trans hml.symm) (argsL := As) (rest := rest) (fun sig h => hn.trans (hlen sig h)) hstack hW (by rw [hb]; exact hdg)
    (fun vm₁ hW₁ => ⟨hf.1, hf.2, hPc (T.setVm vm₁) hT hW₁⟩) with ⟨v, vm₁, ⟨U', l2, c2, s2⟩, hW₁, X', ⟨g', mk, t, L, e1, e2, hq, h1, hL, h2, h3⟩, st⟩ | ⟨q, vm₁, ⟨U', l2, c2, s2⟩, hW₁, X', ⟨g', mk, t, L, E, ce, e1, e2, hq, hce, hcv, hcl, h1, hL, h2, h3⟩, st⟩
  · dsimp only [Pt.U, Pt.locs, Pt.cells, Pt.slots] at X' e1 e2 h1 h2 h3 st
    subst h1; subst h2; subst h3
    exact Or.inl ⟨v, (T.setVm vm₁).calling g' mk (Value.ref b :: As).toArray, t, U', L, hT, X', hL, e1, e2, hq, st⟩
  · dsimp only [Pt.U, Pt.locs, Pt.cells, Pt.slots] at X' e1 e2 h1 h2 h3 st hcl
    subst h1; subst h2; subst h3
    exact Or.inr ⟨q, (T.setVm vm₁).calling g' mk (Value.ref b :: As).toArray, t, U', L, E, ce, hT, X', hL, e1, e2, hq, hce, hcv, vx_cls hW₁ hcl, st⟩
theorem vx_runSX {hh : List (Nat × Nat × Nat × Nat)} (S : CallFix p m c cc nL s args Ts own) (hM : vx_Met l y ws rm Pc Qc XC mc ms free) (cw : vx_CSW R s args own index y bytes maxL ret hh ws rm mc ms n) (hp : PreS s H Pc As)
    (hg : g.method = m) (hn : As.length = n) (hsize : g.locals.size = nL) (hstack : g.stack = As.reverse ++ rest) (hW : 2 * g.monitorRoom + (rest.map fun v => v.category).sum ≤ 8) (hdg : decode cc g.pc = .ok (.invokestatic index, 3)) (hf : cells + mc ≤ R.cells ∧ slots + ms ≤ R.slots) :
    vx_Run p l e R s m args below meth c H locs cells slots mc ms g rest (Qc As.toArray) XC free := by
  obtain ⟨⟨hrc, hrs, hfr, hlo, hws, hcw⟩, hcode, hini, hy, hlen, hl, hstt⟩ := cw
  have hK : vx_Back l R p e below s args y 3 8 (PreOf R mc ms Pc) (PostOf Qc mc ms free) (vx_Post XC mc ms free) := vx_backW (hh := hh) (bytes := bytes) (maxL := maxL) (ret := ret) hM hp.1 hrc hrs hfr hlo hws hcw (fun a' U hW => word_at hW (Or.inl (by first | rfl | simp [Cond.onTables, Cond.keeps, Cond.steady])) hini)
  obtain ⟨hx, hb, hml, ho, -⟩ := S
  intro T hT X
  rcases vx_callSX X hx (hh := hh) (bytes := bytes) (maxL := maxL) (ret := ret) ho hl hstt hini hcode hy hK hg (hsize.trans hml.symm) (argsL := As) (rest := rest) (fun sig h => hn.trans (hlen sig h)) hstack hW (by rw [hb]; exact hdg)
    (fun vm₁ hW₁ => ⟨hf.1, hf.2, hp.2 (T.setVm vm₁) hT hW₁⟩) with ⟨v, vm₁, ⟨U', l2, c2, s2⟩, hW₁, X', ⟨g', mk, t, L, e1, e2, hq, h1, hL, h2, h3⟩, st⟩ | ⟨q, vm₁, ⟨U', l2, c2, s2⟩, hW₁, X', ⟨g', mk, t, L, E, ce, e1, e2, hq, hce, hcv, hcl, h1, hL, h2, h3⟩, st⟩
  · dsimp only [Pt.U, Pt.locs, Pt.cells, Pt.slots] at X' e1 e2 h1 h2 h3 st
    subst h1; subst h2; subst h3
    exact Or.inl ⟨v, (T.setVm vm₁).calling g' mk As.toArray, t, U', L, hT, X', hL, e1, e2, hq, st⟩
  · dsimp only [Pt.U, Pt.locs, Pt.cells, Pt.slots] at X' e1 e2 h1 h2 h3 st hcl
    subst h1; subst h2; subst h3
    exact Or.inr ⟨q, (T.setVm vm₁).calling g' mk As.toArray, t, U', L, E, ce, hT, X', hL, e1, e2, hq, hce, hcv, vx_cls hW₁ hcl, st⟩
end
end VXH
theorem vx_ofWH {l : Launch} {y : MethodName} {ws ws' : List Cond} {rm : Room} {Pc : Array Value → State → Prop} {Qc : Array Value → State → Outcome → State → Prop} {XC : String → State → State → Prop} {mc ms : Nat} {free : Addr → Prop} {cc : ByteArray} {maxL : Nat} {ret : Option FieldType} {hh : List (Nat × Nat × Nat × Nat)}
    (hy : plainName y.cls = true) (hw : ws = Cond.codeWith y cc maxL ret hh :: ws')
    (body : ∀ p e s m args below meth c s₁, BodyLoose p l y (headSpec ws rm) cc maxL ret e s m args below meth c s₁ → c.maxLocals = maxL → Pc args s →
      W p l e (headSpec ws rm).room s m args below meth c s.heap [] 0 0 (vx_MQ below Qc XC args s mc ms free) (entryFrame m args maxL)) : vx_Met l y ws rm Pc Qc XC mc ms free := by
  refine MetFree.of_bodyS (code := cc) (maxLocals := maxL) (ret := ret) hy ?_ ?_
  · intro args s m h hn
    obtain ⟨m9, meth, c, hn9, h1, h2, h3, h4, -, h5, h6, -⟩ := Cond.codeWith_spec (atoms_spec (ws := ws) h _ (by rw [hw]; exact List.mem_cons_self))
    cases hn.symm.trans hn9
    exact ⟨meth, c, h1, h2, h3, h4, h5, h6⟩
  · intro p e s m args below meth c s₁ B hml hP _
    have hh0 : s₁.heap = s.heap := by rw [B.state]; rfl
    obtain ⟨t, a1, o, b1, b2, b3⟩ := body p e s m args below meth c s₁ B hml hP s₁ hh0 (Stand.of_body B)
    exact ⟨t, o, a1, b1, b2, b3⟩
/-! ===== END ===== -/
end
section
/-! names, fields and decode rows of this claim: cut out of the printed text by wip/whole/gen_names.py -/
def RX0 : String := "ShadowLeases$Building"
def TX0 : u_T := fun k => match k with
  | 0 => ("ShadowLeases$Building", "number", "I", true)
  | 1 => ("ShadowLeases$Building", "x", "I", true)
  | 2 => ("ShadowLeases$Building", "y", "I", true)
  | 3 => ("ShadowLeases$Building", "wide", "I", true)
  | 4 => ("ShadowLeases$Building", "deep", "I", true)
  | 5 => ("ShadowLeases$Building", "owner", "I", true)
  | 6 => ("ShadowLeases$Building", "height", "I", false)
  | _ => ("ShadowLeases$Building", "stands", "Z", false)
def tyX0 : Nat → FieldType := fun k => match k with
  | 0 => .int
  | 1 => .int
  | 2 => .int
  | 3 => .int
  | 4 => .int
  | 5 => .int
  | 6 => .int
  | _ => .boolean
abbrev wsX00 : List Cond := u_ws RX0 TX0 8
theorem nmX0 : ∀ a, a < 8 → ∀ b, b < 8 → a ≠ b → (TX0 a).2.1 ≠ (TX0 b).2.1 := by decide +kernel
theorem tyX0_ok : ∀ k, k < 8 → parseFieldDescriptor (TX0 k).2.2.1 = some (tyX0 k) := by decide +kernel
abbrev cX0_init : ByteArray := prog_2_method_1_code
def yX0_init : MethodName := ⟨RX0, "<init>", "(IIIIIII)V"⟩
abbrev cX0_holds : ByteArray := prog_2_method_2_code
def yX0_holds : MethodName := ⟨RX0, "holds", "(II)Z"⟩
def RX1 : String := "ShadowLeases$Hour"
def TX1 : u_T := fun k => match k with
  | 0 => ("ShadowLeases$Hour", "number", "I", true)
  | 1 => ("ShadowLeases$Hour", "dx", "I", false)
  | 2 => ("ShadowLeases$Hour", "dy", "I", false)
  | 3 => ("ShadowLeases$Hour", "length", "I", false)
  | 4 => ("ShadowLeases$Hour", "measured", "Z", false)
  | 5 => ("ShadowLeases$Hour", "holder", "[I", true)
  | 6 => ("ShadowLeases$Hour", "layers", "[I", true)
  | 7 => ("ShadowLeases$Hour", "steps", "[I", true)
  | 8 => ("ShadowLeases$Hour", "areas", "[I", true)
  | 9 => ("ShadowLeases$Hour", "shaded", "I", false)
  | 10 => ("ShadowLeases$Hour", "overlapped", "I", false)
  | 11 => ("ShadowLeases$Hour", "allotted", "Z", false)
  | 12 => ("ShadowLeases$Hour", "given", "[I", true)
  | 13 => ("ShadowLeases$Hour", "allGiven", "I", false)
  | _ => ("ShadowLeases$Hour", "allShort", "I", false)
def tyX1 : Nat → FieldType := fun k => match k with
  | 0 => .int
  | 1 => .int
  | 2 => .int
  | 3 => .int
  | 4 => .boolean
  | 5 => .array .int
  | 6 => .array .int
  | 7 => .array .int
  | 8 => .array .int
  | 9 => .int
  | 10 => .int
  | 11 => .boolean
  | 12 => .array .int
  | 13 => .int
  | _ => .int
abbrev wsX10 : List Cond := u_ws RX1 TX1 15
theorem nmX1 : ∀ a, a < 15 → ∀ b, b < 15 → a ≠ b → (TX1 a).2.1 ≠ (TX1 b).2.1 := by decide +kernel
theorem tyX1_ok : ∀ k, k < 15 → parseFieldDescriptor (TX1 k).2.2.1 = some (tyX1 k) := by decide +kernel
abbrev cX1_init : ByteArray := prog_3_method_1_code
def yX1_init : MethodName := ⟨RX1, "<init>", "(I[I)V"⟩
abbrev cX1_forgetShade : ByteArray := prog_3_method_2_code
def yX1_forgetShade : MethodName := ⟨RX1, "forgetShade", "()V"⟩
abbrev cX1_figure : ByteArray := prog_3_method_3_code
def yX1_figure : MethodName := ⟨RX1, "figure", "(I)I"⟩
abbrev cX1_areaOf : ByteArray := prog_3_method_4_code
def yX1_areaOf : MethodName := ⟨RX1, "areaOf", "(I)I"⟩
abbrev cX1_givenTo : ByteArray := prog_3_method_5_code
def yX1_givenTo : MethodName := ⟨RX1, "givenTo", "(I)I"⟩
abbrev cX1_isShort : ByteArray := prog_3_method_6_code
def yX1_isShort : MethodName := ⟨RX1, "isShort", "(LShadowLeases$Lease;)Z"⟩
abbrev cX1_measure : ByteArray := prog_3_method_7_code
def yX1_measure : MethodName := ⟨RX1, "measure", "(LShadowLeases$Square;)V"⟩
abbrev cX1_castFrom : ByteArray := prog_3_method_8_code
def yX1_castFrom : MethodName := ⟨RX1, "castFrom", "(LShadowLeases$Building;)V"⟩
abbrev cX1_castRay : ByteArray := prog_3_method_9_code
def yX1_castRay : MethodName := ⟨RX1, "castRay", "(LShadowLeases$Building;II)V"⟩
abbrev cX1_sumUpShade : ByteArray := prog_3_method_10_code
def yX1_sumUpShade : MethodName := ⟨RX1, "sumUpShade", "()V"⟩
abbrev cX1_allot : ByteArray := prog_3_method_12_code
def yX1_allot : MethodName := ⟨RX1, "allot", "(Ljava/util/ArrayList;)V"⟩
abbrev cX1_askedBefore : ByteArray := prog_3_method_13_code
def yX1_askedBefore : MethodName := ⟨RX1, "askedBefore", "(LShadowLeases$Lease;Ljava/util/ArrayList;)I"⟩
def RX2 : String := "ShadowLeases$Lease"
def TX2 : u_T := fun k => match k with
  | 0 => ("ShadowLeases$Lease", "number", "I", true)
  | 1 => ("ShadowLeases$Lease", "building", "I", true)
  | 2 => ("ShadowLeases$Lease", "tenant", "I", true)
  | 3 => ("ShadowLeases$Lease", "first", "I", true)
  | 4 => ("ShadowLeases$Lease", "last", "I", true)
  | 5 => ("ShadowLeases$Lease", "cells", "I", true)
  | 6 => ("ShadowLeases$Lease", "price", "I", false)
  | 7 => ("ShadowLeases$Lease", "stands", "Z", false)
  | 8 => ("ShadowLeases$Lease", "warnings", "I", false)
  | _ => ("ShadowLeases$Lease", "paid", "I", false)
def tyX2 : Nat → FieldType := fun k => match k with
  | 0 => .int
  | 1 => .int
  | 2 => .int
  | 3 => .int
  | 4 => .int
  | 5 => .int
  | 6 => .int
  | 7 => .boolean
  | 8 => .int
  | _ => .int
abbrev wsX20 : List Cond := u_ws RX2 TX2 10
theorem nmX2 : ∀ a, a < 10 → ∀ b, b < 10 → a ≠ b → (TX2 a).2.1 ≠ (TX2 b).2.1 := by decide +kernel
theorem tyX2_ok : ∀ k, k < 10 → parseFieldDescriptor (TX2 k).2.2.1 = some (tyX2 k) := by decide +kernel
abbrev cX2_init : ByteArray := prog_4_method_1_code
def yX2_init : MethodName := ⟨RX2, "<init>", "(IIIIIII)V"⟩
abbrev cX2_hourCount : ByteArray := prog_4_method_2_code
def yX2_hourCount : MethodName := ⟨RX2, "hourCount", "()I"⟩
abbrev cX2_asksIn : ByteArray := prog_4_method_3_code
def yX2_asksIn : MethodName := ⟨RX2, "asksIn", "(I)Z"⟩
abbrev cX2_comesBefore : ByteArray := prog_4_method_4_code
def yX2_comesBefore : MethodName := ⟨RX2, "comesBefore", "(LShadowLeases$Lease;)Z"⟩
def RX3 : String := "ShadowLeases$Square"
def TX3 : u_T := fun k => match k with
  | 0 => ("ShadowLeases$Square", "buildings", "Ljava/util/ArrayList;", true)
  | _ => ("ShadowLeases$Square", "covered", "[Z", true)
def tyX3 : Nat → FieldType := fun k => match k with
  | 0 => .object "java/util/ArrayList"
  | _ => .array .boolean
abbrev wsX30 : List Cond := u_ws RX3 TX3 2
theorem nmX3 : ∀ a, a < 2 → ∀ b, b < 2 → a ≠ b → (TX3 a).2.1 ≠ (TX3 b).2.1 := by decide +kernel
theorem tyX3_ok : ∀ k, k < 2 → parseFieldDescriptor (TX3 k).2.2.1 = some (tyX3 k) := by decide +kernel
abbrev cX3_init : ByteArray := prog_5_method_1_code
def yX3_init : MethodName := ⟨RX3, "<init>", "()V"⟩
abbrev cX3_isCovered : ByteArray := prog_5_method_2_code
def yX3_isCovered : MethodName := ⟨RX3, "isCovered", "(I)Z"⟩
abbrev cX3_isFree : ByteArray := prog_5_method_3_code
def yX3_isFree : MethodName := ⟨RX3, "isFree", "(LShadowLeases$Building;)Z"⟩
abbrev cX3_setCovered : ByteArray := prog_5_method_4_code
def yX3_setCovered : MethodName := ⟨RX3, "setCovered", "(LShadowLeases$Building;Z)V"⟩
abbrev cX3_ownerOf : ByteArray := prog_5_method_5_code
def yX3_ownerOf : MethodName := ⟨RX3, "ownerOf", "(I)I"⟩
abbrev cX3_standing : ByteArray := prog_5_method_6_code
def yX3_standing : MethodName := ⟨RX3, "standing", "()I"⟩
abbrev cX3_coveredCells : ByteArray := prog_5_method_7_code
def yX3_coveredCells : MethodName := ⟨RX3, "coveredCells", "()I"⟩
def RX4 : String := "ShadowLeases"
def TX4 : u_T := fun k => match k with
  | 0 => ("ShadowLeases", "square", "LShadowLeases$Square;", true)
  | 1 => ("ShadowLeases", "hours", "Ljava/util/ArrayList;", true)
  | 2 => ("ShadowLeases", "leases", "Ljava/util/ArrayList;", true)
  | 3 => ("ShadowLeases", "gotByOwner", "[I", true)
  | 4 => ("ShadowLeases", "paidByTenant", "[I", true)
  | 5 => ("ShadowLeases", "day", "I", false)
  | _ => ("ShadowLeases", "evicted", "I", false)
def tyX4 : Nat → FieldType := fun k => match k with
  | 0 => .object "ShadowLeases$Square"
  | 1 => .object "java/util/ArrayList"
  | 2 => .object "java/util/ArrayList"
  | 3 => .array .int
  | 4 => .array .int
  | 5 => .int
  | _ => .int
abbrev wsX40 : List Cond := u_ws RX4 TX4 7
theorem nmX4 : ∀ a, a < 7 → ∀ b, b < 7 → a ≠ b → (TX4 a).2.1 ≠ (TX4 b).2.1 := by decide +kernel
theorem tyX4_ok : ∀ k, k < 7 → parseFieldDescriptor (TX4 k).2.2.1 = some (tyX4 k) := by decide +kernel
abbrev cX4_init : ByteArray := prog_1_method_1_code
def yX4_init : MethodName := ⟨RX4, "<init>", "()V"⟩
abbrev cX4_build : ByteArray := prog_1_method_2_code
def yX4_build : MethodName := ⟨RX4, "build", "(IIIIII)I"⟩
abbrev cX4_raise : ByteArray := prog_1_method_4_code
def yX4_raise : MethodName := ⟨RX4, "raise", "(II)I"⟩
abbrev cX4_setSun : ByteArray := prog_1_method_5_code
def yX4_setSun : MethodName := ⟨RX4, "setSun", "(IIII)I"⟩
abbrev cX4_shade : ByteArray := prog_1_method_7_code
def yX4_shade : MethodName := ⟨RX4, "shade", "(III)I"⟩
abbrev cX4_shades : ByteArray := prog_1_method_8_code
def yX4_shades : MethodName := ⟨RX4, "shades", "(III)I"⟩
abbrev cX4_area : ByteArray := prog_1_method_9_code
def yX4_area : MethodName := ⟨RX4, "area", "(II)I"⟩
abbrev cX4_inHour : ByteArray := prog_1_method_10_code
def yX4_inHour : MethodName := ⟨RX4, "inHour", "(II)I"⟩
abbrev cX4_let : ByteArray := prog_1_method_11_code
def yX4_let : MethodName := ⟨RX4, "let", "(IIIIII)I"⟩
abbrev cX4_lease : ByteArray := prog_1_method_14_code
def yX4_lease : MethodName := ⟨RX4, "lease", "(II)I"⟩
abbrev cX4_gets : ByteArray := prog_1_method_15_code
def yX4_gets : MethodName := ⟨RX4, "gets", "(II)I"⟩
abbrev cX4_pass : ByteArray := prog_1_method_17_code
def yX4_pass : MethodName := ⟨RX4, "pass", "(I)I"⟩
abbrev cX4_count : ByteArray := prog_1_method_18_code
def yX4_count : MethodName := ⟨RX4, "count", "(I)I"⟩
abbrev cX4_got : ByteArray := prog_1_method_19_code
def yX4_got : MethodName := ⟨RX4, "got", "(I)I"⟩
abbrev cX4_paid : ByteArray := prog_1_method_20_code
def yX4_paid : MethodName := ⟨RX4, "paid", "(I)I"⟩
abbrev cX4_fulfilled : ByteArray := prog_1_method_23_code
def yX4_fulfilled : MethodName := ⟨RX4, "fulfilled", "()D"⟩
abbrev cX4_needIndex : ByteArray := prog_1_method_27_code
def yX4_needIndex : MethodName := ⟨RX4, "needIndex", "(II)V"⟩
abbrev cX4_needArgument : ByteArray := prog_1_method_28_code
def yX4_needArgument : MethodName := ⟨RX4, "needArgument", "(III)V"⟩
abbrev cX4_buildingAt : ByteArray := prog_1_method_29_code
def yX4_buildingAt : MethodName := ⟨RX4, "buildingAt", "(I)LShadowLeases$Building;"⟩
abbrev cX4_standingBuilding : ByteArray := prog_1_method_30_code
def yX4_standingBuilding : MethodName := ⟨RX4, "standingBuilding", "(I)LShadowLeases$Building;"⟩
abbrev cX4_leaseAt : ByteArray := prog_1_method_31_code
def yX4_leaseAt : MethodName := ⟨RX4, "leaseAt", "(I)LShadowLeases$Lease;"⟩
abbrev cX4_hourAt : ByteArray := prog_1_method_33_code
def yX4_hourAt : MethodName := ⟨RX4, "hourAt", "(I)LShadowLeases$Hour;"⟩
abbrev cX4_measuredHour : ByteArray := prog_1_method_34_code
def yX4_measuredHour : MethodName := ⟨RX4, "measuredHour", "(I)LShadowLeases$Hour;"⟩
abbrev cX4_allottedHour : ByteArray := prog_1_method_35_code
def yX4_allottedHour : MethodName := ⟨RX4, "allottedHour", "(I)LShadowLeases$Hour;"⟩
abbrev cX4_forgetShades : ByteArray := prog_1_method_36_code
def yX4_forgetShades : MethodName := ⟨RX4, "forgetShades", "()V"⟩
abbrev cX4_forgetAllotments : ByteArray := prog_1_method_37_code
def yX4_forgetAllotments : MethodName := ⟨RX4, "forgetAllotments", "()V"⟩
abbrev cX4_changeHeight : ByteArray := prog_1_method_38_code
def yX4_changeHeight : MethodName := ⟨RX4, "changeHeight", "(LShadowLeases$Building;I)V"⟩
abbrev cX4_standingLeases : ByteArray := prog_1_method_40_code
def yX4_standingLeases : MethodName := ⟨RX4, "standingLeases", "()I"⟩
abbrev cX4_paidByAll : ByteArray := prog_1_method_41_code
def yX4_paidByAll : MethodName := ⟨RX4, "paidByAll", "()I"⟩
abbrev cX4_shortHours : ByteArray := prog_1_method_42_code
def yX4_shortHours : MethodName := ⟨RX4, "shortHours", "(LShadowLeases$Lease;)I"⟩
abbrev cX4_payFor : ByteArray := prog_1_method_43_code
def yX4_payFor : MethodName := ⟨RX4, "payFor", "(LShadowLeases$Hour;)V"⟩
abbrev cX4_warn : ByteArray := prog_1_method_44_code
def yX4_warn : MethodName := ⟨RX4, "warn", "()V"⟩
abbrev cX4_evict : ByteArray := prog_1_method_45_code
def yX4_evict : MethodName := ⟨RX4, "evict", "()V"⟩
def RX5 : String := "ShadowLeasesLaw$Sim"
def TX5 : u_T := fun k => match k with
  | 0 => ("ShadowLeasesLaw$Sim", "day", "I", false)
  | 1 => ("ShadowLeasesLaw$Sim", "evicted", "I", false)
  | 2 => ("ShadowLeasesLaw$Sim", "sun", "[[I", false)
  | 3 => ("ShadowLeasesLaw$Sim", "buildings", "[[I", false)
  | 4 => ("ShadowLeasesLaw$Sim", "leases", "[[I", false)
  | 5 => ("ShadowLeasesLaw$Sim", "got", "[I", false)
  | 6 => ("ShadowLeasesLaw$Sim", "paid", "[I", false)
  | 7 => ("ShadowLeasesLaw$Sim", "owner", "[[I", false)
  | _ => ("ShadowLeasesLaw$Sim", "many", "[[I", false)
def tyX5 : Nat → FieldType := fun k => match k with
  | 0 => .int
  | 1 => .int
  | 2 => .array (.array .int)
  | 3 => .array (.array .int)
  | 4 => .array (.array .int)
  | 5 => .array .int
  | 6 => .array .int
  | 7 => .array (.array .int)
  | _ => .array (.array .int)
abbrev wsX50 : List Cond := u_ws RX5 TX5 9
theorem nmX5 : ∀ a, a < 9 → ∀ b, b < 9 → a ≠ b → (TX5 a).2.1 ≠ (TX5 b).2.1 := by decide +kernel
theorem tyX5_ok : ∀ k, k < 9 → parseFieldDescriptor (TX5 k).2.2.1 = some (tyX5 k) := by decide +kernel
abbrev cX5_init : ByteArray := prog_7_method_1_code
def yX5_init : MethodName := ⟨RX5, "<init>", "()V"⟩
abbrev cX5_more : ByteArray := prog_7_method_2_code
def yX5_more : MethodName := ⟨RX5, "more", "([[I[I)[[I"⟩
abbrev cX5_cast : ByteArray := prog_7_method_3_code
def yX5_cast : MethodName := ⟨RX5, "cast", "()V"⟩
def RX6 : String := "ShadowLeasesModel"
def TX6 : u_T := fun k => match k with
  | _ => ("", "", "", false)
def tyX6 : Nat → FieldType := fun k => match k with
  | _ => .int
abbrev wsX60 : List Cond := u_ws RX6 TX6 0
theorem nmX6 : ∀ a, a < 0 → ∀ b, b < 0 → a ≠ b → (TX6 a).2.1 ≠ (TX6 b).2.1 := by decide +kernel
theorem tyX6_ok : ∀ k, k < 0 → parseFieldDescriptor (TX6 k).2.2.1 = some (tyX6 k) := by decide +kernel
def RJx145de : String := "java/io/Serializable"
def TJx145de : u_T := fun k => match k with
  | _ => ("", "", "", false)
def tyJx145de : Nat → FieldType := fun k => match k with
  | _ => .int
abbrev wsJx145de0 : List Cond := u_ws RJx145de TJx145de 0
theorem nmJx145de : ∀ a, a < 0 → ∀ b, b < 0 → a ≠ b → (TJx145de a).2.1 ≠ (TJx145de b).2.1 := by decide +kernel
theorem tyJx145de_ok : ∀ k, k < 0 → parseFieldDescriptor (TJx145de k).2.2.1 = some (tyJx145de k) := by decide +kernel
def RJx8e188 : String := "java/lang/Cloneable"
def TJx8e188 : u_T := fun k => match k with
  | _ => ("", "", "", false)
def tyJx8e188 : Nat → FieldType := fun k => match k with
  | _ => .int
abbrev wsJx8e1880 : List Cond := u_ws RJx8e188 TJx8e188 0
theorem nmJx8e188 : ∀ a, a < 0 → ∀ b, b < 0 → a ≠ b → (TJx8e188 a).2.1 ≠ (TJx8e188 b).2.1 := by decide +kernel
theorem tyJx8e188_ok : ∀ k, k < 0 → parseFieldDescriptor (TJx8e188 k).2.2.1 = some (tyJx8e188 k) := by decide +kernel
def RJxab1ab : String := "java/lang/Iterable"
def TJxab1ab : u_T := fun k => match k with
  | _ => ("", "", "", false)
def tyJxab1ab : Nat → FieldType := fun k => match k with
  | _ => .int
abbrev wsJxab1ab0 : List Cond := u_ws RJxab1ab TJxab1ab 0
theorem nmJxab1ab : ∀ a, a < 0 → ∀ b, b < 0 → a ≠ b → (TJxab1ab a).2.1 ≠ (TJxab1ab b).2.1 := by decide +kernel
theorem tyJxab1ab_ok : ∀ k, k < 0 → parseFieldDescriptor (TJxab1ab k).2.2.1 = some (tyJxab1ab k) := by decide +kernel
def RJ9 : String := "java/lang/Math"
def TJ9 : u_T := fun k => match k with
  | _ => ("", "", "", false)
def tyJ9 : Nat → FieldType := fun k => match k with
  | _ => .int
abbrev wsJ90 : List Cond := u_ws RJ9 TJ9 0
theorem nmJ9 : ∀ a, a < 0 → ∀ b, b < 0 → a ≠ b → (TJ9 a).2.1 ≠ (TJ9 b).2.1 := by decide +kernel
theorem tyJ9_ok : ∀ k, k < 0 → parseFieldDescriptor (TJ9 k).2.2.1 = some (tyJ9 k) := by decide +kernel
abbrev cJ9_max_7cf53 : ByteArray := prog_16_method_65_code
def yJ9_max_7cf53 : MethodName := ⟨RJ9, "max", "(II)I"⟩
abbrev cJ9_min_7cf53 : ByteArray := prog_16_method_69_code
def yJ9_min_7cf53 : MethodName := ⟨RJ9, "min", "(II)I"⟩
def RJ0 : String := "java/lang/String"
def TJ0 : u_T := fun k => match k with
  | _ => ("", "", "", false)
def tyJ0 : Nat → FieldType := fun k => match k with
  | _ => .int
abbrev wsJ00 : List Cond := u_ws RJ0 TJ0 0
theorem nmJ0 : ∀ a, a < 0 → ∀ b, b < 0 → a ≠ b → (TJ0 a).2.1 ≠ (TJ0 b).2.1 := by decide +kernel
theorem tyJ0_ok : ∀ k, k < 0 → parseFieldDescriptor (TJ0 k).2.2.1 = some (tyJ0 k) := by decide +kernel
def RJ10 : String := "java/lang/System"
def TJ10 : u_T := fun k => match k with
  | _ => ("", "", "", false)
def tyJ10 : Nat → FieldType := fun k => match k with
  | _ => .int
abbrev wsJ100 : List Cond := u_ws RJ10 TJ10 0
theorem nmJ10 : ∀ a, a < 0 → ∀ b, b < 0 → a ≠ b → (TJ10 a).2.1 ≠ (TJ10 b).2.1 := by decide +kernel
theorem tyJ10_ok : ∀ k, k < 0 → parseFieldDescriptor (TJ10 k).2.2.1 = some (tyJ10 k) := by decide +kernel
def RJxa1e45 : String := "java/util/AbstractCollection"
def TJxa1e45 : u_T := fun k => match k with
  | _ => ("", "", "", false)
def tyJxa1e45 : Nat → FieldType := fun k => match k with
  | _ => .int
abbrev wsJxa1e450 : List Cond := u_ws RJxa1e45 TJxa1e45 0
theorem nmJxa1e45 : ∀ a, a < 0 → ∀ b, b < 0 → a ≠ b → (TJxa1e45 a).2.1 ≠ (TJxa1e45 b).2.1 := by decide +kernel
theorem tyJxa1e45_ok : ∀ k, k < 0 → parseFieldDescriptor (TJxa1e45 k).2.2.1 = some (tyJxa1e45 k) := by decide +kernel
abbrev cJxa1e45_init_da8c8 : ByteArray := prog_21_method_1_code
def yJxa1e45_init_da8c8 : MethodName := ⟨RJxa1e45, "<init>", "()V"⟩
def RJxc12de : String := "java/util/AbstractList"
def TJxc12de : u_T := fun k => match k with
  | _ => ("", "", "", false)
def tyJxc12de : Nat → FieldType := fun k => match k with
  | _ => .int
abbrev wsJxc12de0 : List Cond := u_ws RJxc12de TJxc12de 0
theorem nmJxc12de : ∀ a, a < 0 → ∀ b, b < 0 → a ≠ b → (TJxc12de a).2.1 ≠ (TJxc12de b).2.1 := by decide +kernel
theorem tyJxc12de_ok : ∀ k, k < 0 → parseFieldDescriptor (TJxc12de k).2.2.1 = some (tyJxc12de k) := by decide +kernel
abbrev cJxc12de_init_da8c8 : ByteArray := prog_22_method_1_code
def yJxc12de_init_da8c8 : MethodName := ⟨RJxc12de, "<init>", "()V"⟩
def RJx4a65c : String := "java/util/ArrayList"
def TJx4a65c : u_T := fun k => match k with
  | 0 => ("java/util/AbstractList", "modCount", "I", false)
  | 1 => ("java/util/ArrayList", "elementData", "[Ljava/lang/Object;", false)
  | _ => ("java/util/ArrayList", "size", "I", false)
def tyJx4a65c : Nat → FieldType := fun k => match k with
  | 0 => .int
  | 1 => .array (.object "java/lang/Object")
  | _ => .int
abbrev wsJx4a65c0 : List Cond := u_ws RJx4a65c TJx4a65c 3
theorem nmJx4a65c : ∀ a, a < 3 → ∀ b, b < 3 → a ≠ b → (TJx4a65c a).2.1 ≠ (TJx4a65c b).2.1 := by decide +kernel
theorem tyJx4a65c_ok : ∀ k, k < 3 → parseFieldDescriptor (TJx4a65c k).2.2.1 = some (tyJx4a65c k) := by decide +kernel
abbrev cJx4a65c_init_da8c8 : ByteArray := prog_23_method_2_code
def yJx4a65c_init_da8c8 : MethodName := ⟨RJx4a65c, "<init>", "()V"⟩
abbrev cJx4a65c_grow_92f84 : ByteArray := prog_23_method_6_code
def yJx4a65c_grow_92f84 : MethodName := ⟨RJx4a65c, "grow", "(I)[Ljava/lang/Object;"⟩
abbrev cJx4a65c_grow_d5877 : ByteArray := prog_23_method_7_code
def yJx4a65c_grow_d5877 : MethodName := ⟨RJx4a65c, "grow", "()[Ljava/lang/Object;"⟩
abbrev cJx4a65c_size_8abf5 : ByteArray := prog_23_method_8_code
def yJx4a65c_size_8abf5 : MethodName := ⟨RJx4a65c, "size", "()I"⟩
abbrev cJx4a65c_elementData_915e3 : ByteArray := prog_23_method_18_code
def yJx4a65c_elementData_915e3 : MethodName := ⟨RJx4a65c, "elementData", "(I)Ljava/lang/Object;"⟩
abbrev cJx4a65c_get_915e3 : ByteArray := prog_23_method_20_code
def yJx4a65c_get_915e3 : MethodName := ⟨RJx4a65c, "get", "(I)Ljava/lang/Object;"⟩
abbrev cJx4a65c_add_72be8 : ByteArray := prog_23_method_24_code
def yJx4a65c_add_72be8 : MethodName := ⟨RJx4a65c, "add", "(Ljava/lang/Object;[Ljava/lang/Object;I)V"⟩
abbrev cJx4a65c_add_9ea2d : ByteArray := prog_23_method_25_code
def yJx4a65c_add_9ea2d : MethodName := ⟨RJx4a65c, "add", "(Ljava/lang/Object;)Z"⟩
def RJ7 : String := "java/util/Arrays"
def TJ7 : u_T := fun k => match k with
  | _ => ("", "", "", false)
def tyJ7 : Nat → FieldType := fun k => match k with
  | _ => .int
abbrev wsJ70 : List Cond := u_ws RJ7 TJ7 0
theorem nmJ7 : ∀ a, a < 0 → ∀ b, b < 0 → a ≠ b → (TJ7 a).2.1 ≠ (TJ7 b).2.1 := by decide +kernel
theorem tyJ7_ok : ∀ k, k < 0 → parseFieldDescriptor (TJ7 k).2.2.1 = some (tyJ7 k) := by decide +kernel
abbrev cJ7_fill_53178 : ByteArray := prog_24_method_103_code
def yJ7_fill_53178 : MethodName := ⟨RJ7, "fill", "([II)V"⟩
abbrev cJ7_copyOf_1904c : ByteArray := prog_24_method_119_code
def yJ7_copyOf_1904c : MethodName := ⟨RJ7, "copyOf", "([Ljava/lang/Object;I)[Ljava/lang/Object;"⟩
abbrev cJ7_copyOf_6403c : ByteArray := prog_24_method_120_code
def yJ7_copyOf_6403c : MethodName := ⟨RJ7, "copyOf", "([Ljava/lang/Object;ILjava/lang/Class;)[Ljava/lang/Object;"⟩
def RJx5ef63 : String := "java/util/Collection"
def TJx5ef63 : u_T := fun k => match k with
  | _ => ("", "", "", false)
def tyJx5ef63 : Nat → FieldType := fun k => match k with
  | _ => .int
abbrev wsJx5ef630 : List Cond := u_ws RJx5ef63 TJx5ef63 0
theorem nmJx5ef63 : ∀ a, a < 0 → ∀ b, b < 0 → a ≠ b → (TJx5ef63 a).2.1 ≠ (TJx5ef63 b).2.1 := by decide +kernel
theorem tyJx5ef63_ok : ∀ k, k < 0 → parseFieldDescriptor (TJx5ef63 k).2.2.1 = some (tyJx5ef63 k) := by decide +kernel
def RJxbd725 : String := "java/util/List"
def TJxbd725 : u_T := fun k => match k with
  | _ => ("", "", "", false)
def tyJxbd725 : Nat → FieldType := fun k => match k with
  | _ => .int
abbrev wsJxbd7250 : List Cond := u_ws RJxbd725 TJxbd725 0
theorem nmJxbd725 : ∀ a, a < 0 → ∀ b, b < 0 → a ≠ b → (TJxbd725 a).2.1 ≠ (TJxbd725 b).2.1 := by decide +kernel
theorem tyJxbd725_ok : ∀ k, k < 0 → parseFieldDescriptor (TJxbd725 k).2.2.1 = some (tyJxbd725 k) := by decide +kernel
def RJ15 : String := "java/util/Objects"
def TJ15 : u_T := fun k => match k with
  | _ => ("", "", "", false)
def tyJ15 : Nat → FieldType := fun k => match k with
  | _ => .int
abbrev wsJ150 : List Cond := u_ws RJ15 TJ15 0
theorem nmJ15 : ∀ a, a < 0 → ∀ b, b < 0 → a ≠ b → (TJ15 a).2.1 ≠ (TJ15 b).2.1 := by decide +kernel
theorem tyJ15_ok : ∀ k, k < 0 → parseFieldDescriptor (TJ15 k).2.2.1 = some (tyJ15 k) := by decide +kernel
abbrev cJ15_checkIndex_7cf53 : ByteArray := prog_27_method_17_code
def yJ15_checkIndex_7cf53 : MethodName := ⟨RJ15, "checkIndex", "(II)I"⟩
def RJxf0a74 : String := "java/util/RandomAccess"
def TJxf0a74 : u_T := fun k => match k with
  | _ => ("", "", "", false)
def tyJxf0a74 : Nat → FieldType := fun k => match k with
  | _ => .int
abbrev wsJxf0a740 : List Cond := u_ws RJxf0a74 TJxf0a74 0
theorem nmJxf0a74 : ∀ a, a < 0 → ∀ b, b < 0 → a ≠ b → (TJxf0a74 a).2.1 ≠ (TJxf0a74 b).2.1 := by decide +kernel
theorem tyJxf0a74_ok : ∀ k, k < 0 → parseFieldDescriptor (TJxf0a74 k).2.2.1 = some (tyJxf0a74 k) := by decide +kernel
def RJxa66e6 : String := "java/util/SequencedCollection"
def TJxa66e6 : u_T := fun k => match k with
  | _ => ("", "", "", false)
def tyJxa66e6 : Nat → FieldType := fun k => match k with
  | _ => .int
abbrev wsJxa66e60 : List Cond := u_ws RJxa66e6 TJxa66e6 0
theorem nmJxa66e6 : ∀ a, a < 0 → ∀ b, b < 0 → a ≠ b → (TJxa66e6 a).2.1 ≠ (TJxa66e6 b).2.1 := by decide +kernel
theorem tyJxa66e6_ok : ∀ k, k < 0 → parseFieldDescriptor (TJxa66e6 k).2.2.1 = some (tyJxa66e6 k) := by decide +kernel
def RJ8 : String := "jdk/internal/util/ArraysSupport"
def TJ8 : u_T := fun k => match k with
  | _ => ("", "", "", false)
def tyJ8 : Nat → FieldType := fun k => match k with
  | _ => .int
abbrev wsJ80 : List Cond := u_ws RJ8 TJ8 0
theorem nmJ8 : ∀ a, a < 0 → ∀ b, b < 0 → a ≠ b → (TJ8 a).2.1 ≠ (TJ8 b).2.1 := by decide +kernel
theorem tyJ8_ok : ∀ k, k < 0 → parseFieldDescriptor (TJ8 k).2.2.1 = some (tyJ8 k) := by decide +kernel
abbrev cJ8_newLength_cabcc : ByteArray := prog_30_method_27_code
def yJ8_newLength_cabcc : MethodName := ⟨RJ8, "newLength", "(III)I"⟩
abbrev cJ8_hugeLength_7cf53 : ByteArray := prog_30_method_28_code
def yJ8_hugeLength_7cf53 : MethodName := ⟨RJ8, "hugeLength", "(II)I"⟩
def RJ3 : String := "jdk/internal/util/Preconditions"
def TJ3 : u_T := fun k => match k with
  | _ => ("", "", "", false)
def tyJ3 : Nat → FieldType := fun k => match k with
  | _ => .int
abbrev wsJ30 : List Cond := u_ws RJ3 TJ3 0
theorem nmJ3 : ∀ a, a < 0 → ∀ b, b < 0 → a ≠ b → (TJ3 a).2.1 ≠ (TJ3 b).2.1 := by decide +kernel
theorem tyJ3_ok : ∀ k, k < 0 → parseFieldDescriptor (TJ3 k).2.2.1 = some (tyJ3 k) := by decide +kernel
abbrev cJ3_checkIndex_8e157 : ByteArray := prog_31_method_11_code
def yJ3_checkIndex_8e157 : MethodName := ⟨RJ3, "checkIndex", "(IILjava/util/function/BiFunction;)I"⟩
def RL : String := "ShadowLeasesLaw"
abbrev cL_below : ByteArray := method_2_code
def yL_below : MethodName := ⟨RL, "below", "(II)I"⟩
abbrev cL_cell : ByteArray := method_3_code
def yL_cell : MethodName := ⟨RL, "cell", "([II)I"⟩
abbrev cL_build : ByteArray := method_4_code
def yL_build : MethodName := ⟨RL, "build", "(LShadowLeases;[I)LShadowLeasesLaw$Sim;"⟩
abbrev cL_law : ByteArray := code
def yL_law : MethodName := ⟨RL, "law", "([I)Z"⟩
abbrev vwCl : List vw_C := [(RJx4a65c, TJx4a65c, 3), (RX0, TX0, 8), (RX1, TX1, 15), (RX2, TX2, 10), (RX3, TX3, 2), (RX4, TX4, 7), (RX5, TX5, 9)]
/-- a constant pool place that names a field: class of it in vwCl, field -/
def flds : List ((String × Nat) × (Nat × Nat)) := [(("java/util/ArrayList", 9), (0, 1)), (("java/util/ArrayList", 48), (0, 2)), (("java/util/AbstractList", 7), (0, 0)), (("java/util/ArrayList", 63), (0, 0)), (("ShadowLeases$Square", 12), (4, 0)), (("ShadowLeases", 46), (4, 0)), (("ShadowLeases$Hour", 84), (4, 0)), (("ShadowLeases$Square", 18), (4, 1)), (("ShadowLeases$Hour", 24), (2, 0)), (("ShadowLeases$Hour", 31), (2, 1)), (("ShadowLeases", 118), (2, 1)), (("ShadowLeases$Hour", 37), (2, 2)), (("ShadowLeases", 121), (2, 2)), (("ShadowLeases$Hour", 34), (2, 3)), (("ShadowLeases", 115), (2, 3)), (("ShadowLeases$Hour", 40), (2, 4)), (("ShadowLeases", 295), (2, 4)), (("ShadowLeases$Hour", 9), (2, 5)), (("ShadowLeases", 152), (2, 5)), (("ShadowLeases$Hour", 15), (2, 6)), (("ShadowLeases", 155), (2, 6)), (("ShadowLeases$Hour", 28), (2, 7)), (("ShadowLeases$Hour", 18), (2, 8)), (("ShadowLeases$Hour", 47), (2, 9)), (("ShadowLeases$Hour", 50), (2, 10)), (("ShadowLeases$Hour", 44), (2, 11)), (("ShadowLeases", 302), (2, 11)), (("ShadowLeases$Hour", 21), (2, 12)), (("ShadowLeases$Hour", 53), (2, 13)), (("ShadowLeases", 258), (2, 13)), (("ShadowLeases$Hour", 56), (2, 14)), (("ShadowLeases", 12), (5, 0)), (("ShadowLeases", 19), (5, 1)), (("ShadowLeases", 23), (5, 2)), (("ShadowLeases", 26), (5, 3)), (("ShadowLeases", 30), (5, 4)), (("ShadowLeases", 221), (5, 5)), (("ShadowLeases", 226), (5, 6)), (("ShadowLeasesLaw$Sim", 9), (6, 2)), (("ShadowLeasesLaw", 28), (6, 2)), (("ShadowLeasesLaw$Sim", 15), (6, 3)), (("ShadowLeasesLaw", 32), (6, 3)), (("ShadowLeasesLaw$Sim", 18), (6, 4)), (("ShadowLeasesLaw", 49), (6, 4)), (("ShadowLeasesLaw$Sim", 21), (6, 5)), (("ShadowLeasesLaw$Sim", 24), (6, 6)), (("ShadowLeasesLaw$Sim", 28), (6, 7)), (("ShadowLeasesLaw$Sim", 31), (6, 8)), (("ShadowLeases$Building", 13), (1, 0)), (("ShadowLeases$Hour", 133), (1, 0)), (("ShadowLeases$Building", 17), (1, 1)), (("ShadowLeases$Square", 31), (1, 1)), (("ShadowLeases$Hour", 116), (1, 1)), (("ShadowLeases$Building", 20), (1, 2)), (("ShadowLeases$Square", 22), (1, 2)), (("ShadowLeases$Hour", 110), (1, 2)), (("ShadowLeases$Building", 23), (1, 3)), (("ShadowLeases$Square", 34), (1, 3)), (("ShadowLeases$Hour", 119), (1, 3)), (("ShadowLeases$Building", 26), (1, 4)), (("ShadowLeases$Square", 28), (1, 4)), (("ShadowLeases$Hour", 113), (1, 4)), (("ShadowLeases$Building", 32), (1, 5)), (("ShadowLeases$Square", 49), (1, 5)), (("ShadowLeases$Building", 29), (1, 6)), (("ShadowLeases", 99), (1, 6)), (("ShadowLeases$Hour", 130), (1, 6)), (("ShadowLeases$Building", 7), (1, 7)), (("ShadowLeases$Square", 52), (1, 7)), (("ShadowLeases$Hour", 100), (1, 7)), (("ShadowLeases", 98), (1, 7)), (("ShadowLeases$Lease", 13), (3, 0)), (("ShadowLeases$Hour", 65), (3, 0)), (("ShadowLeases$Lease", 17), (3, 1)), (("ShadowLeases$Hour", 134), (3, 1)), (("ShadowLeases", 90), (3, 1)), (("ShadowLeases$Lease", 20), (3, 2)), (("ShadowLeases", 186), (3, 2)), (("ShadowLeases$Lease", 23), (3, 3)), (("ShadowLeases", 189), (3, 3)), (("ShadowLeases$Lease", 26), (3, 4)), (("ShadowLeases", 192), (3, 4)), (("ShadowLeases$Lease", 29), (3, 5)), (("ShadowLeases$Hour", 70), (3, 5)), (("ShadowLeases", 195), (3, 5)), (("ShadowLeases$Lease", 32), (3, 6)), (("ShadowLeases", 180), (3, 6)), (("ShadowLeases$Lease", 7), (3, 7)), (("ShadowLeases", 94), (3, 7)), (("ShadowLeases", 177), (3, 8)), (("ShadowLeases", 198), (3, 9))]
/-- a constant pool place that names a class: 0..6 the classes of vwCl, 50.. the exceptions, 60 Object[], 61 Object -/
def clss : List ((String × Nat) × Nat) := [(("ShadowLeasesLaw", 23), 5), (("ShadowLeases", 9), 4), (("ShadowLeases$Square", 9), 0), (("ShadowLeases", 16), 0), (("ShadowLeases", 33), 2), (("java/util/Arrays", 110), 60), (("java/util/Arrays", 2), 61), (("java/util/ArrayList", 7), 61), (("ShadowLeases", 208), 52), (("ShadowLeases", 53), 1), (("ShadowLeases", 110), 51), (("ShadowLeases$Hour", 98), 1), (("ShadowLeases$Hour", 60), 3), (("ShadowLeases", 88), 3), (("ShadowLeases", 62), 50), (("ShadowLeases$Square", 23), 1), (("ShadowLeasesLaw", 9), 6), (("ShadowLeasesLaw$Sim", 7), 62), (("ShadowLeasesLaw$Sim", 27), 63)]
def lcns : List ((String × Nat) × Nat) := []
/-- ints of the constant pool -/
def icns : List ((String × Nat) × Int32) := [(("ShadowLeasesLaw", 7), 2147483647), (("ShadowLeasesLaw", 8), 790386105)]
abbrev MI : Type := String × ByteArray × Nat × Option FieldType × List (Nat × Nat × Nat × Nat)
abbrev RI : Type := Instr × Nat × Nat × Nat × Int32 × List Nat
def tgN (pc : Nat) (off : Int) : Nat := ((pc : Int) + off).toNat
def rsOf (own : String) (pc : Nat) : Instr → Nat × Nat × Int32 × List Nat
  | .iconst n => (0, 0, Int32.ofInt n, [])
  | .bipush n => (0, 0, (Int8.ofInt n).toInt32, [])
  | .sipush n => (0, 0, (Int16.ofInt n).toInt32, [])
  | .iinc i n => (i, 0, Int32.ofInt n, [])
  | .goto o => (tgN pc o, 0, 0, [])
  | .ifCond _ o => (tgN pc o, 0, 0, [])
  | .if_icmp _ o => (tgN pc o, 0, 0, [])
  | .if_acmp _ o => (tgN pc o, 0, 0, [])
  | .ifnull o => (tgN pc o, 0, 0, [])
  | .ifnonnull o => (tgN pc o, 0, 0, [])
  | .getfield i => match flds.lookup (own, i) with | some q => (q.1, q.2, 0, []) | none => (99, 0, 0, [])
  | .putfield i => match flds.lookup (own, i) with | some q => (q.1, q.2, 0, []) | none => (99, 0, 0, [])
  | .new i => match clss.lookup (own, i) with | some q => (q, 0, 0, []) | none => (99, 0, 0, [])
  | .anewarray i => match clss.lookup (own, i) with | some q => (q, 0, 0, []) | none => (99, 0, 0, [])
  | .checkcast i => match clss.lookup (own, i) with | some q => (q, 0, 0, []) | none => (99, 0, 0, [])
  | .ldc i => match clss.lookup (own, i) with | some q => (q, 0, 0, []) | none => (match icns.lookup (own, i) with | some v => (98, 0, v, []) | none => (99, 0, 0, []))
  | .multianewarray i _ => match clss.lookup (own, i) with | some q => (q, 0, 0, []) | none => (99, 0, 0, [])
  | .aaload => if own = RX5 ∨ own = RL then (25, 0, 0, []) else (0, 0, 0, [])
  | .aastore => if own = RX5 ∨ own = RL then (25, 0, 0, []) else (0, 0, 0, [])
  | .arraylength => if own = RX5 ∨ own = RL then (25, 0, 0, []) else (0, 0, 0, [])
  | .ldc2_w i => match lcns.lookup (own, i) with | some q => (q, 1, 0, []) | none => (0, 0, 0, [])
  | .iload_n k => (k, 0, 0, [])
  | .lload_n k => (k, 0, 0, [])
  | .dload_n k => (k, 0, 0, [])
  | .aload_n k => (k, 0, 0, [])
  | .istore_n k => (k, 0, 0, [])
  | .lstore_n k => (k, 0, 0, [])
  | .dstore_n k => (k, 0, 0, [])
  | .astore_n k => (k, 0, 0, [])
  | .tableswitch d lo _ offs => (tgN pc d, 0, Int32.ofInt lo, offs.toList.map (tgN pc))
  | _ => (0, 0, 0, [])
def rs (M : MI) (pc : Nat) : Option RI := match decode M.2.1 pc with
  | .ok (i, len) => some (i, len, rsOf M.1 pc i)
  | .error _ => none
theorem rs_of {M : MI} {pc len : Nat} {i : Instr} {r : Nat × Nat × Int32 × List Nat} (h : decode M.2.1 pc = .ok (i, len)) (h2 : rsOf M.1 pc i = r) : rs M pc = some (i, len, r) := by
  unfold rs
  rw [h]
  subst h2
  rfl
def MX0_init : MI := (RX0, cX0_init, 8, none, [])
def MX0_holds : MI := (RX0, cX0_holds, 3, (some .boolean), [])
def MX1_init : MI := (RX1, cX1_init, 3, none, [])
def MX1_forgetShade : MI := (RX1, cX1_forgetShade, 1, none, [])
def MX1_figure : MI := (RX1, cX1_figure, 2, (some .int), [])
def MX1_areaOf : MI := (RX1, cX1_areaOf, 2, (some .int), [])
def MX1_givenTo : MI := (RX1, cX1_givenTo, 2, (some .int), [])
def MX2_asksIn : MI := (RX2, cX2_asksIn, 2, (some .boolean), [])
def MX1_isShort : MI := (RX1, cX1_isShort, 2, (some .boolean), [])
def MX3_isCovered : MI := (RX3, cX3_isCovered, 2, (some .boolean), [])
def MJ7_fill_53178 : MI := (RJ7, cJ7_fill_53178, 4, none, [])
def MJx4a65c_size_8abf5 : MI := (RJx4a65c, cJx4a65c_size_8abf5, 1, (some .int), [])
def MJ3_checkIndex_8e157 : MI := (RJ3, cJ3_checkIndex_8e157, 3, (some .int), [])
def MJ15_checkIndex_7cf53 : MI := (RJ15, cJ15_checkIndex_7cf53, 2, (some .int), [])
def MJx4a65c_elementData_915e3 : MI := (RJx4a65c, cJx4a65c_elementData_915e3, 2, (some (.object "java/lang/Object")), [])
def MJx4a65c_get_915e3 : MI := (RJx4a65c, cJx4a65c_get_915e3, 2, (some (.object "java/lang/Object")), [])
def MX1_castRay : MI := (RX1, cX1_castRay, 9, none, [])
def MX1_castFrom : MI := (RX1, cX1_castFrom, 4, none, [])
def MX1_sumUpShade : MI := (RX1, cX1_sumUpShade, 3, none, [])
def MX1_measure : MI := (RX1, cX1_measure, 4, none, [])
def MX2_comesBefore : MI := (RX2, cX2_comesBefore, 2, (some .boolean), [])
def MX1_askedBefore : MI := (RX1, cX1_askedBefore, 6, (some .int), [])
def MX1_allot : MI := (RX1, cX1_allot, 5, none, [])
def MX2_init : MI := (RX2, cX2_init, 8, none, [])
def MX2_hourCount : MI := (RX2, cX2_hourCount, 1, (some .int), [])
def MJxa1e45_init_da8c8 : MI := (RJxa1e45, cJxa1e45_init_da8c8, 1, none, [])
def MJxc12de_init_da8c8 : MI := (RJxc12de, cJxc12de_init_da8c8, 1, none, [])
def MJx4a65c_init_da8c8 : MI := (RJx4a65c, cJx4a65c_init_da8c8, 1, none, [])
def MX3_init : MI := (RX3, cX3_init, 1, none, [])
def MX3_isFree : MI := (RX3, cX3_isFree, 4, (some .boolean), [])
def MX3_setCovered : MI := (RX3, cX3_setCovered, 6, none, [])
def MX3_ownerOf : MI := (RX3, cX3_ownerOf, 2, (some .int), [])
def MX3_standing : MI := (RX3, cX3_standing, 3, (some .int), [])
def MX3_coveredCells : MI := (RX3, cX3_coveredCells, 4, (some .int), [])
def MJ8_hugeLength_7cf53 : MI := (RJ8, cJ8_hugeLength_7cf53, 3, (some .int), [])
def MJ8_newLength_cabcc : MI := (RJ8, cJ8_newLength_cabcc, 4, (some .int), [])
def MJ7_copyOf_6403c : MI := (RJ7, cJ7_copyOf_6403c, 4, (some (.array (.object "java/lang/Object"))), [])
def MJ7_copyOf_1904c : MI := (RJ7, cJ7_copyOf_1904c, 2, (some (.array (.object "java/lang/Object"))), [])
def MJx4a65c_grow_92f84 : MI := (RJx4a65c, cJx4a65c_grow_92f84, 4, (some (.array (.object "java/lang/Object"))), [])
def MJx4a65c_grow_d5877 : MI := (RJx4a65c, cJx4a65c_grow_d5877, 1, (some (.array (.object "java/lang/Object"))), [])
def MJx4a65c_add_72be8 : MI := (RJx4a65c, cJx4a65c_add_72be8, 4, none, [])
def MJx4a65c_add_9ea2d : MI := (RJx4a65c, cJx4a65c_add_9ea2d, 2, (some .boolean), [])
def MX4_init : MI := (RX4, cX4_init, 3, none, [])
def MX4_needArgument : MI := (RX4, cX4_needArgument, 3, none, [])
def MX4_forgetShades : MI := (RX4, cX4_forgetShades, 2, none, [])
def MX4_build : MI := (RX4, cX4_build, 9, (some .int), [])
def MX4_needIndex : MI := (RX4, cX4_needIndex, 2, none, [])
def MX4_buildingAt : MI := (RX4, cX4_buildingAt, 2, (some (.object "ShadowLeases$Building")), [])
def MX4_standingBuilding : MI := (RX4, cX4_standingBuilding, 3, (some (.object "ShadowLeases$Building")), [])
def MX4_changeHeight : MI := (RX4, cX4_changeHeight, 3, none, [])
def MX4_raise : MI := (RX4, cX4_raise, 5, (some .int), [])
def MX4_hourAt : MI := (RX4, cX4_hourAt, 2, (some (.object "ShadowLeases$Hour")), [])
def MX4_setSun : MI := (RX4, cX4_setSun, 7, (some .int), [])
def MX4_measuredHour : MI := (RX4, cX4_measuredHour, 3, (some (.object "ShadowLeases$Hour")), [])
def MX4_shade : MI := (RX4, cX4_shade, 4, (some .int), [])
def MX4_shades : MI := (RX4, cX4_shades, 4, (some .int), [])
def MX4_area : MI := (RX4, cX4_area, 3, (some .int), [])
def MX4_allottedHour : MI := (RX4, cX4_allottedHour, 3, (some (.object "ShadowLeases$Hour")), [])
def MX4_inHour : MI := (RX4, cX4_inHour, 3, (some .int), [])
def MX4_forgetAllotments : MI := (RX4, cX4_forgetAllotments, 2, none, [])
def MX4_let : MI := (RX4, cX4_let, 8, (some .int), [])
def MX4_leaseAt : MI := (RX4, cX4_leaseAt, 2, (some (.object "ShadowLeases$Lease")), [])
def MX4_shortHours : MI := (RX4, cX4_shortHours, 4, (some .int), [])
def MX4_lease : MI := (RX4, cX4_lease, 4, (some .int), [])
def MX4_gets : MI := (RX4, cX4_gets, 3, (some .int), [])
def MX4_payFor : MI := (RX4, cX4_payFor, 6, none, [])
def MX4_warn : MI := (RX4, cX4_warn, 4, none, [])
def MX4_evict : MI := (RX4, cX4_evict, 3, none, [])
def MX4_pass : MI := (RX4, cX4_pass, 5, (some .int), [])
def MX4_standingLeases : MI := (RX4, cX4_standingLeases, 3, (some .int), [])
def MX4_paidByAll : MI := (RX4, cX4_paidByAll, 3, (some .int), [])
def MX4_count : MI := (RX4, cX4_count, 2, (some .int), [])
def MX4_got : MI := (RX4, cX4_got, 2, (some .int), [])
def MX4_paid : MI := (RX4, cX4_paid, 2, (some .int), [])
def MX4_fulfilled : MI := (RX4, cX4_fulfilled, 5, (some .double), [])
def MX5_cast : MI := (RX5, cX5_cast, 11, none, [])
def MX5_init : MI := (RX5, cX5_init, 2, none, [])
def MX5_more : MI := (RX5, cX5_more, 4, (some (.array (.array .int))), [])
def MJ9_max_7cf53 : MI := (RJ9, cJ9_max_7cf53, 2, (some .int), [])
def MJ9_min_7cf53 : MI := (RJ9, cJ9_min_7cf53, 2, (some .int), [])
def ML_below : MI := (RL, cL_below, 2, (some .int), [])
def ML_cell : MI := (RL, cL_cell, 2, (some .int), [])
def ML_build : MI := (RL, cL_build, 15, (some (.object "ShadowLeasesLaw$Sim")), [])
def ML_law : MI := (RL, cL_law, 24, some .boolean, [])
end
section
theorem DX0_init_0 : rs MX0_init 0 = some (.aload_n 0, 1, 0, 0, 0, []) := rs_of (by decide +kernel) (by decide +kernel)
theorem DX0_init_1 : rs MX0_init 1 = some (.invokespecial 1, 3, 0, 0, 0, []) := rs_of (by decide +kernel) (by decide +kernel)
theorem DX0_init_4 : rs MX0_init 4 = some (.aload_n 0, 1, 0, 0, 0, []) := rs_of (by decide +kernel) (by decide +kernel)
theorem DX0_init_5 : rs MX0_init 5 = some (.iconst 1, 1, 0, 0, 1, []) := rs_of (by decide +kernel) (by decide +kernel)
theorem DX0_init_6 : rs MX0_init 6 = some (.putfield 7, 3, 1, 7, 0, []) := rs_of (by decide +kernel) (by decide +kernel)
theorem DX0_init_9 : rs MX0_init 9 = some (.aload_n 0, 1, 0, 0, 0, []) := rs_of (by decide +kernel) (by decide +kernel)
theorem DX0_init_10 : rs MX0_init 10 = some (.iload_n 1, 1, 1, 0, 0, []) := rs_of (by decide +kernel) (by decide +kernel)
theorem DX0_init_11 : rs MX0_init 11 = some (.putfield 13, 3, 1, 0, 0, []) := rs_of (by decide +kernel) (by decide +kernel)
theorem DX0_init_14 : rs MX0_init 14 = some (.aload_n 0, 1, 0, 0, 0, []) := rs_of (by decide +kernel) (by decide +kernel)
theorem DX0_init_15 : rs MX0_init 15 = some (.iload_n 2, 1, 2, 0, 0, []) := rs_of (by decide +kernel) (by decide +kernel)
theorem DX0_init_16 : rs MX0_init 16 = some (.putfield 17, 3, 1, 1, 0, []) := rs_of (by decide +kernel) (by decide +kernel)
theorem DX0_init_19 : rs MX0_init 19 = some (.aload_n 0, 1, 0, 0, 0, []) := rs_of (by decide +kernel) (by decide +kernel)
theorem DX0_init_20 : rs MX0_init 20 = some (.iload_n 3, 1, 3, 0, 0, []) := rs_of (by decide +kernel) (by decide +kernel)
theorem DX0_init_21 : rs MX0_init 21 = some (.putfield 20, 3, 1, 2, 0, []) := rs_of (by decide +kernel) (by decide +kernel)
theorem DX0_init_24 : rs MX0_init 24 = some (.aload_n 0, 1, 0, 0, 0, []) := rs_of (by decide +kernel) (by decide +kernel)
theorem DX0_init_25 : rs MX0_init 25 = some (.iload 4, 2, 0, 0, 0, []) := rs_of (by decide +kernel) (by decide +kernel)
theorem DX0_init_27 : rs MX0_init 27 = some (.putfield 23, 3, 1, 3, 0, []) := rs_of (by decide +kernel) (by decide +kernel)
theorem DX0_init_30 : rs MX0_init 30 = some (.aload_n 0, 1, 0, 0, 0, []) := rs_of (by decide +kernel) (by decide +kernel)
theorem DX0_init_31 : rs MX0_init 31 = some (.iload 5, 2, 0, 0, 0, []) := rs_of (by decide +kernel) (by decide +kernel)
theorem DX0_init_33 : rs MX0_init 33 = some (.putfield 26, 3, 1, 4, 0, []) := rs_of (by decide +kernel) (by decide +kernel)
theorem DX0_init_36 : rs MX0_init 36 = some (.aload_n 0, 1, 0, 0, 0, []) := rs_of (by decide +kernel) (by decide +kernel)
theorem DX0_init_37 : rs MX0_init 37 = some (.iload 6, 2, 0, 0, 0, []) := rs_of (by decide +kernel) (by decide +kernel)
theorem DX0_init_39 : rs MX0_init 39 = some (.putfield 29, 3, 1, 6, 0, []) := rs_of (by decide +kernel) (by decide +kernel)
theorem DX0_init_42 : rs MX0_init 42 = some (.aload_n 0, 1, 0, 0, 0, []) := rs_of (by decide +kernel) (by decide +kernel)
theorem DX0_init_43 : rs MX0_init 43 = some (.iload 7, 2, 0, 0, 0, []) := rs_of (by decide +kernel) (by decide +kernel)
theorem DX0_init_45 : rs MX0_init 45 = some (.putfield 32, 3, 1, 5, 0, []) := rs_of (by decide +kernel) (by decide +kernel)
theorem DX0_init_48 : rs MX0_init 48 = some (.return_, 1, 0, 0, 0, []) := rs_of (by decide +kernel) (by decide +kernel)
theorem DX0_holds_0 : rs MX0_holds 0 = some (.iload_n 1, 1, 1, 0, 0, []) := rs_of (by decide +kernel) (by decide +kernel)
theorem DX0_holds_1 : rs MX0_holds 1 = some (.aload_n 0, 1, 0, 0, 0, []) := rs_of (by decide +kernel) (by decide +kernel)
theorem DX0_holds_2 : rs MX0_holds 2 = some (.getfield 17, 3, 1, 1, 0, []) := rs_of (by decide +kernel) (by decide +kernel)
theorem DX0_holds_5 : rs MX0_holds 5 = some (.if_icmp .lt 41, 3, 46, 0, 0, []) := rs_of (by decide +kernel) (by decide +kernel)
theorem DX0_holds_8 : rs MX0_holds 8 = some (.iload_n 1, 1, 1, 0, 0, []) := rs_of (by decide +kernel) (by decide +kernel)
theorem DX0_holds_9 : rs MX0_holds 9 = some (.aload_n 0, 1, 0, 0, 0, []) := rs_of (by decide +kernel) (by decide +kernel)
theorem DX0_holds_10 : rs MX0_holds 10 = some (.getfield 17, 3, 1, 1, 0, []) := rs_of (by decide +kernel) (by decide +kernel)
theorem DX0_holds_13 : rs MX0_holds 13 = some (.aload_n 0, 1, 0, 0, 0, []) := rs_of (by decide +kernel) (by decide +kernel)
theorem DX0_holds_14 : rs MX0_holds 14 = some (.getfield 23, 3, 1, 3, 0, []) := rs_of (by decide +kernel) (by decide +kernel)
theorem DX0_holds_17 : rs MX0_holds 17 = some (.iadd, 1, 0, 0, 0, []) := rs_of (by decide +kernel) (by decide +kernel)
theorem DX0_holds_18 : rs MX0_holds 18 = some (.if_icmp .ge 28, 3, 46, 0, 0, []) := rs_of (by decide +kernel) (by decide +kernel)
theorem DX0_holds_21 : rs MX0_holds 21 = some (.iload_n 2, 1, 2, 0, 0, []) := rs_of (by decide +kernel) (by decide +kernel)
theorem DX0_holds_22 : rs MX0_holds 22 = some (.aload_n 0, 1, 0, 0, 0, []) := rs_of (by decide +kernel) (by decide +kernel)
theorem DX0_holds_23 : rs MX0_holds 23 = some (.getfield 20, 3, 1, 2, 0, []) := rs_of (by decide +kernel) (by decide +kernel)
theorem DX0_holds_26 : rs MX0_holds 26 = some (.if_icmp .lt 20, 3, 46, 0, 0, []) := rs_of (by decide +kernel) (by decide +kernel)
theorem DX0_holds_29 : rs MX0_holds 29 = some (.iload_n 2, 1, 2, 0, 0, []) := rs_of (by decide +kernel) (by decide +kernel)
theorem DX0_holds_30 : rs MX0_holds 30 = some (.aload_n 0, 1, 0, 0, 0, []) := rs_of (by decide +kernel) (by decide +kernel)
theorem DX0_holds_31 : rs MX0_holds 31 = some (.getfield 20, 3, 1, 2, 0, []) := rs_of (by decide +kernel) (by decide +kernel)
theorem DX0_holds_34 : rs MX0_holds 34 = some (.aload_n 0, 1, 0, 0, 0, []) := rs_of (by decide +kernel) (by decide +kernel)
theorem DX0_holds_35 : rs MX0_holds 35 = some (.getfield 26, 3, 1, 4, 0, []) := rs_of (by decide +kernel) (by decide +kernel)
theorem DX0_holds_38 : rs MX0_holds 38 = some (.iadd, 1, 0, 0, 0, []) := rs_of (by decide +kernel) (by decide +kernel)
theorem DX0_holds_39 : rs MX0_holds 39 = some (.if_icmp .ge 7, 3, 46, 0, 0, []) := rs_of (by decide +kernel) (by decide +kernel)
theorem DX0_holds_42 : rs MX0_holds 42 = some (.iconst 1, 1, 0, 0, 1, []) := rs_of (by decide +kernel) (by decide +kernel)
theorem DX0_holds_43 : rs MX0_holds 43 = some (.goto 4, 3, 47, 0, 0, []) := rs_of (by decide +kernel) (by decide +kernel)
theorem DX0_holds_46 : rs MX0_holds 46 = some (.iconst 0, 1, 0, 0, 0, []) := rs_of (by decide +kernel) (by decide +kernel)
theorem DX0_holds_47 : rs MX0_holds 47 = some (.ireturn, 1, 0, 0, 0, []) := rs_of (by decide +kernel) (by decide +kernel)
end
section
theorem DX1_init_0 : rs MX1_init 0 = some (.aload_n 0, 1, 0, 0, 0, []) := rs_of (by decide +kernel) (by decide +kernel)
theorem DX1_init_1 : rs MX1_init 1 = some (.invokespecial 3, 3, 0, 0, 0, []) := rs_of (by decide +kernel) (by decide +kernel)
theorem DX1_init_4 : rs MX1_init 4 = some (.aload_n 0, 1, 0, 0, 0, []) := rs_of (by decide +kernel) (by decide +kernel)
theorem DX1_init_5 : rs MX1_init 5 = some (.sipush 256, 3, 0, 0, 256, []) := rs_of (by decide +kernel) (by decide +kernel)
theorem DX1_init_8 : rs MX1_init 8 = some (.newarray .int, 2, 0, 0, 0, []) := rs_of (by decide +kernel) (by decide +kernel)
theorem DX1_init_10 : rs MX1_init 10 = some (.putfield 9, 3, 2, 5, 0, []) := rs_of (by decide +kernel) (by decide +kernel)
theorem DX1_init_13 : rs MX1_init 13 = some (.aload_n 0, 1, 0, 0, 0, []) := rs_of (by decide +kernel) (by decide +kernel)
theorem DX1_init_14 : rs MX1_init 14 = some (.sipush 256, 3, 0, 0, 256, []) := rs_of (by decide +kernel) (by decide +kernel)
theorem DX1_init_17 : rs MX1_init 17 = some (.newarray .int, 2, 0, 0, 0, []) := rs_of (by decide +kernel) (by decide +kernel)
theorem DX1_init_19 : rs MX1_init 19 = some (.putfield 15, 3, 2, 6, 0, []) := rs_of (by decide +kernel) (by decide +kernel)
theorem DX1_init_22 : rs MX1_init 22 = some (.aload_n 0, 1, 0, 0, 0, []) := rs_of (by decide +kernel) (by decide +kernel)
theorem DX1_init_23 : rs MX1_init 23 = some (.bipush 12, 2, 0, 0, 12, []) := rs_of (by decide +kernel) (by decide +kernel)
theorem DX1_init_25 : rs MX1_init 25 = some (.newarray .int, 2, 0, 0, 0, []) := rs_of (by decide +kernel) (by decide +kernel)
theorem DX1_init_27 : rs MX1_init 27 = some (.putfield 18, 3, 2, 8, 0, []) := rs_of (by decide +kernel) (by decide +kernel)
theorem DX1_init_30 : rs MX1_init 30 = some (.aload_n 0, 1, 0, 0, 0, []) := rs_of (by decide +kernel) (by decide +kernel)
theorem DX1_init_31 : rs MX1_init 31 = some (.bipush 40, 2, 0, 0, 40, []) := rs_of (by decide +kernel) (by decide +kernel)
theorem DX1_init_33 : rs MX1_init 33 = some (.newarray .int, 2, 0, 0, 0, []) := rs_of (by decide +kernel) (by decide +kernel)
theorem DX1_init_35 : rs MX1_init 35 = some (.putfield 21, 3, 2, 12, 0, []) := rs_of (by decide +kernel) (by decide +kernel)
theorem DX1_init_38 : rs MX1_init 38 = some (.aload_n 0, 1, 0, 0, 0, []) := rs_of (by decide +kernel) (by decide +kernel)
theorem DX1_init_39 : rs MX1_init 39 = some (.iload_n 1, 1, 1, 0, 0, []) := rs_of (by decide +kernel) (by decide +kernel)
theorem DX1_init_40 : rs MX1_init 40 = some (.putfield 24, 3, 2, 0, 0, []) := rs_of (by decide +kernel) (by decide +kernel)
theorem DX1_init_43 : rs MX1_init 43 = some (.aload_n 0, 1, 0, 0, 0, []) := rs_of (by decide +kernel) (by decide +kernel)
theorem DX1_init_44 : rs MX1_init 44 = some (.aload_n 2, 1, 2, 0, 0, []) := rs_of (by decide +kernel) (by decide +kernel)
theorem DX1_init_45 : rs MX1_init 45 = some (.putfield 28, 3, 2, 7, 0, []) := rs_of (by decide +kernel) (by decide +kernel)
theorem DX1_init_48 : rs MX1_init 48 = some (.iload_n 1, 1, 1, 0, 0, []) := rs_of (by decide +kernel) (by decide +kernel)
theorem DX1_init_49 : rs MX1_init 49 = some (.iconst 5, 1, 0, 0, 5, []) := rs_of (by decide +kernel) (by decide +kernel)
theorem DX1_init_50 : rs MX1_init 50 = some (.if_icmp .ge 18, 3, 68, 0, 0, []) := rs_of (by decide +kernel) (by decide +kernel)
theorem DX1_init_53 : rs MX1_init 53 = some (.aload_n 0, 1, 0, 0, 0, []) := rs_of (by decide +kernel) (by decide +kernel)
theorem DX1_init_54 : rs MX1_init 54 = some (.iconst (-1), 1, 0, 0, (-1), []) := rs_of (by decide +kernel) (by decide +kernel)
theorem DX1_init_55 : rs MX1_init 55 = some (.putfield 31, 3, 2, 1, 0, []) := rs_of (by decide +kernel) (by decide +kernel)
theorem DX1_init_58 : rs MX1_init 58 = some (.aload_n 0, 1, 0, 0, 0, []) := rs_of (by decide +kernel) (by decide +kernel)
theorem DX1_init_59 : rs MX1_init 59 = some (.iconst 5, 1, 0, 0, 5, []) := rs_of (by decide +kernel) (by decide +kernel)
theorem DX1_init_60 : rs MX1_init 60 = some (.iload_n 1, 1, 1, 0, 0, []) := rs_of (by decide +kernel) (by decide +kernel)
theorem DX1_init_61 : rs MX1_init 61 = some (.isub, 1, 0, 0, 0, []) := rs_of (by decide +kernel) (by decide +kernel)
theorem DX1_init_62 : rs MX1_init 62 = some (.putfield 34, 3, 2, 3, 0, []) := rs_of (by decide +kernel) (by decide +kernel)
theorem DX1_init_65 : rs MX1_init 65 = some (.goto 35, 3, 100, 0, 0, []) := rs_of (by decide +kernel) (by decide +kernel)
theorem DX1_init_68 : rs MX1_init 68 = some (.iload_n 1, 1, 1, 0, 0, []) := rs_of (by decide +kernel) (by decide +kernel)
theorem DX1_init_69 : rs MX1_init 69 = some (.bipush 7, 2, 0, 0, 7, []) := rs_of (by decide +kernel) (by decide +kernel)
theorem DX1_init_71 : rs MX1_init 71 = some (.if_icmp .ge 16, 3, 87, 0, 0, []) := rs_of (by decide +kernel) (by decide +kernel)
theorem DX1_init_74 : rs MX1_init 74 = some (.aload_n 0, 1, 0, 0, 0, []) := rs_of (by decide +kernel) (by decide +kernel)
theorem DX1_init_75 : rs MX1_init 75 = some (.iconst (-1), 1, 0, 0, (-1), []) := rs_of (by decide +kernel) (by decide +kernel)
theorem DX1_init_76 : rs MX1_init 76 = some (.putfield 37, 3, 2, 2, 0, []) := rs_of (by decide +kernel) (by decide +kernel)
theorem DX1_init_79 : rs MX1_init 79 = some (.aload_n 0, 1, 0, 0, 0, []) := rs_of (by decide +kernel) (by decide +kernel)
theorem DX1_init_80 : rs MX1_init 80 = some (.iconst 1, 1, 0, 0, 1, []) := rs_of (by decide +kernel) (by decide +kernel)
theorem DX1_init_81 : rs MX1_init 81 = some (.putfield 34, 3, 2, 3, 0, []) := rs_of (by decide +kernel) (by decide +kernel)
theorem DX1_init_84 : rs MX1_init 84 = some (.goto 16, 3, 100, 0, 0, []) := rs_of (by decide +kernel) (by decide +kernel)
theorem DX1_init_87 : rs MX1_init 87 = some (.aload_n 0, 1, 0, 0, 0, []) := rs_of (by decide +kernel) (by decide +kernel)
theorem DX1_init_88 : rs MX1_init 88 = some (.iconst 1, 1, 0, 0, 1, []) := rs_of (by decide +kernel) (by decide +kernel)
theorem DX1_init_89 : rs MX1_init 89 = some (.putfield 31, 3, 2, 1, 0, []) := rs_of (by decide +kernel) (by decide +kernel)
theorem DX1_init_92 : rs MX1_init 92 = some (.aload_n 0, 1, 0, 0, 0, []) := rs_of (by decide +kernel) (by decide +kernel)
theorem DX1_init_93 : rs MX1_init 93 = some (.iload_n 1, 1, 1, 0, 0, []) := rs_of (by decide +kernel) (by decide +kernel)
theorem DX1_init_94 : rs MX1_init 94 = some (.bipush 6, 2, 0, 0, 6, []) := rs_of (by decide +kernel) (by decide +kernel)
theorem DX1_init_96 : rs MX1_init 96 = some (.isub, 1, 0, 0, 0, []) := rs_of (by decide +kernel) (by decide +kernel)
theorem DX1_init_97 : rs MX1_init 97 = some (.putfield 34, 3, 2, 3, 0, []) := rs_of (by decide +kernel) (by decide +kernel)
theorem DX1_init_100 : rs MX1_init 100 = some (.return_, 1, 0, 0, 0, []) := rs_of (by decide +kernel) (by decide +kernel)
theorem DX1_forgetShade_0 : rs MX1_forgetShade 0 = some (.aload_n 0, 1, 0, 0, 0, []) := rs_of (by decide +kernel) (by decide +kernel)
theorem DX1_forgetShade_1 : rs MX1_forgetShade 1 = some (.iconst 0, 1, 0, 0, 0, []) := rs_of (by decide +kernel) (by decide +kernel)
theorem DX1_forgetShade_2 : rs MX1_forgetShade 2 = some (.putfield 40, 3, 2, 4, 0, []) := rs_of (by decide +kernel) (by decide +kernel)
theorem DX1_forgetShade_5 : rs MX1_forgetShade 5 = some (.aload_n 0, 1, 0, 0, 0, []) := rs_of (by decide +kernel) (by decide +kernel)
theorem DX1_forgetShade_6 : rs MX1_forgetShade 6 = some (.iconst 0, 1, 0, 0, 0, []) := rs_of (by decide +kernel) (by decide +kernel)
theorem DX1_forgetShade_7 : rs MX1_forgetShade 7 = some (.putfield 44, 3, 2, 11, 0, []) := rs_of (by decide +kernel) (by decide +kernel)
theorem DX1_forgetShade_10 : rs MX1_forgetShade 10 = some (.return_, 1, 0, 0, 0, []) := rs_of (by decide +kernel) (by decide +kernel)
theorem DX1_figure_0 : rs MX1_figure 0 = some (.iload_n 1, 1, 1, 0, 0, []) := rs_of (by decide +kernel) (by decide +kernel)
theorem DX1_figure_1 : rs MX1_figure 1 = some (.tableswitch 42 0 2 #[27, 32, 37], 27, 43, 0, 0, [28, 33, 38]) := rs_of (by decide +kernel) (by decide +kernel)
theorem DX1_figure_28 : rs MX1_figure 28 = some (.aload_n 0, 1, 0, 0, 0, []) := rs_of (by decide +kernel) (by decide +kernel)
theorem DX1_figure_29 : rs MX1_figure 29 = some (.getfield 47, 3, 2, 9, 0, []) := rs_of (by decide +kernel) (by decide +kernel)
theorem DX1_figure_32 : rs MX1_figure 32 = some (.ireturn, 1, 0, 0, 0, []) := rs_of (by decide +kernel) (by decide +kernel)
theorem DX1_figure_33 : rs MX1_figure 33 = some (.aload_n 0, 1, 0, 0, 0, []) := rs_of (by decide +kernel) (by decide +kernel)
theorem DX1_figure_34 : rs MX1_figure 34 = some (.getfield 50, 3, 2, 10, 0, []) := rs_of (by decide +kernel) (by decide +kernel)
theorem DX1_figure_37 : rs MX1_figure 37 = some (.ireturn, 1, 0, 0, 0, []) := rs_of (by decide +kernel) (by decide +kernel)
theorem DX1_figure_38 : rs MX1_figure 38 = some (.aload_n 0, 1, 0, 0, 0, []) := rs_of (by decide +kernel) (by decide +kernel)
theorem DX1_figure_39 : rs MX1_figure 39 = some (.getfield 53, 3, 2, 13, 0, []) := rs_of (by decide +kernel) (by decide +kernel)
theorem DX1_figure_42 : rs MX1_figure 42 = some (.ireturn, 1, 0, 0, 0, []) := rs_of (by decide +kernel) (by decide +kernel)
theorem DX1_figure_43 : rs MX1_figure 43 = some (.aload_n 0, 1, 0, 0, 0, []) := rs_of (by decide +kernel) (by decide +kernel)
theorem DX1_figure_44 : rs MX1_figure 44 = some (.getfield 56, 3, 2, 14, 0, []) := rs_of (by decide +kernel) (by decide +kernel)
theorem DX1_figure_47 : rs MX1_figure 47 = some (.ireturn, 1, 0, 0, 0, []) := rs_of (by decide +kernel) (by decide +kernel)
theorem DX1_areaOf_0 : rs MX1_areaOf 0 = some (.iload_n 1, 1, 1, 0, 0, []) := rs_of (by decide +kernel) (by decide +kernel)
theorem DX1_areaOf_1 : rs MX1_areaOf 1 = some (.ifCond .lt 21, 3, 22, 0, 0, []) := rs_of (by decide +kernel) (by decide +kernel)
theorem DX1_areaOf_4 : rs MX1_areaOf 4 = some (.iload_n 1, 1, 1, 0, 0, []) := rs_of (by decide +kernel) (by decide +kernel)
theorem DX1_areaOf_5 : rs MX1_areaOf 5 = some (.aload_n 0, 1, 0, 0, 0, []) := rs_of (by decide +kernel) (by decide +kernel)
theorem DX1_areaOf_6 : rs MX1_areaOf 6 = some (.getfield 18, 3, 2, 8, 0, []) := rs_of (by decide +kernel) (by decide +kernel)
theorem DX1_areaOf_9 : rs MX1_areaOf 9 = some (.arraylength, 1, 0, 0, 0, []) := rs_of (by decide +kernel) (by decide +kernel)
theorem DX1_areaOf_10 : rs MX1_areaOf 10 = some (.if_icmp .ge 12, 3, 22, 0, 0, []) := rs_of (by decide +kernel) (by decide +kernel)
theorem DX1_areaOf_13 : rs MX1_areaOf 13 = some (.aload_n 0, 1, 0, 0, 0, []) := rs_of (by decide +kernel) (by decide +kernel)
theorem DX1_areaOf_14 : rs MX1_areaOf 14 = some (.getfield 18, 3, 2, 8, 0, []) := rs_of (by decide +kernel) (by decide +kernel)
theorem DX1_areaOf_17 : rs MX1_areaOf 17 = some (.iload_n 1, 1, 1, 0, 0, []) := rs_of (by decide +kernel) (by decide +kernel)
theorem DX1_areaOf_18 : rs MX1_areaOf 18 = some (.iaload, 1, 0, 0, 0, []) := rs_of (by decide +kernel) (by decide +kernel)
theorem DX1_areaOf_19 : rs MX1_areaOf 19 = some (.goto 4, 3, 23, 0, 0, []) := rs_of (by decide +kernel) (by decide +kernel)
theorem DX1_areaOf_22 : rs MX1_areaOf 22 = some (.iconst 0, 1, 0, 0, 0, []) := rs_of (by decide +kernel) (by decide +kernel)
theorem DX1_areaOf_23 : rs MX1_areaOf 23 = some (.ireturn, 1, 0, 0, 0, []) := rs_of (by decide +kernel) (by decide +kernel)
theorem DX1_givenTo_0 : rs MX1_givenTo 0 = some (.iload_n 1, 1, 1, 0, 0, []) := rs_of (by decide +kernel) (by decide +kernel)
theorem DX1_givenTo_1 : rs MX1_givenTo 1 = some (.ifCond .lt 21, 3, 22, 0, 0, []) := rs_of (by decide +kernel) (by decide +kernel)
theorem DX1_givenTo_4 : rs MX1_givenTo 4 = some (.iload_n 1, 1, 1, 0, 0, []) := rs_of (by decide +kernel) (by decide +kernel)
theorem DX1_givenTo_5 : rs MX1_givenTo 5 = some (.aload_n 0, 1, 0, 0, 0, []) := rs_of (by decide +kernel) (by decide +kernel)
theorem DX1_givenTo_6 : rs MX1_givenTo 6 = some (.getfield 21, 3, 2, 12, 0, []) := rs_of (by decide +kernel) (by decide +kernel)
theorem DX1_givenTo_9 : rs MX1_givenTo 9 = some (.arraylength, 1, 0, 0, 0, []) := rs_of (by decide +kernel) (by decide +kernel)
theorem DX1_givenTo_10 : rs MX1_givenTo 10 = some (.if_icmp .ge 12, 3, 22, 0, 0, []) := rs_of (by decide +kernel) (by decide +kernel)
theorem DX1_givenTo_13 : rs MX1_givenTo 13 = some (.aload_n 0, 1, 0, 0, 0, []) := rs_of (by decide +kernel) (by decide +kernel)
theorem DX1_givenTo_14 : rs MX1_givenTo 14 = some (.getfield 21, 3, 2, 12, 0, []) := rs_of (by decide +kernel) (by decide +kernel)
theorem DX1_givenTo_17 : rs MX1_givenTo 17 = some (.iload_n 1, 1, 1, 0, 0, []) := rs_of (by decide +kernel) (by decide +kernel)
theorem DX1_givenTo_18 : rs MX1_givenTo 18 = some (.iaload, 1, 0, 0, 0, []) := rs_of (by decide +kernel) (by decide +kernel)
theorem DX1_givenTo_19 : rs MX1_givenTo 19 = some (.goto 4, 3, 23, 0, 0, []) := rs_of (by decide +kernel) (by decide +kernel)
theorem DX1_givenTo_22 : rs MX1_givenTo 22 = some (.iconst 0, 1, 0, 0, 0, []) := rs_of (by decide +kernel) (by decide +kernel)
theorem DX1_givenTo_23 : rs MX1_givenTo 23 = some (.ireturn, 1, 0, 0, 0, []) := rs_of (by decide +kernel) (by decide +kernel)
theorem DX1_isShort_0 : rs MX1_isShort 0 = some (.aload_n 1, 1, 1, 0, 0, []) := rs_of (by decide +kernel) (by decide +kernel)
theorem DX1_isShort_1 : rs MX1_isShort 1 = some (.aload_n 0, 1, 0, 0, 0, []) := rs_of (by decide +kernel) (by decide +kernel)
theorem DX1_isShort_2 : rs MX1_isShort 2 = some (.getfield 24, 3, 2, 0, 0, []) := rs_of (by decide +kernel) (by decide +kernel)
theorem DX1_isShort_5 : rs MX1_isShort 5 = some (.invokevirtual 59, 3, 0, 0, 0, []) := rs_of (by decide +kernel) (by decide +kernel)
theorem DX1_isShort_8 : rs MX1_isShort 8 = some (.ifCond .eq 22, 3, 30, 0, 0, []) := rs_of (by decide +kernel) (by decide +kernel)
theorem DX1_isShort_11 : rs MX1_isShort 11 = some (.aload_n 0, 1, 0, 0, 0, []) := rs_of (by decide +kernel) (by decide +kernel)
theorem DX1_isShort_12 : rs MX1_isShort 12 = some (.aload_n 1, 1, 1, 0, 0, []) := rs_of (by decide +kernel) (by decide +kernel)
theorem DX1_isShort_13 : rs MX1_isShort 13 = some (.getfield 65, 3, 3, 0, 0, []) := rs_of (by decide +kernel) (by decide +kernel)
theorem DX1_isShort_16 : rs MX1_isShort 16 = some (.invokevirtual 66, 3, 0, 0, 0, []) := rs_of (by decide +kernel) (by decide +kernel)
theorem DX1_isShort_19 : rs MX1_isShort 19 = some (.aload_n 1, 1, 1, 0, 0, []) := rs_of (by decide +kernel) (by decide +kernel)
theorem DX1_isShort_20 : rs MX1_isShort 20 = some (.getfield 70, 3, 3, 5, 0, []) := rs_of (by decide +kernel) (by decide +kernel)
theorem DX1_isShort_23 : rs MX1_isShort 23 = some (.if_icmp .ge 7, 3, 30, 0, 0, []) := rs_of (by decide +kernel) (by decide +kernel)
theorem DX1_isShort_26 : rs MX1_isShort 26 = some (.iconst 1, 1, 0, 0, 1, []) := rs_of (by decide +kernel) (by decide +kernel)
theorem DX1_isShort_27 : rs MX1_isShort 27 = some (.goto 4, 3, 31, 0, 0, []) := rs_of (by decide +kernel) (by decide +kernel)
theorem DX1_isShort_30 : rs MX1_isShort 30 = some (.iconst 0, 1, 0, 0, 0, []) := rs_of (by decide +kernel) (by decide +kernel)
theorem DX1_isShort_31 : rs MX1_isShort 31 = some (.ireturn, 1, 0, 0, 0, []) := rs_of (by decide +kernel) (by decide +kernel)
theorem DX1_measure_0 : rs MX1_measure 0 = some (.iconst 0, 1, 0, 0, 0, []) := rs_of (by decide +kernel) (by decide +kernel)
theorem DX1_measure_1 : rs MX1_measure 1 = some (.istore_n 2, 1, 2, 0, 0, []) := rs_of (by decide +kernel) (by decide +kernel)
theorem DX1_measure_2 : rs MX1_measure 2 = some (.iload_n 2, 1, 2, 0, 0, []) := rs_of (by decide +kernel) (by decide +kernel)
theorem DX1_measure_3 : rs MX1_measure 3 = some (.aload_n 0, 1, 0, 0, 0, []) := rs_of (by decide +kernel) (by decide +kernel)
theorem DX1_measure_4 : rs MX1_measure 4 = some (.getfield 9, 3, 2, 5, 0, []) := rs_of (by decide +kernel) (by decide +kernel)
theorem DX1_measure_7 : rs MX1_measure 7 = some (.arraylength, 1, 0, 0, 0, []) := rs_of (by decide +kernel) (by decide +kernel)
theorem DX1_measure_8 : rs MX1_measure 8 = some (.if_icmp .ge 29, 3, 37, 0, 0, []) := rs_of (by decide +kernel) (by decide +kernel)
theorem DX1_measure_11 : rs MX1_measure 11 = some (.aload_n 0, 1, 0, 0, 0, []) := rs_of (by decide +kernel) (by decide +kernel)
theorem DX1_measure_12 : rs MX1_measure 12 = some (.getfield 9, 3, 2, 5, 0, []) := rs_of (by decide +kernel) (by decide +kernel)
theorem DX1_measure_15 : rs MX1_measure 15 = some (.iload_n 2, 1, 2, 0, 0, []) := rs_of (by decide +kernel) (by decide +kernel)
theorem DX1_measure_16 : rs MX1_measure 16 = some (.aload_n 1, 1, 1, 0, 0, []) := rs_of (by decide +kernel) (by decide +kernel)
theorem DX1_measure_17 : rs MX1_measure 17 = some (.iload_n 2, 1, 2, 0, 0, []) := rs_of (by decide +kernel) (by decide +kernel)
theorem DX1_measure_18 : rs MX1_measure 18 = some (.invokevirtual 73, 3, 0, 0, 0, []) := rs_of (by decide +kernel) (by decide +kernel)
theorem DX1_measure_21 : rs MX1_measure 21 = some (.ifCond .eq 8, 3, 29, 0, 0, []) := rs_of (by decide +kernel) (by decide +kernel)
theorem DX1_measure_24 : rs MX1_measure 24 = some (.bipush (-2), 2, 0, 0, (-2), []) := rs_of (by decide +kernel) (by decide +kernel)
theorem DX1_measure_26 : rs MX1_measure 26 = some (.goto 4, 3, 30, 0, 0, []) := rs_of (by decide +kernel) (by decide +kernel)
theorem DX1_measure_29 : rs MX1_measure 29 = some (.iconst (-1), 1, 0, 0, (-1), []) := rs_of (by decide +kernel) (by decide +kernel)
theorem DX1_measure_30 : rs MX1_measure 30 = some (.iastore, 1, 0, 0, 0, []) := rs_of (by decide +kernel) (by decide +kernel)
theorem DX1_measure_31 : rs MX1_measure 31 = some (.iinc 2 1, 3, 2, 0, 1, []) := rs_of (by decide +kernel) (by decide +kernel)
theorem DX1_measure_34 : rs MX1_measure 34 = some (.goto (-32), 3, 2, 0, 0, []) := rs_of (by decide +kernel) (by decide +kernel)
theorem DX1_measure_37 : rs MX1_measure 37 = some (.aload_n 0, 1, 0, 0, 0, []) := rs_of (by decide +kernel) (by decide +kernel)
theorem DX1_measure_38 : rs MX1_measure 38 = some (.getfield 15, 3, 2, 6, 0, []) := rs_of (by decide +kernel) (by decide +kernel)
theorem DX1_measure_41 : rs MX1_measure 41 = some (.iconst 0, 1, 0, 0, 0, []) := rs_of (by decide +kernel) (by decide +kernel)
theorem DX1_measure_42 : rs MX1_measure 42 = some (.invokestatic 78, 3, 0, 0, 0, []) := rs_of (by decide +kernel) (by decide +kernel)
theorem DX1_measure_45 : rs MX1_measure 45 = some (.iconst 0, 1, 0, 0, 0, []) := rs_of (by decide +kernel) (by decide +kernel)
theorem DX1_measure_46 : rs MX1_measure 46 = some (.istore_n 2, 1, 2, 0, 0, []) := rs_of (by decide +kernel) (by decide +kernel)
theorem DX1_measure_47 : rs MX1_measure 47 = some (.iload_n 2, 1, 2, 0, 0, []) := rs_of (by decide +kernel) (by decide +kernel)
theorem DX1_measure_48 : rs MX1_measure 48 = some (.aload_n 1, 1, 1, 0, 0, []) := rs_of (by decide +kernel) (by decide +kernel)
theorem DX1_measure_49 : rs MX1_measure 49 = some (.getfield 84, 3, 4, 0, 0, []) := rs_of (by decide +kernel) (by decide +kernel)
theorem DX1_measure_52 : rs MX1_measure 52 = some (.invokevirtual 88, 3, 0, 0, 0, []) := rs_of (by decide +kernel) (by decide +kernel)
theorem DX1_measure_55 : rs MX1_measure 55 = some (.if_icmp .ge 33, 3, 88, 0, 0, []) := rs_of (by decide +kernel) (by decide +kernel)
theorem DX1_measure_58 : rs MX1_measure 58 = some (.aload_n 1, 1, 1, 0, 0, []) := rs_of (by decide +kernel) (by decide +kernel)
theorem DX1_measure_59 : rs MX1_measure 59 = some (.getfield 84, 3, 4, 0, 0, []) := rs_of (by decide +kernel) (by decide +kernel)
theorem DX1_measure_62 : rs MX1_measure 62 = some (.iload_n 2, 1, 2, 0, 0, []) := rs_of (by decide +kernel) (by decide +kernel)
theorem DX1_measure_63 : rs MX1_measure 63 = some (.invokevirtual 94, 3, 0, 0, 0, []) := rs_of (by decide +kernel) (by decide +kernel)
theorem DX1_measure_66 : rs MX1_measure 66 = some (.checkcast 98, 3, 1, 0, 0, []) := rs_of (by decide +kernel) (by decide +kernel)
theorem DX1_measure_69 : rs MX1_measure 69 = some (.astore_n 3, 1, 3, 0, 0, []) := rs_of (by decide +kernel) (by decide +kernel)
theorem DX1_measure_70 : rs MX1_measure 70 = some (.aload_n 3, 1, 3, 0, 0, []) := rs_of (by decide +kernel) (by decide +kernel)
theorem DX1_measure_71 : rs MX1_measure 71 = some (.getfield 100, 3, 1, 7, 0, []) := rs_of (by decide +kernel) (by decide +kernel)
theorem DX1_measure_74 : rs MX1_measure 74 = some (.ifCond .eq 8, 3, 82, 0, 0, []) := rs_of (by decide +kernel) (by decide +kernel)
theorem DX1_measure_77 : rs MX1_measure 77 = some (.aload_n 0, 1, 0, 0, 0, []) := rs_of (by decide +kernel) (by decide +kernel)
theorem DX1_measure_78 : rs MX1_measure 78 = some (.aload_n 3, 1, 3, 0, 0, []) := rs_of (by decide +kernel) (by decide +kernel)
theorem DX1_measure_79 : rs MX1_measure 79 = some (.invokevirtual 103, 3, 0, 0, 0, []) := rs_of (by decide +kernel) (by decide +kernel)
theorem DX1_measure_82 : rs MX1_measure 82 = some (.iinc 2 1, 3, 2, 0, 1, []) := rs_of (by decide +kernel) (by decide +kernel)
theorem DX1_measure_85 : rs MX1_measure 85 = some (.goto (-38), 3, 47, 0, 0, []) := rs_of (by decide +kernel) (by decide +kernel)
theorem DX1_measure_88 : rs MX1_measure 88 = some (.aload_n 0, 1, 0, 0, 0, []) := rs_of (by decide +kernel) (by decide +kernel)
theorem DX1_measure_89 : rs MX1_measure 89 = some (.invokevirtual 107, 3, 0, 0, 0, []) := rs_of (by decide +kernel) (by decide +kernel)
theorem DX1_measure_92 : rs MX1_measure 92 = some (.aload_n 0, 1, 0, 0, 0, []) := rs_of (by decide +kernel) (by decide +kernel)
theorem DX1_measure_93 : rs MX1_measure 93 = some (.iconst 1, 1, 0, 0, 1, []) := rs_of (by decide +kernel) (by decide +kernel)
theorem DX1_measure_94 : rs MX1_measure 94 = some (.putfield 40, 3, 2, 4, 0, []) := rs_of (by decide +kernel) (by decide +kernel)
theorem DX1_measure_97 : rs MX1_measure 97 = some (.return_, 1, 0, 0, 0, []) := rs_of (by decide +kernel) (by decide +kernel)
theorem DX1_castFrom_0 : rs MX1_castFrom 0 = some (.aload_n 1, 1, 1, 0, 0, []) := rs_of (by decide +kernel) (by decide +kernel)
theorem DX1_castFrom_1 : rs MX1_castFrom 1 = some (.getfield 110, 3, 1, 2, 0, []) := rs_of (by decide +kernel) (by decide +kernel)
theorem DX1_castFrom_4 : rs MX1_castFrom 4 = some (.istore_n 2, 1, 2, 0, 0, []) := rs_of (by decide +kernel) (by decide +kernel)
theorem DX1_castFrom_5 : rs MX1_castFrom 5 = some (.iload_n 2, 1, 2, 0, 0, []) := rs_of (by decide +kernel) (by decide +kernel)
theorem DX1_castFrom_6 : rs MX1_castFrom 6 = some (.aload_n 1, 1, 1, 0, 0, []) := rs_of (by decide +kernel) (by decide +kernel)
theorem DX1_castFrom_7 : rs MX1_castFrom 7 = some (.getfield 110, 3, 1, 2, 0, []) := rs_of (by decide +kernel) (by decide +kernel)
theorem DX1_castFrom_10 : rs MX1_castFrom 10 = some (.aload_n 1, 1, 1, 0, 0, []) := rs_of (by decide +kernel) (by decide +kernel)
theorem DX1_castFrom_11 : rs MX1_castFrom 11 = some (.getfield 113, 3, 1, 4, 0, []) := rs_of (by decide +kernel) (by decide +kernel)
theorem DX1_castFrom_14 : rs MX1_castFrom 14 = some (.iadd, 1, 0, 0, 0, []) := rs_of (by decide +kernel) (by decide +kernel)
theorem DX1_castFrom_15 : rs MX1_castFrom 15 = some (.if_icmp .ge 59, 3, 74, 0, 0, []) := rs_of (by decide +kernel) (by decide +kernel)
theorem DX1_castFrom_18 : rs MX1_castFrom 18 = some (.aload_n 1, 1, 1, 0, 0, []) := rs_of (by decide +kernel) (by decide +kernel)
theorem DX1_castFrom_19 : rs MX1_castFrom 19 = some (.getfield 116, 3, 1, 1, 0, []) := rs_of (by decide +kernel) (by decide +kernel)
theorem DX1_castFrom_22 : rs MX1_castFrom 22 = some (.istore_n 3, 1, 3, 0, 0, []) := rs_of (by decide +kernel) (by decide +kernel)
theorem DX1_castFrom_23 : rs MX1_castFrom 23 = some (.iload_n 3, 1, 3, 0, 0, []) := rs_of (by decide +kernel) (by decide +kernel)
theorem DX1_castFrom_24 : rs MX1_castFrom 24 = some (.aload_n 1, 1, 1, 0, 0, []) := rs_of (by decide +kernel) (by decide +kernel)
theorem DX1_castFrom_25 : rs MX1_castFrom 25 = some (.getfield 116, 3, 1, 1, 0, []) := rs_of (by decide +kernel) (by decide +kernel)
theorem DX1_castFrom_28 : rs MX1_castFrom 28 = some (.aload_n 1, 1, 1, 0, 0, []) := rs_of (by decide +kernel) (by decide +kernel)
theorem DX1_castFrom_29 : rs MX1_castFrom 29 = some (.getfield 119, 3, 1, 3, 0, []) := rs_of (by decide +kernel) (by decide +kernel)
theorem DX1_castFrom_32 : rs MX1_castFrom 32 = some (.iadd, 1, 0, 0, 0, []) := rs_of (by decide +kernel) (by decide +kernel)
theorem DX1_castFrom_33 : rs MX1_castFrom 33 = some (.if_icmp .ge 35, 3, 68, 0, 0, []) := rs_of (by decide +kernel) (by decide +kernel)
theorem DX1_castFrom_36 : rs MX1_castFrom 36 = some (.aload_n 1, 1, 1, 0, 0, []) := rs_of (by decide +kernel) (by decide +kernel)
theorem DX1_castFrom_37 : rs MX1_castFrom 37 = some (.iload_n 3, 1, 3, 0, 0, []) := rs_of (by decide +kernel) (by decide +kernel)
theorem DX1_castFrom_38 : rs MX1_castFrom 38 = some (.aload_n 0, 1, 0, 0, 0, []) := rs_of (by decide +kernel) (by decide +kernel)
theorem DX1_castFrom_39 : rs MX1_castFrom 39 = some (.getfield 31, 3, 2, 1, 0, []) := rs_of (by decide +kernel) (by decide +kernel)
theorem DX1_castFrom_42 : rs MX1_castFrom 42 = some (.iadd, 1, 0, 0, 0, []) := rs_of (by decide +kernel) (by decide +kernel)
theorem DX1_castFrom_43 : rs MX1_castFrom 43 = some (.iload_n 2, 1, 2, 0, 0, []) := rs_of (by decide +kernel) (by decide +kernel)
theorem DX1_castFrom_44 : rs MX1_castFrom 44 = some (.aload_n 0, 1, 0, 0, 0, []) := rs_of (by decide +kernel) (by decide +kernel)
theorem DX1_castFrom_45 : rs MX1_castFrom 45 = some (.getfield 37, 3, 2, 2, 0, []) := rs_of (by decide +kernel) (by decide +kernel)
theorem DX1_castFrom_48 : rs MX1_castFrom 48 = some (.iadd, 1, 0, 0, 0, []) := rs_of (by decide +kernel) (by decide +kernel)
theorem DX1_castFrom_49 : rs MX1_castFrom 49 = some (.invokevirtual 122, 3, 0, 0, 0, []) := rs_of (by decide +kernel) (by decide +kernel)
theorem DX1_castFrom_52 : rs MX1_castFrom 52 = some (.ifCond .ne 10, 3, 62, 0, 0, []) := rs_of (by decide +kernel) (by decide +kernel)
theorem DX1_castFrom_55 : rs MX1_castFrom 55 = some (.aload_n 0, 1, 0, 0, 0, []) := rs_of (by decide +kernel) (by decide +kernel)
theorem DX1_castFrom_56 : rs MX1_castFrom 56 = some (.aload_n 1, 1, 1, 0, 0, []) := rs_of (by decide +kernel) (by decide +kernel)
theorem DX1_castFrom_57 : rs MX1_castFrom 57 = some (.iload_n 3, 1, 3, 0, 0, []) := rs_of (by decide +kernel) (by decide +kernel)
theorem DX1_castFrom_58 : rs MX1_castFrom 58 = some (.iload_n 2, 1, 2, 0, 0, []) := rs_of (by decide +kernel) (by decide +kernel)
theorem DX1_castFrom_59 : rs MX1_castFrom 59 = some (.invokevirtual 126, 3, 0, 0, 0, []) := rs_of (by decide +kernel) (by decide +kernel)
theorem DX1_castFrom_62 : rs MX1_castFrom 62 = some (.iinc 3 1, 3, 3, 0, 1, []) := rs_of (by decide +kernel) (by decide +kernel)
theorem DX1_castFrom_65 : rs MX1_castFrom 65 = some (.goto (-42), 3, 23, 0, 0, []) := rs_of (by decide +kernel) (by decide +kernel)
theorem DX1_castFrom_68 : rs MX1_castFrom 68 = some (.iinc 2 1, 3, 2, 0, 1, []) := rs_of (by decide +kernel) (by decide +kernel)
theorem DX1_castFrom_71 : rs MX1_castFrom 71 = some (.goto (-66), 3, 5, 0, 0, []) := rs_of (by decide +kernel) (by decide +kernel)
theorem DX1_castFrom_74 : rs MX1_castFrom 74 = some (.return_, 1, 0, 0, 0, []) := rs_of (by decide +kernel) (by decide +kernel)
theorem DX1_castRay_0 : rs MX1_castRay 0 = some (.aload_n 0, 1, 0, 0, 0, []) := rs_of (by decide +kernel) (by decide +kernel)
theorem DX1_castRay_1 : rs MX1_castRay 1 = some (.getfield 34, 3, 2, 3, 0, []) := rs_of (by decide +kernel) (by decide +kernel)
theorem DX1_castRay_4 : rs MX1_castRay 4 = some (.aload_n 1, 1, 1, 0, 0, []) := rs_of (by decide +kernel) (by decide +kernel)
theorem DX1_castRay_5 : rs MX1_castRay 5 = some (.getfield 130, 3, 1, 6, 0, []) := rs_of (by decide +kernel) (by decide +kernel)
theorem DX1_castRay_8 : rs MX1_castRay 8 = some (.imul, 1, 0, 0, 0, []) := rs_of (by decide +kernel) (by decide +kernel)
theorem DX1_castRay_9 : rs MX1_castRay 9 = some (.iconst 2, 1, 0, 0, 2, []) := rs_of (by decide +kernel) (by decide +kernel)
theorem DX1_castRay_10 : rs MX1_castRay 10 = some (.idiv, 1, 0, 0, 0, []) := rs_of (by decide +kernel) (by decide +kernel)
theorem DX1_castRay_11 : rs MX1_castRay 11 = some (.istore 4, 2, 0, 0, 0, []) := rs_of (by decide +kernel) (by decide +kernel)
theorem DX1_castRay_13 : rs MX1_castRay 13 = some (.iconst 1, 1, 0, 0, 1, []) := rs_of (by decide +kernel) (by decide +kernel)
theorem DX1_castRay_14 : rs MX1_castRay 14 = some (.istore 5, 2, 0, 0, 0, []) := rs_of (by decide +kernel) (by decide +kernel)
theorem DX1_castRay_16 : rs MX1_castRay 16 = some (.iload 5, 2, 0, 0, 0, []) := rs_of (by decide +kernel) (by decide +kernel)
theorem DX1_castRay_18 : rs MX1_castRay 18 = some (.iload 4, 2, 0, 0, 0, []) := rs_of (by decide +kernel) (by decide +kernel)
theorem DX1_castRay_20 : rs MX1_castRay 20 = some (.if_icmp .gt 135, 3, 155, 0, 0, []) := rs_of (by decide +kernel) (by decide +kernel)
theorem DX1_castRay_23 : rs MX1_castRay 23 = some (.iload_n 2, 1, 2, 0, 0, []) := rs_of (by decide +kernel) (by decide +kernel)
theorem DX1_castRay_24 : rs MX1_castRay 24 = some (.iload 5, 2, 0, 0, 0, []) := rs_of (by decide +kernel) (by decide +kernel)
theorem DX1_castRay_26 : rs MX1_castRay 26 = some (.aload_n 0, 1, 0, 0, 0, []) := rs_of (by decide +kernel) (by decide +kernel)
theorem DX1_castRay_27 : rs MX1_castRay 27 = some (.getfield 31, 3, 2, 1, 0, []) := rs_of (by decide +kernel) (by decide +kernel)
theorem DX1_castRay_30 : rs MX1_castRay 30 = some (.imul, 1, 0, 0, 0, []) := rs_of (by decide +kernel) (by decide +kernel)
theorem DX1_castRay_31 : rs MX1_castRay 31 = some (.iadd, 1, 0, 0, 0, []) := rs_of (by decide +kernel) (by decide +kernel)
theorem DX1_castRay_32 : rs MX1_castRay 32 = some (.istore 6, 2, 0, 0, 0, []) := rs_of (by decide +kernel) (by decide +kernel)
theorem DX1_castRay_34 : rs MX1_castRay 34 = some (.iload_n 3, 1, 3, 0, 0, []) := rs_of (by decide +kernel) (by decide +kernel)
theorem DX1_castRay_35 : rs MX1_castRay 35 = some (.iload 5, 2, 0, 0, 0, []) := rs_of (by decide +kernel) (by decide +kernel)
theorem DX1_castRay_37 : rs MX1_castRay 37 = some (.aload_n 0, 1, 0, 0, 0, []) := rs_of (by decide +kernel) (by decide +kernel)
theorem DX1_castRay_38 : rs MX1_castRay 38 = some (.getfield 37, 3, 2, 2, 0, []) := rs_of (by decide +kernel) (by decide +kernel)
theorem DX1_castRay_41 : rs MX1_castRay 41 = some (.imul, 1, 0, 0, 0, []) := rs_of (by decide +kernel) (by decide +kernel)
theorem DX1_castRay_42 : rs MX1_castRay 42 = some (.iadd, 1, 0, 0, 0, []) := rs_of (by decide +kernel) (by decide +kernel)
theorem DX1_castRay_43 : rs MX1_castRay 43 = some (.istore 7, 2, 0, 0, 0, []) := rs_of (by decide +kernel) (by decide +kernel)
theorem DX1_castRay_45 : rs MX1_castRay 45 = some (.iload 6, 2, 0, 0, 0, []) := rs_of (by decide +kernel) (by decide +kernel)
theorem DX1_castRay_47 : rs MX1_castRay 47 = some (.ifCond .lt 22, 3, 69, 0, 0, []) := rs_of (by decide +kernel) (by decide +kernel)
theorem DX1_castRay_50 : rs MX1_castRay 50 = some (.iload 6, 2, 0, 0, 0, []) := rs_of (by decide +kernel) (by decide +kernel)
theorem DX1_castRay_52 : rs MX1_castRay 52 = some (.bipush 16, 2, 0, 0, 16, []) := rs_of (by decide +kernel) (by decide +kernel)
theorem DX1_castRay_54 : rs MX1_castRay 54 = some (.if_icmp .ge 15, 3, 69, 0, 0, []) := rs_of (by decide +kernel) (by decide +kernel)
theorem DX1_castRay_57 : rs MX1_castRay 57 = some (.iload 7, 2, 0, 0, 0, []) := rs_of (by decide +kernel) (by decide +kernel)
theorem DX1_castRay_59 : rs MX1_castRay 59 = some (.ifCond .lt 10, 3, 69, 0, 0, []) := rs_of (by decide +kernel) (by decide +kernel)
theorem DX1_castRay_62 : rs MX1_castRay 62 = some (.iload 7, 2, 0, 0, 0, []) := rs_of (by decide +kernel) (by decide +kernel)
theorem DX1_castRay_64 : rs MX1_castRay 64 = some (.bipush 16, 2, 0, 0, 16, []) := rs_of (by decide +kernel) (by decide +kernel)
theorem DX1_castRay_66 : rs MX1_castRay 66 = some (.if_icmp .lt 4, 3, 70, 0, 0, []) := rs_of (by decide +kernel) (by decide +kernel)
theorem DX1_castRay_69 : rs MX1_castRay 69 = some (.return_, 1, 0, 0, 0, []) := rs_of (by decide +kernel) (by decide +kernel)
theorem DX1_castRay_70 : rs MX1_castRay 70 = some (.iload 6, 2, 0, 0, 0, []) := rs_of (by decide +kernel) (by decide +kernel)
theorem DX1_castRay_72 : rs MX1_castRay 72 = some (.bipush 16, 2, 0, 0, 16, []) := rs_of (by decide +kernel) (by decide +kernel)
theorem DX1_castRay_74 : rs MX1_castRay 74 = some (.iload 7, 2, 0, 0, 0, []) := rs_of (by decide +kernel) (by decide +kernel)
theorem DX1_castRay_76 : rs MX1_castRay 76 = some (.imul, 1, 0, 0, 0, []) := rs_of (by decide +kernel) (by decide +kernel)
theorem DX1_castRay_77 : rs MX1_castRay 77 = some (.iadd, 1, 0, 0, 0, []) := rs_of (by decide +kernel) (by decide +kernel)
theorem DX1_castRay_78 : rs MX1_castRay 78 = some (.istore 8, 2, 0, 0, 0, []) := rs_of (by decide +kernel) (by decide +kernel)
theorem DX1_castRay_80 : rs MX1_castRay 80 = some (.aload_n 0, 1, 0, 0, 0, []) := rs_of (by decide +kernel) (by decide +kernel)
theorem DX1_castRay_81 : rs MX1_castRay 81 = some (.getfield 9, 3, 2, 5, 0, []) := rs_of (by decide +kernel) (by decide +kernel)
theorem DX1_castRay_84 : rs MX1_castRay 84 = some (.iload 8, 2, 0, 0, 0, []) := rs_of (by decide +kernel) (by decide +kernel)
theorem DX1_castRay_86 : rs MX1_castRay 86 = some (.iaload, 1, 0, 0, 0, []) := rs_of (by decide +kernel) (by decide +kernel)
theorem DX1_castRay_87 : rs MX1_castRay 87 = some (.bipush (-2), 2, 0, 0, (-2), []) := rs_of (by decide +kernel) (by decide +kernel)
theorem DX1_castRay_89 : rs MX1_castRay 89 = some (.if_icmp .ne 6, 3, 95, 0, 0, []) := rs_of (by decide +kernel) (by decide +kernel)
theorem DX1_castRay_92 : rs MX1_castRay 92 = some (.goto 57, 3, 149, 0, 0, []) := rs_of (by decide +kernel) (by decide +kernel)
theorem DX1_castRay_95 : rs MX1_castRay 95 = some (.aload_n 0, 1, 0, 0, 0, []) := rs_of (by decide +kernel) (by decide +kernel)
theorem DX1_castRay_96 : rs MX1_castRay 96 = some (.getfield 15, 3, 2, 6, 0, []) := rs_of (by decide +kernel) (by decide +kernel)
theorem DX1_castRay_99 : rs MX1_castRay 99 = some (.iload 8, 2, 0, 0, 0, []) := rs_of (by decide +kernel) (by decide +kernel)
theorem DX1_castRay_101 : rs MX1_castRay 101 = some (.dup2, 1, 0, 0, 0, []) := rs_of (by decide +kernel) (by decide +kernel)
theorem DX1_castRay_102 : rs MX1_castRay 102 = some (.iaload, 1, 0, 0, 0, []) := rs_of (by decide +kernel) (by decide +kernel)
theorem DX1_castRay_103 : rs MX1_castRay 103 = some (.iconst 1, 1, 0, 0, 1, []) := rs_of (by decide +kernel) (by decide +kernel)
theorem DX1_castRay_104 : rs MX1_castRay 104 = some (.iadd, 1, 0, 0, 0, []) := rs_of (by decide +kernel) (by decide +kernel)
theorem DX1_castRay_105 : rs MX1_castRay 105 = some (.iastore, 1, 0, 0, 0, []) := rs_of (by decide +kernel) (by decide +kernel)
theorem DX1_castRay_106 : rs MX1_castRay 106 = some (.aload_n 0, 1, 0, 0, 0, []) := rs_of (by decide +kernel) (by decide +kernel)
theorem DX1_castRay_107 : rs MX1_castRay 107 = some (.getfield 15, 3, 2, 6, 0, []) := rs_of (by decide +kernel) (by decide +kernel)
theorem DX1_castRay_110 : rs MX1_castRay 110 = some (.iload 8, 2, 0, 0, 0, []) := rs_of (by decide +kernel) (by decide +kernel)
theorem DX1_castRay_112 : rs MX1_castRay 112 = some (.iaload, 1, 0, 0, 0, []) := rs_of (by decide +kernel) (by decide +kernel)
theorem DX1_castRay_113 : rs MX1_castRay 113 = some (.iconst 1, 1, 0, 0, 1, []) := rs_of (by decide +kernel) (by decide +kernel)
theorem DX1_castRay_114 : rs MX1_castRay 114 = some (.if_icmp .eq 15, 3, 129, 0, 0, []) := rs_of (by decide +kernel) (by decide +kernel)
theorem DX1_castRay_117 : rs MX1_castRay 117 = some (.iload 5, 2, 0, 0, 0, []) := rs_of (by decide +kernel) (by decide +kernel)
theorem DX1_castRay_119 : rs MX1_castRay 119 = some (.aload_n 0, 1, 0, 0, 0, []) := rs_of (by decide +kernel) (by decide +kernel)
theorem DX1_castRay_120 : rs MX1_castRay 120 = some (.getfield 28, 3, 2, 7, 0, []) := rs_of (by decide +kernel) (by decide +kernel)
theorem DX1_castRay_123 : rs MX1_castRay 123 = some (.iload 8, 2, 0, 0, 0, []) := rs_of (by decide +kernel) (by decide +kernel)
theorem DX1_castRay_125 : rs MX1_castRay 125 = some (.iaload, 1, 0, 0, 0, []) := rs_of (by decide +kernel) (by decide +kernel)
theorem DX1_castRay_126 : rs MX1_castRay 126 = some (.if_icmp .ge 23, 3, 149, 0, 0, []) := rs_of (by decide +kernel) (by decide +kernel)
theorem DX1_castRay_129 : rs MX1_castRay 129 = some (.aload_n 0, 1, 0, 0, 0, []) := rs_of (by decide +kernel) (by decide +kernel)
theorem DX1_castRay_130 : rs MX1_castRay 130 = some (.getfield 9, 3, 2, 5, 0, []) := rs_of (by decide +kernel) (by decide +kernel)
theorem DX1_castRay_133 : rs MX1_castRay 133 = some (.iload 8, 2, 0, 0, 0, []) := rs_of (by decide +kernel) (by decide +kernel)
theorem DX1_castRay_135 : rs MX1_castRay 135 = some (.aload_n 1, 1, 1, 0, 0, []) := rs_of (by decide +kernel) (by decide +kernel)
theorem DX1_castRay_136 : rs MX1_castRay 136 = some (.getfield 133, 3, 1, 0, 0, []) := rs_of (by decide +kernel) (by decide +kernel)
theorem DX1_castRay_139 : rs MX1_castRay 139 = some (.iastore, 1, 0, 0, 0, []) := rs_of (by decide +kernel) (by decide +kernel)
theorem DX1_castRay_140 : rs MX1_castRay 140 = some (.aload_n 0, 1, 0, 0, 0, []) := rs_of (by decide +kernel) (by decide +kernel)
theorem DX1_castRay_141 : rs MX1_castRay 141 = some (.getfield 28, 3, 2, 7, 0, []) := rs_of (by decide +kernel) (by decide +kernel)
theorem DX1_castRay_144 : rs MX1_castRay 144 = some (.iload 8, 2, 0, 0, 0, []) := rs_of (by decide +kernel) (by decide +kernel)
theorem DX1_castRay_146 : rs MX1_castRay 146 = some (.iload 5, 2, 0, 0, 0, []) := rs_of (by decide +kernel) (by decide +kernel)
theorem DX1_castRay_148 : rs MX1_castRay 148 = some (.iastore, 1, 0, 0, 0, []) := rs_of (by decide +kernel) (by decide +kernel)
theorem DX1_castRay_149 : rs MX1_castRay 149 = some (.iinc 5 1, 3, 5, 0, 1, []) := rs_of (by decide +kernel) (by decide +kernel)
theorem DX1_castRay_152 : rs MX1_castRay 152 = some (.goto (-136), 3, 16, 0, 0, []) := rs_of (by decide +kernel) (by decide +kernel)
theorem DX1_castRay_155 : rs MX1_castRay 155 = some (.return_, 1, 0, 0, 0, []) := rs_of (by decide +kernel) (by decide +kernel)
theorem DX1_sumUpShade_0 : rs MX1_sumUpShade 0 = some (.aload_n 0, 1, 0, 0, 0, []) := rs_of (by decide +kernel) (by decide +kernel)
theorem DX1_sumUpShade_1 : rs MX1_sumUpShade 1 = some (.getfield 18, 3, 2, 8, 0, []) := rs_of (by decide +kernel) (by decide +kernel)
theorem DX1_sumUpShade_4 : rs MX1_sumUpShade 4 = some (.iconst 0, 1, 0, 0, 0, []) := rs_of (by decide +kernel) (by decide +kernel)
theorem DX1_sumUpShade_5 : rs MX1_sumUpShade 5 = some (.invokestatic 78, 3, 0, 0, 0, []) := rs_of (by decide +kernel) (by decide +kernel)
theorem DX1_sumUpShade_8 : rs MX1_sumUpShade 8 = some (.aload_n 0, 1, 0, 0, 0, []) := rs_of (by decide +kernel) (by decide +kernel)
theorem DX1_sumUpShade_9 : rs MX1_sumUpShade 9 = some (.iconst 0, 1, 0, 0, 0, []) := rs_of (by decide +kernel) (by decide +kernel)
theorem DX1_sumUpShade_10 : rs MX1_sumUpShade 10 = some (.putfield 47, 3, 2, 9, 0, []) := rs_of (by decide +kernel) (by decide +kernel)
theorem DX1_sumUpShade_13 : rs MX1_sumUpShade 13 = some (.aload_n 0, 1, 0, 0, 0, []) := rs_of (by decide +kernel) (by decide +kernel)
theorem DX1_sumUpShade_14 : rs MX1_sumUpShade 14 = some (.iconst 0, 1, 0, 0, 0, []) := rs_of (by decide +kernel) (by decide +kernel)
theorem DX1_sumUpShade_15 : rs MX1_sumUpShade 15 = some (.putfield 50, 3, 2, 10, 0, []) := rs_of (by decide +kernel) (by decide +kernel)
theorem DX1_sumUpShade_18 : rs MX1_sumUpShade 18 = some (.iconst 0, 1, 0, 0, 0, []) := rs_of (by decide +kernel) (by decide +kernel)
theorem DX1_sumUpShade_19 : rs MX1_sumUpShade 19 = some (.istore_n 1, 1, 1, 0, 0, []) := rs_of (by decide +kernel) (by decide +kernel)
theorem DX1_sumUpShade_20 : rs MX1_sumUpShade 20 = some (.iload_n 1, 1, 1, 0, 0, []) := rs_of (by decide +kernel) (by decide +kernel)
theorem DX1_sumUpShade_21 : rs MX1_sumUpShade 21 = some (.aload_n 0, 1, 0, 0, 0, []) := rs_of (by decide +kernel) (by decide +kernel)
theorem DX1_sumUpShade_22 : rs MX1_sumUpShade 22 = some (.getfield 9, 3, 2, 5, 0, []) := rs_of (by decide +kernel) (by decide +kernel)
theorem DX1_sumUpShade_25 : rs MX1_sumUpShade 25 = some (.arraylength, 1, 0, 0, 0, []) := rs_of (by decide +kernel) (by decide +kernel)
theorem DX1_sumUpShade_26 : rs MX1_sumUpShade 26 = some (.if_icmp .ge 73, 3, 99, 0, 0, []) := rs_of (by decide +kernel) (by decide +kernel)
theorem DX1_sumUpShade_29 : rs MX1_sumUpShade 29 = some (.aload_n 0, 1, 0, 0, 0, []) := rs_of (by decide +kernel) (by decide +kernel)
theorem DX1_sumUpShade_30 : rs MX1_sumUpShade 30 = some (.getfield 9, 3, 2, 5, 0, []) := rs_of (by decide +kernel) (by decide +kernel)
theorem DX1_sumUpShade_33 : rs MX1_sumUpShade 33 = some (.iload_n 1, 1, 1, 0, 0, []) := rs_of (by decide +kernel) (by decide +kernel)
theorem DX1_sumUpShade_34 : rs MX1_sumUpShade 34 = some (.iaload, 1, 0, 0, 0, []) := rs_of (by decide +kernel) (by decide +kernel)
theorem DX1_sumUpShade_35 : rs MX1_sumUpShade 35 = some (.istore_n 2, 1, 2, 0, 0, []) := rs_of (by decide +kernel) (by decide +kernel)
theorem DX1_sumUpShade_36 : rs MX1_sumUpShade 36 = some (.iload_n 2, 1, 2, 0, 0, []) := rs_of (by decide +kernel) (by decide +kernel)
theorem DX1_sumUpShade_37 : rs MX1_sumUpShade 37 = some (.ifCond .lt 56, 3, 93, 0, 0, []) := rs_of (by decide +kernel) (by decide +kernel)
theorem DX1_sumUpShade_40 : rs MX1_sumUpShade 40 = some (.iload_n 2, 1, 2, 0, 0, []) := rs_of (by decide +kernel) (by decide +kernel)
theorem DX1_sumUpShade_41 : rs MX1_sumUpShade 41 = some (.aload_n 0, 1, 0, 0, 0, []) := rs_of (by decide +kernel) (by decide +kernel)
theorem DX1_sumUpShade_42 : rs MX1_sumUpShade 42 = some (.getfield 18, 3, 2, 8, 0, []) := rs_of (by decide +kernel) (by decide +kernel)
theorem DX1_sumUpShade_45 : rs MX1_sumUpShade 45 = some (.arraylength, 1, 0, 0, 0, []) := rs_of (by decide +kernel) (by decide +kernel)
theorem DX1_sumUpShade_46 : rs MX1_sumUpShade 46 = some (.if_icmp .ge 47, 3, 93, 0, 0, []) := rs_of (by decide +kernel) (by decide +kernel)
theorem DX1_sumUpShade_49 : rs MX1_sumUpShade 49 = some (.aload_n 0, 1, 0, 0, 0, []) := rs_of (by decide +kernel) (by decide +kernel)
theorem DX1_sumUpShade_50 : rs MX1_sumUpShade 50 = some (.getfield 18, 3, 2, 8, 0, []) := rs_of (by decide +kernel) (by decide +kernel)
theorem DX1_sumUpShade_53 : rs MX1_sumUpShade 53 = some (.iload_n 2, 1, 2, 0, 0, []) := rs_of (by decide +kernel) (by decide +kernel)
theorem DX1_sumUpShade_54 : rs MX1_sumUpShade 54 = some (.dup2, 1, 0, 0, 0, []) := rs_of (by decide +kernel) (by decide +kernel)
theorem DX1_sumUpShade_55 : rs MX1_sumUpShade 55 = some (.iaload, 1, 0, 0, 0, []) := rs_of (by decide +kernel) (by decide +kernel)
theorem DX1_sumUpShade_56 : rs MX1_sumUpShade 56 = some (.iconst 1, 1, 0, 0, 1, []) := rs_of (by decide +kernel) (by decide +kernel)
theorem DX1_sumUpShade_57 : rs MX1_sumUpShade 57 = some (.iadd, 1, 0, 0, 0, []) := rs_of (by decide +kernel) (by decide +kernel)
theorem DX1_sumUpShade_58 : rs MX1_sumUpShade 58 = some (.iastore, 1, 0, 0, 0, []) := rs_of (by decide +kernel) (by decide +kernel)
theorem DX1_sumUpShade_59 : rs MX1_sumUpShade 59 = some (.aload_n 0, 1, 0, 0, 0, []) := rs_of (by decide +kernel) (by decide +kernel)
theorem DX1_sumUpShade_60 : rs MX1_sumUpShade 60 = some (.dup, 1, 0, 0, 0, []) := rs_of (by decide +kernel) (by decide +kernel)
theorem DX1_sumUpShade_61 : rs MX1_sumUpShade 61 = some (.getfield 47, 3, 2, 9, 0, []) := rs_of (by decide +kernel) (by decide +kernel)
theorem DX1_sumUpShade_64 : rs MX1_sumUpShade 64 = some (.iconst 1, 1, 0, 0, 1, []) := rs_of (by decide +kernel) (by decide +kernel)
theorem DX1_sumUpShade_65 : rs MX1_sumUpShade 65 = some (.iadd, 1, 0, 0, 0, []) := rs_of (by decide +kernel) (by decide +kernel)
theorem DX1_sumUpShade_66 : rs MX1_sumUpShade 66 = some (.putfield 47, 3, 2, 9, 0, []) := rs_of (by decide +kernel) (by decide +kernel)
theorem DX1_sumUpShade_69 : rs MX1_sumUpShade 69 = some (.aload_n 0, 1, 0, 0, 0, []) := rs_of (by decide +kernel) (by decide +kernel)
theorem DX1_sumUpShade_70 : rs MX1_sumUpShade 70 = some (.dup, 1, 0, 0, 0, []) := rs_of (by decide +kernel) (by decide +kernel)
theorem DX1_sumUpShade_71 : rs MX1_sumUpShade 71 = some (.getfield 50, 3, 2, 10, 0, []) := rs_of (by decide +kernel) (by decide +kernel)
theorem DX1_sumUpShade_74 : rs MX1_sumUpShade 74 = some (.aload_n 0, 1, 0, 0, 0, []) := rs_of (by decide +kernel) (by decide +kernel)
theorem DX1_sumUpShade_75 : rs MX1_sumUpShade 75 = some (.getfield 15, 3, 2, 6, 0, []) := rs_of (by decide +kernel) (by decide +kernel)
theorem DX1_sumUpShade_78 : rs MX1_sumUpShade 78 = some (.iload_n 1, 1, 1, 0, 0, []) := rs_of (by decide +kernel) (by decide +kernel)
theorem DX1_sumUpShade_79 : rs MX1_sumUpShade 79 = some (.iaload, 1, 0, 0, 0, []) := rs_of (by decide +kernel) (by decide +kernel)
theorem DX1_sumUpShade_80 : rs MX1_sumUpShade 80 = some (.iconst 1, 1, 0, 0, 1, []) := rs_of (by decide +kernel) (by decide +kernel)
theorem DX1_sumUpShade_81 : rs MX1_sumUpShade 81 = some (.if_icmp .le 7, 3, 88, 0, 0, []) := rs_of (by decide +kernel) (by decide +kernel)
theorem DX1_sumUpShade_84 : rs MX1_sumUpShade 84 = some (.iconst 1, 1, 0, 0, 1, []) := rs_of (by decide +kernel) (by decide +kernel)
theorem DX1_sumUpShade_85 : rs MX1_sumUpShade 85 = some (.goto 4, 3, 89, 0, 0, []) := rs_of (by decide +kernel) (by decide +kernel)
theorem DX1_sumUpShade_88 : rs MX1_sumUpShade 88 = some (.iconst 0, 1, 0, 0, 0, []) := rs_of (by decide +kernel) (by decide +kernel)
theorem DX1_sumUpShade_89 : rs MX1_sumUpShade 89 = some (.iadd, 1, 0, 0, 0, []) := rs_of (by decide +kernel) (by decide +kernel)
theorem DX1_sumUpShade_90 : rs MX1_sumUpShade 90 = some (.putfield 50, 3, 2, 10, 0, []) := rs_of (by decide +kernel) (by decide +kernel)
theorem DX1_sumUpShade_93 : rs MX1_sumUpShade 93 = some (.iinc 1 1, 3, 1, 0, 1, []) := rs_of (by decide +kernel) (by decide +kernel)
theorem DX1_sumUpShade_96 : rs MX1_sumUpShade 96 = some (.goto (-76), 3, 20, 0, 0, []) := rs_of (by decide +kernel) (by decide +kernel)
theorem DX1_sumUpShade_99 : rs MX1_sumUpShade 99 = some (.return_, 1, 0, 0, 0, []) := rs_of (by decide +kernel) (by decide +kernel)
theorem DX1_allot_0 : rs MX1_allot 0 = some (.aload_n 0, 1, 0, 0, 0, []) := rs_of (by decide +kernel) (by decide +kernel)
theorem DX1_allot_1 : rs MX1_allot 1 = some (.iconst 0, 1, 0, 0, 0, []) := rs_of (by decide +kernel) (by decide +kernel)
theorem DX1_allot_2 : rs MX1_allot 2 = some (.putfield 53, 3, 2, 13, 0, []) := rs_of (by decide +kernel) (by decide +kernel)
theorem DX1_allot_5 : rs MX1_allot 5 = some (.aload_n 0, 1, 0, 0, 0, []) := rs_of (by decide +kernel) (by decide +kernel)
theorem DX1_allot_6 : rs MX1_allot 6 = some (.iconst 0, 1, 0, 0, 0, []) := rs_of (by decide +kernel) (by decide +kernel)
theorem DX1_allot_7 : rs MX1_allot 7 = some (.putfield 56, 3, 2, 14, 0, []) := rs_of (by decide +kernel) (by decide +kernel)
theorem DX1_allot_10 : rs MX1_allot 10 = some (.iconst 0, 1, 0, 0, 0, []) := rs_of (by decide +kernel) (by decide +kernel)
theorem DX1_allot_11 : rs MX1_allot 11 = some (.istore_n 2, 1, 2, 0, 0, []) := rs_of (by decide +kernel) (by decide +kernel)
theorem DX1_allot_12 : rs MX1_allot 12 = some (.iload_n 2, 1, 2, 0, 0, []) := rs_of (by decide +kernel) (by decide +kernel)
theorem DX1_allot_13 : rs MX1_allot 13 = some (.aload_n 1, 1, 1, 0, 0, []) := rs_of (by decide +kernel) (by decide +kernel)
theorem DX1_allot_14 : rs MX1_allot 14 = some (.invokevirtual 88, 3, 0, 0, 0, []) := rs_of (by decide +kernel) (by decide +kernel)
theorem DX1_allot_17 : rs MX1_allot 17 = some (.if_icmp .ge 123, 3, 140, 0, 0, []) := rs_of (by decide +kernel) (by decide +kernel)
theorem DX1_allot_20 : rs MX1_allot 20 = some (.iload_n 2, 1, 2, 0, 0, []) := rs_of (by decide +kernel) (by decide +kernel)
theorem DX1_allot_21 : rs MX1_allot 21 = some (.aload_n 0, 1, 0, 0, 0, []) := rs_of (by decide +kernel) (by decide +kernel)
theorem DX1_allot_22 : rs MX1_allot 22 = some (.getfield 21, 3, 2, 12, 0, []) := rs_of (by decide +kernel) (by decide +kernel)
theorem DX1_allot_25 : rs MX1_allot 25 = some (.arraylength, 1, 0, 0, 0, []) := rs_of (by decide +kernel) (by decide +kernel)
theorem DX1_allot_26 : rs MX1_allot 26 = some (.if_icmp .ge 114, 3, 140, 0, 0, []) := rs_of (by decide +kernel) (by decide +kernel)
theorem DX1_allot_29 : rs MX1_allot 29 = some (.aload_n 1, 1, 1, 0, 0, []) := rs_of (by decide +kernel) (by decide +kernel)
theorem DX1_allot_30 : rs MX1_allot 30 = some (.iload_n 2, 1, 2, 0, 0, []) := rs_of (by decide +kernel) (by decide +kernel)
theorem DX1_allot_31 : rs MX1_allot 31 = some (.invokevirtual 94, 3, 0, 0, 0, []) := rs_of (by decide +kernel) (by decide +kernel)
theorem DX1_allot_34 : rs MX1_allot 34 = some (.checkcast 60, 3, 3, 0, 0, []) := rs_of (by decide +kernel) (by decide +kernel)
theorem DX1_allot_37 : rs MX1_allot 37 = some (.astore_n 3, 1, 3, 0, 0, []) := rs_of (by decide +kernel) (by decide +kernel)
theorem DX1_allot_38 : rs MX1_allot 38 = some (.aload_n 0, 1, 0, 0, 0, []) := rs_of (by decide +kernel) (by decide +kernel)
theorem DX1_allot_39 : rs MX1_allot 39 = some (.getfield 21, 3, 2, 12, 0, []) := rs_of (by decide +kernel) (by decide +kernel)
theorem DX1_allot_42 : rs MX1_allot 42 = some (.iload_n 2, 1, 2, 0, 0, []) := rs_of (by decide +kernel) (by decide +kernel)
theorem DX1_allot_43 : rs MX1_allot 43 = some (.iconst 0, 1, 0, 0, 0, []) := rs_of (by decide +kernel) (by decide +kernel)
theorem DX1_allot_44 : rs MX1_allot 44 = some (.iastore, 1, 0, 0, 0, []) := rs_of (by decide +kernel) (by decide +kernel)
theorem DX1_allot_45 : rs MX1_allot 45 = some (.aload_n 3, 1, 3, 0, 0, []) := rs_of (by decide +kernel) (by decide +kernel)
theorem DX1_allot_46 : rs MX1_allot 46 = some (.aload_n 0, 1, 0, 0, 0, []) := rs_of (by decide +kernel) (by decide +kernel)
theorem DX1_allot_47 : rs MX1_allot 47 = some (.getfield 24, 3, 2, 0, 0, []) := rs_of (by decide +kernel) (by decide +kernel)
theorem DX1_allot_50 : rs MX1_allot 50 = some (.invokevirtual 59, 3, 0, 0, 0, []) := rs_of (by decide +kernel) (by decide +kernel)
theorem DX1_allot_53 : rs MX1_allot 53 = some (.ifCond .eq 66, 3, 119, 0, 0, []) := rs_of (by decide +kernel) (by decide +kernel)
theorem DX1_allot_56 : rs MX1_allot 56 = some (.aload_n 0, 1, 0, 0, 0, []) := rs_of (by decide +kernel) (by decide +kernel)
theorem DX1_allot_57 : rs MX1_allot 57 = some (.aload_n 3, 1, 3, 0, 0, []) := rs_of (by decide +kernel) (by decide +kernel)
theorem DX1_allot_58 : rs MX1_allot 58 = some (.getfield 134, 3, 3, 1, 0, []) := rs_of (by decide +kernel) (by decide +kernel)
theorem DX1_allot_61 : rs MX1_allot 61 = some (.invokevirtual 137, 3, 0, 0, 0, []) := rs_of (by decide +kernel) (by decide +kernel)
theorem DX1_allot_64 : rs MX1_allot 64 = some (.aload_n 0, 1, 0, 0, 0, []) := rs_of (by decide +kernel) (by decide +kernel)
theorem DX1_allot_65 : rs MX1_allot 65 = some (.aload_n 3, 1, 3, 0, 0, []) := rs_of (by decide +kernel) (by decide +kernel)
theorem DX1_allot_66 : rs MX1_allot 66 = some (.aload_n 1, 1, 1, 0, 0, []) := rs_of (by decide +kernel) (by decide +kernel)
theorem DX1_allot_67 : rs MX1_allot 67 = some (.invokevirtual 140, 3, 0, 0, 0, []) := rs_of (by decide +kernel) (by decide +kernel)
theorem DX1_allot_70 : rs MX1_allot 70 = some (.isub, 1, 0, 0, 0, []) := rs_of (by decide +kernel) (by decide +kernel)
theorem DX1_allot_71 : rs MX1_allot 71 = some (.istore 4, 2, 0, 0, 0, []) := rs_of (by decide +kernel) (by decide +kernel)
theorem DX1_allot_73 : rs MX1_allot 73 = some (.aload_n 0, 1, 0, 0, 0, []) := rs_of (by decide +kernel) (by decide +kernel)
theorem DX1_allot_74 : rs MX1_allot 74 = some (.getfield 21, 3, 2, 12, 0, []) := rs_of (by decide +kernel) (by decide +kernel)
theorem DX1_allot_77 : rs MX1_allot 77 = some (.iload_n 2, 1, 2, 0, 0, []) := rs_of (by decide +kernel) (by decide +kernel)
theorem DX1_allot_78 : rs MX1_allot 78 = some (.iconst 0, 1, 0, 0, 0, []) := rs_of (by decide +kernel) (by decide +kernel)
theorem DX1_allot_79 : rs MX1_allot 79 = some (.aload_n 3, 1, 3, 0, 0, []) := rs_of (by decide +kernel) (by decide +kernel)
theorem DX1_allot_80 : rs MX1_allot 80 = some (.getfield 70, 3, 3, 5, 0, []) := rs_of (by decide +kernel) (by decide +kernel)
theorem DX1_allot_83 : rs MX1_allot 83 = some (.iload 4, 2, 0, 0, 0, []) := rs_of (by decide +kernel) (by decide +kernel)
theorem DX1_allot_85 : rs MX1_allot 85 = some (.invokestatic 144, 3, 0, 0, 0, []) := rs_of (by decide +kernel) (by decide +kernel)
theorem DX1_allot_88 : rs MX1_allot 88 = some (.invokestatic 150, 3, 0, 0, 0, []) := rs_of (by decide +kernel) (by decide +kernel)
theorem DX1_allot_91 : rs MX1_allot 91 = some (.iastore, 1, 0, 0, 0, []) := rs_of (by decide +kernel) (by decide +kernel)
theorem DX1_allot_92 : rs MX1_allot 92 = some (.aload_n 0, 1, 0, 0, 0, []) := rs_of (by decide +kernel) (by decide +kernel)
theorem DX1_allot_93 : rs MX1_allot 93 = some (.dup, 1, 0, 0, 0, []) := rs_of (by decide +kernel) (by decide +kernel)
theorem DX1_allot_94 : rs MX1_allot 94 = some (.getfield 56, 3, 2, 14, 0, []) := rs_of (by decide +kernel) (by decide +kernel)
theorem DX1_allot_97 : rs MX1_allot 97 = some (.aload_n 0, 1, 0, 0, 0, []) := rs_of (by decide +kernel) (by decide +kernel)
theorem DX1_allot_98 : rs MX1_allot 98 = some (.getfield 21, 3, 2, 12, 0, []) := rs_of (by decide +kernel) (by decide +kernel)
theorem DX1_allot_101 : rs MX1_allot 101 = some (.iload_n 2, 1, 2, 0, 0, []) := rs_of (by decide +kernel) (by decide +kernel)
theorem DX1_allot_102 : rs MX1_allot 102 = some (.iaload, 1, 0, 0, 0, []) := rs_of (by decide +kernel) (by decide +kernel)
theorem DX1_allot_103 : rs MX1_allot 103 = some (.aload_n 3, 1, 3, 0, 0, []) := rs_of (by decide +kernel) (by decide +kernel)
theorem DX1_allot_104 : rs MX1_allot 104 = some (.getfield 70, 3, 3, 5, 0, []) := rs_of (by decide +kernel) (by decide +kernel)
theorem DX1_allot_107 : rs MX1_allot 107 = some (.if_icmp .ge 7, 3, 114, 0, 0, []) := rs_of (by decide +kernel) (by decide +kernel)
theorem DX1_allot_110 : rs MX1_allot 110 = some (.iconst 1, 1, 0, 0, 1, []) := rs_of (by decide +kernel) (by decide +kernel)
theorem DX1_allot_111 : rs MX1_allot 111 = some (.goto 4, 3, 115, 0, 0, []) := rs_of (by decide +kernel) (by decide +kernel)
theorem DX1_allot_114 : rs MX1_allot 114 = some (.iconst 0, 1, 0, 0, 0, []) := rs_of (by decide +kernel) (by decide +kernel)
theorem DX1_allot_115 : rs MX1_allot 115 = some (.iadd, 1, 0, 0, 0, []) := rs_of (by decide +kernel) (by decide +kernel)
theorem DX1_allot_116 : rs MX1_allot 116 = some (.putfield 56, 3, 2, 14, 0, []) := rs_of (by decide +kernel) (by decide +kernel)
theorem DX1_allot_119 : rs MX1_allot 119 = some (.aload_n 0, 1, 0, 0, 0, []) := rs_of (by decide +kernel) (by decide +kernel)
theorem DX1_allot_120 : rs MX1_allot 120 = some (.dup, 1, 0, 0, 0, []) := rs_of (by decide +kernel) (by decide +kernel)
theorem DX1_allot_121 : rs MX1_allot 121 = some (.getfield 53, 3, 2, 13, 0, []) := rs_of (by decide +kernel) (by decide +kernel)
theorem DX1_allot_124 : rs MX1_allot 124 = some (.aload_n 0, 1, 0, 0, 0, []) := rs_of (by decide +kernel) (by decide +kernel)
theorem DX1_allot_125 : rs MX1_allot 125 = some (.getfield 21, 3, 2, 12, 0, []) := rs_of (by decide +kernel) (by decide +kernel)
theorem DX1_allot_128 : rs MX1_allot 128 = some (.iload_n 2, 1, 2, 0, 0, []) := rs_of (by decide +kernel) (by decide +kernel)
theorem DX1_allot_129 : rs MX1_allot 129 = some (.iaload, 1, 0, 0, 0, []) := rs_of (by decide +kernel) (by decide +kernel)
theorem DX1_allot_130 : rs MX1_allot 130 = some (.iadd, 1, 0, 0, 0, []) := rs_of (by decide +kernel) (by decide +kernel)
theorem DX1_allot_131 : rs MX1_allot 131 = some (.putfield 53, 3, 2, 13, 0, []) := rs_of (by decide +kernel) (by decide +kernel)
theorem DX1_allot_134 : rs MX1_allot 134 = some (.iinc 2 1, 3, 2, 0, 1, []) := rs_of (by decide +kernel) (by decide +kernel)
theorem DX1_allot_137 : rs MX1_allot 137 = some (.goto (-125), 3, 12, 0, 0, []) := rs_of (by decide +kernel) (by decide +kernel)
theorem DX1_allot_140 : rs MX1_allot 140 = some (.aload_n 0, 1, 0, 0, 0, []) := rs_of (by decide +kernel) (by decide +kernel)
theorem DX1_allot_141 : rs MX1_allot 141 = some (.iconst 1, 1, 0, 0, 1, []) := rs_of (by decide +kernel) (by decide +kernel)
theorem DX1_allot_142 : rs MX1_allot 142 = some (.putfield 44, 3, 2, 11, 0, []) := rs_of (by decide +kernel) (by decide +kernel)
theorem DX1_allot_145 : rs MX1_allot 145 = some (.return_, 1, 0, 0, 0, []) := rs_of (by decide +kernel) (by decide +kernel)
theorem DX1_askedBefore_0 : rs MX1_askedBefore 0 = some (.iconst 0, 1, 0, 0, 0, []) := rs_of (by decide +kernel) (by decide +kernel)
theorem DX1_askedBefore_1 : rs MX1_askedBefore 1 = some (.istore_n 3, 1, 3, 0, 0, []) := rs_of (by decide +kernel) (by decide +kernel)
theorem DX1_askedBefore_2 : rs MX1_askedBefore 2 = some (.iconst 0, 1, 0, 0, 0, []) := rs_of (by decide +kernel) (by decide +kernel)
theorem DX1_askedBefore_3 : rs MX1_askedBefore 3 = some (.istore 4, 2, 0, 0, 0, []) := rs_of (by decide +kernel) (by decide +kernel)
theorem DX1_askedBefore_5 : rs MX1_askedBefore 5 = some (.iload 4, 2, 0, 0, 0, []) := rs_of (by decide +kernel) (by decide +kernel)
theorem DX1_askedBefore_7 : rs MX1_askedBefore 7 = some (.aload_n 2, 1, 2, 0, 0, []) := rs_of (by decide +kernel) (by decide +kernel)
theorem DX1_askedBefore_8 : rs MX1_askedBefore 8 = some (.invokevirtual 88, 3, 0, 0, 0, []) := rs_of (by decide +kernel) (by decide +kernel)
theorem DX1_askedBefore_11 : rs MX1_askedBefore 11 = some (.if_icmp .ge 61, 3, 72, 0, 0, []) := rs_of (by decide +kernel) (by decide +kernel)
theorem DX1_askedBefore_14 : rs MX1_askedBefore 14 = some (.aload_n 2, 1, 2, 0, 0, []) := rs_of (by decide +kernel) (by decide +kernel)
theorem DX1_askedBefore_15 : rs MX1_askedBefore 15 = some (.iload 4, 2, 0, 0, 0, []) := rs_of (by decide +kernel) (by decide +kernel)
theorem DX1_askedBefore_17 : rs MX1_askedBefore 17 = some (.invokevirtual 94, 3, 0, 0, 0, []) := rs_of (by decide +kernel) (by decide +kernel)
theorem DX1_askedBefore_20 : rs MX1_askedBefore 20 = some (.checkcast 60, 3, 3, 0, 0, []) := rs_of (by decide +kernel) (by decide +kernel)
theorem DX1_askedBefore_23 : rs MX1_askedBefore 23 = some (.astore 5, 2, 0, 0, 0, []) := rs_of (by decide +kernel) (by decide +kernel)
theorem DX1_askedBefore_25 : rs MX1_askedBefore 25 = some (.aload 5, 2, 0, 0, 0, []) := rs_of (by decide +kernel) (by decide +kernel)
theorem DX1_askedBefore_27 : rs MX1_askedBefore 27 = some (.getfield 134, 3, 3, 1, 0, []) := rs_of (by decide +kernel) (by decide +kernel)
theorem DX1_askedBefore_30 : rs MX1_askedBefore 30 = some (.aload_n 1, 1, 1, 0, 0, []) := rs_of (by decide +kernel) (by decide +kernel)
theorem DX1_askedBefore_31 : rs MX1_askedBefore 31 = some (.getfield 134, 3, 3, 1, 0, []) := rs_of (by decide +kernel) (by decide +kernel)
theorem DX1_askedBefore_34 : rs MX1_askedBefore 34 = some (.if_icmp .ne 32, 3, 66, 0, 0, []) := rs_of (by decide +kernel) (by decide +kernel)
theorem DX1_askedBefore_37 : rs MX1_askedBefore 37 = some (.aload 5, 2, 0, 0, 0, []) := rs_of (by decide +kernel) (by decide +kernel)
theorem DX1_askedBefore_39 : rs MX1_askedBefore 39 = some (.aload_n 0, 1, 0, 0, 0, []) := rs_of (by decide +kernel) (by decide +kernel)
theorem DX1_askedBefore_40 : rs MX1_askedBefore 40 = some (.getfield 24, 3, 2, 0, 0, []) := rs_of (by decide +kernel) (by decide +kernel)
theorem DX1_askedBefore_43 : rs MX1_askedBefore 43 = some (.invokevirtual 59, 3, 0, 0, 0, []) := rs_of (by decide +kernel) (by decide +kernel)
theorem DX1_askedBefore_46 : rs MX1_askedBefore 46 = some (.ifCond .eq 20, 3, 66, 0, 0, []) := rs_of (by decide +kernel) (by decide +kernel)
theorem DX1_askedBefore_49 : rs MX1_askedBefore 49 = some (.aload 5, 2, 0, 0, 0, []) := rs_of (by decide +kernel) (by decide +kernel)
theorem DX1_askedBefore_51 : rs MX1_askedBefore 51 = some (.aload_n 1, 1, 1, 0, 0, []) := rs_of (by decide +kernel) (by decide +kernel)
theorem DX1_askedBefore_52 : rs MX1_askedBefore 52 = some (.invokevirtual 153, 3, 0, 0, 0, []) := rs_of (by decide +kernel) (by decide +kernel)
theorem DX1_askedBefore_55 : rs MX1_askedBefore 55 = some (.ifCond .eq 11, 3, 66, 0, 0, []) := rs_of (by decide +kernel) (by decide +kernel)
theorem DX1_askedBefore_58 : rs MX1_askedBefore 58 = some (.iload_n 3, 1, 3, 0, 0, []) := rs_of (by decide +kernel) (by decide +kernel)
theorem DX1_askedBefore_59 : rs MX1_askedBefore 59 = some (.aload 5, 2, 0, 0, 0, []) := rs_of (by decide +kernel) (by decide +kernel)
theorem DX1_askedBefore_61 : rs MX1_askedBefore 61 = some (.getfield 70, 3, 3, 5, 0, []) := rs_of (by decide +kernel) (by decide +kernel)
theorem DX1_askedBefore_64 : rs MX1_askedBefore 64 = some (.iadd, 1, 0, 0, 0, []) := rs_of (by decide +kernel) (by decide +kernel)
theorem DX1_askedBefore_65 : rs MX1_askedBefore 65 = some (.istore_n 3, 1, 3, 0, 0, []) := rs_of (by decide +kernel) (by decide +kernel)
theorem DX1_askedBefore_66 : rs MX1_askedBefore 66 = some (.iinc 4 1, 3, 4, 0, 1, []) := rs_of (by decide +kernel) (by decide +kernel)
theorem DX1_askedBefore_69 : rs MX1_askedBefore 69 = some (.goto (-64), 3, 5, 0, 0, []) := rs_of (by decide +kernel) (by decide +kernel)
theorem DX1_askedBefore_72 : rs MX1_askedBefore 72 = some (.iload_n 3, 1, 3, 0, 0, []) := rs_of (by decide +kernel) (by decide +kernel)
theorem DX1_askedBefore_73 : rs MX1_askedBefore 73 = some (.ireturn, 1, 0, 0, 0, []) := rs_of (by decide +kernel) (by decide +kernel)
end
section
theorem DX2_init_0 : rs MX2_init 0 = some (.aload_n 0, 1, 0, 0, 0, []) := rs_of (by decide +kernel) (by decide +kernel)
theorem DX2_init_1 : rs MX2_init 1 = some (.invokespecial 1, 3, 0, 0, 0, []) := rs_of (by decide +kernel) (by decide +kernel)
theorem DX2_init_4 : rs MX2_init 4 = some (.aload_n 0, 1, 0, 0, 0, []) := rs_of (by decide +kernel) (by decide +kernel)
theorem DX2_init_5 : rs MX2_init 5 = some (.iconst 1, 1, 0, 0, 1, []) := rs_of (by decide +kernel) (by decide +kernel)
theorem DX2_init_6 : rs MX2_init 6 = some (.putfield 7, 3, 3, 7, 0, []) := rs_of (by decide +kernel) (by decide +kernel)
theorem DX2_init_9 : rs MX2_init 9 = some (.aload_n 0, 1, 0, 0, 0, []) := rs_of (by decide +kernel) (by decide +kernel)
theorem DX2_init_10 : rs MX2_init 10 = some (.iload_n 1, 1, 1, 0, 0, []) := rs_of (by decide +kernel) (by decide +kernel)
theorem DX2_init_11 : rs MX2_init 11 = some (.putfield 13, 3, 3, 0, 0, []) := rs_of (by decide +kernel) (by decide +kernel)
theorem DX2_init_14 : rs MX2_init 14 = some (.aload_n 0, 1, 0, 0, 0, []) := rs_of (by decide +kernel) (by decide +kernel)
theorem DX2_init_15 : rs MX2_init 15 = some (.iload_n 2, 1, 2, 0, 0, []) := rs_of (by decide +kernel) (by decide +kernel)
theorem DX2_init_16 : rs MX2_init 16 = some (.putfield 17, 3, 3, 1, 0, []) := rs_of (by decide +kernel) (by decide +kernel)
theorem DX2_init_19 : rs MX2_init 19 = some (.aload_n 0, 1, 0, 0, 0, []) := rs_of (by decide +kernel) (by decide +kernel)
theorem DX2_init_20 : rs MX2_init 20 = some (.iload_n 3, 1, 3, 0, 0, []) := rs_of (by decide +kernel) (by decide +kernel)
theorem DX2_init_21 : rs MX2_init 21 = some (.putfield 20, 3, 3, 2, 0, []) := rs_of (by decide +kernel) (by decide +kernel)
theorem DX2_init_24 : rs MX2_init 24 = some (.aload_n 0, 1, 0, 0, 0, []) := rs_of (by decide +kernel) (by decide +kernel)
theorem DX2_init_25 : rs MX2_init 25 = some (.iload 4, 2, 0, 0, 0, []) := rs_of (by decide +kernel) (by decide +kernel)
theorem DX2_init_27 : rs MX2_init 27 = some (.putfield 23, 3, 3, 3, 0, []) := rs_of (by decide +kernel) (by decide +kernel)
theorem DX2_init_30 : rs MX2_init 30 = some (.aload_n 0, 1, 0, 0, 0, []) := rs_of (by decide +kernel) (by decide +kernel)
theorem DX2_init_31 : rs MX2_init 31 = some (.iload 5, 2, 0, 0, 0, []) := rs_of (by decide +kernel) (by decide +kernel)
theorem DX2_init_33 : rs MX2_init 33 = some (.putfield 26, 3, 3, 4, 0, []) := rs_of (by decide +kernel) (by decide +kernel)
theorem DX2_init_36 : rs MX2_init 36 = some (.aload_n 0, 1, 0, 0, 0, []) := rs_of (by decide +kernel) (by decide +kernel)
theorem DX2_init_37 : rs MX2_init 37 = some (.iload 6, 2, 0, 0, 0, []) := rs_of (by decide +kernel) (by decide +kernel)
theorem DX2_init_39 : rs MX2_init 39 = some (.putfield 29, 3, 3, 5, 0, []) := rs_of (by decide +kernel) (by decide +kernel)
theorem DX2_init_42 : rs MX2_init 42 = some (.aload_n 0, 1, 0, 0, 0, []) := rs_of (by decide +kernel) (by decide +kernel)
theorem DX2_init_43 : rs MX2_init 43 = some (.iload 7, 2, 0, 0, 0, []) := rs_of (by decide +kernel) (by decide +kernel)
theorem DX2_init_45 : rs MX2_init 45 = some (.putfield 32, 3, 3, 6, 0, []) := rs_of (by decide +kernel) (by decide +kernel)
theorem DX2_init_48 : rs MX2_init 48 = some (.return_, 1, 0, 0, 0, []) := rs_of (by decide +kernel) (by decide +kernel)
theorem DX2_hourCount_0 : rs MX2_hourCount 0 = some (.aload_n 0, 1, 0, 0, 0, []) := rs_of (by decide +kernel) (by decide +kernel)
theorem DX2_hourCount_1 : rs MX2_hourCount 1 = some (.getfield 26, 3, 3, 4, 0, []) := rs_of (by decide +kernel) (by decide +kernel)
theorem DX2_hourCount_4 : rs MX2_hourCount 4 = some (.aload_n 0, 1, 0, 0, 0, []) := rs_of (by decide +kernel) (by decide +kernel)
theorem DX2_hourCount_5 : rs MX2_hourCount 5 = some (.getfield 23, 3, 3, 3, 0, []) := rs_of (by decide +kernel) (by decide +kernel)
theorem DX2_hourCount_8 : rs MX2_hourCount 8 = some (.isub, 1, 0, 0, 0, []) := rs_of (by decide +kernel) (by decide +kernel)
theorem DX2_hourCount_9 : rs MX2_hourCount 9 = some (.iconst 1, 1, 0, 0, 1, []) := rs_of (by decide +kernel) (by decide +kernel)
theorem DX2_hourCount_10 : rs MX2_hourCount 10 = some (.iadd, 1, 0, 0, 0, []) := rs_of (by decide +kernel) (by decide +kernel)
theorem DX2_hourCount_11 : rs MX2_hourCount 11 = some (.ireturn, 1, 0, 0, 0, []) := rs_of (by decide +kernel) (by decide +kernel)
theorem DX2_asksIn_0 : rs MX2_asksIn 0 = some (.aload_n 0, 1, 0, 0, 0, []) := rs_of (by decide +kernel) (by decide +kernel)
theorem DX2_asksIn_1 : rs MX2_asksIn 1 = some (.getfield 7, 3, 3, 7, 0, []) := rs_of (by decide +kernel) (by decide +kernel)
theorem DX2_asksIn_4 : rs MX2_asksIn 4 = some (.ifCond .eq 23, 3, 27, 0, 0, []) := rs_of (by decide +kernel) (by decide +kernel)
theorem DX2_asksIn_7 : rs MX2_asksIn 7 = some (.iload_n 1, 1, 1, 0, 0, []) := rs_of (by decide +kernel) (by decide +kernel)
theorem DX2_asksIn_8 : rs MX2_asksIn 8 = some (.aload_n 0, 1, 0, 0, 0, []) := rs_of (by decide +kernel) (by decide +kernel)
theorem DX2_asksIn_9 : rs MX2_asksIn 9 = some (.getfield 23, 3, 3, 3, 0, []) := rs_of (by decide +kernel) (by decide +kernel)
theorem DX2_asksIn_12 : rs MX2_asksIn 12 = some (.if_icmp .lt 15, 3, 27, 0, 0, []) := rs_of (by decide +kernel) (by decide +kernel)
theorem DX2_asksIn_15 : rs MX2_asksIn 15 = some (.iload_n 1, 1, 1, 0, 0, []) := rs_of (by decide +kernel) (by decide +kernel)
theorem DX2_asksIn_16 : rs MX2_asksIn 16 = some (.aload_n 0, 1, 0, 0, 0, []) := rs_of (by decide +kernel) (by decide +kernel)
theorem DX2_asksIn_17 : rs MX2_asksIn 17 = some (.getfield 26, 3, 3, 4, 0, []) := rs_of (by decide +kernel) (by decide +kernel)
theorem DX2_asksIn_20 : rs MX2_asksIn 20 = some (.if_icmp .gt 7, 3, 27, 0, 0, []) := rs_of (by decide +kernel) (by decide +kernel)
theorem DX2_asksIn_23 : rs MX2_asksIn 23 = some (.iconst 1, 1, 0, 0, 1, []) := rs_of (by decide +kernel) (by decide +kernel)
theorem DX2_asksIn_24 : rs MX2_asksIn 24 = some (.goto 4, 3, 28, 0, 0, []) := rs_of (by decide +kernel) (by decide +kernel)
theorem DX2_asksIn_27 : rs MX2_asksIn 27 = some (.iconst 0, 1, 0, 0, 0, []) := rs_of (by decide +kernel) (by decide +kernel)
theorem DX2_asksIn_28 : rs MX2_asksIn 28 = some (.ireturn, 1, 0, 0, 0, []) := rs_of (by decide +kernel) (by decide +kernel)
theorem DX2_comesBefore_0 : rs MX2_comesBefore 0 = some (.aload_n 0, 1, 0, 0, 0, []) := rs_of (by decide +kernel) (by decide +kernel)
theorem DX2_comesBefore_1 : rs MX2_comesBefore 1 = some (.getfield 32, 3, 3, 6, 0, []) := rs_of (by decide +kernel) (by decide +kernel)
theorem DX2_comesBefore_4 : rs MX2_comesBefore 4 = some (.aload_n 1, 1, 1, 0, 0, []) := rs_of (by decide +kernel) (by decide +kernel)
theorem DX2_comesBefore_5 : rs MX2_comesBefore 5 = some (.getfield 32, 3, 3, 6, 0, []) := rs_of (by decide +kernel) (by decide +kernel)
theorem DX2_comesBefore_8 : rs MX2_comesBefore 8 = some (.if_icmp .gt 25, 3, 33, 0, 0, []) := rs_of (by decide +kernel) (by decide +kernel)
theorem DX2_comesBefore_11 : rs MX2_comesBefore 11 = some (.aload_n 0, 1, 0, 0, 0, []) := rs_of (by decide +kernel) (by decide +kernel)
theorem DX2_comesBefore_12 : rs MX2_comesBefore 12 = some (.getfield 32, 3, 3, 6, 0, []) := rs_of (by decide +kernel) (by decide +kernel)
theorem DX2_comesBefore_15 : rs MX2_comesBefore 15 = some (.aload_n 1, 1, 1, 0, 0, []) := rs_of (by decide +kernel) (by decide +kernel)
theorem DX2_comesBefore_16 : rs MX2_comesBefore 16 = some (.getfield 32, 3, 3, 6, 0, []) := rs_of (by decide +kernel) (by decide +kernel)
theorem DX2_comesBefore_19 : rs MX2_comesBefore 19 = some (.if_icmp .ne 18, 3, 37, 0, 0, []) := rs_of (by decide +kernel) (by decide +kernel)
theorem DX2_comesBefore_22 : rs MX2_comesBefore 22 = some (.aload_n 0, 1, 0, 0, 0, []) := rs_of (by decide +kernel) (by decide +kernel)
theorem DX2_comesBefore_23 : rs MX2_comesBefore 23 = some (.getfield 13, 3, 3, 0, 0, []) := rs_of (by decide +kernel) (by decide +kernel)
theorem DX2_comesBefore_26 : rs MX2_comesBefore 26 = some (.aload_n 1, 1, 1, 0, 0, []) := rs_of (by decide +kernel) (by decide +kernel)
theorem DX2_comesBefore_27 : rs MX2_comesBefore 27 = some (.getfield 13, 3, 3, 0, 0, []) := rs_of (by decide +kernel) (by decide +kernel)
theorem DX2_comesBefore_30 : rs MX2_comesBefore 30 = some (.if_icmp .ge 7, 3, 37, 0, 0, []) := rs_of (by decide +kernel) (by decide +kernel)
theorem DX2_comesBefore_33 : rs MX2_comesBefore 33 = some (.iconst 1, 1, 0, 0, 1, []) := rs_of (by decide +kernel) (by decide +kernel)
theorem DX2_comesBefore_34 : rs MX2_comesBefore 34 = some (.goto 4, 3, 38, 0, 0, []) := rs_of (by decide +kernel) (by decide +kernel)
theorem DX2_comesBefore_37 : rs MX2_comesBefore 37 = some (.iconst 0, 1, 0, 0, 0, []) := rs_of (by decide +kernel) (by decide +kernel)
theorem DX2_comesBefore_38 : rs MX2_comesBefore 38 = some (.ireturn, 1, 0, 0, 0, []) := rs_of (by decide +kernel) (by decide +kernel)
end
section
theorem DX3_init_0 : rs MX3_init 0 = some (.aload_n 0, 1, 0, 0, 0, []) := rs_of (by decide +kernel) (by decide +kernel)
theorem DX3_init_1 : rs MX3_init 1 = some (.invokespecial 3, 3, 0, 0, 0, []) := rs_of (by decide +kernel) (by decide +kernel)
theorem DX3_init_4 : rs MX3_init 4 = some (.aload_n 0, 1, 0, 0, 0, []) := rs_of (by decide +kernel) (by decide +kernel)
theorem DX3_init_5 : rs MX3_init 5 = some (.new 9, 3, 0, 0, 0, []) := rs_of (by decide +kernel) (by decide +kernel)
theorem DX3_init_8 : rs MX3_init 8 = some (.dup, 1, 0, 0, 0, []) := rs_of (by decide +kernel) (by decide +kernel)
theorem DX3_init_9 : rs MX3_init 9 = some (.invokespecial 11, 3, 0, 0, 0, []) := rs_of (by decide +kernel) (by decide +kernel)
theorem DX3_init_12 : rs MX3_init 12 = some (.putfield 12, 3, 4, 0, 0, []) := rs_of (by decide +kernel) (by decide +kernel)
theorem DX3_init_15 : rs MX3_init 15 = some (.aload_n 0, 1, 0, 0, 0, []) := rs_of (by decide +kernel) (by decide +kernel)
theorem DX3_init_16 : rs MX3_init 16 = some (.sipush 256, 3, 0, 0, 256, []) := rs_of (by decide +kernel) (by decide +kernel)
theorem DX3_init_19 : rs MX3_init 19 = some (.newarray .boolean, 2, 0, 0, 0, []) := rs_of (by decide +kernel) (by decide +kernel)
theorem DX3_init_21 : rs MX3_init 21 = some (.putfield 18, 3, 4, 1, 0, []) := rs_of (by decide +kernel) (by decide +kernel)
theorem DX3_init_24 : rs MX3_init 24 = some (.return_, 1, 0, 0, 0, []) := rs_of (by decide +kernel) (by decide +kernel)
theorem DX3_isCovered_0 : rs MX3_isCovered 0 = some (.iload_n 1, 1, 1, 0, 0, []) := rs_of (by decide +kernel) (by decide +kernel)
theorem DX3_isCovered_1 : rs MX3_isCovered 1 = some (.ifCond .lt 25, 3, 26, 0, 0, []) := rs_of (by decide +kernel) (by decide +kernel)
theorem DX3_isCovered_4 : rs MX3_isCovered 4 = some (.iload_n 1, 1, 1, 0, 0, []) := rs_of (by decide +kernel) (by decide +kernel)
theorem DX3_isCovered_5 : rs MX3_isCovered 5 = some (.aload_n 0, 1, 0, 0, 0, []) := rs_of (by decide +kernel) (by decide +kernel)
theorem DX3_isCovered_6 : rs MX3_isCovered 6 = some (.getfield 18, 3, 4, 1, 0, []) := rs_of (by decide +kernel) (by decide +kernel)
theorem DX3_isCovered_9 : rs MX3_isCovered 9 = some (.arraylength, 1, 0, 0, 0, []) := rs_of (by decide +kernel) (by decide +kernel)
theorem DX3_isCovered_10 : rs MX3_isCovered 10 = some (.if_icmp .ge 16, 3, 26, 0, 0, []) := rs_of (by decide +kernel) (by decide +kernel)
theorem DX3_isCovered_13 : rs MX3_isCovered 13 = some (.aload_n 0, 1, 0, 0, 0, []) := rs_of (by decide +kernel) (by decide +kernel)
theorem DX3_isCovered_14 : rs MX3_isCovered 14 = some (.getfield 18, 3, 4, 1, 0, []) := rs_of (by decide +kernel) (by decide +kernel)
theorem DX3_isCovered_17 : rs MX3_isCovered 17 = some (.iload_n 1, 1, 1, 0, 0, []) := rs_of (by decide +kernel) (by decide +kernel)
theorem DX3_isCovered_18 : rs MX3_isCovered 18 = some (.baload, 1, 0, 0, 0, []) := rs_of (by decide +kernel) (by decide +kernel)
theorem DX3_isCovered_19 : rs MX3_isCovered 19 = some (.ifCond .eq 7, 3, 26, 0, 0, []) := rs_of (by decide +kernel) (by decide +kernel)
theorem DX3_isCovered_22 : rs MX3_isCovered 22 = some (.iconst 1, 1, 0, 0, 1, []) := rs_of (by decide +kernel) (by decide +kernel)
theorem DX3_isCovered_23 : rs MX3_isCovered 23 = some (.goto 4, 3, 27, 0, 0, []) := rs_of (by decide +kernel) (by decide +kernel)
theorem DX3_isCovered_26 : rs MX3_isCovered 26 = some (.iconst 0, 1, 0, 0, 0, []) := rs_of (by decide +kernel) (by decide +kernel)
theorem DX3_isCovered_27 : rs MX3_isCovered 27 = some (.ireturn, 1, 0, 0, 0, []) := rs_of (by decide +kernel) (by decide +kernel)
theorem DX3_isFree_0 : rs MX3_isFree 0 = some (.aload_n 1, 1, 1, 0, 0, []) := rs_of (by decide +kernel) (by decide +kernel)
theorem DX3_isFree_1 : rs MX3_isFree 1 = some (.getfield 22, 3, 1, 2, 0, []) := rs_of (by decide +kernel) (by decide +kernel)
theorem DX3_isFree_4 : rs MX3_isFree 4 = some (.istore_n 2, 1, 2, 0, 0, []) := rs_of (by decide +kernel) (by decide +kernel)
theorem DX3_isFree_5 : rs MX3_isFree 5 = some (.iload_n 2, 1, 2, 0, 0, []) := rs_of (by decide +kernel) (by decide +kernel)
theorem DX3_isFree_6 : rs MX3_isFree 6 = some (.aload_n 1, 1, 1, 0, 0, []) := rs_of (by decide +kernel) (by decide +kernel)
theorem DX3_isFree_7 : rs MX3_isFree 7 = some (.getfield 22, 3, 1, 2, 0, []) := rs_of (by decide +kernel) (by decide +kernel)
theorem DX3_isFree_10 : rs MX3_isFree 10 = some (.aload_n 1, 1, 1, 0, 0, []) := rs_of (by decide +kernel) (by decide +kernel)
theorem DX3_isFree_11 : rs MX3_isFree 11 = some (.getfield 28, 3, 1, 4, 0, []) := rs_of (by decide +kernel) (by decide +kernel)
theorem DX3_isFree_14 : rs MX3_isFree 14 = some (.iadd, 1, 0, 0, 0, []) := rs_of (by decide +kernel) (by decide +kernel)
theorem DX3_isFree_15 : rs MX3_isFree 15 = some (.if_icmp .ge 48, 3, 63, 0, 0, []) := rs_of (by decide +kernel) (by decide +kernel)
theorem DX3_isFree_18 : rs MX3_isFree 18 = some (.aload_n 1, 1, 1, 0, 0, []) := rs_of (by decide +kernel) (by decide +kernel)
theorem DX3_isFree_19 : rs MX3_isFree 19 = some (.getfield 31, 3, 1, 1, 0, []) := rs_of (by decide +kernel) (by decide +kernel)
theorem DX3_isFree_22 : rs MX3_isFree 22 = some (.istore_n 3, 1, 3, 0, 0, []) := rs_of (by decide +kernel) (by decide +kernel)
theorem DX3_isFree_23 : rs MX3_isFree 23 = some (.iload_n 3, 1, 3, 0, 0, []) := rs_of (by decide +kernel) (by decide +kernel)
theorem DX3_isFree_24 : rs MX3_isFree 24 = some (.aload_n 1, 1, 1, 0, 0, []) := rs_of (by decide +kernel) (by decide +kernel)
theorem DX3_isFree_25 : rs MX3_isFree 25 = some (.getfield 31, 3, 1, 1, 0, []) := rs_of (by decide +kernel) (by decide +kernel)
theorem DX3_isFree_28 : rs MX3_isFree 28 = some (.aload_n 1, 1, 1, 0, 0, []) := rs_of (by decide +kernel) (by decide +kernel)
theorem DX3_isFree_29 : rs MX3_isFree 29 = some (.getfield 34, 3, 1, 3, 0, []) := rs_of (by decide +kernel) (by decide +kernel)
theorem DX3_isFree_32 : rs MX3_isFree 32 = some (.iadd, 1, 0, 0, 0, []) := rs_of (by decide +kernel) (by decide +kernel)
theorem DX3_isFree_33 : rs MX3_isFree 33 = some (.if_icmp .ge 24, 3, 57, 0, 0, []) := rs_of (by decide +kernel) (by decide +kernel)
theorem DX3_isFree_36 : rs MX3_isFree 36 = some (.aload_n 0, 1, 0, 0, 0, []) := rs_of (by decide +kernel) (by decide +kernel)
theorem DX3_isFree_37 : rs MX3_isFree 37 = some (.iload_n 3, 1, 3, 0, 0, []) := rs_of (by decide +kernel) (by decide +kernel)
theorem DX3_isFree_38 : rs MX3_isFree 38 = some (.bipush 16, 2, 0, 0, 16, []) := rs_of (by decide +kernel) (by decide +kernel)
theorem DX3_isFree_40 : rs MX3_isFree 40 = some (.iload_n 2, 1, 2, 0, 0, []) := rs_of (by decide +kernel) (by decide +kernel)
theorem DX3_isFree_41 : rs MX3_isFree 41 = some (.imul, 1, 0, 0, 0, []) := rs_of (by decide +kernel) (by decide +kernel)
theorem DX3_isFree_42 : rs MX3_isFree 42 = some (.iadd, 1, 0, 0, 0, []) := rs_of (by decide +kernel) (by decide +kernel)
theorem DX3_isFree_43 : rs MX3_isFree 43 = some (.invokevirtual 37, 3, 0, 0, 0, []) := rs_of (by decide +kernel) (by decide +kernel)
theorem DX3_isFree_46 : rs MX3_isFree 46 = some (.ifCond .eq 5, 3, 51, 0, 0, []) := rs_of (by decide +kernel) (by decide +kernel)
theorem DX3_isFree_49 : rs MX3_isFree 49 = some (.iconst 0, 1, 0, 0, 0, []) := rs_of (by decide +kernel) (by decide +kernel)
theorem DX3_isFree_50 : rs MX3_isFree 50 = some (.ireturn, 1, 0, 0, 0, []) := rs_of (by decide +kernel) (by decide +kernel)
theorem DX3_isFree_51 : rs MX3_isFree 51 = some (.iinc 3 1, 3, 3, 0, 1, []) := rs_of (by decide +kernel) (by decide +kernel)
theorem DX3_isFree_54 : rs MX3_isFree 54 = some (.goto (-31), 3, 23, 0, 0, []) := rs_of (by decide +kernel) (by decide +kernel)
theorem DX3_isFree_57 : rs MX3_isFree 57 = some (.iinc 2 1, 3, 2, 0, 1, []) := rs_of (by decide +kernel) (by decide +kernel)
theorem DX3_isFree_60 : rs MX3_isFree 60 = some (.goto (-55), 3, 5, 0, 0, []) := rs_of (by decide +kernel) (by decide +kernel)
theorem DX3_isFree_63 : rs MX3_isFree 63 = some (.iconst 1, 1, 0, 0, 1, []) := rs_of (by decide +kernel) (by decide +kernel)
theorem DX3_isFree_64 : rs MX3_isFree 64 = some (.ireturn, 1, 0, 0, 0, []) := rs_of (by decide +kernel) (by decide +kernel)
theorem DX3_setCovered_0 : rs MX3_setCovered 0 = some (.aload_n 1, 1, 1, 0, 0, []) := rs_of (by decide +kernel) (by decide +kernel)
theorem DX3_setCovered_1 : rs MX3_setCovered 1 = some (.getfield 22, 3, 1, 2, 0, []) := rs_of (by decide +kernel) (by decide +kernel)
theorem DX3_setCovered_4 : rs MX3_setCovered 4 = some (.istore_n 3, 1, 3, 0, 0, []) := rs_of (by decide +kernel) (by decide +kernel)
theorem DX3_setCovered_5 : rs MX3_setCovered 5 = some (.iload_n 3, 1, 3, 0, 0, []) := rs_of (by decide +kernel) (by decide +kernel)
theorem DX3_setCovered_6 : rs MX3_setCovered 6 = some (.aload_n 1, 1, 1, 0, 0, []) := rs_of (by decide +kernel) (by decide +kernel)
theorem DX3_setCovered_7 : rs MX3_setCovered 7 = some (.getfield 22, 3, 1, 2, 0, []) := rs_of (by decide +kernel) (by decide +kernel)
theorem DX3_setCovered_10 : rs MX3_setCovered 10 = some (.aload_n 1, 1, 1, 0, 0, []) := rs_of (by decide +kernel) (by decide +kernel)
theorem DX3_setCovered_11 : rs MX3_setCovered 11 = some (.getfield 28, 3, 1, 4, 0, []) := rs_of (by decide +kernel) (by decide +kernel)
theorem DX3_setCovered_14 : rs MX3_setCovered 14 = some (.iadd, 1, 0, 0, 0, []) := rs_of (by decide +kernel) (by decide +kernel)
theorem DX3_setCovered_15 : rs MX3_setCovered 15 = some (.if_icmp .ge 67, 3, 82, 0, 0, []) := rs_of (by decide +kernel) (by decide +kernel)
theorem DX3_setCovered_18 : rs MX3_setCovered 18 = some (.aload_n 1, 1, 1, 0, 0, []) := rs_of (by decide +kernel) (by decide +kernel)
theorem DX3_setCovered_19 : rs MX3_setCovered 19 = some (.getfield 31, 3, 1, 1, 0, []) := rs_of (by decide +kernel) (by decide +kernel)
theorem DX3_setCovered_22 : rs MX3_setCovered 22 = some (.istore 4, 2, 0, 0, 0, []) := rs_of (by decide +kernel) (by decide +kernel)
theorem DX3_setCovered_24 : rs MX3_setCovered 24 = some (.iload 4, 2, 0, 0, 0, []) := rs_of (by decide +kernel) (by decide +kernel)
theorem DX3_setCovered_26 : rs MX3_setCovered 26 = some (.aload_n 1, 1, 1, 0, 0, []) := rs_of (by decide +kernel) (by decide +kernel)
theorem DX3_setCovered_27 : rs MX3_setCovered 27 = some (.getfield 31, 3, 1, 1, 0, []) := rs_of (by decide +kernel) (by decide +kernel)
theorem DX3_setCovered_30 : rs MX3_setCovered 30 = some (.aload_n 1, 1, 1, 0, 0, []) := rs_of (by decide +kernel) (by decide +kernel)
theorem DX3_setCovered_31 : rs MX3_setCovered 31 = some (.getfield 34, 3, 1, 3, 0, []) := rs_of (by decide +kernel) (by decide +kernel)
theorem DX3_setCovered_34 : rs MX3_setCovered 34 = some (.iadd, 1, 0, 0, 0, []) := rs_of (by decide +kernel) (by decide +kernel)
theorem DX3_setCovered_35 : rs MX3_setCovered 35 = some (.if_icmp .ge 41, 3, 76, 0, 0, []) := rs_of (by decide +kernel) (by decide +kernel)
theorem DX3_setCovered_38 : rs MX3_setCovered 38 = some (.iload 4, 2, 0, 0, 0, []) := rs_of (by decide +kernel) (by decide +kernel)
theorem DX3_setCovered_40 : rs MX3_setCovered 40 = some (.bipush 16, 2, 0, 0, 16, []) := rs_of (by decide +kernel) (by decide +kernel)
theorem DX3_setCovered_42 : rs MX3_setCovered 42 = some (.iload_n 3, 1, 3, 0, 0, []) := rs_of (by decide +kernel) (by decide +kernel)
theorem DX3_setCovered_43 : rs MX3_setCovered 43 = some (.imul, 1, 0, 0, 0, []) := rs_of (by decide +kernel) (by decide +kernel)
theorem DX3_setCovered_44 : rs MX3_setCovered 44 = some (.iadd, 1, 0, 0, 0, []) := rs_of (by decide +kernel) (by decide +kernel)
theorem DX3_setCovered_45 : rs MX3_setCovered 45 = some (.istore 5, 2, 0, 0, 0, []) := rs_of (by decide +kernel) (by decide +kernel)
theorem DX3_setCovered_47 : rs MX3_setCovered 47 = some (.iload 5, 2, 0, 0, 0, []) := rs_of (by decide +kernel) (by decide +kernel)
theorem DX3_setCovered_49 : rs MX3_setCovered 49 = some (.ifCond .lt 21, 3, 70, 0, 0, []) := rs_of (by decide +kernel) (by decide +kernel)
theorem DX3_setCovered_52 : rs MX3_setCovered 52 = some (.iload 5, 2, 0, 0, 0, []) := rs_of (by decide +kernel) (by decide +kernel)
theorem DX3_setCovered_54 : rs MX3_setCovered 54 = some (.aload_n 0, 1, 0, 0, 0, []) := rs_of (by decide +kernel) (by decide +kernel)
theorem DX3_setCovered_55 : rs MX3_setCovered 55 = some (.getfield 18, 3, 4, 1, 0, []) := rs_of (by decide +kernel) (by decide +kernel)
theorem DX3_setCovered_58 : rs MX3_setCovered 58 = some (.arraylength, 1, 0, 0, 0, []) := rs_of (by decide +kernel) (by decide +kernel)
theorem DX3_setCovered_59 : rs MX3_setCovered 59 = some (.if_icmp .ge 11, 3, 70, 0, 0, []) := rs_of (by decide +kernel) (by decide +kernel)
theorem DX3_setCovered_62 : rs MX3_setCovered 62 = some (.aload_n 0, 1, 0, 0, 0, []) := rs_of (by decide +kernel) (by decide +kernel)
theorem DX3_setCovered_63 : rs MX3_setCovered 63 = some (.getfield 18, 3, 4, 1, 0, []) := rs_of (by decide +kernel) (by decide +kernel)
theorem DX3_setCovered_66 : rs MX3_setCovered 66 = some (.iload 5, 2, 0, 0, 0, []) := rs_of (by decide +kernel) (by decide +kernel)
theorem DX3_setCovered_68 : rs MX3_setCovered 68 = some (.iload_n 2, 1, 2, 0, 0, []) := rs_of (by decide +kernel) (by decide +kernel)
theorem DX3_setCovered_69 : rs MX3_setCovered 69 = some (.bastore, 1, 0, 0, 0, []) := rs_of (by decide +kernel) (by decide +kernel)
theorem DX3_setCovered_70 : rs MX3_setCovered 70 = some (.iinc 4 1, 3, 4, 0, 1, []) := rs_of (by decide +kernel) (by decide +kernel)
theorem DX3_setCovered_73 : rs MX3_setCovered 73 = some (.goto (-49), 3, 24, 0, 0, []) := rs_of (by decide +kernel) (by decide +kernel)
theorem DX3_setCovered_76 : rs MX3_setCovered 76 = some (.iinc 3 1, 3, 3, 0, 1, []) := rs_of (by decide +kernel) (by decide +kernel)
theorem DX3_setCovered_79 : rs MX3_setCovered 79 = some (.goto (-74), 3, 5, 0, 0, []) := rs_of (by decide +kernel) (by decide +kernel)
theorem DX3_setCovered_82 : rs MX3_setCovered 82 = some (.return_, 1, 0, 0, 0, []) := rs_of (by decide +kernel) (by decide +kernel)
theorem DX3_ownerOf_0 : rs MX3_ownerOf 0 = some (.iload_n 1, 1, 1, 0, 0, []) := rs_of (by decide +kernel) (by decide +kernel)
theorem DX3_ownerOf_1 : rs MX3_ownerOf 1 = some (.ifCond .lt 14, 3, 15, 0, 0, []) := rs_of (by decide +kernel) (by decide +kernel)
theorem DX3_ownerOf_4 : rs MX3_ownerOf 4 = some (.iload_n 1, 1, 1, 0, 0, []) := rs_of (by decide +kernel) (by decide +kernel)
theorem DX3_ownerOf_5 : rs MX3_ownerOf 5 = some (.aload_n 0, 1, 0, 0, 0, []) := rs_of (by decide +kernel) (by decide +kernel)
theorem DX3_ownerOf_6 : rs MX3_ownerOf 6 = some (.getfield 12, 3, 4, 0, 0, []) := rs_of (by decide +kernel) (by decide +kernel)
theorem DX3_ownerOf_9 : rs MX3_ownerOf 9 = some (.invokevirtual 41, 3, 0, 0, 0, []) := rs_of (by decide +kernel) (by decide +kernel)
theorem DX3_ownerOf_12 : rs MX3_ownerOf 12 = some (.if_icmp .lt 5, 3, 17, 0, 0, []) := rs_of (by decide +kernel) (by decide +kernel)
theorem DX3_ownerOf_15 : rs MX3_ownerOf 15 = some (.iconst (-1), 1, 0, 0, (-1), []) := rs_of (by decide +kernel) (by decide +kernel)
theorem DX3_ownerOf_16 : rs MX3_ownerOf 16 = some (.ireturn, 1, 0, 0, 0, []) := rs_of (by decide +kernel) (by decide +kernel)
theorem DX3_ownerOf_17 : rs MX3_ownerOf 17 = some (.aload_n 0, 1, 0, 0, 0, []) := rs_of (by decide +kernel) (by decide +kernel)
theorem DX3_ownerOf_18 : rs MX3_ownerOf 18 = some (.getfield 12, 3, 4, 0, 0, []) := rs_of (by decide +kernel) (by decide +kernel)
theorem DX3_ownerOf_21 : rs MX3_ownerOf 21 = some (.iload_n 1, 1, 1, 0, 0, []) := rs_of (by decide +kernel) (by decide +kernel)
theorem DX3_ownerOf_22 : rs MX3_ownerOf 22 = some (.invokevirtual 45, 3, 0, 0, 0, []) := rs_of (by decide +kernel) (by decide +kernel)
theorem DX3_ownerOf_25 : rs MX3_ownerOf 25 = some (.checkcast 23, 3, 1, 0, 0, []) := rs_of (by decide +kernel) (by decide +kernel)
theorem DX3_ownerOf_28 : rs MX3_ownerOf 28 = some (.getfield 49, 3, 1, 5, 0, []) := rs_of (by decide +kernel) (by decide +kernel)
theorem DX3_ownerOf_31 : rs MX3_ownerOf 31 = some (.ireturn, 1, 0, 0, 0, []) := rs_of (by decide +kernel) (by decide +kernel)
theorem DX3_standing_0 : rs MX3_standing 0 = some (.iconst 0, 1, 0, 0, 0, []) := rs_of (by decide +kernel) (by decide +kernel)
theorem DX3_standing_1 : rs MX3_standing 1 = some (.istore_n 1, 1, 1, 0, 0, []) := rs_of (by decide +kernel) (by decide +kernel)
theorem DX3_standing_2 : rs MX3_standing 2 = some (.iconst 0, 1, 0, 0, 0, []) := rs_of (by decide +kernel) (by decide +kernel)
theorem DX3_standing_3 : rs MX3_standing 3 = some (.istore_n 2, 1, 2, 0, 0, []) := rs_of (by decide +kernel) (by decide +kernel)
theorem DX3_standing_4 : rs MX3_standing 4 = some (.iload_n 2, 1, 2, 0, 0, []) := rs_of (by decide +kernel) (by decide +kernel)
theorem DX3_standing_5 : rs MX3_standing 5 = some (.aload_n 0, 1, 0, 0, 0, []) := rs_of (by decide +kernel) (by decide +kernel)
theorem DX3_standing_6 : rs MX3_standing 6 = some (.getfield 12, 3, 4, 0, 0, []) := rs_of (by decide +kernel) (by decide +kernel)
theorem DX3_standing_9 : rs MX3_standing 9 = some (.invokevirtual 41, 3, 0, 0, 0, []) := rs_of (by decide +kernel) (by decide +kernel)
theorem DX3_standing_12 : rs MX3_standing 12 = some (.if_icmp .ge 29, 3, 41, 0, 0, []) := rs_of (by decide +kernel) (by decide +kernel)
theorem DX3_standing_15 : rs MX3_standing 15 = some (.aload_n 0, 1, 0, 0, 0, []) := rs_of (by decide +kernel) (by decide +kernel)
theorem DX3_standing_16 : rs MX3_standing 16 = some (.getfield 12, 3, 4, 0, 0, []) := rs_of (by decide +kernel) (by decide +kernel)
theorem DX3_standing_19 : rs MX3_standing 19 = some (.iload_n 2, 1, 2, 0, 0, []) := rs_of (by decide +kernel) (by decide +kernel)
theorem DX3_standing_20 : rs MX3_standing 20 = some (.invokevirtual 45, 3, 0, 0, 0, []) := rs_of (by decide +kernel) (by decide +kernel)
theorem DX3_standing_23 : rs MX3_standing 23 = some (.checkcast 23, 3, 1, 0, 0, []) := rs_of (by decide +kernel) (by decide +kernel)
theorem DX3_standing_26 : rs MX3_standing 26 = some (.getfield 52, 3, 1, 7, 0, []) := rs_of (by decide +kernel) (by decide +kernel)
theorem DX3_standing_29 : rs MX3_standing 29 = some (.ifCond .eq 6, 3, 35, 0, 0, []) := rs_of (by decide +kernel) (by decide +kernel)
theorem DX3_standing_32 : rs MX3_standing 32 = some (.iinc 1 1, 3, 1, 0, 1, []) := rs_of (by decide +kernel) (by decide +kernel)
theorem DX3_standing_35 : rs MX3_standing 35 = some (.iinc 2 1, 3, 2, 0, 1, []) := rs_of (by decide +kernel) (by decide +kernel)
theorem DX3_standing_38 : rs MX3_standing 38 = some (.goto (-34), 3, 4, 0, 0, []) := rs_of (by decide +kernel) (by decide +kernel)
theorem DX3_standing_41 : rs MX3_standing 41 = some (.iload_n 1, 1, 1, 0, 0, []) := rs_of (by decide +kernel) (by decide +kernel)
theorem DX3_standing_42 : rs MX3_standing 42 = some (.ireturn, 1, 0, 0, 0, []) := rs_of (by decide +kernel) (by decide +kernel)
theorem DX3_coveredCells_0 : rs MX3_coveredCells 0 = some (.iconst 0, 1, 0, 0, 0, []) := rs_of (by decide +kernel) (by decide +kernel)
theorem DX3_coveredCells_1 : rs MX3_coveredCells 1 = some (.istore_n 1, 1, 1, 0, 0, []) := rs_of (by decide +kernel) (by decide +kernel)
theorem DX3_coveredCells_2 : rs MX3_coveredCells 2 = some (.iconst 0, 1, 0, 0, 0, []) := rs_of (by decide +kernel) (by decide +kernel)
theorem DX3_coveredCells_3 : rs MX3_coveredCells 3 = some (.istore_n 2, 1, 2, 0, 0, []) := rs_of (by decide +kernel) (by decide +kernel)
theorem DX3_coveredCells_4 : rs MX3_coveredCells 4 = some (.iload_n 2, 1, 2, 0, 0, []) := rs_of (by decide +kernel) (by decide +kernel)
theorem DX3_coveredCells_5 : rs MX3_coveredCells 5 = some (.aload_n 0, 1, 0, 0, 0, []) := rs_of (by decide +kernel) (by decide +kernel)
theorem DX3_coveredCells_6 : rs MX3_coveredCells 6 = some (.getfield 12, 3, 4, 0, 0, []) := rs_of (by decide +kernel) (by decide +kernel)
theorem DX3_coveredCells_9 : rs MX3_coveredCells 9 = some (.invokevirtual 41, 3, 0, 0, 0, []) := rs_of (by decide +kernel) (by decide +kernel)
theorem DX3_coveredCells_12 : rs MX3_coveredCells 12 = some (.if_icmp .ge 44, 3, 56, 0, 0, []) := rs_of (by decide +kernel) (by decide +kernel)
theorem DX3_coveredCells_15 : rs MX3_coveredCells 15 = some (.aload_n 0, 1, 0, 0, 0, []) := rs_of (by decide +kernel) (by decide +kernel)
theorem DX3_coveredCells_16 : rs MX3_coveredCells 16 = some (.getfield 12, 3, 4, 0, 0, []) := rs_of (by decide +kernel) (by decide +kernel)
theorem DX3_coveredCells_19 : rs MX3_coveredCells 19 = some (.iload_n 2, 1, 2, 0, 0, []) := rs_of (by decide +kernel) (by decide +kernel)
theorem DX3_coveredCells_20 : rs MX3_coveredCells 20 = some (.invokevirtual 45, 3, 0, 0, 0, []) := rs_of (by decide +kernel) (by decide +kernel)
theorem DX3_coveredCells_23 : rs MX3_coveredCells 23 = some (.checkcast 23, 3, 1, 0, 0, []) := rs_of (by decide +kernel) (by decide +kernel)
theorem DX3_coveredCells_26 : rs MX3_coveredCells 26 = some (.astore_n 3, 1, 3, 0, 0, []) := rs_of (by decide +kernel) (by decide +kernel)
theorem DX3_coveredCells_27 : rs MX3_coveredCells 27 = some (.iload_n 1, 1, 1, 0, 0, []) := rs_of (by decide +kernel) (by decide +kernel)
theorem DX3_coveredCells_28 : rs MX3_coveredCells 28 = some (.aload_n 3, 1, 3, 0, 0, []) := rs_of (by decide +kernel) (by decide +kernel)
theorem DX3_coveredCells_29 : rs MX3_coveredCells 29 = some (.getfield 52, 3, 1, 7, 0, []) := rs_of (by decide +kernel) (by decide +kernel)
theorem DX3_coveredCells_32 : rs MX3_coveredCells 32 = some (.ifCond .eq 15, 3, 47, 0, 0, []) := rs_of (by decide +kernel) (by decide +kernel)
theorem DX3_coveredCells_35 : rs MX3_coveredCells 35 = some (.aload_n 3, 1, 3, 0, 0, []) := rs_of (by decide +kernel) (by decide +kernel)
theorem DX3_coveredCells_36 : rs MX3_coveredCells 36 = some (.getfield 34, 3, 1, 3, 0, []) := rs_of (by decide +kernel) (by decide +kernel)
theorem DX3_coveredCells_39 : rs MX3_coveredCells 39 = some (.aload_n 3, 1, 3, 0, 0, []) := rs_of (by decide +kernel) (by decide +kernel)
theorem DX3_coveredCells_40 : rs MX3_coveredCells 40 = some (.getfield 28, 3, 1, 4, 0, []) := rs_of (by decide +kernel) (by decide +kernel)
theorem DX3_coveredCells_43 : rs MX3_coveredCells 43 = some (.imul, 1, 0, 0, 0, []) := rs_of (by decide +kernel) (by decide +kernel)
theorem DX3_coveredCells_44 : rs MX3_coveredCells 44 = some (.goto 4, 3, 48, 0, 0, []) := rs_of (by decide +kernel) (by decide +kernel)
theorem DX3_coveredCells_47 : rs MX3_coveredCells 47 = some (.iconst 0, 1, 0, 0, 0, []) := rs_of (by decide +kernel) (by decide +kernel)
theorem DX3_coveredCells_48 : rs MX3_coveredCells 48 = some (.iadd, 1, 0, 0, 0, []) := rs_of (by decide +kernel) (by decide +kernel)
theorem DX3_coveredCells_49 : rs MX3_coveredCells 49 = some (.istore_n 1, 1, 1, 0, 0, []) := rs_of (by decide +kernel) (by decide +kernel)
theorem DX3_coveredCells_50 : rs MX3_coveredCells 50 = some (.iinc 2 1, 3, 2, 0, 1, []) := rs_of (by decide +kernel) (by decide +kernel)
theorem DX3_coveredCells_53 : rs MX3_coveredCells 53 = some (.goto (-49), 3, 4, 0, 0, []) := rs_of (by decide +kernel) (by decide +kernel)
theorem DX3_coveredCells_56 : rs MX3_coveredCells 56 = some (.iload_n 1, 1, 1, 0, 0, []) := rs_of (by decide +kernel) (by decide +kernel)
theorem DX3_coveredCells_57 : rs MX3_coveredCells 57 = some (.ireturn, 1, 0, 0, 0, []) := rs_of (by decide +kernel) (by decide +kernel)
end
section
theorem DX4_init_0 : rs MX4_init 0 = some (.aload_n 0, 1, 0, 0, 0, []) := rs_of (by decide +kernel) (by decide +kernel)
theorem DX4_init_1 : rs MX4_init 1 = some (.invokespecial 3, 3, 0, 0, 0, []) := rs_of (by decide +kernel) (by decide +kernel)
theorem DX4_init_4 : rs MX4_init 4 = some (.aload_n 0, 1, 0, 0, 0, []) := rs_of (by decide +kernel) (by decide +kernel)
theorem DX4_init_5 : rs MX4_init 5 = some (.new 9, 3, 4, 0, 0, []) := rs_of (by decide +kernel) (by decide +kernel)
theorem DX4_init_8 : rs MX4_init 8 = some (.dup, 1, 0, 0, 0, []) := rs_of (by decide +kernel) (by decide +kernel)
theorem DX4_init_9 : rs MX4_init 9 = some (.invokespecial 11, 3, 0, 0, 0, []) := rs_of (by decide +kernel) (by decide +kernel)
theorem DX4_init_12 : rs MX4_init 12 = some (.putfield 12, 3, 5, 0, 0, []) := rs_of (by decide +kernel) (by decide +kernel)
theorem DX4_init_15 : rs MX4_init 15 = some (.aload_n 0, 1, 0, 0, 0, []) := rs_of (by decide +kernel) (by decide +kernel)
theorem DX4_init_16 : rs MX4_init 16 = some (.new 16, 3, 0, 0, 0, []) := rs_of (by decide +kernel) (by decide +kernel)
theorem DX4_init_19 : rs MX4_init 19 = some (.dup, 1, 0, 0, 0, []) := rs_of (by decide +kernel) (by decide +kernel)
theorem DX4_init_20 : rs MX4_init 20 = some (.invokespecial 18, 3, 0, 0, 0, []) := rs_of (by decide +kernel) (by decide +kernel)
theorem DX4_init_23 : rs MX4_init 23 = some (.putfield 19, 3, 5, 1, 0, []) := rs_of (by decide +kernel) (by decide +kernel)
theorem DX4_init_26 : rs MX4_init 26 = some (.aload_n 0, 1, 0, 0, 0, []) := rs_of (by decide +kernel) (by decide +kernel)
theorem DX4_init_27 : rs MX4_init 27 = some (.new 16, 3, 0, 0, 0, []) := rs_of (by decide +kernel) (by decide +kernel)
theorem DX4_init_30 : rs MX4_init 30 = some (.dup, 1, 0, 0, 0, []) := rs_of (by decide +kernel) (by decide +kernel)
theorem DX4_init_31 : rs MX4_init 31 = some (.invokespecial 18, 3, 0, 0, 0, []) := rs_of (by decide +kernel) (by decide +kernel)
theorem DX4_init_34 : rs MX4_init 34 = some (.putfield 23, 3, 5, 2, 0, []) := rs_of (by decide +kernel) (by decide +kernel)
theorem DX4_init_37 : rs MX4_init 37 = some (.aload_n 0, 1, 0, 0, 0, []) := rs_of (by decide +kernel) (by decide +kernel)
theorem DX4_init_38 : rs MX4_init 38 = some (.bipush 8, 2, 0, 0, 8, []) := rs_of (by decide +kernel) (by decide +kernel)
theorem DX4_init_40 : rs MX4_init 40 = some (.newarray .int, 2, 0, 0, 0, []) := rs_of (by decide +kernel) (by decide +kernel)
theorem DX4_init_42 : rs MX4_init 42 = some (.putfield 26, 3, 5, 3, 0, []) := rs_of (by decide +kernel) (by decide +kernel)
theorem DX4_init_45 : rs MX4_init 45 = some (.aload_n 0, 1, 0, 0, 0, []) := rs_of (by decide +kernel) (by decide +kernel)
theorem DX4_init_46 : rs MX4_init 46 = some (.bipush 16, 2, 0, 0, 16, []) := rs_of (by decide +kernel) (by decide +kernel)
theorem DX4_init_48 : rs MX4_init 48 = some (.newarray .int, 2, 0, 0, 0, []) := rs_of (by decide +kernel) (by decide +kernel)
theorem DX4_init_50 : rs MX4_init 50 = some (.putfield 30, 3, 5, 4, 0, []) := rs_of (by decide +kernel) (by decide +kernel)
theorem DX4_init_53 : rs MX4_init 53 = some (.sipush 256, 3, 0, 0, 256, []) := rs_of (by decide +kernel) (by decide +kernel)
theorem DX4_init_56 : rs MX4_init 56 = some (.newarray .int, 2, 0, 0, 0, []) := rs_of (by decide +kernel) (by decide +kernel)
theorem DX4_init_58 : rs MX4_init 58 = some (.astore_n 1, 1, 1, 0, 0, []) := rs_of (by decide +kernel) (by decide +kernel)
theorem DX4_init_59 : rs MX4_init 59 = some (.iconst 0, 1, 0, 0, 0, []) := rs_of (by decide +kernel) (by decide +kernel)
theorem DX4_init_60 : rs MX4_init 60 = some (.istore_n 2, 1, 2, 0, 0, []) := rs_of (by decide +kernel) (by decide +kernel)
theorem DX4_init_61 : rs MX4_init 61 = some (.iload_n 2, 1, 2, 0, 0, []) := rs_of (by decide +kernel) (by decide +kernel)
theorem DX4_init_62 : rs MX4_init 62 = some (.bipush 12, 2, 0, 0, 12, []) := rs_of (by decide +kernel) (by decide +kernel)
theorem DX4_init_64 : rs MX4_init 64 = some (.if_icmp .ge 26, 3, 90, 0, 0, []) := rs_of (by decide +kernel) (by decide +kernel)
theorem DX4_init_67 : rs MX4_init 67 = some (.aload_n 0, 1, 0, 0, 0, []) := rs_of (by decide +kernel) (by decide +kernel)
theorem DX4_init_68 : rs MX4_init 68 = some (.getfield 19, 3, 5, 1, 0, []) := rs_of (by decide +kernel) (by decide +kernel)
theorem DX4_init_71 : rs MX4_init 71 = some (.new 33, 3, 2, 0, 0, []) := rs_of (by decide +kernel) (by decide +kernel)
theorem DX4_init_74 : rs MX4_init 74 = some (.dup, 1, 0, 0, 0, []) := rs_of (by decide +kernel) (by decide +kernel)
theorem DX4_init_75 : rs MX4_init 75 = some (.iload_n 2, 1, 2, 0, 0, []) := rs_of (by decide +kernel) (by decide +kernel)
theorem DX4_init_76 : rs MX4_init 76 = some (.aload_n 1, 1, 1, 0, 0, []) := rs_of (by decide +kernel) (by decide +kernel)
theorem DX4_init_77 : rs MX4_init 77 = some (.invokespecial 35, 3, 0, 0, 0, []) := rs_of (by decide +kernel) (by decide +kernel)
theorem DX4_init_80 : rs MX4_init 80 = some (.invokevirtual 38, 3, 0, 0, 0, []) := rs_of (by decide +kernel) (by decide +kernel)
theorem DX4_init_83 : rs MX4_init 83 = some (.pop, 1, 0, 0, 0, []) := rs_of (by decide +kernel) (by decide +kernel)
theorem DX4_init_84 : rs MX4_init 84 = some (.iinc 2 1, 3, 2, 0, 1, []) := rs_of (by decide +kernel) (by decide +kernel)
theorem DX4_init_87 : rs MX4_init 87 = some (.goto (-26), 3, 61, 0, 0, []) := rs_of (by decide +kernel) (by decide +kernel)
theorem DX4_init_90 : rs MX4_init 90 = some (.return_, 1, 0, 0, 0, []) := rs_of (by decide +kernel) (by decide +kernel)
theorem DX4_build_0 : rs MX4_build 0 = some (.iload_n 3, 1, 3, 0, 0, []) := rs_of (by decide +kernel) (by decide +kernel)
theorem DX4_build_1 : rs MX4_build 1 = some (.iconst 1, 1, 0, 0, 1, []) := rs_of (by decide +kernel) (by decide +kernel)
theorem DX4_build_2 : rs MX4_build 2 = some (.bipush 6, 2, 0, 0, 6, []) := rs_of (by decide +kernel) (by decide +kernel)
theorem DX4_build_4 : rs MX4_build 4 = some (.invokestatic 42, 3, 0, 0, 0, []) := rs_of (by decide +kernel) (by decide +kernel)
theorem DX4_build_7 : rs MX4_build 7 = some (.iload 4, 2, 0, 0, 0, []) := rs_of (by decide +kernel) (by decide +kernel)
theorem DX4_build_9 : rs MX4_build 9 = some (.iconst 1, 1, 0, 0, 1, []) := rs_of (by decide +kernel) (by decide +kernel)
theorem DX4_build_10 : rs MX4_build 10 = some (.bipush 6, 2, 0, 0, 6, []) := rs_of (by decide +kernel) (by decide +kernel)
theorem DX4_build_12 : rs MX4_build 12 = some (.invokestatic 42, 3, 0, 0, 0, []) := rs_of (by decide +kernel) (by decide +kernel)
theorem DX4_build_15 : rs MX4_build 15 = some (.iload_n 1, 1, 1, 0, 0, []) := rs_of (by decide +kernel) (by decide +kernel)
theorem DX4_build_16 : rs MX4_build 16 = some (.iconst 0, 1, 0, 0, 0, []) := rs_of (by decide +kernel) (by decide +kernel)
theorem DX4_build_17 : rs MX4_build 17 = some (.bipush 16, 2, 0, 0, 16, []) := rs_of (by decide +kernel) (by decide +kernel)
theorem DX4_build_19 : rs MX4_build 19 = some (.iload_n 3, 1, 3, 0, 0, []) := rs_of (by decide +kernel) (by decide +kernel)
theorem DX4_build_20 : rs MX4_build 20 = some (.isub, 1, 0, 0, 0, []) := rs_of (by decide +kernel) (by decide +kernel)
theorem DX4_build_21 : rs MX4_build 21 = some (.invokestatic 42, 3, 0, 0, 0, []) := rs_of (by decide +kernel) (by decide +kernel)
theorem DX4_build_24 : rs MX4_build 24 = some (.iload_n 2, 1, 2, 0, 0, []) := rs_of (by decide +kernel) (by decide +kernel)
theorem DX4_build_25 : rs MX4_build 25 = some (.iconst 0, 1, 0, 0, 0, []) := rs_of (by decide +kernel) (by decide +kernel)
theorem DX4_build_26 : rs MX4_build 26 = some (.bipush 16, 2, 0, 0, 16, []) := rs_of (by decide +kernel) (by decide +kernel)
theorem DX4_build_28 : rs MX4_build 28 = some (.iload 4, 2, 0, 0, 0, []) := rs_of (by decide +kernel) (by decide +kernel)
theorem DX4_build_30 : rs MX4_build 30 = some (.isub, 1, 0, 0, 0, []) := rs_of (by decide +kernel) (by decide +kernel)
theorem DX4_build_31 : rs MX4_build 31 = some (.invokestatic 42, 3, 0, 0, 0, []) := rs_of (by decide +kernel) (by decide +kernel)
theorem DX4_build_34 : rs MX4_build 34 = some (.iload 5, 2, 0, 0, 0, []) := rs_of (by decide +kernel) (by decide +kernel)
theorem DX4_build_36 : rs MX4_build 36 = some (.iconst 1, 1, 0, 0, 1, []) := rs_of (by decide +kernel) (by decide +kernel)
theorem DX4_build_37 : rs MX4_build 37 = some (.bipush 9, 2, 0, 0, 9, []) := rs_of (by decide +kernel) (by decide +kernel)
theorem DX4_build_39 : rs MX4_build 39 = some (.invokestatic 42, 3, 0, 0, 0, []) := rs_of (by decide +kernel) (by decide +kernel)
theorem DX4_build_42 : rs MX4_build 42 = some (.iload 6, 2, 0, 0, 0, []) := rs_of (by decide +kernel) (by decide +kernel)
theorem DX4_build_44 : rs MX4_build 44 = some (.iconst 0, 1, 0, 0, 0, []) := rs_of (by decide +kernel) (by decide +kernel)
theorem DX4_build_45 : rs MX4_build 45 = some (.bipush 7, 2, 0, 0, 7, []) := rs_of (by decide +kernel) (by decide +kernel)
theorem DX4_build_47 : rs MX4_build 47 = some (.invokestatic 42, 3, 0, 0, 0, []) := rs_of (by decide +kernel) (by decide +kernel)
theorem DX4_build_50 : rs MX4_build 50 = some (.aload_n 0, 1, 0, 0, 0, []) := rs_of (by decide +kernel) (by decide +kernel)
theorem DX4_build_51 : rs MX4_build 51 = some (.getfield 12, 3, 5, 0, 0, []) := rs_of (by decide +kernel) (by decide +kernel)
theorem DX4_build_54 : rs MX4_build 54 = some (.getfield 46, 3, 4, 0, 0, []) := rs_of (by decide +kernel) (by decide +kernel)
theorem DX4_build_57 : rs MX4_build 57 = some (.invokevirtual 49, 3, 0, 0, 0, []) := rs_of (by decide +kernel) (by decide +kernel)
theorem DX4_build_60 : rs MX4_build 60 = some (.istore 7, 2, 0, 0, 0, []) := rs_of (by decide +kernel) (by decide +kernel)
theorem DX4_build_62 : rs MX4_build 62 = some (.new 53, 3, 1, 0, 0, []) := rs_of (by decide +kernel) (by decide +kernel)
theorem DX4_build_65 : rs MX4_build 65 = some (.dup, 1, 0, 0, 0, []) := rs_of (by decide +kernel) (by decide +kernel)
theorem DX4_build_66 : rs MX4_build 66 = some (.iload 7, 2, 0, 0, 0, []) := rs_of (by decide +kernel) (by decide +kernel)
theorem DX4_build_68 : rs MX4_build 68 = some (.iload_n 1, 1, 1, 0, 0, []) := rs_of (by decide +kernel) (by decide +kernel)
theorem DX4_build_69 : rs MX4_build 69 = some (.iload_n 2, 1, 2, 0, 0, []) := rs_of (by decide +kernel) (by decide +kernel)
theorem DX4_build_70 : rs MX4_build 70 = some (.iload_n 3, 1, 3, 0, 0, []) := rs_of (by decide +kernel) (by decide +kernel)
theorem DX4_build_71 : rs MX4_build 71 = some (.iload 4, 2, 0, 0, 0, []) := rs_of (by decide +kernel) (by decide +kernel)
theorem DX4_build_73 : rs MX4_build 73 = some (.iload 5, 2, 0, 0, 0, []) := rs_of (by decide +kernel) (by decide +kernel)
theorem DX4_build_75 : rs MX4_build 75 = some (.iload 6, 2, 0, 0, 0, []) := rs_of (by decide +kernel) (by decide +kernel)
theorem DX4_build_77 : rs MX4_build 77 = some (.invokespecial 55, 3, 0, 0, 0, []) := rs_of (by decide +kernel) (by decide +kernel)
theorem DX4_build_80 : rs MX4_build 80 = some (.astore 8, 2, 0, 0, 0, []) := rs_of (by decide +kernel) (by decide +kernel)
theorem DX4_build_82 : rs MX4_build 82 = some (.iload 7, 2, 0, 0, 0, []) := rs_of (by decide +kernel) (by decide +kernel)
theorem DX4_build_84 : rs MX4_build 84 = some (.bipush 12, 2, 0, 0, 12, []) := rs_of (by decide +kernel) (by decide +kernel)
theorem DX4_build_86 : rs MX4_build 86 = some (.if_icmp .ge 15, 3, 101, 0, 0, []) := rs_of (by decide +kernel) (by decide +kernel)
theorem DX4_build_89 : rs MX4_build 89 = some (.aload_n 0, 1, 0, 0, 0, []) := rs_of (by decide +kernel) (by decide +kernel)
theorem DX4_build_90 : rs MX4_build 90 = some (.getfield 12, 3, 5, 0, 0, []) := rs_of (by decide +kernel) (by decide +kernel)
theorem DX4_build_93 : rs MX4_build 93 = some (.aload 8, 2, 0, 0, 0, []) := rs_of (by decide +kernel) (by decide +kernel)
theorem DX4_build_95 : rs MX4_build 95 = some (.invokevirtual 58, 3, 0, 0, 0, []) := rs_of (by decide +kernel) (by decide +kernel)
theorem DX4_build_98 : rs MX4_build 98 = some (.ifCond .ne 13, 3, 111, 0, 0, []) := rs_of (by decide +kernel) (by decide +kernel)
theorem DX4_build_101 : rs MX4_build 101 = some (.new 62, 3, 50, 0, 0, []) := rs_of (by decide +kernel) (by decide +kernel)
theorem DX4_build_104 : rs MX4_build 104 = some (.dup, 1, 0, 0, 0, []) := rs_of (by decide +kernel) (by decide +kernel)
theorem DX4_build_105 : rs MX4_build 105 = some (.ldc 64, 2, 99, 0, 0, []) := rs_of (by decide +kernel) (by decide +kernel)
theorem DX4_build_107 : rs MX4_build 107 = some (.invokespecial 66, 3, 0, 0, 0, []) := rs_of (by decide +kernel) (by decide +kernel)
theorem DX4_build_110 : rs MX4_build 110 = some (.athrow, 1, 0, 0, 0, []) := rs_of (by decide +kernel) (by decide +kernel)
theorem DX4_build_111 : rs MX4_build 111 = some (.aload_n 0, 1, 0, 0, 0, []) := rs_of (by decide +kernel) (by decide +kernel)
theorem DX4_build_112 : rs MX4_build 112 = some (.getfield 12, 3, 5, 0, 0, []) := rs_of (by decide +kernel) (by decide +kernel)
theorem DX4_build_115 : rs MX4_build 115 = some (.getfield 46, 3, 4, 0, 0, []) := rs_of (by decide +kernel) (by decide +kernel)
theorem DX4_build_118 : rs MX4_build 118 = some (.aload 8, 2, 0, 0, 0, []) := rs_of (by decide +kernel) (by decide +kernel)
theorem DX4_build_120 : rs MX4_build 120 = some (.invokevirtual 38, 3, 0, 0, 0, []) := rs_of (by decide +kernel) (by decide +kernel)
theorem DX4_build_123 : rs MX4_build 123 = some (.pop, 1, 0, 0, 0, []) := rs_of (by decide +kernel) (by decide +kernel)
theorem DX4_build_124 : rs MX4_build 124 = some (.aload_n 0, 1, 0, 0, 0, []) := rs_of (by decide +kernel) (by decide +kernel)
theorem DX4_build_125 : rs MX4_build 125 = some (.getfield 12, 3, 5, 0, 0, []) := rs_of (by decide +kernel) (by decide +kernel)
theorem DX4_build_128 : rs MX4_build 128 = some (.aload 8, 2, 0, 0, 0, []) := rs_of (by decide +kernel) (by decide +kernel)
theorem DX4_build_130 : rs MX4_build 130 = some (.iconst 1, 1, 0, 0, 1, []) := rs_of (by decide +kernel) (by decide +kernel)
theorem DX4_build_131 : rs MX4_build 131 = some (.invokevirtual 69, 3, 0, 0, 0, []) := rs_of (by decide +kernel) (by decide +kernel)
theorem DX4_build_134 : rs MX4_build 134 = some (.aload_n 0, 1, 0, 0, 0, []) := rs_of (by decide +kernel) (by decide +kernel)
theorem DX4_build_135 : rs MX4_build 135 = some (.invokevirtual 73, 3, 0, 0, 0, []) := rs_of (by decide +kernel) (by decide +kernel)
theorem DX4_build_138 : rs MX4_build 138 = some (.iload 7, 2, 0, 0, 0, []) := rs_of (by decide +kernel) (by decide +kernel)
theorem DX4_build_140 : rs MX4_build 140 = some (.ireturn, 1, 0, 0, 0, []) := rs_of (by decide +kernel) (by decide +kernel)
theorem DX4_raise_0 : rs MX4_raise 0 = some (.aload_n 0, 1, 0, 0, 0, []) := rs_of (by decide +kernel) (by decide +kernel)
theorem DX4_raise_1 : rs MX4_raise 1 = some (.iload_n 1, 1, 1, 0, 0, []) := rs_of (by decide +kernel) (by decide +kernel)
theorem DX4_raise_2 : rs MX4_raise 2 = some (.invokevirtual 76, 3, 0, 0, 0, []) := rs_of (by decide +kernel) (by decide +kernel)
theorem DX4_raise_5 : rs MX4_raise 5 = some (.astore_n 3, 1, 3, 0, 0, []) := rs_of (by decide +kernel) (by decide +kernel)
theorem DX4_raise_6 : rs MX4_raise 6 = some (.iload_n 2, 1, 2, 0, 0, []) := rs_of (by decide +kernel) (by decide +kernel)
theorem DX4_raise_7 : rs MX4_raise 7 = some (.iconst 1, 1, 0, 0, 1, []) := rs_of (by decide +kernel) (by decide +kernel)
theorem DX4_raise_8 : rs MX4_raise 8 = some (.bipush 9, 2, 0, 0, 9, []) := rs_of (by decide +kernel) (by decide +kernel)
theorem DX4_raise_10 : rs MX4_raise 10 = some (.invokestatic 42, 3, 0, 0, 0, []) := rs_of (by decide +kernel) (by decide +kernel)
theorem DX4_raise_13 : rs MX4_raise 13 = some (.aload_n 3, 1, 3, 0, 0, []) := rs_of (by decide +kernel) (by decide +kernel)
theorem DX4_raise_14 : rs MX4_raise 14 = some (.getfield 99, 3, 1, 6, 0, []) := rs_of (by decide +kernel) (by decide +kernel)
theorem DX4_raise_17 : rs MX4_raise 17 = some (.istore 4, 2, 0, 0, 0, []) := rs_of (by decide +kernel) (by decide +kernel)
theorem DX4_raise_19 : rs MX4_raise 19 = some (.aload_n 0, 1, 0, 0, 0, []) := rs_of (by decide +kernel) (by decide +kernel)
theorem DX4_raise_20 : rs MX4_raise 20 = some (.aload_n 3, 1, 3, 0, 0, []) := rs_of (by decide +kernel) (by decide +kernel)
theorem DX4_raise_21 : rs MX4_raise 21 = some (.iload_n 2, 1, 2, 0, 0, []) := rs_of (by decide +kernel) (by decide +kernel)
theorem DX4_raise_22 : rs MX4_raise 22 = some (.invokevirtual 102, 3, 0, 0, 0, []) := rs_of (by decide +kernel) (by decide +kernel)
theorem DX4_raise_25 : rs MX4_raise 25 = some (.iload 4, 2, 0, 0, 0, []) := rs_of (by decide +kernel) (by decide +kernel)
theorem DX4_raise_27 : rs MX4_raise 27 = some (.ireturn, 1, 0, 0, 0, []) := rs_of (by decide +kernel) (by decide +kernel)
theorem DX4_setSun_0 : rs MX4_setSun 0 = some (.aload_n 0, 1, 0, 0, 0, []) := rs_of (by decide +kernel) (by decide +kernel)
theorem DX4_setSun_1 : rs MX4_setSun 1 = some (.iload_n 1, 1, 1, 0, 0, []) := rs_of (by decide +kernel) (by decide +kernel)
theorem DX4_setSun_2 : rs MX4_setSun 2 = some (.invokevirtual 106, 3, 0, 0, 0, []) := rs_of (by decide +kernel) (by decide +kernel)
theorem DX4_setSun_5 : rs MX4_setSun 5 = some (.astore 5, 2, 0, 0, 0, []) := rs_of (by decide +kernel) (by decide +kernel)
theorem DX4_setSun_7 : rs MX4_setSun 7 = some (.iload_n 2, 1, 2, 0, 0, []) := rs_of (by decide +kernel) (by decide +kernel)
theorem DX4_setSun_8 : rs MX4_setSun 8 = some (.iconst (-1), 1, 0, 0, (-1), []) := rs_of (by decide +kernel) (by decide +kernel)
theorem DX4_setSun_9 : rs MX4_setSun 9 = some (.iconst 1, 1, 0, 0, 1, []) := rs_of (by decide +kernel) (by decide +kernel)
theorem DX4_setSun_10 : rs MX4_setSun 10 = some (.invokestatic 42, 3, 0, 0, 0, []) := rs_of (by decide +kernel) (by decide +kernel)
theorem DX4_setSun_13 : rs MX4_setSun 13 = some (.iload_n 3, 1, 3, 0, 0, []) := rs_of (by decide +kernel) (by decide +kernel)
theorem DX4_setSun_14 : rs MX4_setSun 14 = some (.iconst (-1), 1, 0, 0, (-1), []) := rs_of (by decide +kernel) (by decide +kernel)
theorem DX4_setSun_15 : rs MX4_setSun 15 = some (.iconst 1, 1, 0, 0, 1, []) := rs_of (by decide +kernel) (by decide +kernel)
theorem DX4_setSun_16 : rs MX4_setSun 16 = some (.invokestatic 42, 3, 0, 0, 0, []) := rs_of (by decide +kernel) (by decide +kernel)
theorem DX4_setSun_19 : rs MX4_setSun 19 = some (.iload 4, 2, 0, 0, 0, []) := rs_of (by decide +kernel) (by decide +kernel)
theorem DX4_setSun_21 : rs MX4_setSun 21 = some (.iconst 0, 1, 0, 0, 0, []) := rs_of (by decide +kernel) (by decide +kernel)
theorem DX4_setSun_22 : rs MX4_setSun 22 = some (.bipush 6, 2, 0, 0, 6, []) := rs_of (by decide +kernel) (by decide +kernel)
theorem DX4_setSun_24 : rs MX4_setSun 24 = some (.invokestatic 42, 3, 0, 0, 0, []) := rs_of (by decide +kernel) (by decide +kernel)
theorem DX4_setSun_27 : rs MX4_setSun 27 = some (.iload_n 2, 1, 2, 0, 0, []) := rs_of (by decide +kernel) (by decide +kernel)
theorem DX4_setSun_28 : rs MX4_setSun 28 = some (.ifCond .ne 17, 3, 45, 0, 0, []) := rs_of (by decide +kernel) (by decide +kernel)
theorem DX4_setSun_31 : rs MX4_setSun 31 = some (.iload_n 3, 1, 3, 0, 0, []) := rs_of (by decide +kernel) (by decide +kernel)
theorem DX4_setSun_32 : rs MX4_setSun 32 = some (.ifCond .ne 13, 3, 45, 0, 0, []) := rs_of (by decide +kernel) (by decide +kernel)
theorem DX4_setSun_35 : rs MX4_setSun 35 = some (.new 110, 3, 51, 0, 0, []) := rs_of (by decide +kernel) (by decide +kernel)
theorem DX4_setSun_38 : rs MX4_setSun 38 = some (.dup, 1, 0, 0, 0, []) := rs_of (by decide +kernel) (by decide +kernel)
theorem DX4_setSun_39 : rs MX4_setSun 39 = some (.ldc 112, 2, 99, 0, 0, []) := rs_of (by decide +kernel) (by decide +kernel)
theorem DX4_setSun_41 : rs MX4_setSun 41 = some (.invokespecial 114, 3, 0, 0, 0, []) := rs_of (by decide +kernel) (by decide +kernel)
theorem DX4_setSun_44 : rs MX4_setSun 44 = some (.athrow, 1, 0, 0, 0, []) := rs_of (by decide +kernel) (by decide +kernel)
theorem DX4_setSun_45 : rs MX4_setSun 45 = some (.aload 5, 2, 0, 0, 0, []) := rs_of (by decide +kernel) (by decide +kernel)
theorem DX4_setSun_47 : rs MX4_setSun 47 = some (.getfield 115, 3, 2, 3, 0, []) := rs_of (by decide +kernel) (by decide +kernel)
theorem DX4_setSun_50 : rs MX4_setSun 50 = some (.istore 6, 2, 0, 0, 0, []) := rs_of (by decide +kernel) (by decide +kernel)
theorem DX4_setSun_52 : rs MX4_setSun 52 = some (.aload 5, 2, 0, 0, 0, []) := rs_of (by decide +kernel) (by decide +kernel)
theorem DX4_setSun_54 : rs MX4_setSun 54 = some (.iload_n 2, 1, 2, 0, 0, []) := rs_of (by decide +kernel) (by decide +kernel)
theorem DX4_setSun_55 : rs MX4_setSun 55 = some (.putfield 118, 3, 2, 1, 0, []) := rs_of (by decide +kernel) (by decide +kernel)
theorem DX4_setSun_58 : rs MX4_setSun 58 = some (.aload 5, 2, 0, 0, 0, []) := rs_of (by decide +kernel) (by decide +kernel)
theorem DX4_setSun_60 : rs MX4_setSun 60 = some (.iload_n 3, 1, 3, 0, 0, []) := rs_of (by decide +kernel) (by decide +kernel)
theorem DX4_setSun_61 : rs MX4_setSun 61 = some (.putfield 121, 3, 2, 2, 0, []) := rs_of (by decide +kernel) (by decide +kernel)
theorem DX4_setSun_64 : rs MX4_setSun 64 = some (.aload 5, 2, 0, 0, 0, []) := rs_of (by decide +kernel) (by decide +kernel)
theorem DX4_setSun_66 : rs MX4_setSun 66 = some (.iload 4, 2, 0, 0, 0, []) := rs_of (by decide +kernel) (by decide +kernel)
theorem DX4_setSun_68 : rs MX4_setSun 68 = some (.putfield 115, 3, 2, 3, 0, []) := rs_of (by decide +kernel) (by decide +kernel)
theorem DX4_setSun_71 : rs MX4_setSun 71 = some (.aload 5, 2, 0, 0, 0, []) := rs_of (by decide +kernel) (by decide +kernel)
theorem DX4_setSun_73 : rs MX4_setSun 73 = some (.invokevirtual 124, 3, 0, 0, 0, []) := rs_of (by decide +kernel) (by decide +kernel)
theorem DX4_setSun_76 : rs MX4_setSun 76 = some (.iload 6, 2, 0, 0, 0, []) := rs_of (by decide +kernel) (by decide +kernel)
theorem DX4_setSun_78 : rs MX4_setSun 78 = some (.ireturn, 1, 0, 0, 0, []) := rs_of (by decide +kernel) (by decide +kernel)
theorem DX4_shade_0 : rs MX4_shade 0 = some (.iload_n 2, 1, 2, 0, 0, []) := rs_of (by decide +kernel) (by decide +kernel)
theorem DX4_shade_1 : rs MX4_shade 1 = some (.bipush 16, 2, 0, 0, 16, []) := rs_of (by decide +kernel) (by decide +kernel)
theorem DX4_shade_3 : rs MX4_shade 3 = some (.invokestatic 130, 3, 0, 0, 0, []) := rs_of (by decide +kernel) (by decide +kernel)
theorem DX4_shade_6 : rs MX4_shade 6 = some (.iload_n 3, 1, 3, 0, 0, []) := rs_of (by decide +kernel) (by decide +kernel)
theorem DX4_shade_7 : rs MX4_shade 7 = some (.bipush 16, 2, 0, 0, 16, []) := rs_of (by decide +kernel) (by decide +kernel)
theorem DX4_shade_9 : rs MX4_shade 9 = some (.invokestatic 130, 3, 0, 0, 0, []) := rs_of (by decide +kernel) (by decide +kernel)
theorem DX4_shade_12 : rs MX4_shade 12 = some (.aload_n 0, 1, 0, 0, 0, []) := rs_of (by decide +kernel) (by decide +kernel)
theorem DX4_shade_13 : rs MX4_shade 13 = some (.iload_n 1, 1, 1, 0, 0, []) := rs_of (by decide +kernel) (by decide +kernel)
theorem DX4_shade_14 : rs MX4_shade 14 = some (.invokevirtual 149, 3, 0, 0, 0, []) := rs_of (by decide +kernel) (by decide +kernel)
theorem DX4_shade_17 : rs MX4_shade 17 = some (.getfield 152, 3, 2, 5, 0, []) := rs_of (by decide +kernel) (by decide +kernel)
theorem DX4_shade_20 : rs MX4_shade 20 = some (.iload_n 2, 1, 2, 0, 0, []) := rs_of (by decide +kernel) (by decide +kernel)
theorem DX4_shade_21 : rs MX4_shade 21 = some (.bipush 16, 2, 0, 0, 16, []) := rs_of (by decide +kernel) (by decide +kernel)
theorem DX4_shade_23 : rs MX4_shade 23 = some (.iload_n 3, 1, 3, 0, 0, []) := rs_of (by decide +kernel) (by decide +kernel)
theorem DX4_shade_24 : rs MX4_shade 24 = some (.imul, 1, 0, 0, 0, []) := rs_of (by decide +kernel) (by decide +kernel)
theorem DX4_shade_25 : rs MX4_shade 25 = some (.iadd, 1, 0, 0, 0, []) := rs_of (by decide +kernel) (by decide +kernel)
theorem DX4_shade_26 : rs MX4_shade 26 = some (.iaload, 1, 0, 0, 0, []) := rs_of (by decide +kernel) (by decide +kernel)
theorem DX4_shade_27 : rs MX4_shade 27 = some (.ireturn, 1, 0, 0, 0, []) := rs_of (by decide +kernel) (by decide +kernel)
theorem DX4_shades_0 : rs MX4_shades 0 = some (.iload_n 2, 1, 2, 0, 0, []) := rs_of (by decide +kernel) (by decide +kernel)
theorem DX4_shades_1 : rs MX4_shades 1 = some (.bipush 16, 2, 0, 0, 16, []) := rs_of (by decide +kernel) (by decide +kernel)
theorem DX4_shades_3 : rs MX4_shades 3 = some (.invokestatic 130, 3, 0, 0, 0, []) := rs_of (by decide +kernel) (by decide +kernel)
theorem DX4_shades_6 : rs MX4_shades 6 = some (.iload_n 3, 1, 3, 0, 0, []) := rs_of (by decide +kernel) (by decide +kernel)
theorem DX4_shades_7 : rs MX4_shades 7 = some (.bipush 16, 2, 0, 0, 16, []) := rs_of (by decide +kernel) (by decide +kernel)
theorem DX4_shades_9 : rs MX4_shades 9 = some (.invokestatic 130, 3, 0, 0, 0, []) := rs_of (by decide +kernel) (by decide +kernel)
theorem DX4_shades_12 : rs MX4_shades 12 = some (.aload_n 0, 1, 0, 0, 0, []) := rs_of (by decide +kernel) (by decide +kernel)
theorem DX4_shades_13 : rs MX4_shades 13 = some (.iload_n 1, 1, 1, 0, 0, []) := rs_of (by decide +kernel) (by decide +kernel)
theorem DX4_shades_14 : rs MX4_shades 14 = some (.invokevirtual 149, 3, 0, 0, 0, []) := rs_of (by decide +kernel) (by decide +kernel)
theorem DX4_shades_17 : rs MX4_shades 17 = some (.getfield 155, 3, 2, 6, 0, []) := rs_of (by decide +kernel) (by decide +kernel)
theorem DX4_shades_20 : rs MX4_shades 20 = some (.iload_n 2, 1, 2, 0, 0, []) := rs_of (by decide +kernel) (by decide +kernel)
theorem DX4_shades_21 : rs MX4_shades 21 = some (.bipush 16, 2, 0, 0, 16, []) := rs_of (by decide +kernel) (by decide +kernel)
theorem DX4_shades_23 : rs MX4_shades 23 = some (.iload_n 3, 1, 3, 0, 0, []) := rs_of (by decide +kernel) (by decide +kernel)
theorem DX4_shades_24 : rs MX4_shades 24 = some (.imul, 1, 0, 0, 0, []) := rs_of (by decide +kernel) (by decide +kernel)
theorem DX4_shades_25 : rs MX4_shades 25 = some (.iadd, 1, 0, 0, 0, []) := rs_of (by decide +kernel) (by decide +kernel)
theorem DX4_shades_26 : rs MX4_shades 26 = some (.iaload, 1, 0, 0, 0, []) := rs_of (by decide +kernel) (by decide +kernel)
theorem DX4_shades_27 : rs MX4_shades 27 = some (.ireturn, 1, 0, 0, 0, []) := rs_of (by decide +kernel) (by decide +kernel)
theorem DX4_area_0 : rs MX4_area 0 = some (.aload_n 0, 1, 0, 0, 0, []) := rs_of (by decide +kernel) (by decide +kernel)
theorem DX4_area_1 : rs MX4_area 1 = some (.iload_n 1, 1, 1, 0, 0, []) := rs_of (by decide +kernel) (by decide +kernel)
theorem DX4_area_2 : rs MX4_area 2 = some (.invokevirtual 127, 3, 0, 0, 0, []) := rs_of (by decide +kernel) (by decide +kernel)
theorem DX4_area_5 : rs MX4_area 5 = some (.pop, 1, 0, 0, 0, []) := rs_of (by decide +kernel) (by decide +kernel)
theorem DX4_area_6 : rs MX4_area 6 = some (.aload_n 0, 1, 0, 0, 0, []) := rs_of (by decide +kernel) (by decide +kernel)
theorem DX4_area_7 : rs MX4_area 7 = some (.iload_n 2, 1, 2, 0, 0, []) := rs_of (by decide +kernel) (by decide +kernel)
theorem DX4_area_8 : rs MX4_area 8 = some (.invokevirtual 149, 3, 0, 0, 0, []) := rs_of (by decide +kernel) (by decide +kernel)
theorem DX4_area_11 : rs MX4_area 11 = some (.iload_n 1, 1, 1, 0, 0, []) := rs_of (by decide +kernel) (by decide +kernel)
theorem DX4_area_12 : rs MX4_area 12 = some (.invokevirtual 158, 3, 0, 0, 0, []) := rs_of (by decide +kernel) (by decide +kernel)
theorem DX4_area_15 : rs MX4_area 15 = some (.ireturn, 1, 0, 0, 0, []) := rs_of (by decide +kernel) (by decide +kernel)
theorem DX4_inHour_0 : rs MX4_inHour 0 = some (.iload_n 2, 1, 2, 0, 0, []) := rs_of (by decide +kernel) (by decide +kernel)
theorem DX4_inHour_1 : rs MX4_inHour 1 = some (.iconst 4, 1, 0, 0, 4, []) := rs_of (by decide +kernel) (by decide +kernel)
theorem DX4_inHour_2 : rs MX4_inHour 2 = some (.invokestatic 130, 3, 0, 0, 0, []) := rs_of (by decide +kernel) (by decide +kernel)
theorem DX4_inHour_5 : rs MX4_inHour 5 = some (.aload_n 0, 1, 0, 0, 0, []) := rs_of (by decide +kernel) (by decide +kernel)
theorem DX4_inHour_6 : rs MX4_inHour 6 = some (.iload_n 1, 1, 1, 0, 0, []) := rs_of (by decide +kernel) (by decide +kernel)
theorem DX4_inHour_7 : rs MX4_inHour 7 = some (.invokevirtual 161, 3, 0, 0, 0, []) := rs_of (by decide +kernel) (by decide +kernel)
theorem DX4_inHour_10 : rs MX4_inHour 10 = some (.iload_n 2, 1, 2, 0, 0, []) := rs_of (by decide +kernel) (by decide +kernel)
theorem DX4_inHour_11 : rs MX4_inHour 11 = some (.invokevirtual 164, 3, 0, 0, 0, []) := rs_of (by decide +kernel) (by decide +kernel)
theorem DX4_inHour_14 : rs MX4_inHour 14 = some (.ireturn, 1, 0, 0, 0, []) := rs_of (by decide +kernel) (by decide +kernel)
theorem DX4_let_0 : rs MX4_let 0 = some (.aload_n 0, 1, 0, 0, 0, []) := rs_of (by decide +kernel) (by decide +kernel)
theorem DX4_let_1 : rs MX4_let 1 = some (.iload_n 1, 1, 1, 0, 0, []) := rs_of (by decide +kernel) (by decide +kernel)
theorem DX4_let_2 : rs MX4_let 2 = some (.invokevirtual 76, 3, 0, 0, 0, []) := rs_of (by decide +kernel) (by decide +kernel)
theorem DX4_let_5 : rs MX4_let 5 = some (.pop, 1, 0, 0, 0, []) := rs_of (by decide +kernel) (by decide +kernel)
theorem DX4_let_6 : rs MX4_let 6 = some (.iload_n 2, 1, 2, 0, 0, []) := rs_of (by decide +kernel) (by decide +kernel)
theorem DX4_let_7 : rs MX4_let 7 = some (.iconst 0, 1, 0, 0, 0, []) := rs_of (by decide +kernel) (by decide +kernel)
theorem DX4_let_8 : rs MX4_let 8 = some (.bipush 15, 2, 0, 0, 15, []) := rs_of (by decide +kernel) (by decide +kernel)
theorem DX4_let_10 : rs MX4_let 10 = some (.invokestatic 42, 3, 0, 0, 0, []) := rs_of (by decide +kernel) (by decide +kernel)
theorem DX4_let_13 : rs MX4_let 13 = some (.iload 4, 2, 0, 0, 0, []) := rs_of (by decide +kernel) (by decide +kernel)
theorem DX4_let_15 : rs MX4_let 15 = some (.iconst 0, 1, 0, 0, 0, []) := rs_of (by decide +kernel) (by decide +kernel)
theorem DX4_let_16 : rs MX4_let 16 = some (.bipush 11, 2, 0, 0, 11, []) := rs_of (by decide +kernel) (by decide +kernel)
theorem DX4_let_18 : rs MX4_let 18 = some (.invokestatic 42, 3, 0, 0, 0, []) := rs_of (by decide +kernel) (by decide +kernel)
theorem DX4_let_21 : rs MX4_let 21 = some (.iload_n 3, 1, 3, 0, 0, []) := rs_of (by decide +kernel) (by decide +kernel)
theorem DX4_let_22 : rs MX4_let 22 = some (.iconst 0, 1, 0, 0, 0, []) := rs_of (by decide +kernel) (by decide +kernel)
theorem DX4_let_23 : rs MX4_let 23 = some (.iload 4, 2, 0, 0, 0, []) := rs_of (by decide +kernel) (by decide +kernel)
theorem DX4_let_25 : rs MX4_let 25 = some (.invokestatic 42, 3, 0, 0, 0, []) := rs_of (by decide +kernel) (by decide +kernel)
theorem DX4_let_28 : rs MX4_let 28 = some (.iload 5, 2, 0, 0, 0, []) := rs_of (by decide +kernel) (by decide +kernel)
theorem DX4_let_30 : rs MX4_let 30 = some (.iconst 1, 1, 0, 0, 1, []) := rs_of (by decide +kernel) (by decide +kernel)
theorem DX4_let_31 : rs MX4_let 31 = some (.bipush 60, 2, 0, 0, 60, []) := rs_of (by decide +kernel) (by decide +kernel)
theorem DX4_let_33 : rs MX4_let 33 = some (.invokestatic 42, 3, 0, 0, 0, []) := rs_of (by decide +kernel) (by decide +kernel)
theorem DX4_let_36 : rs MX4_let 36 = some (.iload 6, 2, 0, 0, 0, []) := rs_of (by decide +kernel) (by decide +kernel)
theorem DX4_let_38 : rs MX4_let 38 = some (.iconst 1, 1, 0, 0, 1, []) := rs_of (by decide +kernel) (by decide +kernel)
theorem DX4_let_39 : rs MX4_let 39 = some (.bipush 99, 2, 0, 0, 99, []) := rs_of (by decide +kernel) (by decide +kernel)
theorem DX4_let_41 : rs MX4_let 41 = some (.invokestatic 42, 3, 0, 0, 0, []) := rs_of (by decide +kernel) (by decide +kernel)
theorem DX4_let_44 : rs MX4_let 44 = some (.aload_n 0, 1, 0, 0, 0, []) := rs_of (by decide +kernel) (by decide +kernel)
theorem DX4_let_45 : rs MX4_let 45 = some (.getfield 23, 3, 5, 2, 0, []) := rs_of (by decide +kernel) (by decide +kernel)
theorem DX4_let_48 : rs MX4_let 48 = some (.invokevirtual 49, 3, 0, 0, 0, []) := rs_of (by decide +kernel) (by decide +kernel)
theorem DX4_let_51 : rs MX4_let 51 = some (.istore 7, 2, 0, 0, 0, []) := rs_of (by decide +kernel) (by decide +kernel)
theorem DX4_let_53 : rs MX4_let 53 = some (.iload 7, 2, 0, 0, 0, []) := rs_of (by decide +kernel) (by decide +kernel)
theorem DX4_let_55 : rs MX4_let 55 = some (.bipush 40, 2, 0, 0, 40, []) := rs_of (by decide +kernel) (by decide +kernel)
theorem DX4_let_57 : rs MX4_let 57 = some (.if_icmp .lt 13, 3, 70, 0, 0, []) := rs_of (by decide +kernel) (by decide +kernel)
theorem DX4_let_60 : rs MX4_let 60 = some (.new 62, 3, 50, 0, 0, []) := rs_of (by decide +kernel) (by decide +kernel)
theorem DX4_let_63 : rs MX4_let 63 = some (.dup, 1, 0, 0, 0, []) := rs_of (by decide +kernel) (by decide +kernel)
theorem DX4_let_64 : rs MX4_let 64 = some (.ldc 167, 2, 99, 0, 0, []) := rs_of (by decide +kernel) (by decide +kernel)
theorem DX4_let_66 : rs MX4_let 66 = some (.invokespecial 66, 3, 0, 0, 0, []) := rs_of (by decide +kernel) (by decide +kernel)
theorem DX4_let_69 : rs MX4_let 69 = some (.athrow, 1, 0, 0, 0, []) := rs_of (by decide +kernel) (by decide +kernel)
theorem DX4_let_70 : rs MX4_let 70 = some (.aload_n 0, 1, 0, 0, 0, []) := rs_of (by decide +kernel) (by decide +kernel)
theorem DX4_let_71 : rs MX4_let 71 = some (.getfield 23, 3, 5, 2, 0, []) := rs_of (by decide +kernel) (by decide +kernel)
theorem DX4_let_74 : rs MX4_let 74 = some (.new 88, 3, 3, 0, 0, []) := rs_of (by decide +kernel) (by decide +kernel)
theorem DX4_let_77 : rs MX4_let 77 = some (.dup, 1, 0, 0, 0, []) := rs_of (by decide +kernel) (by decide +kernel)
theorem DX4_let_78 : rs MX4_let 78 = some (.iload 7, 2, 0, 0, 0, []) := rs_of (by decide +kernel) (by decide +kernel)
theorem DX4_let_80 : rs MX4_let 80 = some (.iload_n 1, 1, 1, 0, 0, []) := rs_of (by decide +kernel) (by decide +kernel)
theorem DX4_let_81 : rs MX4_let 81 = some (.iload_n 2, 1, 2, 0, 0, []) := rs_of (by decide +kernel) (by decide +kernel)
theorem DX4_let_82 : rs MX4_let 82 = some (.iload_n 3, 1, 3, 0, 0, []) := rs_of (by decide +kernel) (by decide +kernel)
theorem DX4_let_83 : rs MX4_let 83 = some (.iload 4, 2, 0, 0, 0, []) := rs_of (by decide +kernel) (by decide +kernel)
theorem DX4_let_85 : rs MX4_let 85 = some (.iload 5, 2, 0, 0, 0, []) := rs_of (by decide +kernel) (by decide +kernel)
theorem DX4_let_87 : rs MX4_let 87 = some (.iload 6, 2, 0, 0, 0, []) := rs_of (by decide +kernel) (by decide +kernel)
theorem DX4_let_89 : rs MX4_let 89 = some (.invokespecial 169, 3, 0, 0, 0, []) := rs_of (by decide +kernel) (by decide +kernel)
theorem DX4_let_92 : rs MX4_let 92 = some (.invokevirtual 38, 3, 0, 0, 0, []) := rs_of (by decide +kernel) (by decide +kernel)
theorem DX4_let_95 : rs MX4_let 95 = some (.pop, 1, 0, 0, 0, []) := rs_of (by decide +kernel) (by decide +kernel)
theorem DX4_let_96 : rs MX4_let 96 = some (.aload_n 0, 1, 0, 0, 0, []) := rs_of (by decide +kernel) (by decide +kernel)
theorem DX4_let_97 : rs MX4_let 97 = some (.invokevirtual 170, 3, 0, 0, 0, []) := rs_of (by decide +kernel) (by decide +kernel)
theorem DX4_let_100 : rs MX4_let 100 = some (.iload 7, 2, 0, 0, 0, []) := rs_of (by decide +kernel) (by decide +kernel)
theorem DX4_let_102 : rs MX4_let 102 = some (.ireturn, 1, 0, 0, 0, []) := rs_of (by decide +kernel) (by decide +kernel)
theorem DX4_lease_0 : rs MX4_lease 0 = some (.aload_n 0, 1, 0, 0, 0, []) := rs_of (by decide +kernel) (by decide +kernel)
theorem DX4_lease_1 : rs MX4_lease 1 = some (.iload_n 1, 1, 1, 0, 0, []) := rs_of (by decide +kernel) (by decide +kernel)
theorem DX4_lease_2 : rs MX4_lease 2 = some (.invokevirtual 183, 3, 0, 0, 0, []) := rs_of (by decide +kernel) (by decide +kernel)
theorem DX4_lease_5 : rs MX4_lease 5 = some (.astore_n 3, 1, 3, 0, 0, []) := rs_of (by decide +kernel) (by decide +kernel)
theorem DX4_lease_6 : rs MX4_lease 6 = some (.iload_n 2, 1, 2, 0, 0, []) := rs_of (by decide +kernel) (by decide +kernel)
theorem DX4_lease_7 : rs MX4_lease 7 = some (.bipush 10, 2, 0, 0, 10, []) := rs_of (by decide +kernel) (by decide +kernel)
theorem DX4_lease_9 : rs MX4_lease 9 = some (.invokestatic 130, 3, 0, 0, 0, []) := rs_of (by decide +kernel) (by decide +kernel)
theorem DX4_lease_12 : rs MX4_lease 12 = some (.iload_n 2, 1, 2, 0, 0, []) := rs_of (by decide +kernel) (by decide +kernel)
theorem DX4_lease_13 : rs MX4_lease 13 = some (.tableswitch 104 0 8 #[51, 56, 61, 66, 71, 76, 81, 94, 99], 51, 117, 0, 0, [64, 69, 74, 79, 84, 89, 94, 107, 112]) := rs_of (by decide +kernel) (by decide +kernel)
theorem DX4_lease_64 : rs MX4_lease 64 = some (.aload_n 3, 1, 3, 0, 0, []) := rs_of (by decide +kernel) (by decide +kernel)
theorem DX4_lease_65 : rs MX4_lease 65 = some (.getfield 90, 3, 3, 1, 0, []) := rs_of (by decide +kernel) (by decide +kernel)
theorem DX4_lease_68 : rs MX4_lease 68 = some (.ireturn, 1, 0, 0, 0, []) := rs_of (by decide +kernel) (by decide +kernel)
theorem DX4_lease_69 : rs MX4_lease 69 = some (.aload_n 3, 1, 3, 0, 0, []) := rs_of (by decide +kernel) (by decide +kernel)
theorem DX4_lease_70 : rs MX4_lease 70 = some (.getfield 186, 3, 3, 2, 0, []) := rs_of (by decide +kernel) (by decide +kernel)
theorem DX4_lease_73 : rs MX4_lease 73 = some (.ireturn, 1, 0, 0, 0, []) := rs_of (by decide +kernel) (by decide +kernel)
theorem DX4_lease_74 : rs MX4_lease 74 = some (.aload_n 3, 1, 3, 0, 0, []) := rs_of (by decide +kernel) (by decide +kernel)
theorem DX4_lease_75 : rs MX4_lease 75 = some (.getfield 189, 3, 3, 3, 0, []) := rs_of (by decide +kernel) (by decide +kernel)
theorem DX4_lease_78 : rs MX4_lease 78 = some (.ireturn, 1, 0, 0, 0, []) := rs_of (by decide +kernel) (by decide +kernel)
theorem DX4_lease_79 : rs MX4_lease 79 = some (.aload_n 3, 1, 3, 0, 0, []) := rs_of (by decide +kernel) (by decide +kernel)
theorem DX4_lease_80 : rs MX4_lease 80 = some (.getfield 192, 3, 3, 4, 0, []) := rs_of (by decide +kernel) (by decide +kernel)
theorem DX4_lease_83 : rs MX4_lease 83 = some (.ireturn, 1, 0, 0, 0, []) := rs_of (by decide +kernel) (by decide +kernel)
theorem DX4_lease_84 : rs MX4_lease 84 = some (.aload_n 3, 1, 3, 0, 0, []) := rs_of (by decide +kernel) (by decide +kernel)
theorem DX4_lease_85 : rs MX4_lease 85 = some (.getfield 195, 3, 3, 5, 0, []) := rs_of (by decide +kernel) (by decide +kernel)
theorem DX4_lease_88 : rs MX4_lease 88 = some (.ireturn, 1, 0, 0, 0, []) := rs_of (by decide +kernel) (by decide +kernel)
theorem DX4_lease_89 : rs MX4_lease 89 = some (.aload_n 3, 1, 3, 0, 0, []) := rs_of (by decide +kernel) (by decide +kernel)
theorem DX4_lease_90 : rs MX4_lease 90 = some (.getfield 180, 3, 3, 6, 0, []) := rs_of (by decide +kernel) (by decide +kernel)
theorem DX4_lease_93 : rs MX4_lease 93 = some (.ireturn, 1, 0, 0, 0, []) := rs_of (by decide +kernel) (by decide +kernel)
theorem DX4_lease_94 : rs MX4_lease 94 = some (.aload_n 3, 1, 3, 0, 0, []) := rs_of (by decide +kernel) (by decide +kernel)
theorem DX4_lease_95 : rs MX4_lease 95 = some (.getfield 94, 3, 3, 7, 0, []) := rs_of (by decide +kernel) (by decide +kernel)
theorem DX4_lease_98 : rs MX4_lease 98 = some (.ifCond .eq 7, 3, 105, 0, 0, []) := rs_of (by decide +kernel) (by decide +kernel)
theorem DX4_lease_101 : rs MX4_lease 101 = some (.iconst 1, 1, 0, 0, 1, []) := rs_of (by decide +kernel) (by decide +kernel)
theorem DX4_lease_102 : rs MX4_lease 102 = some (.goto 4, 3, 106, 0, 0, []) := rs_of (by decide +kernel) (by decide +kernel)
theorem DX4_lease_105 : rs MX4_lease 105 = some (.iconst 0, 1, 0, 0, 0, []) := rs_of (by decide +kernel) (by decide +kernel)
theorem DX4_lease_106 : rs MX4_lease 106 = some (.ireturn, 1, 0, 0, 0, []) := rs_of (by decide +kernel) (by decide +kernel)
theorem DX4_lease_107 : rs MX4_lease 107 = some (.aload_n 3, 1, 3, 0, 0, []) := rs_of (by decide +kernel) (by decide +kernel)
theorem DX4_lease_108 : rs MX4_lease 108 = some (.getfield 177, 3, 3, 8, 0, []) := rs_of (by decide +kernel) (by decide +kernel)
theorem DX4_lease_111 : rs MX4_lease 111 = some (.ireturn, 1, 0, 0, 0, []) := rs_of (by decide +kernel) (by decide +kernel)
theorem DX4_lease_112 : rs MX4_lease 112 = some (.aload_n 3, 1, 3, 0, 0, []) := rs_of (by decide +kernel) (by decide +kernel)
theorem DX4_lease_113 : rs MX4_lease 113 = some (.getfield 198, 3, 3, 9, 0, []) := rs_of (by decide +kernel) (by decide +kernel)
theorem DX4_lease_116 : rs MX4_lease 116 = some (.ireturn, 1, 0, 0, 0, []) := rs_of (by decide +kernel) (by decide +kernel)
theorem DX4_lease_117 : rs MX4_lease 117 = some (.aload_n 0, 1, 0, 0, 0, []) := rs_of (by decide +kernel) (by decide +kernel)
theorem DX4_lease_118 : rs MX4_lease 118 = some (.aload_n 3, 1, 3, 0, 0, []) := rs_of (by decide +kernel) (by decide +kernel)
theorem DX4_lease_119 : rs MX4_lease 119 = some (.invokevirtual 201, 3, 0, 0, 0, []) := rs_of (by decide +kernel) (by decide +kernel)
theorem DX4_lease_122 : rs MX4_lease 122 = some (.ireturn, 1, 0, 0, 0, []) := rs_of (by decide +kernel) (by decide +kernel)
theorem DX4_gets_0 : rs MX4_gets 0 = some (.aload_n 0, 1, 0, 0, 0, []) := rs_of (by decide +kernel) (by decide +kernel)
theorem DX4_gets_1 : rs MX4_gets 1 = some (.iload_n 1, 1, 1, 0, 0, []) := rs_of (by decide +kernel) (by decide +kernel)
theorem DX4_gets_2 : rs MX4_gets 2 = some (.invokevirtual 183, 3, 0, 0, 0, []) := rs_of (by decide +kernel) (by decide +kernel)
theorem DX4_gets_5 : rs MX4_gets 5 = some (.pop, 1, 0, 0, 0, []) := rs_of (by decide +kernel) (by decide +kernel)
theorem DX4_gets_6 : rs MX4_gets 6 = some (.aload_n 0, 1, 0, 0, 0, []) := rs_of (by decide +kernel) (by decide +kernel)
theorem DX4_gets_7 : rs MX4_gets 7 = some (.iload_n 2, 1, 2, 0, 0, []) := rs_of (by decide +kernel) (by decide +kernel)
theorem DX4_gets_8 : rs MX4_gets 8 = some (.invokevirtual 161, 3, 0, 0, 0, []) := rs_of (by decide +kernel) (by decide +kernel)
theorem DX4_gets_11 : rs MX4_gets 11 = some (.iload_n 1, 1, 1, 0, 0, []) := rs_of (by decide +kernel) (by decide +kernel)
theorem DX4_gets_12 : rs MX4_gets 12 = some (.invokevirtual 205, 3, 0, 0, 0, []) := rs_of (by decide +kernel) (by decide +kernel)
theorem DX4_gets_15 : rs MX4_gets 15 = some (.ireturn, 1, 0, 0, 0, []) := rs_of (by decide +kernel) (by decide +kernel)
theorem DX4_pass_0 : rs MX4_pass 0 = some (.iload_n 1, 1, 1, 0, 0, []) := rs_of (by decide +kernel) (by decide +kernel)
theorem DX4_pass_1 : rs MX4_pass 1 = some (.iconst 1, 1, 0, 0, 1, []) := rs_of (by decide +kernel) (by decide +kernel)
theorem DX4_pass_2 : rs MX4_pass 2 = some (.bipush 30, 2, 0, 0, 30, []) := rs_of (by decide +kernel) (by decide +kernel)
theorem DX4_pass_4 : rs MX4_pass 4 = some (.invokestatic 42, 3, 0, 0, 0, []) := rs_of (by decide +kernel) (by decide +kernel)
theorem DX4_pass_7 : rs MX4_pass 7 = some (.aload_n 0, 1, 0, 0, 0, []) := rs_of (by decide +kernel) (by decide +kernel)
theorem DX4_pass_8 : rs MX4_pass 8 = some (.getfield 221, 3, 5, 5, 0, []) := rs_of (by decide +kernel) (by decide +kernel)
theorem DX4_pass_11 : rs MX4_pass 11 = some (.iload_n 1, 1, 1, 0, 0, []) := rs_of (by decide +kernel) (by decide +kernel)
theorem DX4_pass_12 : rs MX4_pass 12 = some (.iadd, 1, 0, 0, 0, []) := rs_of (by decide +kernel) (by decide +kernel)
theorem DX4_pass_13 : rs MX4_pass 13 = some (.sipush 1000, 3, 0, 0, 1000, []) := rs_of (by decide +kernel) (by decide +kernel)
theorem DX4_pass_16 : rs MX4_pass 16 = some (.if_icmp .le 13, 3, 29, 0, 0, []) := rs_of (by decide +kernel) (by decide +kernel)
theorem DX4_pass_19 : rs MX4_pass 19 = some (.new 62, 3, 50, 0, 0, []) := rs_of (by decide +kernel) (by decide +kernel)
theorem DX4_pass_22 : rs MX4_pass 22 = some (.dup, 1, 0, 0, 0, []) := rs_of (by decide +kernel) (by decide +kernel)
theorem DX4_pass_23 : rs MX4_pass 23 = some (.ldc 224, 2, 99, 0, 0, []) := rs_of (by decide +kernel) (by decide +kernel)
theorem DX4_pass_25 : rs MX4_pass 25 = some (.invokespecial 66, 3, 0, 0, 0, []) := rs_of (by decide +kernel) (by decide +kernel)
theorem DX4_pass_28 : rs MX4_pass 28 = some (.athrow, 1, 0, 0, 0, []) := rs_of (by decide +kernel) (by decide +kernel)
theorem DX4_pass_29 : rs MX4_pass 29 = some (.aload_n 0, 1, 0, 0, 0, []) := rs_of (by decide +kernel) (by decide +kernel)
theorem DX4_pass_30 : rs MX4_pass 30 = some (.getfield 226, 3, 5, 6, 0, []) := rs_of (by decide +kernel) (by decide +kernel)
theorem DX4_pass_33 : rs MX4_pass 33 = some (.istore_n 2, 1, 2, 0, 0, []) := rs_of (by decide +kernel) (by decide +kernel)
theorem DX4_pass_34 : rs MX4_pass 34 = some (.iconst 0, 1, 0, 0, 0, []) := rs_of (by decide +kernel) (by decide +kernel)
theorem DX4_pass_35 : rs MX4_pass 35 = some (.istore_n 3, 1, 3, 0, 0, []) := rs_of (by decide +kernel) (by decide +kernel)
theorem DX4_pass_36 : rs MX4_pass 36 = some (.iload_n 3, 1, 3, 0, 0, []) := rs_of (by decide +kernel) (by decide +kernel)
theorem DX4_pass_37 : rs MX4_pass 37 = some (.iload_n 1, 1, 1, 0, 0, []) := rs_of (by decide +kernel) (by decide +kernel)
theorem DX4_pass_38 : rs MX4_pass 38 = some (.if_icmp .ge 58, 3, 96, 0, 0, []) := rs_of (by decide +kernel) (by decide +kernel)
theorem DX4_pass_41 : rs MX4_pass 41 = some (.iconst 0, 1, 0, 0, 0, []) := rs_of (by decide +kernel) (by decide +kernel)
theorem DX4_pass_42 : rs MX4_pass 42 = some (.istore 4, 2, 0, 0, 0, []) := rs_of (by decide +kernel) (by decide +kernel)
theorem DX4_pass_44 : rs MX4_pass 44 = some (.iload 4, 2, 0, 0, 0, []) := rs_of (by decide +kernel) (by decide +kernel)
theorem DX4_pass_46 : rs MX4_pass 46 = some (.aload_n 0, 1, 0, 0, 0, []) := rs_of (by decide +kernel) (by decide +kernel)
theorem DX4_pass_47 : rs MX4_pass 47 = some (.getfield 19, 3, 5, 1, 0, []) := rs_of (by decide +kernel) (by decide +kernel)
theorem DX4_pass_50 : rs MX4_pass 50 = some (.invokevirtual 49, 3, 0, 0, 0, []) := rs_of (by decide +kernel) (by decide +kernel)
theorem DX4_pass_53 : rs MX4_pass 53 = some (.if_icmp .ge 19, 3, 72, 0, 0, []) := rs_of (by decide +kernel) (by decide +kernel)
theorem DX4_pass_56 : rs MX4_pass 56 = some (.aload_n 0, 1, 0, 0, 0, []) := rs_of (by decide +kernel) (by decide +kernel)
theorem DX4_pass_57 : rs MX4_pass 57 = some (.aload_n 0, 1, 0, 0, 0, []) := rs_of (by decide +kernel) (by decide +kernel)
theorem DX4_pass_58 : rs MX4_pass 58 = some (.iload 4, 2, 0, 0, 0, []) := rs_of (by decide +kernel) (by decide +kernel)
theorem DX4_pass_60 : rs MX4_pass 60 = some (.invokevirtual 161, 3, 0, 0, 0, []) := rs_of (by decide +kernel) (by decide +kernel)
theorem DX4_pass_63 : rs MX4_pass 63 = some (.invokevirtual 229, 3, 0, 0, 0, []) := rs_of (by decide +kernel) (by decide +kernel)
theorem DX4_pass_66 : rs MX4_pass 66 = some (.iinc 4 1, 3, 4, 0, 1, []) := rs_of (by decide +kernel) (by decide +kernel)
theorem DX4_pass_69 : rs MX4_pass 69 = some (.goto (-25), 3, 44, 0, 0, []) := rs_of (by decide +kernel) (by decide +kernel)
theorem DX4_pass_72 : rs MX4_pass 72 = some (.aload_n 0, 1, 0, 0, 0, []) := rs_of (by decide +kernel) (by decide +kernel)
theorem DX4_pass_73 : rs MX4_pass 73 = some (.invokevirtual 233, 3, 0, 0, 0, []) := rs_of (by decide +kernel) (by decide +kernel)
theorem DX4_pass_76 : rs MX4_pass 76 = some (.aload_n 0, 1, 0, 0, 0, []) := rs_of (by decide +kernel) (by decide +kernel)
theorem DX4_pass_77 : rs MX4_pass 77 = some (.invokevirtual 236, 3, 0, 0, 0, []) := rs_of (by decide +kernel) (by decide +kernel)
theorem DX4_pass_80 : rs MX4_pass 80 = some (.aload_n 0, 1, 0, 0, 0, []) := rs_of (by decide +kernel) (by decide +kernel)
theorem DX4_pass_81 : rs MX4_pass 81 = some (.dup, 1, 0, 0, 0, []) := rs_of (by decide +kernel) (by decide +kernel)
theorem DX4_pass_82 : rs MX4_pass 82 = some (.getfield 221, 3, 5, 5, 0, []) := rs_of (by decide +kernel) (by decide +kernel)
theorem DX4_pass_85 : rs MX4_pass 85 = some (.iconst 1, 1, 0, 0, 1, []) := rs_of (by decide +kernel) (by decide +kernel)
theorem DX4_pass_86 : rs MX4_pass 86 = some (.iadd, 1, 0, 0, 0, []) := rs_of (by decide +kernel) (by decide +kernel)
theorem DX4_pass_87 : rs MX4_pass 87 = some (.putfield 221, 3, 5, 5, 0, []) := rs_of (by decide +kernel) (by decide +kernel)
theorem DX4_pass_90 : rs MX4_pass 90 = some (.iinc 3 1, 3, 3, 0, 1, []) := rs_of (by decide +kernel) (by decide +kernel)
theorem DX4_pass_93 : rs MX4_pass 93 = some (.goto (-57), 3, 36, 0, 0, []) := rs_of (by decide +kernel) (by decide +kernel)
theorem DX4_pass_96 : rs MX4_pass 96 = some (.aload_n 0, 1, 0, 0, 0, []) := rs_of (by decide +kernel) (by decide +kernel)
theorem DX4_pass_97 : rs MX4_pass 97 = some (.getfield 226, 3, 5, 6, 0, []) := rs_of (by decide +kernel) (by decide +kernel)
theorem DX4_pass_100 : rs MX4_pass 100 = some (.iload_n 2, 1, 2, 0, 0, []) := rs_of (by decide +kernel) (by decide +kernel)
theorem DX4_pass_101 : rs MX4_pass 101 = some (.isub, 1, 0, 0, 0, []) := rs_of (by decide +kernel) (by decide +kernel)
theorem DX4_pass_102 : rs MX4_pass 102 = some (.ireturn, 1, 0, 0, 0, []) := rs_of (by decide +kernel) (by decide +kernel)
theorem DX4_count_0 : rs MX4_count 0 = some (.iload_n 1, 1, 1, 0, 0, []) := rs_of (by decide +kernel) (by decide +kernel)
theorem DX4_count_1 : rs MX4_count 1 = some (.bipush 6, 2, 0, 0, 6, []) := rs_of (by decide +kernel) (by decide +kernel)
theorem DX4_count_3 : rs MX4_count 3 = some (.invokestatic 130, 3, 0, 0, 0, []) := rs_of (by decide +kernel) (by decide +kernel)
theorem DX4_count_6 : rs MX4_count 6 = some (.iload_n 1, 1, 1, 0, 0, []) := rs_of (by decide +kernel) (by decide +kernel)
theorem DX4_count_7 : rs MX4_count 7 = some (.tableswitch 61 0 4 #[33, 38, 46, 51, 56], 33, 68, 0, 0, [40, 45, 53, 58, 63]) := rs_of (by decide +kernel) (by decide +kernel)
theorem DX4_count_40 : rs MX4_count 40 = some (.aload_n 0, 1, 0, 0, 0, []) := rs_of (by decide +kernel) (by decide +kernel)
theorem DX4_count_41 : rs MX4_count 41 = some (.getfield 221, 3, 5, 5, 0, []) := rs_of (by decide +kernel) (by decide +kernel)
theorem DX4_count_44 : rs MX4_count 44 = some (.ireturn, 1, 0, 0, 0, []) := rs_of (by decide +kernel) (by decide +kernel)
theorem DX4_count_45 : rs MX4_count 45 = some (.aload_n 0, 1, 0, 0, 0, []) := rs_of (by decide +kernel) (by decide +kernel)
theorem DX4_count_46 : rs MX4_count 46 = some (.getfield 12, 3, 5, 0, 0, []) := rs_of (by decide +kernel) (by decide +kernel)
theorem DX4_count_49 : rs MX4_count 49 = some (.invokevirtual 239, 3, 0, 0, 0, []) := rs_of (by decide +kernel) (by decide +kernel)
theorem DX4_count_52 : rs MX4_count 52 = some (.ireturn, 1, 0, 0, 0, []) := rs_of (by decide +kernel) (by decide +kernel)
theorem DX4_count_53 : rs MX4_count 53 = some (.aload_n 0, 1, 0, 0, 0, []) := rs_of (by decide +kernel) (by decide +kernel)
theorem DX4_count_54 : rs MX4_count 54 = some (.invokevirtual 242, 3, 0, 0, 0, []) := rs_of (by decide +kernel) (by decide +kernel)
theorem DX4_count_57 : rs MX4_count 57 = some (.ireturn, 1, 0, 0, 0, []) := rs_of (by decide +kernel) (by decide +kernel)
theorem DX4_count_58 : rs MX4_count 58 = some (.aload_n 0, 1, 0, 0, 0, []) := rs_of (by decide +kernel) (by decide +kernel)
theorem DX4_count_59 : rs MX4_count 59 = some (.getfield 226, 3, 5, 6, 0, []) := rs_of (by decide +kernel) (by decide +kernel)
theorem DX4_count_62 : rs MX4_count 62 = some (.ireturn, 1, 0, 0, 0, []) := rs_of (by decide +kernel) (by decide +kernel)
theorem DX4_count_63 : rs MX4_count 63 = some (.aload_n 0, 1, 0, 0, 0, []) := rs_of (by decide +kernel) (by decide +kernel)
theorem DX4_count_64 : rs MX4_count 64 = some (.invokevirtual 245, 3, 0, 0, 0, []) := rs_of (by decide +kernel) (by decide +kernel)
theorem DX4_count_67 : rs MX4_count 67 = some (.ireturn, 1, 0, 0, 0, []) := rs_of (by decide +kernel) (by decide +kernel)
theorem DX4_count_68 : rs MX4_count 68 = some (.aload_n 0, 1, 0, 0, 0, []) := rs_of (by decide +kernel) (by decide +kernel)
theorem DX4_count_69 : rs MX4_count 69 = some (.getfield 12, 3, 5, 0, 0, []) := rs_of (by decide +kernel) (by decide +kernel)
theorem DX4_count_72 : rs MX4_count 72 = some (.invokevirtual 248, 3, 0, 0, 0, []) := rs_of (by decide +kernel) (by decide +kernel)
theorem DX4_count_75 : rs MX4_count 75 = some (.ireturn, 1, 0, 0, 0, []) := rs_of (by decide +kernel) (by decide +kernel)
theorem DX4_got_0 : rs MX4_got 0 = some (.iload_n 1, 1, 1, 0, 0, []) := rs_of (by decide +kernel) (by decide +kernel)
theorem DX4_got_1 : rs MX4_got 1 = some (.aload_n 0, 1, 0, 0, 0, []) := rs_of (by decide +kernel) (by decide +kernel)
theorem DX4_got_2 : rs MX4_got 2 = some (.getfield 26, 3, 5, 3, 0, []) := rs_of (by decide +kernel) (by decide +kernel)
theorem DX4_got_5 : rs MX4_got 5 = some (.arraylength, 1, 0, 0, 0, []) := rs_of (by decide +kernel) (by decide +kernel)
theorem DX4_got_6 : rs MX4_got 6 = some (.invokestatic 130, 3, 0, 0, 0, []) := rs_of (by decide +kernel) (by decide +kernel)
theorem DX4_got_9 : rs MX4_got 9 = some (.aload_n 0, 1, 0, 0, 0, []) := rs_of (by decide +kernel) (by decide +kernel)
theorem DX4_got_10 : rs MX4_got 10 = some (.getfield 26, 3, 5, 3, 0, []) := rs_of (by decide +kernel) (by decide +kernel)
theorem DX4_got_13 : rs MX4_got 13 = some (.iload_n 1, 1, 1, 0, 0, []) := rs_of (by decide +kernel) (by decide +kernel)
theorem DX4_got_14 : rs MX4_got 14 = some (.iaload, 1, 0, 0, 0, []) := rs_of (by decide +kernel) (by decide +kernel)
theorem DX4_got_15 : rs MX4_got 15 = some (.ireturn, 1, 0, 0, 0, []) := rs_of (by decide +kernel) (by decide +kernel)
theorem DX4_paid_0 : rs MX4_paid 0 = some (.iload_n 1, 1, 1, 0, 0, []) := rs_of (by decide +kernel) (by decide +kernel)
theorem DX4_paid_1 : rs MX4_paid 1 = some (.aload_n 0, 1, 0, 0, 0, []) := rs_of (by decide +kernel) (by decide +kernel)
theorem DX4_paid_2 : rs MX4_paid 2 = some (.getfield 30, 3, 5, 4, 0, []) := rs_of (by decide +kernel) (by decide +kernel)
theorem DX4_paid_5 : rs MX4_paid 5 = some (.arraylength, 1, 0, 0, 0, []) := rs_of (by decide +kernel) (by decide +kernel)
theorem DX4_paid_6 : rs MX4_paid 6 = some (.invokestatic 130, 3, 0, 0, 0, []) := rs_of (by decide +kernel) (by decide +kernel)
theorem DX4_paid_9 : rs MX4_paid 9 = some (.aload_n 0, 1, 0, 0, 0, []) := rs_of (by decide +kernel) (by decide +kernel)
theorem DX4_paid_10 : rs MX4_paid 10 = some (.getfield 30, 3, 5, 4, 0, []) := rs_of (by decide +kernel) (by decide +kernel)
theorem DX4_paid_13 : rs MX4_paid 13 = some (.iload_n 1, 1, 1, 0, 0, []) := rs_of (by decide +kernel) (by decide +kernel)
theorem DX4_paid_14 : rs MX4_paid 14 = some (.iaload, 1, 0, 0, 0, []) := rs_of (by decide +kernel) (by decide +kernel)
theorem DX4_paid_15 : rs MX4_paid 15 = some (.ireturn, 1, 0, 0, 0, []) := rs_of (by decide +kernel) (by decide +kernel)
theorem DX4_fulfilled_0 : rs MX4_fulfilled 0 = some (.iconst 0, 1, 0, 0, 0, []) := rs_of (by decide +kernel) (by decide +kernel)
theorem DX4_fulfilled_1 : rs MX4_fulfilled 1 = some (.istore_n 1, 1, 1, 0, 0, []) := rs_of (by decide +kernel) (by decide +kernel)
theorem DX4_fulfilled_2 : rs MX4_fulfilled 2 = some (.iconst 0, 1, 0, 0, 0, []) := rs_of (by decide +kernel) (by decide +kernel)
theorem DX4_fulfilled_3 : rs MX4_fulfilled 3 = some (.istore_n 2, 1, 2, 0, 0, []) := rs_of (by decide +kernel) (by decide +kernel)
theorem DX4_fulfilled_4 : rs MX4_fulfilled 4 = some (.iconst 0, 1, 0, 0, 0, []) := rs_of (by decide +kernel) (by decide +kernel)
theorem DX4_fulfilled_5 : rs MX4_fulfilled 5 = some (.istore_n 3, 1, 3, 0, 0, []) := rs_of (by decide +kernel) (by decide +kernel)
theorem DX4_fulfilled_6 : rs MX4_fulfilled 6 = some (.iload_n 3, 1, 3, 0, 0, []) := rs_of (by decide +kernel) (by decide +kernel)
theorem DX4_fulfilled_7 : rs MX4_fulfilled 7 = some (.aload_n 0, 1, 0, 0, 0, []) := rs_of (by decide +kernel) (by decide +kernel)
theorem DX4_fulfilled_8 : rs MX4_fulfilled 8 = some (.getfield 19, 3, 5, 1, 0, []) := rs_of (by decide +kernel) (by decide +kernel)
theorem DX4_fulfilled_11 : rs MX4_fulfilled 11 = some (.invokevirtual 49, 3, 0, 0, 0, []) := rs_of (by decide +kernel) (by decide +kernel)
theorem DX4_fulfilled_14 : rs MX4_fulfilled 14 = some (.if_icmp .ge 20, 3, 34, 0, 0, []) := rs_of (by decide +kernel) (by decide +kernel)
theorem DX4_fulfilled_17 : rs MX4_fulfilled 17 = some (.iload_n 1, 1, 1, 0, 0, []) := rs_of (by decide +kernel) (by decide +kernel)
theorem DX4_fulfilled_18 : rs MX4_fulfilled 18 = some (.aload_n 0, 1, 0, 0, 0, []) := rs_of (by decide +kernel) (by decide +kernel)
theorem DX4_fulfilled_19 : rs MX4_fulfilled 19 = some (.iload_n 3, 1, 3, 0, 0, []) := rs_of (by decide +kernel) (by decide +kernel)
theorem DX4_fulfilled_20 : rs MX4_fulfilled 20 = some (.invokevirtual 161, 3, 0, 0, 0, []) := rs_of (by decide +kernel) (by decide +kernel)
theorem DX4_fulfilled_23 : rs MX4_fulfilled 23 = some (.getfield 258, 3, 2, 13, 0, []) := rs_of (by decide +kernel) (by decide +kernel)
theorem DX4_fulfilled_26 : rs MX4_fulfilled 26 = some (.iadd, 1, 0, 0, 0, []) := rs_of (by decide +kernel) (by decide +kernel)
theorem DX4_fulfilled_27 : rs MX4_fulfilled 27 = some (.istore_n 1, 1, 1, 0, 0, []) := rs_of (by decide +kernel) (by decide +kernel)
theorem DX4_fulfilled_28 : rs MX4_fulfilled 28 = some (.iinc 3 1, 3, 3, 0, 1, []) := rs_of (by decide +kernel) (by decide +kernel)
theorem DX4_fulfilled_31 : rs MX4_fulfilled 31 = some (.goto (-25), 3, 6, 0, 0, []) := rs_of (by decide +kernel) (by decide +kernel)
theorem DX4_fulfilled_34 : rs MX4_fulfilled 34 = some (.iconst 0, 1, 0, 0, 0, []) := rs_of (by decide +kernel) (by decide +kernel)
theorem DX4_fulfilled_35 : rs MX4_fulfilled 35 = some (.istore_n 3, 1, 3, 0, 0, []) := rs_of (by decide +kernel) (by decide +kernel)
theorem DX4_fulfilled_36 : rs MX4_fulfilled 36 = some (.iload_n 3, 1, 3, 0, 0, []) := rs_of (by decide +kernel) (by decide +kernel)
theorem DX4_fulfilled_37 : rs MX4_fulfilled 37 = some (.aload_n 0, 1, 0, 0, 0, []) := rs_of (by decide +kernel) (by decide +kernel)
theorem DX4_fulfilled_38 : rs MX4_fulfilled 38 = some (.getfield 23, 3, 5, 2, 0, []) := rs_of (by decide +kernel) (by decide +kernel)
theorem DX4_fulfilled_41 : rs MX4_fulfilled 41 = some (.invokevirtual 49, 3, 0, 0, 0, []) := rs_of (by decide +kernel) (by decide +kernel)
theorem DX4_fulfilled_44 : rs MX4_fulfilled 44 = some (.if_icmp .ge 48, 3, 92, 0, 0, []) := rs_of (by decide +kernel) (by decide +kernel)
theorem DX4_fulfilled_47 : rs MX4_fulfilled 47 = some (.aload_n 0, 1, 0, 0, 0, []) := rs_of (by decide +kernel) (by decide +kernel)
theorem DX4_fulfilled_48 : rs MX4_fulfilled 48 = some (.getfield 23, 3, 5, 2, 0, []) := rs_of (by decide +kernel) (by decide +kernel)
theorem DX4_fulfilled_51 : rs MX4_fulfilled 51 = some (.iload_n 3, 1, 3, 0, 0, []) := rs_of (by decide +kernel) (by decide +kernel)
theorem DX4_fulfilled_52 : rs MX4_fulfilled 52 = some (.invokevirtual 84, 3, 0, 0, 0, []) := rs_of (by decide +kernel) (by decide +kernel)
theorem DX4_fulfilled_55 : rs MX4_fulfilled 55 = some (.checkcast 88, 3, 3, 0, 0, []) := rs_of (by decide +kernel) (by decide +kernel)
theorem DX4_fulfilled_58 : rs MX4_fulfilled 58 = some (.astore 4, 2, 0, 0, 0, []) := rs_of (by decide +kernel) (by decide +kernel)
theorem DX4_fulfilled_60 : rs MX4_fulfilled 60 = some (.iload_n 2, 1, 2, 0, 0, []) := rs_of (by decide +kernel) (by decide +kernel)
theorem DX4_fulfilled_61 : rs MX4_fulfilled 61 = some (.aload 4, 2, 0, 0, 0, []) := rs_of (by decide +kernel) (by decide +kernel)
theorem DX4_fulfilled_63 : rs MX4_fulfilled 63 = some (.getfield 94, 3, 3, 7, 0, []) := rs_of (by decide +kernel) (by decide +kernel)
theorem DX4_fulfilled_66 : rs MX4_fulfilled 66 = some (.ifCond .eq 17, 3, 83, 0, 0, []) := rs_of (by decide +kernel) (by decide +kernel)
theorem DX4_fulfilled_69 : rs MX4_fulfilled 69 = some (.aload 4, 2, 0, 0, 0, []) := rs_of (by decide +kernel) (by decide +kernel)
theorem DX4_fulfilled_71 : rs MX4_fulfilled 71 = some (.getfield 195, 3, 3, 5, 0, []) := rs_of (by decide +kernel) (by decide +kernel)
theorem DX4_fulfilled_74 : rs MX4_fulfilled 74 = some (.aload 4, 2, 0, 0, 0, []) := rs_of (by decide +kernel) (by decide +kernel)
theorem DX4_fulfilled_76 : rs MX4_fulfilled 76 = some (.invokevirtual 261, 3, 0, 0, 0, []) := rs_of (by decide +kernel) (by decide +kernel)
theorem DX4_fulfilled_79 : rs MX4_fulfilled 79 = some (.imul, 1, 0, 0, 0, []) := rs_of (by decide +kernel) (by decide +kernel)
theorem DX4_fulfilled_80 : rs MX4_fulfilled 80 = some (.goto 4, 3, 84, 0, 0, []) := rs_of (by decide +kernel) (by decide +kernel)
theorem DX4_fulfilled_83 : rs MX4_fulfilled 83 = some (.iconst 0, 1, 0, 0, 0, []) := rs_of (by decide +kernel) (by decide +kernel)
theorem DX4_fulfilled_84 : rs MX4_fulfilled 84 = some (.iadd, 1, 0, 0, 0, []) := rs_of (by decide +kernel) (by decide +kernel)
theorem DX4_fulfilled_85 : rs MX4_fulfilled 85 = some (.istore_n 2, 1, 2, 0, 0, []) := rs_of (by decide +kernel) (by decide +kernel)
theorem DX4_fulfilled_86 : rs MX4_fulfilled 86 = some (.iinc 3 1, 3, 3, 0, 1, []) := rs_of (by decide +kernel) (by decide +kernel)
theorem DX4_fulfilled_89 : rs MX4_fulfilled 89 = some (.goto (-53), 3, 36, 0, 0, []) := rs_of (by decide +kernel) (by decide +kernel)
theorem DX4_fulfilled_92 : rs MX4_fulfilled 92 = some (.iload_n 2, 1, 2, 0, 0, []) := rs_of (by decide +kernel) (by decide +kernel)
theorem DX4_fulfilled_93 : rs MX4_fulfilled 93 = some (.ifCond .ne 7, 3, 100, 0, 0, []) := rs_of (by decide +kernel) (by decide +kernel)
theorem DX4_fulfilled_96 : rs MX4_fulfilled 96 = some (.dconst 1, 1, 0, 0, 0, []) := rs_of (by decide +kernel) (by decide +kernel)
theorem DX4_fulfilled_97 : rs MX4_fulfilled 97 = some (.goto 8, 3, 105, 0, 0, []) := rs_of (by decide +kernel) (by decide +kernel)
theorem DX4_fulfilled_100 : rs MX4_fulfilled 100 = some (.iload_n 1, 1, 1, 0, 0, []) := rs_of (by decide +kernel) (by decide +kernel)
theorem DX4_fulfilled_101 : rs MX4_fulfilled 101 = some (.i2d, 1, 0, 0, 0, []) := rs_of (by decide +kernel) (by decide +kernel)
theorem DX4_fulfilled_102 : rs MX4_fulfilled 102 = some (.iload_n 2, 1, 2, 0, 0, []) := rs_of (by decide +kernel) (by decide +kernel)
theorem DX4_fulfilled_103 : rs MX4_fulfilled 103 = some (.i2d, 1, 0, 0, 0, []) := rs_of (by decide +kernel) (by decide +kernel)
theorem DX4_fulfilled_104 : rs MX4_fulfilled 104 = some (.ddiv, 1, 0, 0, 0, []) := rs_of (by decide +kernel) (by decide +kernel)
theorem DX4_fulfilled_105 : rs MX4_fulfilled 105 = some (.dreturn, 1, 0, 0, 0, []) := rs_of (by decide +kernel) (by decide +kernel)
theorem DX4_needIndex_0 : rs MX4_needIndex 0 = some (.iload_n 0, 1, 0, 0, 0, []) := rs_of (by decide +kernel) (by decide +kernel)
theorem DX4_needIndex_1 : rs MX4_needIndex 1 = some (.ifCond .lt 8, 3, 9, 0, 0, []) := rs_of (by decide +kernel) (by decide +kernel)
theorem DX4_needIndex_4 : rs MX4_needIndex 4 = some (.iload_n 0, 1, 0, 0, 0, []) := rs_of (by decide +kernel) (by decide +kernel)
theorem DX4_needIndex_5 : rs MX4_needIndex 5 = some (.iload_n 1, 1, 1, 0, 0, []) := rs_of (by decide +kernel) (by decide +kernel)
theorem DX4_needIndex_6 : rs MX4_needIndex 6 = some (.if_icmp .lt 14, 3, 20, 0, 0, []) := rs_of (by decide +kernel) (by decide +kernel)
theorem DX4_needIndex_9 : rs MX4_needIndex 9 = some (.new 208, 3, 52, 0, 0, []) := rs_of (by decide +kernel) (by decide +kernel)
theorem DX4_needIndex_12 : rs MX4_needIndex 12 = some (.dup, 1, 0, 0, 0, []) := rs_of (by decide +kernel) (by decide +kernel)
theorem DX4_needIndex_13 : rs MX4_needIndex 13 = some (.ldc_w 287, 3, 0, 0, 0, []) := rs_of (by decide +kernel) (by decide +kernel)
theorem DX4_needIndex_16 : rs MX4_needIndex 16 = some (.invokespecial 212, 3, 0, 0, 0, []) := rs_of (by decide +kernel) (by decide +kernel)
theorem DX4_needIndex_19 : rs MX4_needIndex 19 = some (.athrow, 1, 0, 0, 0, []) := rs_of (by decide +kernel) (by decide +kernel)
theorem DX4_needIndex_20 : rs MX4_needIndex 20 = some (.return_, 1, 0, 0, 0, []) := rs_of (by decide +kernel) (by decide +kernel)
theorem DX4_needArgument_0 : rs MX4_needArgument 0 = some (.iload_n 0, 1, 0, 0, 0, []) := rs_of (by decide +kernel) (by decide +kernel)
theorem DX4_needArgument_1 : rs MX4_needArgument 1 = some (.iload_n 1, 1, 1, 0, 0, []) := rs_of (by decide +kernel) (by decide +kernel)
theorem DX4_needArgument_2 : rs MX4_needArgument 2 = some (.if_icmp .lt 8, 3, 10, 0, 0, []) := rs_of (by decide +kernel) (by decide +kernel)
theorem DX4_needArgument_5 : rs MX4_needArgument 5 = some (.iload_n 0, 1, 0, 0, 0, []) := rs_of (by decide +kernel) (by decide +kernel)
theorem DX4_needArgument_6 : rs MX4_needArgument 6 = some (.iload_n 2, 1, 2, 0, 0, []) := rs_of (by decide +kernel) (by decide +kernel)
theorem DX4_needArgument_7 : rs MX4_needArgument 7 = some (.if_icmp .le 14, 3, 21, 0, 0, []) := rs_of (by decide +kernel) (by decide +kernel)
theorem DX4_needArgument_10 : rs MX4_needArgument 10 = some (.new 110, 3, 51, 0, 0, []) := rs_of (by decide +kernel) (by decide +kernel)
theorem DX4_needArgument_13 : rs MX4_needArgument 13 = some (.dup, 1, 0, 0, 0, []) := rs_of (by decide +kernel) (by decide +kernel)
theorem DX4_needArgument_14 : rs MX4_needArgument 14 = some (.ldc_w 289, 3, 0, 0, 0, []) := rs_of (by decide +kernel) (by decide +kernel)
theorem DX4_needArgument_17 : rs MX4_needArgument 17 = some (.invokespecial 114, 3, 0, 0, 0, []) := rs_of (by decide +kernel) (by decide +kernel)
theorem DX4_needArgument_20 : rs MX4_needArgument 20 = some (.athrow, 1, 0, 0, 0, []) := rs_of (by decide +kernel) (by decide +kernel)
theorem DX4_needArgument_21 : rs MX4_needArgument 21 = some (.return_, 1, 0, 0, 0, []) := rs_of (by decide +kernel) (by decide +kernel)
theorem DX4_buildingAt_0 : rs MX4_buildingAt 0 = some (.iload_n 1, 1, 1, 0, 0, []) := rs_of (by decide +kernel) (by decide +kernel)
theorem DX4_buildingAt_1 : rs MX4_buildingAt 1 = some (.aload_n 0, 1, 0, 0, 0, []) := rs_of (by decide +kernel) (by decide +kernel)
theorem DX4_buildingAt_2 : rs MX4_buildingAt 2 = some (.getfield 12, 3, 5, 0, 0, []) := rs_of (by decide +kernel) (by decide +kernel)
theorem DX4_buildingAt_5 : rs MX4_buildingAt 5 = some (.getfield 46, 3, 4, 0, 0, []) := rs_of (by decide +kernel) (by decide +kernel)
theorem DX4_buildingAt_8 : rs MX4_buildingAt 8 = some (.invokevirtual 49, 3, 0, 0, 0, []) := rs_of (by decide +kernel) (by decide +kernel)
theorem DX4_buildingAt_11 : rs MX4_buildingAt 11 = some (.invokestatic 130, 3, 0, 0, 0, []) := rs_of (by decide +kernel) (by decide +kernel)
theorem DX4_buildingAt_14 : rs MX4_buildingAt 14 = some (.aload_n 0, 1, 0, 0, 0, []) := rs_of (by decide +kernel) (by decide +kernel)
theorem DX4_buildingAt_15 : rs MX4_buildingAt 15 = some (.getfield 12, 3, 5, 0, 0, []) := rs_of (by decide +kernel) (by decide +kernel)
theorem DX4_buildingAt_18 : rs MX4_buildingAt 18 = some (.getfield 46, 3, 4, 0, 0, []) := rs_of (by decide +kernel) (by decide +kernel)
theorem DX4_buildingAt_21 : rs MX4_buildingAt 21 = some (.iload_n 1, 1, 1, 0, 0, []) := rs_of (by decide +kernel) (by decide +kernel)
theorem DX4_buildingAt_22 : rs MX4_buildingAt 22 = some (.invokevirtual 84, 3, 0, 0, 0, []) := rs_of (by decide +kernel) (by decide +kernel)
theorem DX4_buildingAt_25 : rs MX4_buildingAt 25 = some (.checkcast 53, 3, 1, 0, 0, []) := rs_of (by decide +kernel) (by decide +kernel)
theorem DX4_buildingAt_28 : rs MX4_buildingAt 28 = some (.areturn, 1, 0, 0, 0, []) := rs_of (by decide +kernel) (by decide +kernel)
theorem DX4_standingBuilding_0 : rs MX4_standingBuilding 0 = some (.aload_n 0, 1, 0, 0, 0, []) := rs_of (by decide +kernel) (by decide +kernel)
theorem DX4_standingBuilding_1 : rs MX4_standingBuilding 1 = some (.iload_n 1, 1, 1, 0, 0, []) := rs_of (by decide +kernel) (by decide +kernel)
theorem DX4_standingBuilding_2 : rs MX4_standingBuilding 2 = some (.invokevirtual 127, 3, 0, 0, 0, []) := rs_of (by decide +kernel) (by decide +kernel)
theorem DX4_standingBuilding_5 : rs MX4_standingBuilding 5 = some (.astore_n 2, 1, 2, 0, 0, []) := rs_of (by decide +kernel) (by decide +kernel)
theorem DX4_standingBuilding_6 : rs MX4_standingBuilding 6 = some (.aload_n 2, 1, 2, 0, 0, []) := rs_of (by decide +kernel) (by decide +kernel)
theorem DX4_standingBuilding_7 : rs MX4_standingBuilding 7 = some (.getfield 98, 3, 1, 7, 0, []) := rs_of (by decide +kernel) (by decide +kernel)
theorem DX4_standingBuilding_10 : rs MX4_standingBuilding 10 = some (.ifCond .ne 14, 3, 24, 0, 0, []) := rs_of (by decide +kernel) (by decide +kernel)
theorem DX4_standingBuilding_13 : rs MX4_standingBuilding 13 = some (.new 208, 3, 52, 0, 0, []) := rs_of (by decide +kernel) (by decide +kernel)
theorem DX4_standingBuilding_16 : rs MX4_standingBuilding 16 = some (.dup, 1, 0, 0, 0, []) := rs_of (by decide +kernel) (by decide +kernel)
theorem DX4_standingBuilding_17 : rs MX4_standingBuilding 17 = some (.ldc_w 291, 3, 0, 0, 0, []) := rs_of (by decide +kernel) (by decide +kernel)
theorem DX4_standingBuilding_20 : rs MX4_standingBuilding 20 = some (.invokespecial 212, 3, 0, 0, 0, []) := rs_of (by decide +kernel) (by decide +kernel)
theorem DX4_standingBuilding_23 : rs MX4_standingBuilding 23 = some (.athrow, 1, 0, 0, 0, []) := rs_of (by decide +kernel) (by decide +kernel)
theorem DX4_standingBuilding_24 : rs MX4_standingBuilding 24 = some (.aload_n 2, 1, 2, 0, 0, []) := rs_of (by decide +kernel) (by decide +kernel)
theorem DX4_standingBuilding_25 : rs MX4_standingBuilding 25 = some (.areturn, 1, 0, 0, 0, []) := rs_of (by decide +kernel) (by decide +kernel)
theorem DX4_leaseAt_0 : rs MX4_leaseAt 0 = some (.iload_n 1, 1, 1, 0, 0, []) := rs_of (by decide +kernel) (by decide +kernel)
theorem DX4_leaseAt_1 : rs MX4_leaseAt 1 = some (.aload_n 0, 1, 0, 0, 0, []) := rs_of (by decide +kernel) (by decide +kernel)
theorem DX4_leaseAt_2 : rs MX4_leaseAt 2 = some (.getfield 23, 3, 5, 2, 0, []) := rs_of (by decide +kernel) (by decide +kernel)
theorem DX4_leaseAt_5 : rs MX4_leaseAt 5 = some (.invokevirtual 49, 3, 0, 0, 0, []) := rs_of (by decide +kernel) (by decide +kernel)
theorem DX4_leaseAt_8 : rs MX4_leaseAt 8 = some (.invokestatic 130, 3, 0, 0, 0, []) := rs_of (by decide +kernel) (by decide +kernel)
theorem DX4_leaseAt_11 : rs MX4_leaseAt 11 = some (.aload_n 0, 1, 0, 0, 0, []) := rs_of (by decide +kernel) (by decide +kernel)
theorem DX4_leaseAt_12 : rs MX4_leaseAt 12 = some (.getfield 23, 3, 5, 2, 0, []) := rs_of (by decide +kernel) (by decide +kernel)
theorem DX4_leaseAt_15 : rs MX4_leaseAt 15 = some (.iload_n 1, 1, 1, 0, 0, []) := rs_of (by decide +kernel) (by decide +kernel)
theorem DX4_leaseAt_16 : rs MX4_leaseAt 16 = some (.invokevirtual 84, 3, 0, 0, 0, []) := rs_of (by decide +kernel) (by decide +kernel)
theorem DX4_leaseAt_19 : rs MX4_leaseAt 19 = some (.checkcast 88, 3, 3, 0, 0, []) := rs_of (by decide +kernel) (by decide +kernel)
theorem DX4_leaseAt_22 : rs MX4_leaseAt 22 = some (.areturn, 1, 0, 0, 0, []) := rs_of (by decide +kernel) (by decide +kernel)
theorem DX4_hourAt_0 : rs MX4_hourAt 0 = some (.iload_n 1, 1, 1, 0, 0, []) := rs_of (by decide +kernel) (by decide +kernel)
theorem DX4_hourAt_1 : rs MX4_hourAt 1 = some (.aload_n 0, 1, 0, 0, 0, []) := rs_of (by decide +kernel) (by decide +kernel)
theorem DX4_hourAt_2 : rs MX4_hourAt 2 = some (.getfield 19, 3, 5, 1, 0, []) := rs_of (by decide +kernel) (by decide +kernel)
theorem DX4_hourAt_5 : rs MX4_hourAt 5 = some (.invokevirtual 49, 3, 0, 0, 0, []) := rs_of (by decide +kernel) (by decide +kernel)
theorem DX4_hourAt_8 : rs MX4_hourAt 8 = some (.invokestatic 130, 3, 0, 0, 0, []) := rs_of (by decide +kernel) (by decide +kernel)
theorem DX4_hourAt_11 : rs MX4_hourAt 11 = some (.aload_n 0, 1, 0, 0, 0, []) := rs_of (by decide +kernel) (by decide +kernel)
theorem DX4_hourAt_12 : rs MX4_hourAt 12 = some (.getfield 19, 3, 5, 1, 0, []) := rs_of (by decide +kernel) (by decide +kernel)
theorem DX4_hourAt_15 : rs MX4_hourAt 15 = some (.iload_n 1, 1, 1, 0, 0, []) := rs_of (by decide +kernel) (by decide +kernel)
theorem DX4_hourAt_16 : rs MX4_hourAt 16 = some (.invokevirtual 84, 3, 0, 0, 0, []) := rs_of (by decide +kernel) (by decide +kernel)
theorem DX4_hourAt_19 : rs MX4_hourAt 19 = some (.checkcast 33, 3, 2, 0, 0, []) := rs_of (by decide +kernel) (by decide +kernel)
theorem DX4_hourAt_22 : rs MX4_hourAt 22 = some (.areturn, 1, 0, 0, 0, []) := rs_of (by decide +kernel) (by decide +kernel)
theorem DX4_measuredHour_0 : rs MX4_measuredHour 0 = some (.aload_n 0, 1, 0, 0, 0, []) := rs_of (by decide +kernel) (by decide +kernel)
theorem DX4_measuredHour_1 : rs MX4_measuredHour 1 = some (.iload_n 1, 1, 1, 0, 0, []) := rs_of (by decide +kernel) (by decide +kernel)
theorem DX4_measuredHour_2 : rs MX4_measuredHour 2 = some (.invokevirtual 106, 3, 0, 0, 0, []) := rs_of (by decide +kernel) (by decide +kernel)
theorem DX4_measuredHour_5 : rs MX4_measuredHour 5 = some (.astore_n 2, 1, 2, 0, 0, []) := rs_of (by decide +kernel) (by decide +kernel)
theorem DX4_measuredHour_6 : rs MX4_measuredHour 6 = some (.aload_n 2, 1, 2, 0, 0, []) := rs_of (by decide +kernel) (by decide +kernel)
theorem DX4_measuredHour_7 : rs MX4_measuredHour 7 = some (.getfield 295, 3, 2, 4, 0, []) := rs_of (by decide +kernel) (by decide +kernel)
theorem DX4_measuredHour_10 : rs MX4_measuredHour 10 = some (.ifCond .ne 11, 3, 21, 0, 0, []) := rs_of (by decide +kernel) (by decide +kernel)
theorem DX4_measuredHour_13 : rs MX4_measuredHour 13 = some (.aload_n 2, 1, 2, 0, 0, []) := rs_of (by decide +kernel) (by decide +kernel)
theorem DX4_measuredHour_14 : rs MX4_measuredHour 14 = some (.aload_n 0, 1, 0, 0, 0, []) := rs_of (by decide +kernel) (by decide +kernel)
theorem DX4_measuredHour_15 : rs MX4_measuredHour 15 = some (.getfield 12, 3, 5, 0, 0, []) := rs_of (by decide +kernel) (by decide +kernel)
theorem DX4_measuredHour_18 : rs MX4_measuredHour 18 = some (.invokevirtual 298, 3, 0, 0, 0, []) := rs_of (by decide +kernel) (by decide +kernel)
theorem DX4_measuredHour_21 : rs MX4_measuredHour 21 = some (.aload_n 2, 1, 2, 0, 0, []) := rs_of (by decide +kernel) (by decide +kernel)
theorem DX4_measuredHour_22 : rs MX4_measuredHour 22 = some (.areturn, 1, 0, 0, 0, []) := rs_of (by decide +kernel) (by decide +kernel)
theorem DX4_allottedHour_0 : rs MX4_allottedHour 0 = some (.aload_n 0, 1, 0, 0, 0, []) := rs_of (by decide +kernel) (by decide +kernel)
theorem DX4_allottedHour_1 : rs MX4_allottedHour 1 = some (.iload_n 1, 1, 1, 0, 0, []) := rs_of (by decide +kernel) (by decide +kernel)
theorem DX4_allottedHour_2 : rs MX4_allottedHour 2 = some (.invokevirtual 106, 3, 0, 0, 0, []) := rs_of (by decide +kernel) (by decide +kernel)
theorem DX4_allottedHour_5 : rs MX4_allottedHour 5 = some (.astore_n 2, 1, 2, 0, 0, []) := rs_of (by decide +kernel) (by decide +kernel)
theorem DX4_allottedHour_6 : rs MX4_allottedHour 6 = some (.aload_n 2, 1, 2, 0, 0, []) := rs_of (by decide +kernel) (by decide +kernel)
theorem DX4_allottedHour_7 : rs MX4_allottedHour 7 = some (.getfield 295, 3, 2, 4, 0, []) := rs_of (by decide +kernel) (by decide +kernel)
theorem DX4_allottedHour_10 : rs MX4_allottedHour 10 = some (.ifCond .ne 11, 3, 21, 0, 0, []) := rs_of (by decide +kernel) (by decide +kernel)
theorem DX4_allottedHour_13 : rs MX4_allottedHour 13 = some (.aload_n 2, 1, 2, 0, 0, []) := rs_of (by decide +kernel) (by decide +kernel)
theorem DX4_allottedHour_14 : rs MX4_allottedHour 14 = some (.aload_n 0, 1, 0, 0, 0, []) := rs_of (by decide +kernel) (by decide +kernel)
theorem DX4_allottedHour_15 : rs MX4_allottedHour 15 = some (.getfield 12, 3, 5, 0, 0, []) := rs_of (by decide +kernel) (by decide +kernel)
theorem DX4_allottedHour_18 : rs MX4_allottedHour 18 = some (.invokevirtual 298, 3, 0, 0, 0, []) := rs_of (by decide +kernel) (by decide +kernel)
theorem DX4_allottedHour_21 : rs MX4_allottedHour 21 = some (.aload_n 2, 1, 2, 0, 0, []) := rs_of (by decide +kernel) (by decide +kernel)
theorem DX4_allottedHour_22 : rs MX4_allottedHour 22 = some (.getfield 302, 3, 2, 11, 0, []) := rs_of (by decide +kernel) (by decide +kernel)
theorem DX4_allottedHour_25 : rs MX4_allottedHour 25 = some (.ifCond .ne 11, 3, 36, 0, 0, []) := rs_of (by decide +kernel) (by decide +kernel)
theorem DX4_allottedHour_28 : rs MX4_allottedHour 28 = some (.aload_n 2, 1, 2, 0, 0, []) := rs_of (by decide +kernel) (by decide +kernel)
theorem DX4_allottedHour_29 : rs MX4_allottedHour 29 = some (.aload_n 0, 1, 0, 0, 0, []) := rs_of (by decide +kernel) (by decide +kernel)
theorem DX4_allottedHour_30 : rs MX4_allottedHour 30 = some (.getfield 23, 3, 5, 2, 0, []) := rs_of (by decide +kernel) (by decide +kernel)
theorem DX4_allottedHour_33 : rs MX4_allottedHour 33 = some (.invokevirtual 305, 3, 0, 0, 0, []) := rs_of (by decide +kernel) (by decide +kernel)
theorem DX4_allottedHour_36 : rs MX4_allottedHour 36 = some (.aload_n 2, 1, 2, 0, 0, []) := rs_of (by decide +kernel) (by decide +kernel)
theorem DX4_allottedHour_37 : rs MX4_allottedHour 37 = some (.areturn, 1, 0, 0, 0, []) := rs_of (by decide +kernel) (by decide +kernel)
theorem DX4_forgetShades_0 : rs MX4_forgetShades 0 = some (.iconst 0, 1, 0, 0, 0, []) := rs_of (by decide +kernel) (by decide +kernel)
theorem DX4_forgetShades_1 : rs MX4_forgetShades 1 = some (.istore_n 1, 1, 1, 0, 0, []) := rs_of (by decide +kernel) (by decide +kernel)
end
section
theorem DX4_forgetShades_2 : rs MX4_forgetShades 2 = some (.iload_n 1, 1, 1, 0, 0, []) := rs_of (by decide +kernel) (by decide +kernel)
theorem DX4_forgetShades_3 : rs MX4_forgetShades 3 = some (.aload_n 0, 1, 0, 0, 0, []) := rs_of (by decide +kernel) (by decide +kernel)
theorem DX4_forgetShades_4 : rs MX4_forgetShades 4 = some (.getfield 19, 3, 5, 1, 0, []) := rs_of (by decide +kernel) (by decide +kernel)
theorem DX4_forgetShades_7 : rs MX4_forgetShades 7 = some (.invokevirtual 49, 3, 0, 0, 0, []) := rs_of (by decide +kernel) (by decide +kernel)
theorem DX4_forgetShades_10 : rs MX4_forgetShades 10 = some (.if_icmp .ge 23, 3, 33, 0, 0, []) := rs_of (by decide +kernel) (by decide +kernel)
theorem DX4_forgetShades_13 : rs MX4_forgetShades 13 = some (.aload_n 0, 1, 0, 0, 0, []) := rs_of (by decide +kernel) (by decide +kernel)
theorem DX4_forgetShades_14 : rs MX4_forgetShades 14 = some (.getfield 19, 3, 5, 1, 0, []) := rs_of (by decide +kernel) (by decide +kernel)
theorem DX4_forgetShades_17 : rs MX4_forgetShades 17 = some (.iload_n 1, 1, 1, 0, 0, []) := rs_of (by decide +kernel) (by decide +kernel)
theorem DX4_forgetShades_18 : rs MX4_forgetShades 18 = some (.invokevirtual 84, 3, 0, 0, 0, []) := rs_of (by decide +kernel) (by decide +kernel)
theorem DX4_forgetShades_21 : rs MX4_forgetShades 21 = some (.checkcast 33, 3, 2, 0, 0, []) := rs_of (by decide +kernel) (by decide +kernel)
theorem DX4_forgetShades_24 : rs MX4_forgetShades 24 = some (.invokevirtual 124, 3, 0, 0, 0, []) := rs_of (by decide +kernel) (by decide +kernel)
theorem DX4_forgetShades_27 : rs MX4_forgetShades 27 = some (.iinc 1 1, 3, 1, 0, 1, []) := rs_of (by decide +kernel) (by decide +kernel)
theorem DX4_forgetShades_30 : rs MX4_forgetShades 30 = some (.goto (-28), 3, 2, 0, 0, []) := rs_of (by decide +kernel) (by decide +kernel)
theorem DX4_forgetShades_33 : rs MX4_forgetShades 33 = some (.return_, 1, 0, 0, 0, []) := rs_of (by decide +kernel) (by decide +kernel)
theorem DX4_forgetAllotments_0 : rs MX4_forgetAllotments 0 = some (.iconst 0, 1, 0, 0, 0, []) := rs_of (by decide +kernel) (by decide +kernel)
theorem DX4_forgetAllotments_1 : rs MX4_forgetAllotments 1 = some (.istore_n 1, 1, 1, 0, 0, []) := rs_of (by decide +kernel) (by decide +kernel)
theorem DX4_forgetAllotments_2 : rs MX4_forgetAllotments 2 = some (.iload_n 1, 1, 1, 0, 0, []) := rs_of (by decide +kernel) (by decide +kernel)
theorem DX4_forgetAllotments_3 : rs MX4_forgetAllotments 3 = some (.aload_n 0, 1, 0, 0, 0, []) := rs_of (by decide +kernel) (by decide +kernel)
theorem DX4_forgetAllotments_4 : rs MX4_forgetAllotments 4 = some (.getfield 19, 3, 5, 1, 0, []) := rs_of (by decide +kernel) (by decide +kernel)
theorem DX4_forgetAllotments_7 : rs MX4_forgetAllotments 7 = some (.invokevirtual 49, 3, 0, 0, 0, []) := rs_of (by decide +kernel) (by decide +kernel)
theorem DX4_forgetAllotments_10 : rs MX4_forgetAllotments 10 = some (.if_icmp .ge 24, 3, 34, 0, 0, []) := rs_of (by decide +kernel) (by decide +kernel)
theorem DX4_forgetAllotments_13 : rs MX4_forgetAllotments 13 = some (.aload_n 0, 1, 0, 0, 0, []) := rs_of (by decide +kernel) (by decide +kernel)
theorem DX4_forgetAllotments_14 : rs MX4_forgetAllotments 14 = some (.getfield 19, 3, 5, 1, 0, []) := rs_of (by decide +kernel) (by decide +kernel)
theorem DX4_forgetAllotments_17 : rs MX4_forgetAllotments 17 = some (.iload_n 1, 1, 1, 0, 0, []) := rs_of (by decide +kernel) (by decide +kernel)
theorem DX4_forgetAllotments_18 : rs MX4_forgetAllotments 18 = some (.invokevirtual 84, 3, 0, 0, 0, []) := rs_of (by decide +kernel) (by decide +kernel)
theorem DX4_forgetAllotments_21 : rs MX4_forgetAllotments 21 = some (.checkcast 33, 3, 2, 0, 0, []) := rs_of (by decide +kernel) (by decide +kernel)
theorem DX4_forgetAllotments_24 : rs MX4_forgetAllotments 24 = some (.iconst 0, 1, 0, 0, 0, []) := rs_of (by decide +kernel) (by decide +kernel)
theorem DX4_forgetAllotments_25 : rs MX4_forgetAllotments 25 = some (.putfield 302, 3, 2, 11, 0, []) := rs_of (by decide +kernel) (by decide +kernel)
theorem DX4_forgetAllotments_28 : rs MX4_forgetAllotments 28 = some (.iinc 1 1, 3, 1, 0, 1, []) := rs_of (by decide +kernel) (by decide +kernel)
theorem DX4_forgetAllotments_31 : rs MX4_forgetAllotments 31 = some (.goto (-29), 3, 2, 0, 0, []) := rs_of (by decide +kernel) (by decide +kernel)
theorem DX4_forgetAllotments_34 : rs MX4_forgetAllotments 34 = some (.return_, 1, 0, 0, 0, []) := rs_of (by decide +kernel) (by decide +kernel)
theorem DX4_changeHeight_0 : rs MX4_changeHeight 0 = some (.aload_n 1, 1, 1, 0, 0, []) := rs_of (by decide +kernel) (by decide +kernel)
theorem DX4_changeHeight_1 : rs MX4_changeHeight 1 = some (.iload_n 2, 1, 2, 0, 0, []) := rs_of (by decide +kernel) (by decide +kernel)
theorem DX4_changeHeight_2 : rs MX4_changeHeight 2 = some (.putfield 99, 3, 1, 6, 0, []) := rs_of (by decide +kernel) (by decide +kernel)
theorem DX4_changeHeight_5 : rs MX4_changeHeight 5 = some (.aload_n 0, 1, 0, 0, 0, []) := rs_of (by decide +kernel) (by decide +kernel)
theorem DX4_changeHeight_6 : rs MX4_changeHeight 6 = some (.invokevirtual 73, 3, 0, 0, 0, []) := rs_of (by decide +kernel) (by decide +kernel)
theorem DX4_changeHeight_9 : rs MX4_changeHeight 9 = some (.return_, 1, 0, 0, 0, []) := rs_of (by decide +kernel) (by decide +kernel)
theorem DX4_standingLeases_0 : rs MX4_standingLeases 0 = some (.iconst 0, 1, 0, 0, 0, []) := rs_of (by decide +kernel) (by decide +kernel)
theorem DX4_standingLeases_1 : rs MX4_standingLeases 1 = some (.istore_n 1, 1, 1, 0, 0, []) := rs_of (by decide +kernel) (by decide +kernel)
theorem DX4_standingLeases_2 : rs MX4_standingLeases 2 = some (.iconst 0, 1, 0, 0, 0, []) := rs_of (by decide +kernel) (by decide +kernel)
theorem DX4_standingLeases_3 : rs MX4_standingLeases 3 = some (.istore_n 2, 1, 2, 0, 0, []) := rs_of (by decide +kernel) (by decide +kernel)
theorem DX4_standingLeases_4 : rs MX4_standingLeases 4 = some (.iload_n 2, 1, 2, 0, 0, []) := rs_of (by decide +kernel) (by decide +kernel)
theorem DX4_standingLeases_5 : rs MX4_standingLeases 5 = some (.aload_n 0, 1, 0, 0, 0, []) := rs_of (by decide +kernel) (by decide +kernel)
theorem DX4_standingLeases_6 : rs MX4_standingLeases 6 = some (.getfield 23, 3, 5, 2, 0, []) := rs_of (by decide +kernel) (by decide +kernel)
theorem DX4_standingLeases_9 : rs MX4_standingLeases 9 = some (.invokevirtual 49, 3, 0, 0, 0, []) := rs_of (by decide +kernel) (by decide +kernel)
theorem DX4_standingLeases_12 : rs MX4_standingLeases 12 = some (.if_icmp .ge 29, 3, 41, 0, 0, []) := rs_of (by decide +kernel) (by decide +kernel)
theorem DX4_standingLeases_15 : rs MX4_standingLeases 15 = some (.aload_n 0, 1, 0, 0, 0, []) := rs_of (by decide +kernel) (by decide +kernel)
theorem DX4_standingLeases_16 : rs MX4_standingLeases 16 = some (.getfield 23, 3, 5, 2, 0, []) := rs_of (by decide +kernel) (by decide +kernel)
theorem DX4_standingLeases_19 : rs MX4_standingLeases 19 = some (.iload_n 2, 1, 2, 0, 0, []) := rs_of (by decide +kernel) (by decide +kernel)
theorem DX4_standingLeases_20 : rs MX4_standingLeases 20 = some (.invokevirtual 84, 3, 0, 0, 0, []) := rs_of (by decide +kernel) (by decide +kernel)
theorem DX4_standingLeases_23 : rs MX4_standingLeases 23 = some (.checkcast 88, 3, 3, 0, 0, []) := rs_of (by decide +kernel) (by decide +kernel)
theorem DX4_standingLeases_26 : rs MX4_standingLeases 26 = some (.getfield 94, 3, 3, 7, 0, []) := rs_of (by decide +kernel) (by decide +kernel)
theorem DX4_standingLeases_29 : rs MX4_standingLeases 29 = some (.ifCond .eq 6, 3, 35, 0, 0, []) := rs_of (by decide +kernel) (by decide +kernel)
theorem DX4_standingLeases_32 : rs MX4_standingLeases 32 = some (.iinc 1 1, 3, 1, 0, 1, []) := rs_of (by decide +kernel) (by decide +kernel)
theorem DX4_standingLeases_35 : rs MX4_standingLeases 35 = some (.iinc 2 1, 3, 2, 0, 1, []) := rs_of (by decide +kernel) (by decide +kernel)
theorem DX4_standingLeases_38 : rs MX4_standingLeases 38 = some (.goto (-34), 3, 4, 0, 0, []) := rs_of (by decide +kernel) (by decide +kernel)
theorem DX4_standingLeases_41 : rs MX4_standingLeases 41 = some (.iload_n 1, 1, 1, 0, 0, []) := rs_of (by decide +kernel) (by decide +kernel)
theorem DX4_standingLeases_42 : rs MX4_standingLeases 42 = some (.ireturn, 1, 0, 0, 0, []) := rs_of (by decide +kernel) (by decide +kernel)
theorem DX4_paidByAll_0 : rs MX4_paidByAll 0 = some (.iconst 0, 1, 0, 0, 0, []) := rs_of (by decide +kernel) (by decide +kernel)
theorem DX4_paidByAll_1 : rs MX4_paidByAll 1 = some (.istore_n 1, 1, 1, 0, 0, []) := rs_of (by decide +kernel) (by decide +kernel)
theorem DX4_paidByAll_2 : rs MX4_paidByAll 2 = some (.iconst 0, 1, 0, 0, 0, []) := rs_of (by decide +kernel) (by decide +kernel)
theorem DX4_paidByAll_3 : rs MX4_paidByAll 3 = some (.istore_n 2, 1, 2, 0, 0, []) := rs_of (by decide +kernel) (by decide +kernel)
theorem DX4_paidByAll_4 : rs MX4_paidByAll 4 = some (.iload_n 2, 1, 2, 0, 0, []) := rs_of (by decide +kernel) (by decide +kernel)
theorem DX4_paidByAll_5 : rs MX4_paidByAll 5 = some (.aload_n 0, 1, 0, 0, 0, []) := rs_of (by decide +kernel) (by decide +kernel)
theorem DX4_paidByAll_6 : rs MX4_paidByAll 6 = some (.getfield 30, 3, 5, 4, 0, []) := rs_of (by decide +kernel) (by decide +kernel)
theorem DX4_paidByAll_9 : rs MX4_paidByAll 9 = some (.arraylength, 1, 0, 0, 0, []) := rs_of (by decide +kernel) (by decide +kernel)
theorem DX4_paidByAll_10 : rs MX4_paidByAll 10 = some (.if_icmp .ge 18, 3, 28, 0, 0, []) := rs_of (by decide +kernel) (by decide +kernel)
theorem DX4_paidByAll_13 : rs MX4_paidByAll 13 = some (.iload_n 1, 1, 1, 0, 0, []) := rs_of (by decide +kernel) (by decide +kernel)
theorem DX4_paidByAll_14 : rs MX4_paidByAll 14 = some (.aload_n 0, 1, 0, 0, 0, []) := rs_of (by decide +kernel) (by decide +kernel)
theorem DX4_paidByAll_15 : rs MX4_paidByAll 15 = some (.getfield 30, 3, 5, 4, 0, []) := rs_of (by decide +kernel) (by decide +kernel)
theorem DX4_paidByAll_18 : rs MX4_paidByAll 18 = some (.iload_n 2, 1, 2, 0, 0, []) := rs_of (by decide +kernel) (by decide +kernel)
theorem DX4_paidByAll_19 : rs MX4_paidByAll 19 = some (.iaload, 1, 0, 0, 0, []) := rs_of (by decide +kernel) (by decide +kernel)
theorem DX4_paidByAll_20 : rs MX4_paidByAll 20 = some (.iadd, 1, 0, 0, 0, []) := rs_of (by decide +kernel) (by decide +kernel)
theorem DX4_paidByAll_21 : rs MX4_paidByAll 21 = some (.istore_n 1, 1, 1, 0, 0, []) := rs_of (by decide +kernel) (by decide +kernel)
theorem DX4_paidByAll_22 : rs MX4_paidByAll 22 = some (.iinc 2 1, 3, 2, 0, 1, []) := rs_of (by decide +kernel) (by decide +kernel)
theorem DX4_paidByAll_25 : rs MX4_paidByAll 25 = some (.goto (-21), 3, 4, 0, 0, []) := rs_of (by decide +kernel) (by decide +kernel)
theorem DX4_paidByAll_28 : rs MX4_paidByAll 28 = some (.iload_n 1, 1, 1, 0, 0, []) := rs_of (by decide +kernel) (by decide +kernel)
theorem DX4_paidByAll_29 : rs MX4_paidByAll 29 = some (.ireturn, 1, 0, 0, 0, []) := rs_of (by decide +kernel) (by decide +kernel)
theorem DX4_shortHours_0 : rs MX4_shortHours 0 = some (.iconst 0, 1, 0, 0, 0, []) := rs_of (by decide +kernel) (by decide +kernel)
theorem DX4_shortHours_1 : rs MX4_shortHours 1 = some (.istore_n 2, 1, 2, 0, 0, []) := rs_of (by decide +kernel) (by decide +kernel)
theorem DX4_shortHours_2 : rs MX4_shortHours 2 = some (.iconst 0, 1, 0, 0, 0, []) := rs_of (by decide +kernel) (by decide +kernel)
theorem DX4_shortHours_3 : rs MX4_shortHours 3 = some (.istore_n 3, 1, 3, 0, 0, []) := rs_of (by decide +kernel) (by decide +kernel)
theorem DX4_shortHours_4 : rs MX4_shortHours 4 = some (.iload_n 3, 1, 3, 0, 0, []) := rs_of (by decide +kernel) (by decide +kernel)
theorem DX4_shortHours_5 : rs MX4_shortHours 5 = some (.aload_n 0, 1, 0, 0, 0, []) := rs_of (by decide +kernel) (by decide +kernel)
theorem DX4_shortHours_6 : rs MX4_shortHours 6 = some (.getfield 19, 3, 5, 1, 0, []) := rs_of (by decide +kernel) (by decide +kernel)
theorem DX4_shortHours_9 : rs MX4_shortHours 9 = some (.invokevirtual 49, 3, 0, 0, 0, []) := rs_of (by decide +kernel) (by decide +kernel)
theorem DX4_shortHours_12 : rs MX4_shortHours 12 = some (.if_icmp .ge 24, 3, 36, 0, 0, []) := rs_of (by decide +kernel) (by decide +kernel)
theorem DX4_shortHours_15 : rs MX4_shortHours 15 = some (.aload_n 0, 1, 0, 0, 0, []) := rs_of (by decide +kernel) (by decide +kernel)
theorem DX4_shortHours_16 : rs MX4_shortHours 16 = some (.iload_n 3, 1, 3, 0, 0, []) := rs_of (by decide +kernel) (by decide +kernel)
theorem DX4_shortHours_17 : rs MX4_shortHours 17 = some (.invokevirtual 161, 3, 0, 0, 0, []) := rs_of (by decide +kernel) (by decide +kernel)
theorem DX4_shortHours_20 : rs MX4_shortHours 20 = some (.aload_n 1, 1, 1, 0, 0, []) := rs_of (by decide +kernel) (by decide +kernel)
theorem DX4_shortHours_21 : rs MX4_shortHours 21 = some (.invokevirtual 309, 3, 0, 0, 0, []) := rs_of (by decide +kernel) (by decide +kernel)
theorem DX4_shortHours_24 : rs MX4_shortHours 24 = some (.ifCond .eq 6, 3, 30, 0, 0, []) := rs_of (by decide +kernel) (by decide +kernel)
theorem DX4_shortHours_27 : rs MX4_shortHours 27 = some (.iinc 2 1, 3, 2, 0, 1, []) := rs_of (by decide +kernel) (by decide +kernel)
theorem DX4_shortHours_30 : rs MX4_shortHours 30 = some (.iinc 3 1, 3, 3, 0, 1, []) := rs_of (by decide +kernel) (by decide +kernel)
theorem DX4_shortHours_33 : rs MX4_shortHours 33 = some (.goto (-29), 3, 4, 0, 0, []) := rs_of (by decide +kernel) (by decide +kernel)
theorem DX4_shortHours_36 : rs MX4_shortHours 36 = some (.iload_n 2, 1, 2, 0, 0, []) := rs_of (by decide +kernel) (by decide +kernel)
theorem DX4_shortHours_37 : rs MX4_shortHours 37 = some (.ireturn, 1, 0, 0, 0, []) := rs_of (by decide +kernel) (by decide +kernel)
theorem DX4_payFor_0 : rs MX4_payFor 0 = some (.iconst 0, 1, 0, 0, 0, []) := rs_of (by decide +kernel) (by decide +kernel)
theorem DX4_payFor_1 : rs MX4_payFor 1 = some (.istore_n 2, 1, 2, 0, 0, []) := rs_of (by decide +kernel) (by decide +kernel)
theorem DX4_payFor_2 : rs MX4_payFor 2 = some (.iload_n 2, 1, 2, 0, 0, []) := rs_of (by decide +kernel) (by decide +kernel)
theorem DX4_payFor_3 : rs MX4_payFor 3 = some (.aload_n 0, 1, 0, 0, 0, []) := rs_of (by decide +kernel) (by decide +kernel)
theorem DX4_payFor_4 : rs MX4_payFor 4 = some (.getfield 23, 3, 5, 2, 0, []) := rs_of (by decide +kernel) (by decide +kernel)
theorem DX4_payFor_7 : rs MX4_payFor 7 = some (.invokevirtual 49, 3, 0, 0, 0, []) := rs_of (by decide +kernel) (by decide +kernel)
theorem DX4_payFor_10 : rs MX4_payFor 10 = some (.if_icmp .ge 117, 3, 127, 0, 0, []) := rs_of (by decide +kernel) (by decide +kernel)
theorem DX4_payFor_13 : rs MX4_payFor 13 = some (.aload_n 0, 1, 0, 0, 0, []) := rs_of (by decide +kernel) (by decide +kernel)
theorem DX4_payFor_14 : rs MX4_payFor 14 = some (.getfield 23, 3, 5, 2, 0, []) := rs_of (by decide +kernel) (by decide +kernel)
theorem DX4_payFor_17 : rs MX4_payFor 17 = some (.iload_n 2, 1, 2, 0, 0, []) := rs_of (by decide +kernel) (by decide +kernel)
theorem DX4_payFor_18 : rs MX4_payFor 18 = some (.invokevirtual 84, 3, 0, 0, 0, []) := rs_of (by decide +kernel) (by decide +kernel)
theorem DX4_payFor_21 : rs MX4_payFor 21 = some (.checkcast 88, 3, 3, 0, 0, []) := rs_of (by decide +kernel) (by decide +kernel)
theorem DX4_payFor_24 : rs MX4_payFor 24 = some (.astore_n 3, 1, 3, 0, 0, []) := rs_of (by decide +kernel) (by decide +kernel)
theorem DX4_payFor_25 : rs MX4_payFor 25 = some (.aload_n 3, 1, 3, 0, 0, []) := rs_of (by decide +kernel) (by decide +kernel)
theorem DX4_payFor_26 : rs MX4_payFor 26 = some (.getfield 180, 3, 3, 6, 0, []) := rs_of (by decide +kernel) (by decide +kernel)
theorem DX4_payFor_29 : rs MX4_payFor 29 = some (.aload_n 1, 1, 1, 0, 0, []) := rs_of (by decide +kernel) (by decide +kernel)
theorem DX4_payFor_30 : rs MX4_payFor 30 = some (.iload_n 2, 1, 2, 0, 0, []) := rs_of (by decide +kernel) (by decide +kernel)
theorem DX4_payFor_31 : rs MX4_payFor 31 = some (.invokevirtual 205, 3, 0, 0, 0, []) := rs_of (by decide +kernel) (by decide +kernel)
theorem DX4_payFor_34 : rs MX4_payFor 34 = some (.imul, 1, 0, 0, 0, []) := rs_of (by decide +kernel) (by decide +kernel)
theorem DX4_payFor_35 : rs MX4_payFor 35 = some (.istore 4, 2, 0, 0, 0, []) := rs_of (by decide +kernel) (by decide +kernel)
theorem DX4_payFor_37 : rs MX4_payFor 37 = some (.aload_n 0, 1, 0, 0, 0, []) := rs_of (by decide +kernel) (by decide +kernel)
theorem DX4_payFor_38 : rs MX4_payFor 38 = some (.getfield 12, 3, 5, 0, 0, []) := rs_of (by decide +kernel) (by decide +kernel)
theorem DX4_payFor_41 : rs MX4_payFor 41 = some (.aload_n 3, 1, 3, 0, 0, []) := rs_of (by decide +kernel) (by decide +kernel)
theorem DX4_payFor_42 : rs MX4_payFor 42 = some (.getfield 90, 3, 3, 1, 0, []) := rs_of (by decide +kernel) (by decide +kernel)
theorem DX4_payFor_45 : rs MX4_payFor 45 = some (.invokevirtual 313, 3, 0, 0, 0, []) := rs_of (by decide +kernel) (by decide +kernel)
theorem DX4_payFor_48 : rs MX4_payFor 48 = some (.istore 5, 2, 0, 0, 0, []) := rs_of (by decide +kernel) (by decide +kernel)
theorem DX4_payFor_50 : rs MX4_payFor 50 = some (.iload 5, 2, 0, 0, 0, []) := rs_of (by decide +kernel) (by decide +kernel)
theorem DX4_payFor_52 : rs MX4_payFor 52 = some (.ifCond .lt 25, 3, 77, 0, 0, []) := rs_of (by decide +kernel) (by decide +kernel)
theorem DX4_payFor_55 : rs MX4_payFor 55 = some (.iload 5, 2, 0, 0, 0, []) := rs_of (by decide +kernel) (by decide +kernel)
theorem DX4_payFor_57 : rs MX4_payFor 57 = some (.aload_n 0, 1, 0, 0, 0, []) := rs_of (by decide +kernel) (by decide +kernel)
theorem DX4_payFor_58 : rs MX4_payFor 58 = some (.getfield 26, 3, 5, 3, 0, []) := rs_of (by decide +kernel) (by decide +kernel)
theorem DX4_payFor_61 : rs MX4_payFor 61 = some (.arraylength, 1, 0, 0, 0, []) := rs_of (by decide +kernel) (by decide +kernel)
theorem DX4_payFor_62 : rs MX4_payFor 62 = some (.if_icmp .ge 15, 3, 77, 0, 0, []) := rs_of (by decide +kernel) (by decide +kernel)
theorem DX4_payFor_65 : rs MX4_payFor 65 = some (.aload_n 0, 1, 0, 0, 0, []) := rs_of (by decide +kernel) (by decide +kernel)
theorem DX4_payFor_66 : rs MX4_payFor 66 = some (.getfield 26, 3, 5, 3, 0, []) := rs_of (by decide +kernel) (by decide +kernel)
theorem DX4_payFor_69 : rs MX4_payFor 69 = some (.iload 5, 2, 0, 0, 0, []) := rs_of (by decide +kernel) (by decide +kernel)
theorem DX4_payFor_71 : rs MX4_payFor 71 = some (.dup2, 1, 0, 0, 0, []) := rs_of (by decide +kernel) (by decide +kernel)
theorem DX4_payFor_72 : rs MX4_payFor 72 = some (.iaload, 1, 0, 0, 0, []) := rs_of (by decide +kernel) (by decide +kernel)
theorem DX4_payFor_73 : rs MX4_payFor 73 = some (.iload 4, 2, 0, 0, 0, []) := rs_of (by decide +kernel) (by decide +kernel)
theorem DX4_payFor_75 : rs MX4_payFor 75 = some (.iadd, 1, 0, 0, 0, []) := rs_of (by decide +kernel) (by decide +kernel)
theorem DX4_payFor_76 : rs MX4_payFor 76 = some (.iastore, 1, 0, 0, 0, []) := rs_of (by decide +kernel) (by decide +kernel)
theorem DX4_payFor_77 : rs MX4_payFor 77 = some (.aload_n 3, 1, 3, 0, 0, []) := rs_of (by decide +kernel) (by decide +kernel)
theorem DX4_payFor_78 : rs MX4_payFor 78 = some (.getfield 186, 3, 3, 2, 0, []) := rs_of (by decide +kernel) (by decide +kernel)
theorem DX4_payFor_81 : rs MX4_payFor 81 = some (.ifCond .lt 29, 3, 110, 0, 0, []) := rs_of (by decide +kernel) (by decide +kernel)
theorem DX4_payFor_84 : rs MX4_payFor 84 = some (.aload_n 3, 1, 3, 0, 0, []) := rs_of (by decide +kernel) (by decide +kernel)
theorem DX4_payFor_85 : rs MX4_payFor 85 = some (.getfield 186, 3, 3, 2, 0, []) := rs_of (by decide +kernel) (by decide +kernel)
theorem DX4_payFor_88 : rs MX4_payFor 88 = some (.aload_n 0, 1, 0, 0, 0, []) := rs_of (by decide +kernel) (by decide +kernel)
theorem DX4_payFor_89 : rs MX4_payFor 89 = some (.getfield 30, 3, 5, 4, 0, []) := rs_of (by decide +kernel) (by decide +kernel)
theorem DX4_payFor_92 : rs MX4_payFor 92 = some (.arraylength, 1, 0, 0, 0, []) := rs_of (by decide +kernel) (by decide +kernel)
theorem DX4_payFor_93 : rs MX4_payFor 93 = some (.if_icmp .ge 17, 3, 110, 0, 0, []) := rs_of (by decide +kernel) (by decide +kernel)
theorem DX4_payFor_96 : rs MX4_payFor 96 = some (.aload_n 0, 1, 0, 0, 0, []) := rs_of (by decide +kernel) (by decide +kernel)
theorem DX4_payFor_97 : rs MX4_payFor 97 = some (.getfield 30, 3, 5, 4, 0, []) := rs_of (by decide +kernel) (by decide +kernel)
theorem DX4_payFor_100 : rs MX4_payFor 100 = some (.aload_n 3, 1, 3, 0, 0, []) := rs_of (by decide +kernel) (by decide +kernel)
theorem DX4_payFor_101 : rs MX4_payFor 101 = some (.getfield 186, 3, 3, 2, 0, []) := rs_of (by decide +kernel) (by decide +kernel)
theorem DX4_payFor_104 : rs MX4_payFor 104 = some (.dup2, 1, 0, 0, 0, []) := rs_of (by decide +kernel) (by decide +kernel)
theorem DX4_payFor_105 : rs MX4_payFor 105 = some (.iaload, 1, 0, 0, 0, []) := rs_of (by decide +kernel) (by decide +kernel)
theorem DX4_payFor_106 : rs MX4_payFor 106 = some (.iload 4, 2, 0, 0, 0, []) := rs_of (by decide +kernel) (by decide +kernel)
theorem DX4_payFor_108 : rs MX4_payFor 108 = some (.iadd, 1, 0, 0, 0, []) := rs_of (by decide +kernel) (by decide +kernel)
theorem DX4_payFor_109 : rs MX4_payFor 109 = some (.iastore, 1, 0, 0, 0, []) := rs_of (by decide +kernel) (by decide +kernel)
theorem DX4_payFor_110 : rs MX4_payFor 110 = some (.aload_n 3, 1, 3, 0, 0, []) := rs_of (by decide +kernel) (by decide +kernel)
theorem DX4_payFor_111 : rs MX4_payFor 111 = some (.dup, 1, 0, 0, 0, []) := rs_of (by decide +kernel) (by decide +kernel)
theorem DX4_payFor_112 : rs MX4_payFor 112 = some (.getfield 198, 3, 3, 9, 0, []) := rs_of (by decide +kernel) (by decide +kernel)
theorem DX4_payFor_115 : rs MX4_payFor 115 = some (.iload 4, 2, 0, 0, 0, []) := rs_of (by decide +kernel) (by decide +kernel)
theorem DX4_payFor_117 : rs MX4_payFor 117 = some (.iadd, 1, 0, 0, 0, []) := rs_of (by decide +kernel) (by decide +kernel)
theorem DX4_payFor_118 : rs MX4_payFor 118 = some (.putfield 198, 3, 3, 9, 0, []) := rs_of (by decide +kernel) (by decide +kernel)
theorem DX4_payFor_121 : rs MX4_payFor 121 = some (.iinc 2 1, 3, 2, 0, 1, []) := rs_of (by decide +kernel) (by decide +kernel)
theorem DX4_payFor_124 : rs MX4_payFor 124 = some (.goto (-122), 3, 2, 0, 0, []) := rs_of (by decide +kernel) (by decide +kernel)
theorem DX4_payFor_127 : rs MX4_payFor 127 = some (.return_, 1, 0, 0, 0, []) := rs_of (by decide +kernel) (by decide +kernel)
theorem DX4_warn_0 : rs MX4_warn 0 = some (.iconst 0, 1, 0, 0, 0, []) := rs_of (by decide +kernel) (by decide +kernel)
theorem DX4_warn_1 : rs MX4_warn 1 = some (.istore_n 1, 1, 1, 0, 0, []) := rs_of (by decide +kernel) (by decide +kernel)
theorem DX4_warn_2 : rs MX4_warn 2 = some (.iload_n 1, 1, 1, 0, 0, []) := rs_of (by decide +kernel) (by decide +kernel)
theorem DX4_warn_3 : rs MX4_warn 3 = some (.aload_n 0, 1, 0, 0, 0, []) := rs_of (by decide +kernel) (by decide +kernel)
theorem DX4_warn_4 : rs MX4_warn 4 = some (.getfield 23, 3, 5, 2, 0, []) := rs_of (by decide +kernel) (by decide +kernel)
theorem DX4_warn_7 : rs MX4_warn 7 = some (.invokevirtual 49, 3, 0, 0, 0, []) := rs_of (by decide +kernel) (by decide +kernel)
theorem DX4_warn_10 : rs MX4_warn 10 = some (.if_icmp .ge 66, 3, 76, 0, 0, []) := rs_of (by decide +kernel) (by decide +kernel)
theorem DX4_warn_13 : rs MX4_warn 13 = some (.aload_n 0, 1, 0, 0, 0, []) := rs_of (by decide +kernel) (by decide +kernel)
theorem DX4_warn_14 : rs MX4_warn 14 = some (.getfield 23, 3, 5, 2, 0, []) := rs_of (by decide +kernel) (by decide +kernel)
theorem DX4_warn_17 : rs MX4_warn 17 = some (.iload_n 1, 1, 1, 0, 0, []) := rs_of (by decide +kernel) (by decide +kernel)
theorem DX4_warn_18 : rs MX4_warn 18 = some (.invokevirtual 84, 3, 0, 0, 0, []) := rs_of (by decide +kernel) (by decide +kernel)
theorem DX4_warn_21 : rs MX4_warn 21 = some (.checkcast 88, 3, 3, 0, 0, []) := rs_of (by decide +kernel) (by decide +kernel)
theorem DX4_warn_24 : rs MX4_warn 24 = some (.astore_n 2, 1, 2, 0, 0, []) := rs_of (by decide +kernel) (by decide +kernel)
theorem DX4_warn_25 : rs MX4_warn 25 = some (.aload_n 2, 1, 2, 0, 0, []) := rs_of (by decide +kernel) (by decide +kernel)
theorem DX4_warn_26 : rs MX4_warn 26 = some (.getfield 94, 3, 3, 7, 0, []) := rs_of (by decide +kernel) (by decide +kernel)
theorem DX4_warn_29 : rs MX4_warn 29 = some (.ifCond .eq 41, 3, 70, 0, 0, []) := rs_of (by decide +kernel) (by decide +kernel)
theorem DX4_warn_32 : rs MX4_warn 32 = some (.iconst 2, 1, 0, 0, 2, []) := rs_of (by decide +kernel) (by decide +kernel)
theorem DX4_warn_33 : rs MX4_warn 33 = some (.aload_n 0, 1, 0, 0, 0, []) := rs_of (by decide +kernel) (by decide +kernel)
theorem DX4_warn_34 : rs MX4_warn 34 = some (.aload_n 2, 1, 2, 0, 0, []) := rs_of (by decide +kernel) (by decide +kernel)
theorem DX4_warn_35 : rs MX4_warn 35 = some (.invokevirtual 201, 3, 0, 0, 0, []) := rs_of (by decide +kernel) (by decide +kernel)
theorem DX4_warn_38 : rs MX4_warn 38 = some (.imul, 1, 0, 0, 0, []) := rs_of (by decide +kernel) (by decide +kernel)
theorem DX4_warn_39 : rs MX4_warn 39 = some (.aload_n 2, 1, 2, 0, 0, []) := rs_of (by decide +kernel) (by decide +kernel)
theorem DX4_warn_40 : rs MX4_warn 40 = some (.invokevirtual 261, 3, 0, 0, 0, []) := rs_of (by decide +kernel) (by decide +kernel)
theorem DX4_warn_43 : rs MX4_warn 43 = some (.if_icmp .le 7, 3, 50, 0, 0, []) := rs_of (by decide +kernel) (by decide +kernel)
theorem DX4_warn_46 : rs MX4_warn 46 = some (.iconst 1, 1, 0, 0, 1, []) := rs_of (by decide +kernel) (by decide +kernel)
theorem DX4_warn_47 : rs MX4_warn 47 = some (.goto 4, 3, 51, 0, 0, []) := rs_of (by decide +kernel) (by decide +kernel)
theorem DX4_warn_50 : rs MX4_warn 50 = some (.iconst 0, 1, 0, 0, 0, []) := rs_of (by decide +kernel) (by decide +kernel)
theorem DX4_warn_51 : rs MX4_warn 51 = some (.istore_n 3, 1, 3, 0, 0, []) := rs_of (by decide +kernel) (by decide +kernel)
theorem DX4_warn_52 : rs MX4_warn 52 = some (.aload_n 2, 1, 2, 0, 0, []) := rs_of (by decide +kernel) (by decide +kernel)
theorem DX4_warn_53 : rs MX4_warn 53 = some (.iload_n 3, 1, 3, 0, 0, []) := rs_of (by decide +kernel) (by decide +kernel)
theorem DX4_warn_54 : rs MX4_warn 54 = some (.ifCond .eq 12, 3, 66, 0, 0, []) := rs_of (by decide +kernel) (by decide +kernel)
theorem DX4_warn_57 : rs MX4_warn 57 = some (.aload_n 2, 1, 2, 0, 0, []) := rs_of (by decide +kernel) (by decide +kernel)
theorem DX4_warn_58 : rs MX4_warn 58 = some (.getfield 177, 3, 3, 8, 0, []) := rs_of (by decide +kernel) (by decide +kernel)
theorem DX4_warn_61 : rs MX4_warn 61 = some (.iconst 1, 1, 0, 0, 1, []) := rs_of (by decide +kernel) (by decide +kernel)
theorem DX4_warn_62 : rs MX4_warn 62 = some (.iadd, 1, 0, 0, 0, []) := rs_of (by decide +kernel) (by decide +kernel)
theorem DX4_warn_63 : rs MX4_warn 63 = some (.goto 4, 3, 67, 0, 0, []) := rs_of (by decide +kernel) (by decide +kernel)
theorem DX4_warn_66 : rs MX4_warn 66 = some (.iconst 0, 1, 0, 0, 0, []) := rs_of (by decide +kernel) (by decide +kernel)
theorem DX4_warn_67 : rs MX4_warn 67 = some (.putfield 177, 3, 3, 8, 0, []) := rs_of (by decide +kernel) (by decide +kernel)
theorem DX4_warn_70 : rs MX4_warn 70 = some (.iinc 1 1, 3, 1, 0, 1, []) := rs_of (by decide +kernel) (by decide +kernel)
theorem DX4_warn_73 : rs MX4_warn 73 = some (.goto (-71), 3, 2, 0, 0, []) := rs_of (by decide +kernel) (by decide +kernel)
theorem DX4_warn_76 : rs MX4_warn 76 = some (.return_, 1, 0, 0, 0, []) := rs_of (by decide +kernel) (by decide +kernel)
theorem DX4_evict_0 : rs MX4_evict 0 = some (.iconst 0, 1, 0, 0, 0, []) := rs_of (by decide +kernel) (by decide +kernel)
theorem DX4_evict_1 : rs MX4_evict 1 = some (.istore_n 1, 1, 1, 0, 0, []) := rs_of (by decide +kernel) (by decide +kernel)
theorem DX4_evict_2 : rs MX4_evict 2 = some (.iload_n 1, 1, 1, 0, 0, []) := rs_of (by decide +kernel) (by decide +kernel)
theorem DX4_evict_3 : rs MX4_evict 3 = some (.aload_n 0, 1, 0, 0, 0, []) := rs_of (by decide +kernel) (by decide +kernel)
theorem DX4_evict_4 : rs MX4_evict 4 = some (.getfield 23, 3, 5, 2, 0, []) := rs_of (by decide +kernel) (by decide +kernel)
theorem DX4_evict_7 : rs MX4_evict 7 = some (.invokevirtual 49, 3, 0, 0, 0, []) := rs_of (by decide +kernel) (by decide +kernel)
theorem DX4_evict_10 : rs MX4_evict 10 = some (.if_icmp .ge 55, 3, 65, 0, 0, []) := rs_of (by decide +kernel) (by decide +kernel)
theorem DX4_evict_13 : rs MX4_evict 13 = some (.aload_n 0, 1, 0, 0, 0, []) := rs_of (by decide +kernel) (by decide +kernel)
theorem DX4_evict_14 : rs MX4_evict 14 = some (.getfield 23, 3, 5, 2, 0, []) := rs_of (by decide +kernel) (by decide +kernel)
theorem DX4_evict_17 : rs MX4_evict 17 = some (.iload_n 1, 1, 1, 0, 0, []) := rs_of (by decide +kernel) (by decide +kernel)
theorem DX4_evict_18 : rs MX4_evict 18 = some (.invokevirtual 84, 3, 0, 0, 0, []) := rs_of (by decide +kernel) (by decide +kernel)
theorem DX4_evict_21 : rs MX4_evict 21 = some (.checkcast 88, 3, 3, 0, 0, []) := rs_of (by decide +kernel) (by decide +kernel)
theorem DX4_evict_24 : rs MX4_evict 24 = some (.astore_n 2, 1, 2, 0, 0, []) := rs_of (by decide +kernel) (by decide +kernel)
theorem DX4_evict_25 : rs MX4_evict 25 = some (.aload_n 2, 1, 2, 0, 0, []) := rs_of (by decide +kernel) (by decide +kernel)
theorem DX4_evict_26 : rs MX4_evict 26 = some (.getfield 94, 3, 3, 7, 0, []) := rs_of (by decide +kernel) (by decide +kernel)
theorem DX4_evict_29 : rs MX4_evict 29 = some (.ifCond .eq 30, 3, 59, 0, 0, []) := rs_of (by decide +kernel) (by decide +kernel)
theorem DX4_evict_32 : rs MX4_evict 32 = some (.aload_n 2, 1, 2, 0, 0, []) := rs_of (by decide +kernel) (by decide +kernel)
theorem DX4_evict_33 : rs MX4_evict 33 = some (.getfield 177, 3, 3, 8, 0, []) := rs_of (by decide +kernel) (by decide +kernel)
theorem DX4_evict_36 : rs MX4_evict 36 = some (.iconst 2, 1, 0, 0, 2, []) := rs_of (by decide +kernel) (by decide +kernel)
theorem DX4_evict_37 : rs MX4_evict 37 = some (.if_icmp .lt 22, 3, 59, 0, 0, []) := rs_of (by decide +kernel) (by decide +kernel)
theorem DX4_evict_40 : rs MX4_evict 40 = some (.aload_n 2, 1, 2, 0, 0, []) := rs_of (by decide +kernel) (by decide +kernel)
theorem DX4_evict_41 : rs MX4_evict 41 = some (.iconst 0, 1, 0, 0, 0, []) := rs_of (by decide +kernel) (by decide +kernel)
theorem DX4_evict_42 : rs MX4_evict 42 = some (.putfield 94, 3, 3, 7, 0, []) := rs_of (by decide +kernel) (by decide +kernel)
theorem DX4_evict_45 : rs MX4_evict 45 = some (.aload_n 0, 1, 0, 0, 0, []) := rs_of (by decide +kernel) (by decide +kernel)
theorem DX4_evict_46 : rs MX4_evict 46 = some (.dup, 1, 0, 0, 0, []) := rs_of (by decide +kernel) (by decide +kernel)
theorem DX4_evict_47 : rs MX4_evict 47 = some (.getfield 226, 3, 5, 6, 0, []) := rs_of (by decide +kernel) (by decide +kernel)
theorem DX4_evict_50 : rs MX4_evict 50 = some (.iconst 1, 1, 0, 0, 1, []) := rs_of (by decide +kernel) (by decide +kernel)
theorem DX4_evict_51 : rs MX4_evict 51 = some (.iadd, 1, 0, 0, 0, []) := rs_of (by decide +kernel) (by decide +kernel)
theorem DX4_evict_52 : rs MX4_evict 52 = some (.putfield 226, 3, 5, 6, 0, []) := rs_of (by decide +kernel) (by decide +kernel)
theorem DX4_evict_55 : rs MX4_evict 55 = some (.aload_n 0, 1, 0, 0, 0, []) := rs_of (by decide +kernel) (by decide +kernel)
theorem DX4_evict_56 : rs MX4_evict 56 = some (.invokevirtual 170, 3, 0, 0, 0, []) := rs_of (by decide +kernel) (by decide +kernel)
theorem DX4_evict_59 : rs MX4_evict 59 = some (.iinc 1 1, 3, 1, 0, 1, []) := rs_of (by decide +kernel) (by decide +kernel)
theorem DX4_evict_62 : rs MX4_evict 62 = some (.goto (-60), 3, 2, 0, 0, []) := rs_of (by decide +kernel) (by decide +kernel)
theorem DX4_evict_65 : rs MX4_evict 65 = some (.return_, 1, 0, 0, 0, []) := rs_of (by decide +kernel) (by decide +kernel)
end
section
theorem DX5_init_0 : rs MX5_init 0 = some (.aload_n 0, 1, 0, 0, 0, []) := rs_of (by decide +kernel) (by decide +kernel)
theorem DX5_init_1 : rs MX5_init 1 = some (.invokespecial 1, 3, 0, 0, 0, []) := rs_of (by decide +kernel) (by decide +kernel)
theorem DX5_init_4 : rs MX5_init 4 = some (.aload_n 0, 1, 0, 0, 0, []) := rs_of (by decide +kernel) (by decide +kernel)
theorem DX5_init_5 : rs MX5_init 5 = some (.bipush 12, 2, 0, 0, 12, []) := rs_of (by decide +kernel) (by decide +kernel)
theorem DX5_init_7 : rs MX5_init 7 = some (.anewarray 7, 3, 62, 0, 0, []) := rs_of (by decide +kernel) (by decide +kernel)
theorem DX5_init_10 : rs MX5_init 10 = some (.putfield 9, 3, 6, 2, 0, []) := rs_of (by decide +kernel) (by decide +kernel)
theorem DX5_init_13 : rs MX5_init 13 = some (.aload_n 0, 1, 0, 0, 0, []) := rs_of (by decide +kernel) (by decide +kernel)
theorem DX5_init_14 : rs MX5_init 14 = some (.iconst 0, 1, 0, 0, 0, []) := rs_of (by decide +kernel) (by decide +kernel)
theorem DX5_init_15 : rs MX5_init 15 = some (.anewarray 7, 3, 62, 0, 0, []) := rs_of (by decide +kernel) (by decide +kernel)
theorem DX5_init_18 : rs MX5_init 18 = some (.putfield 15, 3, 6, 3, 0, []) := rs_of (by decide +kernel) (by decide +kernel)
theorem DX5_init_21 : rs MX5_init 21 = some (.aload_n 0, 1, 0, 0, 0, []) := rs_of (by decide +kernel) (by decide +kernel)
theorem DX5_init_22 : rs MX5_init 22 = some (.iconst 0, 1, 0, 0, 0, []) := rs_of (by decide +kernel) (by decide +kernel)
theorem DX5_init_23 : rs MX5_init 23 = some (.anewarray 7, 3, 62, 0, 0, []) := rs_of (by decide +kernel) (by decide +kernel)
theorem DX5_init_26 : rs MX5_init 26 = some (.putfield 18, 3, 6, 4, 0, []) := rs_of (by decide +kernel) (by decide +kernel)
theorem DX5_init_29 : rs MX5_init 29 = some (.aload_n 0, 1, 0, 0, 0, []) := rs_of (by decide +kernel) (by decide +kernel)
theorem DX5_init_30 : rs MX5_init 30 = some (.bipush 8, 2, 0, 0, 8, []) := rs_of (by decide +kernel) (by decide +kernel)
theorem DX5_init_32 : rs MX5_init 32 = some (.newarray .int, 2, 0, 0, 0, []) := rs_of (by decide +kernel) (by decide +kernel)
theorem DX5_init_34 : rs MX5_init 34 = some (.putfield 21, 3, 6, 5, 0, []) := rs_of (by decide +kernel) (by decide +kernel)
theorem DX5_init_37 : rs MX5_init 37 = some (.aload_n 0, 1, 0, 0, 0, []) := rs_of (by decide +kernel) (by decide +kernel)
theorem DX5_init_38 : rs MX5_init 38 = some (.bipush 16, 2, 0, 0, 16, []) := rs_of (by decide +kernel) (by decide +kernel)
theorem DX5_init_40 : rs MX5_init 40 = some (.newarray .int, 2, 0, 0, 0, []) := rs_of (by decide +kernel) (by decide +kernel)
theorem DX5_init_42 : rs MX5_init 42 = some (.putfield 24, 3, 6, 6, 0, []) := rs_of (by decide +kernel) (by decide +kernel)
theorem DX5_init_45 : rs MX5_init 45 = some (.aload_n 0, 1, 0, 0, 0, []) := rs_of (by decide +kernel) (by decide +kernel)
theorem DX5_init_46 : rs MX5_init 46 = some (.bipush 12, 2, 0, 0, 12, []) := rs_of (by decide +kernel) (by decide +kernel)
theorem DX5_init_48 : rs MX5_init 48 = some (.sipush 256, 3, 0, 0, 256, []) := rs_of (by decide +kernel) (by decide +kernel)
theorem DX5_init_51 : rs MX5_init 51 = some (.multianewarray 27 2, 4, 63, 0, 0, []) := rs_of (by decide +kernel) (by decide +kernel)
theorem DX5_init_55 : rs MX5_init 55 = some (.putfield 28, 3, 6, 7, 0, []) := rs_of (by decide +kernel) (by decide +kernel)
theorem DX5_init_58 : rs MX5_init 58 = some (.aload_n 0, 1, 0, 0, 0, []) := rs_of (by decide +kernel) (by decide +kernel)
theorem DX5_init_59 : rs MX5_init 59 = some (.bipush 12, 2, 0, 0, 12, []) := rs_of (by decide +kernel) (by decide +kernel)
theorem DX5_init_61 : rs MX5_init 61 = some (.sipush 256, 3, 0, 0, 256, []) := rs_of (by decide +kernel) (by decide +kernel)
theorem DX5_init_64 : rs MX5_init 64 = some (.multianewarray 27 2, 4, 63, 0, 0, []) := rs_of (by decide +kernel) (by decide +kernel)
theorem DX5_init_68 : rs MX5_init 68 = some (.putfield 31, 3, 6, 8, 0, []) := rs_of (by decide +kernel) (by decide +kernel)
theorem DX5_init_71 : rs MX5_init 71 = some (.iconst 0, 1, 0, 0, 0, []) := rs_of (by decide +kernel) (by decide +kernel)
theorem DX5_init_72 : rs MX5_init 72 = some (.istore_n 1, 1, 1, 0, 0, []) := rs_of (by decide +kernel) (by decide +kernel)
theorem DX5_init_73 : rs MX5_init 73 = some (.iload_n 1, 1, 1, 0, 0, []) := rs_of (by decide +kernel) (by decide +kernel)
theorem DX5_init_74 : rs MX5_init 74 = some (.bipush 12, 2, 0, 0, 12, []) := rs_of (by decide +kernel) (by decide +kernel)
theorem DX5_init_76 : rs MX5_init 76 = some (.if_icmp .ge 82, 3, 158, 0, 0, []) := rs_of (by decide +kernel) (by decide +kernel)
theorem DX5_init_79 : rs MX5_init 79 = some (.aload_n 0, 1, 0, 0, 0, []) := rs_of (by decide +kernel) (by decide +kernel)
theorem DX5_init_80 : rs MX5_init 80 = some (.getfield 9, 3, 6, 2, 0, []) := rs_of (by decide +kernel) (by decide +kernel)
theorem DX5_init_83 : rs MX5_init 83 = some (.iload_n 1, 1, 1, 0, 0, []) := rs_of (by decide +kernel) (by decide +kernel)
theorem DX5_init_84 : rs MX5_init 84 = some (.iload_n 1, 1, 1, 0, 0, []) := rs_of (by decide +kernel) (by decide +kernel)
theorem DX5_init_85 : rs MX5_init 85 = some (.iconst 5, 1, 0, 0, 5, []) := rs_of (by decide +kernel) (by decide +kernel)
theorem DX5_init_86 : rs MX5_init 86 = some (.if_icmp .ge 23, 3, 109, 0, 0, []) := rs_of (by decide +kernel) (by decide +kernel)
theorem DX5_init_89 : rs MX5_init 89 = some (.iconst 3, 1, 0, 0, 3, []) := rs_of (by decide +kernel) (by decide +kernel)
theorem DX5_init_90 : rs MX5_init 90 = some (.newarray .int, 2, 0, 0, 0, []) := rs_of (by decide +kernel) (by decide +kernel)
theorem DX5_init_92 : rs MX5_init 92 = some (.dup, 1, 0, 0, 0, []) := rs_of (by decide +kernel) (by decide +kernel)
theorem DX5_init_93 : rs MX5_init 93 = some (.iconst 0, 1, 0, 0, 0, []) := rs_of (by decide +kernel) (by decide +kernel)
theorem DX5_init_94 : rs MX5_init 94 = some (.iconst (-1), 1, 0, 0, (-1), []) := rs_of (by decide +kernel) (by decide +kernel)
theorem DX5_init_95 : rs MX5_init 95 = some (.iastore, 1, 0, 0, 0, []) := rs_of (by decide +kernel) (by decide +kernel)
theorem DX5_init_96 : rs MX5_init 96 = some (.dup, 1, 0, 0, 0, []) := rs_of (by decide +kernel) (by decide +kernel)
theorem DX5_init_97 : rs MX5_init 97 = some (.iconst 1, 1, 0, 0, 1, []) := rs_of (by decide +kernel) (by decide +kernel)
theorem DX5_init_98 : rs MX5_init 98 = some (.iconst 0, 1, 0, 0, 0, []) := rs_of (by decide +kernel) (by decide +kernel)
theorem DX5_init_99 : rs MX5_init 99 = some (.iastore, 1, 0, 0, 0, []) := rs_of (by decide +kernel) (by decide +kernel)
theorem DX5_init_100 : rs MX5_init 100 = some (.dup, 1, 0, 0, 0, []) := rs_of (by decide +kernel) (by decide +kernel)
theorem DX5_init_101 : rs MX5_init 101 = some (.iconst 2, 1, 0, 0, 2, []) := rs_of (by decide +kernel) (by decide +kernel)
theorem DX5_init_102 : rs MX5_init 102 = some (.iconst 5, 1, 0, 0, 5, []) := rs_of (by decide +kernel) (by decide +kernel)
theorem DX5_init_103 : rs MX5_init 103 = some (.iload_n 1, 1, 1, 0, 0, []) := rs_of (by decide +kernel) (by decide +kernel)
theorem DX5_init_104 : rs MX5_init 104 = some (.isub, 1, 0, 0, 0, []) := rs_of (by decide +kernel) (by decide +kernel)
theorem DX5_init_105 : rs MX5_init 105 = some (.iastore, 1, 0, 0, 0, []) := rs_of (by decide +kernel) (by decide +kernel)
theorem DX5_init_106 : rs MX5_init 106 = some (.goto 45, 3, 151, 0, 0, []) := rs_of (by decide +kernel) (by decide +kernel)
theorem DX5_init_109 : rs MX5_init 109 = some (.iload_n 1, 1, 1, 0, 0, []) := rs_of (by decide +kernel) (by decide +kernel)
theorem DX5_init_110 : rs MX5_init 110 = some (.bipush 7, 2, 0, 0, 7, []) := rs_of (by decide +kernel) (by decide +kernel)
theorem DX5_init_112 : rs MX5_init 112 = some (.if_icmp .ge 21, 3, 133, 0, 0, []) := rs_of (by decide +kernel) (by decide +kernel)
theorem DX5_init_115 : rs MX5_init 115 = some (.iconst 3, 1, 0, 0, 3, []) := rs_of (by decide +kernel) (by decide +kernel)
theorem DX5_init_116 : rs MX5_init 116 = some (.newarray .int, 2, 0, 0, 0, []) := rs_of (by decide +kernel) (by decide +kernel)
theorem DX5_init_118 : rs MX5_init 118 = some (.dup, 1, 0, 0, 0, []) := rs_of (by decide +kernel) (by decide +kernel)
theorem DX5_init_119 : rs MX5_init 119 = some (.iconst 0, 1, 0, 0, 0, []) := rs_of (by decide +kernel) (by decide +kernel)
theorem DX5_init_120 : rs MX5_init 120 = some (.iconst 0, 1, 0, 0, 0, []) := rs_of (by decide +kernel) (by decide +kernel)
theorem DX5_init_121 : rs MX5_init 121 = some (.iastore, 1, 0, 0, 0, []) := rs_of (by decide +kernel) (by decide +kernel)
theorem DX5_init_122 : rs MX5_init 122 = some (.dup, 1, 0, 0, 0, []) := rs_of (by decide +kernel) (by decide +kernel)
theorem DX5_init_123 : rs MX5_init 123 = some (.iconst 1, 1, 0, 0, 1, []) := rs_of (by decide +kernel) (by decide +kernel)
theorem DX5_init_124 : rs MX5_init 124 = some (.iconst (-1), 1, 0, 0, (-1), []) := rs_of (by decide +kernel) (by decide +kernel)
theorem DX5_init_125 : rs MX5_init 125 = some (.iastore, 1, 0, 0, 0, []) := rs_of (by decide +kernel) (by decide +kernel)
theorem DX5_init_126 : rs MX5_init 126 = some (.dup, 1, 0, 0, 0, []) := rs_of (by decide +kernel) (by decide +kernel)
theorem DX5_init_127 : rs MX5_init 127 = some (.iconst 2, 1, 0, 0, 2, []) := rs_of (by decide +kernel) (by decide +kernel)
theorem DX5_init_128 : rs MX5_init 128 = some (.iconst 1, 1, 0, 0, 1, []) := rs_of (by decide +kernel) (by decide +kernel)
theorem DX5_init_129 : rs MX5_init 129 = some (.iastore, 1, 0, 0, 0, []) := rs_of (by decide +kernel) (by decide +kernel)
theorem DX5_init_130 : rs MX5_init 130 = some (.goto 21, 3, 151, 0, 0, []) := rs_of (by decide +kernel) (by decide +kernel)
theorem DX5_init_133 : rs MX5_init 133 = some (.iconst 3, 1, 0, 0, 3, []) := rs_of (by decide +kernel) (by decide +kernel)
theorem DX5_init_134 : rs MX5_init 134 = some (.newarray .int, 2, 0, 0, 0, []) := rs_of (by decide +kernel) (by decide +kernel)
theorem DX5_init_136 : rs MX5_init 136 = some (.dup, 1, 0, 0, 0, []) := rs_of (by decide +kernel) (by decide +kernel)
theorem DX5_init_137 : rs MX5_init 137 = some (.iconst 0, 1, 0, 0, 0, []) := rs_of (by decide +kernel) (by decide +kernel)
theorem DX5_init_138 : rs MX5_init 138 = some (.iconst 1, 1, 0, 0, 1, []) := rs_of (by decide +kernel) (by decide +kernel)
theorem DX5_init_139 : rs MX5_init 139 = some (.iastore, 1, 0, 0, 0, []) := rs_of (by decide +kernel) (by decide +kernel)
theorem DX5_init_140 : rs MX5_init 140 = some (.dup, 1, 0, 0, 0, []) := rs_of (by decide +kernel) (by decide +kernel)
theorem DX5_init_141 : rs MX5_init 141 = some (.iconst 1, 1, 0, 0, 1, []) := rs_of (by decide +kernel) (by decide +kernel)
theorem DX5_init_142 : rs MX5_init 142 = some (.iconst 0, 1, 0, 0, 0, []) := rs_of (by decide +kernel) (by decide +kernel)
theorem DX5_init_143 : rs MX5_init 143 = some (.iastore, 1, 0, 0, 0, []) := rs_of (by decide +kernel) (by decide +kernel)
theorem DX5_init_144 : rs MX5_init 144 = some (.dup, 1, 0, 0, 0, []) := rs_of (by decide +kernel) (by decide +kernel)
theorem DX5_init_145 : rs MX5_init 145 = some (.iconst 2, 1, 0, 0, 2, []) := rs_of (by decide +kernel) (by decide +kernel)
theorem DX5_init_146 : rs MX5_init 146 = some (.iload_n 1, 1, 1, 0, 0, []) := rs_of (by decide +kernel) (by decide +kernel)
theorem DX5_init_147 : rs MX5_init 147 = some (.bipush 6, 2, 0, 0, 6, []) := rs_of (by decide +kernel) (by decide +kernel)
theorem DX5_init_149 : rs MX5_init 149 = some (.isub, 1, 0, 0, 0, []) := rs_of (by decide +kernel) (by decide +kernel)
theorem DX5_init_150 : rs MX5_init 150 = some (.iastore, 1, 0, 0, 0, []) := rs_of (by decide +kernel) (by decide +kernel)
theorem DX5_init_151 : rs MX5_init 151 = some (.aastore, 1, 25, 0, 0, []) := rs_of (by decide +kernel) (by decide +kernel)
theorem DX5_init_152 : rs MX5_init 152 = some (.iinc 1 1, 3, 1, 0, 1, []) := rs_of (by decide +kernel) (by decide +kernel)
theorem DX5_init_155 : rs MX5_init 155 = some (.goto (-82), 3, 73, 0, 0, []) := rs_of (by decide +kernel) (by decide +kernel)
theorem DX5_init_158 : rs MX5_init 158 = some (.aload_n 0, 1, 0, 0, 0, []) := rs_of (by decide +kernel) (by decide +kernel)
theorem DX5_init_159 : rs MX5_init 159 = some (.invokevirtual 34, 3, 0, 0, 0, []) := rs_of (by decide +kernel) (by decide +kernel)
theorem DX5_init_162 : rs MX5_init 162 = some (.return_, 1, 0, 0, 0, []) := rs_of (by decide +kernel) (by decide +kernel)
theorem DX5_more_0 : rs MX5_more 0 = some (.aload_n 0, 1, 0, 0, 0, []) := rs_of (by decide +kernel) (by decide +kernel)
theorem DX5_more_1 : rs MX5_more 1 = some (.arraylength, 1, 25, 0, 0, []) := rs_of (by decide +kernel) (by decide +kernel)
theorem DX5_more_2 : rs MX5_more 2 = some (.iconst 1, 1, 0, 0, 1, []) := rs_of (by decide +kernel) (by decide +kernel)
theorem DX5_more_3 : rs MX5_more 3 = some (.iadd, 1, 0, 0, 0, []) := rs_of (by decide +kernel) (by decide +kernel)
theorem DX5_more_4 : rs MX5_more 4 = some (.anewarray 7, 3, 62, 0, 0, []) := rs_of (by decide +kernel) (by decide +kernel)
theorem DX5_more_7 : rs MX5_more 7 = some (.astore_n 2, 1, 2, 0, 0, []) := rs_of (by decide +kernel) (by decide +kernel)
theorem DX5_more_8 : rs MX5_more 8 = some (.iconst 0, 1, 0, 0, 0, []) := rs_of (by decide +kernel) (by decide +kernel)
theorem DX5_more_9 : rs MX5_more 9 = some (.istore_n 3, 1, 3, 0, 0, []) := rs_of (by decide +kernel) (by decide +kernel)
theorem DX5_more_10 : rs MX5_more 10 = some (.iload_n 3, 1, 3, 0, 0, []) := rs_of (by decide +kernel) (by decide +kernel)
theorem DX5_more_11 : rs MX5_more 11 = some (.aload_n 0, 1, 0, 0, 0, []) := rs_of (by decide +kernel) (by decide +kernel)
theorem DX5_more_12 : rs MX5_more 12 = some (.arraylength, 1, 25, 0, 0, []) := rs_of (by decide +kernel) (by decide +kernel)
theorem DX5_more_13 : rs MX5_more 13 = some (.if_icmp .ge 15, 3, 28, 0, 0, []) := rs_of (by decide +kernel) (by decide +kernel)
theorem DX5_more_16 : rs MX5_more 16 = some (.aload_n 2, 1, 2, 0, 0, []) := rs_of (by decide +kernel) (by decide +kernel)
theorem DX5_more_17 : rs MX5_more 17 = some (.iload_n 3, 1, 3, 0, 0, []) := rs_of (by decide +kernel) (by decide +kernel)
theorem DX5_more_18 : rs MX5_more 18 = some (.aload_n 0, 1, 0, 0, 0, []) := rs_of (by decide +kernel) (by decide +kernel)
theorem DX5_more_19 : rs MX5_more 19 = some (.iload_n 3, 1, 3, 0, 0, []) := rs_of (by decide +kernel) (by decide +kernel)
theorem DX5_more_20 : rs MX5_more 20 = some (.aaload, 1, 25, 0, 0, []) := rs_of (by decide +kernel) (by decide +kernel)
theorem DX5_more_21 : rs MX5_more 21 = some (.aastore, 1, 25, 0, 0, []) := rs_of (by decide +kernel) (by decide +kernel)
theorem DX5_more_22 : rs MX5_more 22 = some (.iinc 3 1, 3, 3, 0, 1, []) := rs_of (by decide +kernel) (by decide +kernel)
theorem DX5_more_25 : rs MX5_more 25 = some (.goto (-15), 3, 10, 0, 0, []) := rs_of (by decide +kernel) (by decide +kernel)
theorem DX5_more_28 : rs MX5_more 28 = some (.aload_n 2, 1, 2, 0, 0, []) := rs_of (by decide +kernel) (by decide +kernel)
theorem DX5_more_29 : rs MX5_more 29 = some (.aload_n 0, 1, 0, 0, 0, []) := rs_of (by decide +kernel) (by decide +kernel)
theorem DX5_more_30 : rs MX5_more 30 = some (.arraylength, 1, 25, 0, 0, []) := rs_of (by decide +kernel) (by decide +kernel)
theorem DX5_more_31 : rs MX5_more 31 = some (.aload_n 1, 1, 1, 0, 0, []) := rs_of (by decide +kernel) (by decide +kernel)
theorem DX5_more_32 : rs MX5_more 32 = some (.aastore, 1, 25, 0, 0, []) := rs_of (by decide +kernel) (by decide +kernel)
theorem DX5_more_33 : rs MX5_more 33 = some (.aload_n 2, 1, 2, 0, 0, []) := rs_of (by decide +kernel) (by decide +kernel)
theorem DX5_more_34 : rs MX5_more 34 = some (.areturn, 1, 0, 0, 0, []) := rs_of (by decide +kernel) (by decide +kernel)
theorem DX5_cast_0 : rs MX5_cast 0 = some (.sipush 256, 3, 0, 0, 256, []) := rs_of (by decide +kernel) (by decide +kernel)
theorem DX5_cast_3 : rs MX5_cast 3 = some (.newarray .int, 2, 0, 0, 0, []) := rs_of (by decide +kernel) (by decide +kernel)
theorem DX5_cast_5 : rs MX5_cast 5 = some (.astore_n 1, 1, 1, 0, 0, []) := rs_of (by decide +kernel) (by decide +kernel)
theorem DX5_cast_6 : rs MX5_cast 6 = some (.aload_n 0, 1, 0, 0, 0, []) := rs_of (by decide +kernel) (by decide +kernel)
theorem DX5_cast_7 : rs MX5_cast 7 = some (.getfield 15, 3, 6, 3, 0, []) := rs_of (by decide +kernel) (by decide +kernel)
theorem DX5_cast_10 : rs MX5_cast 10 = some (.astore_n 2, 1, 2, 0, 0, []) := rs_of (by decide +kernel) (by decide +kernel)
theorem DX5_cast_11 : rs MX5_cast 11 = some (.aload_n 2, 1, 2, 0, 0, []) := rs_of (by decide +kernel) (by decide +kernel)
theorem DX5_cast_12 : rs MX5_cast 12 = some (.arraylength, 1, 25, 0, 0, []) := rs_of (by decide +kernel) (by decide +kernel)
theorem DX5_cast_13 : rs MX5_cast 13 = some (.istore_n 3, 1, 3, 0, 0, []) := rs_of (by decide +kernel) (by decide +kernel)
theorem DX5_cast_14 : rs MX5_cast 14 = some (.iconst 0, 1, 0, 0, 0, []) := rs_of (by decide +kernel) (by decide +kernel)
theorem DX5_cast_15 : rs MX5_cast 15 = some (.istore 4, 2, 0, 0, 0, []) := rs_of (by decide +kernel) (by decide +kernel)
theorem DX5_cast_17 : rs MX5_cast 17 = some (.iload 4, 2, 0, 0, 0, []) := rs_of (by decide +kernel) (by decide +kernel)
theorem DX5_cast_19 : rs MX5_cast 19 = some (.iload_n 3, 1, 3, 0, 0, []) := rs_of (by decide +kernel) (by decide +kernel)
theorem DX5_cast_20 : rs MX5_cast 20 = some (.if_icmp .ge 81, 3, 101, 0, 0, []) := rs_of (by decide +kernel) (by decide +kernel)
theorem DX5_cast_23 : rs MX5_cast 23 = some (.aload_n 2, 1, 2, 0, 0, []) := rs_of (by decide +kernel) (by decide +kernel)
theorem DX5_cast_24 : rs MX5_cast 24 = some (.iload 4, 2, 0, 0, 0, []) := rs_of (by decide +kernel) (by decide +kernel)
theorem DX5_cast_26 : rs MX5_cast 26 = some (.aaload, 1, 25, 0, 0, []) := rs_of (by decide +kernel) (by decide +kernel)
theorem DX5_cast_27 : rs MX5_cast 27 = some (.astore 5, 2, 0, 0, 0, []) := rs_of (by decide +kernel) (by decide +kernel)
theorem DX5_cast_29 : rs MX5_cast 29 = some (.iconst 0, 1, 0, 0, 0, []) := rs_of (by decide +kernel) (by decide +kernel)
theorem DX5_cast_30 : rs MX5_cast 30 = some (.istore 6, 2, 0, 0, 0, []) := rs_of (by decide +kernel) (by decide +kernel)
theorem DX5_cast_32 : rs MX5_cast 32 = some (.iload 6, 2, 0, 0, 0, []) := rs_of (by decide +kernel) (by decide +kernel)
theorem DX5_cast_34 : rs MX5_cast 34 = some (.aload 5, 2, 0, 0, 0, []) := rs_of (by decide +kernel) (by decide +kernel)
theorem DX5_cast_36 : rs MX5_cast 36 = some (.iconst 2, 1, 0, 0, 2, []) := rs_of (by decide +kernel) (by decide +kernel)
theorem DX5_cast_37 : rs MX5_cast 37 = some (.iaload, 1, 0, 0, 0, []) := rs_of (by decide +kernel) (by decide +kernel)
theorem DX5_cast_38 : rs MX5_cast 38 = some (.if_icmp .ge 57, 3, 95, 0, 0, []) := rs_of (by decide +kernel) (by decide +kernel)
theorem DX5_cast_41 : rs MX5_cast 41 = some (.aload 5, 2, 0, 0, 0, []) := rs_of (by decide +kernel) (by decide +kernel)
theorem DX5_cast_43 : rs MX5_cast 43 = some (.bipush 6, 2, 0, 0, 6, []) := rs_of (by decide +kernel) (by decide +kernel)
theorem DX5_cast_45 : rs MX5_cast 45 = some (.iaload, 1, 0, 0, 0, []) := rs_of (by decide +kernel) (by decide +kernel)
theorem DX5_cast_46 : rs MX5_cast 46 = some (.iconst 1, 1, 0, 0, 1, []) := rs_of (by decide +kernel) (by decide +kernel)
theorem DX5_cast_47 : rs MX5_cast 47 = some (.if_icmp .ne 48, 3, 95, 0, 0, []) := rs_of (by decide +kernel) (by decide +kernel)
theorem DX5_cast_50 : rs MX5_cast 50 = some (.iconst 0, 1, 0, 0, 0, []) := rs_of (by decide +kernel) (by decide +kernel)
theorem DX5_cast_51 : rs MX5_cast 51 = some (.istore 7, 2, 0, 0, 0, []) := rs_of (by decide +kernel) (by decide +kernel)
theorem DX5_cast_53 : rs MX5_cast 53 = some (.iload 7, 2, 0, 0, 0, []) := rs_of (by decide +kernel) (by decide +kernel)
theorem DX5_cast_55 : rs MX5_cast 55 = some (.aload 5, 2, 0, 0, 0, []) := rs_of (by decide +kernel) (by decide +kernel)
theorem DX5_cast_57 : rs MX5_cast 57 = some (.iconst 3, 1, 0, 0, 3, []) := rs_of (by decide +kernel) (by decide +kernel)
theorem DX5_cast_58 : rs MX5_cast 58 = some (.iaload, 1, 0, 0, 0, []) := rs_of (by decide +kernel) (by decide +kernel)
theorem DX5_cast_59 : rs MX5_cast 59 = some (.if_icmp .ge 30, 3, 89, 0, 0, []) := rs_of (by decide +kernel) (by decide +kernel)
theorem DX5_cast_62 : rs MX5_cast 62 = some (.aload_n 1, 1, 1, 0, 0, []) := rs_of (by decide +kernel) (by decide +kernel)
theorem DX5_cast_63 : rs MX5_cast 63 = some (.aload 5, 2, 0, 0, 0, []) := rs_of (by decide +kernel) (by decide +kernel)
theorem DX5_cast_65 : rs MX5_cast 65 = some (.iconst 0, 1, 0, 0, 0, []) := rs_of (by decide +kernel) (by decide +kernel)
theorem DX5_cast_66 : rs MX5_cast 66 = some (.iaload, 1, 0, 0, 0, []) := rs_of (by decide +kernel) (by decide +kernel)
theorem DX5_cast_67 : rs MX5_cast 67 = some (.iload 6, 2, 0, 0, 0, []) := rs_of (by decide +kernel) (by decide +kernel)
theorem DX5_cast_69 : rs MX5_cast 69 = some (.iadd, 1, 0, 0, 0, []) := rs_of (by decide +kernel) (by decide +kernel)
theorem DX5_cast_70 : rs MX5_cast 70 = some (.bipush 16, 2, 0, 0, 16, []) := rs_of (by decide +kernel) (by decide +kernel)
theorem DX5_cast_72 : rs MX5_cast 72 = some (.aload 5, 2, 0, 0, 0, []) := rs_of (by decide +kernel) (by decide +kernel)
theorem DX5_cast_74 : rs MX5_cast 74 = some (.iconst 1, 1, 0, 0, 1, []) := rs_of (by decide +kernel) (by decide +kernel)
theorem DX5_cast_75 : rs MX5_cast 75 = some (.iaload, 1, 0, 0, 0, []) := rs_of (by decide +kernel) (by decide +kernel)
theorem DX5_cast_76 : rs MX5_cast 76 = some (.iload 7, 2, 0, 0, 0, []) := rs_of (by decide +kernel) (by decide +kernel)
theorem DX5_cast_78 : rs MX5_cast 78 = some (.iadd, 1, 0, 0, 0, []) := rs_of (by decide +kernel) (by decide +kernel)
theorem DX5_cast_79 : rs MX5_cast 79 = some (.imul, 1, 0, 0, 0, []) := rs_of (by decide +kernel) (by decide +kernel)
theorem DX5_cast_80 : rs MX5_cast 80 = some (.iadd, 1, 0, 0, 0, []) := rs_of (by decide +kernel) (by decide +kernel)
theorem DX5_cast_81 : rs MX5_cast 81 = some (.iconst 1, 1, 0, 0, 1, []) := rs_of (by decide +kernel) (by decide +kernel)
theorem DX5_cast_82 : rs MX5_cast 82 = some (.iastore, 1, 0, 0, 0, []) := rs_of (by decide +kernel) (by decide +kernel)
theorem DX5_cast_83 : rs MX5_cast 83 = some (.iinc 7 1, 3, 7, 0, 1, []) := rs_of (by decide +kernel) (by decide +kernel)
theorem DX5_cast_86 : rs MX5_cast 86 = some (.goto (-33), 3, 53, 0, 0, []) := rs_of (by decide +kernel) (by decide +kernel)
theorem DX5_cast_89 : rs MX5_cast 89 = some (.iinc 6 1, 3, 6, 0, 1, []) := rs_of (by decide +kernel) (by decide +kernel)
theorem DX5_cast_92 : rs MX5_cast 92 = some (.goto (-60), 3, 32, 0, 0, []) := rs_of (by decide +kernel) (by decide +kernel)
theorem DX5_cast_95 : rs MX5_cast 95 = some (.iinc 4 1, 3, 4, 0, 1, []) := rs_of (by decide +kernel) (by decide +kernel)
theorem DX5_cast_98 : rs MX5_cast 98 = some (.goto (-81), 3, 17, 0, 0, []) := rs_of (by decide +kernel) (by decide +kernel)
theorem DX5_cast_101 : rs MX5_cast 101 = some (.sipush 256, 3, 0, 0, 256, []) := rs_of (by decide +kernel) (by decide +kernel)
theorem DX5_cast_104 : rs MX5_cast 104 = some (.newarray .int, 2, 0, 0, 0, []) := rs_of (by decide +kernel) (by decide +kernel)
theorem DX5_cast_106 : rs MX5_cast 106 = some (.astore_n 2, 1, 2, 0, 0, []) := rs_of (by decide +kernel) (by decide +kernel)
theorem DX5_cast_107 : rs MX5_cast 107 = some (.sipush 256, 3, 0, 0, 256, []) := rs_of (by decide +kernel) (by decide +kernel)
theorem DX5_cast_110 : rs MX5_cast 110 = some (.newarray .int, 2, 0, 0, 0, []) := rs_of (by decide +kernel) (by decide +kernel)
theorem DX5_cast_112 : rs MX5_cast 112 = some (.astore_n 3, 1, 3, 0, 0, []) := rs_of (by decide +kernel) (by decide +kernel)
theorem DX5_cast_113 : rs MX5_cast 113 = some (.iconst 0, 1, 0, 0, 0, []) := rs_of (by decide +kernel) (by decide +kernel)
theorem DX5_cast_114 : rs MX5_cast 114 = some (.istore 4, 2, 0, 0, 0, []) := rs_of (by decide +kernel) (by decide +kernel)
theorem DX5_cast_116 : rs MX5_cast 116 = some (.iload 4, 2, 0, 0, 0, []) := rs_of (by decide +kernel) (by decide +kernel)
theorem DX5_cast_118 : rs MX5_cast 118 = some (.bipush 12, 2, 0, 0, 12, []) := rs_of (by decide +kernel) (by decide +kernel)
theorem DX5_cast_120 : rs MX5_cast 120 = some (.if_icmp .ge 356, 3, 476, 0, 0, []) := rs_of (by decide +kernel) (by decide +kernel)
theorem DX5_cast_123 : rs MX5_cast 123 = some (.iconst 0, 1, 0, 0, 0, []) := rs_of (by decide +kernel) (by decide +kernel)
theorem DX5_cast_124 : rs MX5_cast 124 = some (.istore 5, 2, 0, 0, 0, []) := rs_of (by decide +kernel) (by decide +kernel)
theorem DX5_cast_126 : rs MX5_cast 126 = some (.iload 5, 2, 0, 0, 0, []) := rs_of (by decide +kernel) (by decide +kernel)
theorem DX5_cast_128 : rs MX5_cast 128 = some (.sipush 256, 3, 0, 0, 256, []) := rs_of (by decide +kernel) (by decide +kernel)
theorem DX5_cast_131 : rs MX5_cast 131 = some (.if_icmp .ge 56, 3, 187, 0, 0, []) := rs_of (by decide +kernel) (by decide +kernel)
theorem DX5_cast_134 : rs MX5_cast 134 = some (.aload_n 0, 1, 0, 0, 0, []) := rs_of (by decide +kernel) (by decide +kernel)
theorem DX5_cast_135 : rs MX5_cast 135 = some (.getfield 28, 3, 6, 7, 0, []) := rs_of (by decide +kernel) (by decide +kernel)
theorem DX5_cast_138 : rs MX5_cast 138 = some (.iload 4, 2, 0, 0, 0, []) := rs_of (by decide +kernel) (by decide +kernel)
theorem DX5_cast_140 : rs MX5_cast 140 = some (.aaload, 1, 25, 0, 0, []) := rs_of (by decide +kernel) (by decide +kernel)
theorem DX5_cast_141 : rs MX5_cast 141 = some (.iload 5, 2, 0, 0, 0, []) := rs_of (by decide +kernel) (by decide +kernel)
theorem DX5_cast_143 : rs MX5_cast 143 = some (.aload_n 1, 1, 1, 0, 0, []) := rs_of (by decide +kernel) (by decide +kernel)
theorem DX5_cast_144 : rs MX5_cast 144 = some (.iload 5, 2, 0, 0, 0, []) := rs_of (by decide +kernel) (by decide +kernel)
theorem DX5_cast_146 : rs MX5_cast 146 = some (.iaload, 1, 0, 0, 0, []) := rs_of (by decide +kernel) (by decide +kernel)
theorem DX5_cast_147 : rs MX5_cast 147 = some (.iconst 1, 1, 0, 0, 1, []) := rs_of (by decide +kernel) (by decide +kernel)
theorem DX5_cast_148 : rs MX5_cast 148 = some (.if_icmp .ne 8, 3, 156, 0, 0, []) := rs_of (by decide +kernel) (by decide +kernel)
theorem DX5_cast_151 : rs MX5_cast 151 = some (.bipush (-2), 2, 0, 0, (-2), []) := rs_of (by decide +kernel) (by decide +kernel)
theorem DX5_cast_153 : rs MX5_cast 153 = some (.goto 4, 3, 157, 0, 0, []) := rs_of (by decide +kernel) (by decide +kernel)
theorem DX5_cast_156 : rs MX5_cast 156 = some (.iconst (-1), 1, 0, 0, (-1), []) := rs_of (by decide +kernel) (by decide +kernel)
theorem DX5_cast_157 : rs MX5_cast 157 = some (.iastore, 1, 0, 0, 0, []) := rs_of (by decide +kernel) (by decide +kernel)
theorem DX5_cast_158 : rs MX5_cast 158 = some (.aload_n 0, 1, 0, 0, 0, []) := rs_of (by decide +kernel) (by decide +kernel)
theorem DX5_cast_159 : rs MX5_cast 159 = some (.getfield 31, 3, 6, 8, 0, []) := rs_of (by decide +kernel) (by decide +kernel)
theorem DX5_cast_162 : rs MX5_cast 162 = some (.iload 4, 2, 0, 0, 0, []) := rs_of (by decide +kernel) (by decide +kernel)
theorem DX5_cast_164 : rs MX5_cast 164 = some (.aaload, 1, 25, 0, 0, []) := rs_of (by decide +kernel) (by decide +kernel)
theorem DX5_cast_165 : rs MX5_cast 165 = some (.iload 5, 2, 0, 0, 0, []) := rs_of (by decide +kernel) (by decide +kernel)
theorem DX5_cast_167 : rs MX5_cast 167 = some (.iconst 0, 1, 0, 0, 0, []) := rs_of (by decide +kernel) (by decide +kernel)
theorem DX5_cast_168 : rs MX5_cast 168 = some (.iastore, 1, 0, 0, 0, []) := rs_of (by decide +kernel) (by decide +kernel)
theorem DX5_cast_169 : rs MX5_cast 169 = some (.aload_n 2, 1, 2, 0, 0, []) := rs_of (by decide +kernel) (by decide +kernel)
theorem DX5_cast_170 : rs MX5_cast 170 = some (.iload 5, 2, 0, 0, 0, []) := rs_of (by decide +kernel) (by decide +kernel)
theorem DX5_cast_172 : rs MX5_cast 172 = some (.sipush 1000, 3, 0, 0, 1000, []) := rs_of (by decide +kernel) (by decide +kernel)
theorem DX5_cast_175 : rs MX5_cast 175 = some (.iastore, 1, 0, 0, 0, []) := rs_of (by decide +kernel) (by decide +kernel)
theorem DX5_cast_176 : rs MX5_cast 176 = some (.aload_n 3, 1, 3, 0, 0, []) := rs_of (by decide +kernel) (by decide +kernel)
theorem DX5_cast_177 : rs MX5_cast 177 = some (.iload 5, 2, 0, 0, 0, []) := rs_of (by decide +kernel) (by decide +kernel)
theorem DX5_cast_179 : rs MX5_cast 179 = some (.iconst (-1), 1, 0, 0, (-1), []) := rs_of (by decide +kernel) (by decide +kernel)
theorem DX5_cast_180 : rs MX5_cast 180 = some (.iastore, 1, 0, 0, 0, []) := rs_of (by decide +kernel) (by decide +kernel)
theorem DX5_cast_181 : rs MX5_cast 181 = some (.iinc 5 1, 3, 5, 0, 1, []) := rs_of (by decide +kernel) (by decide +kernel)
theorem DX5_cast_184 : rs MX5_cast 184 = some (.goto (-58), 3, 126, 0, 0, []) := rs_of (by decide +kernel) (by decide +kernel)
theorem DX5_cast_187 : rs MX5_cast 187 = some (.iconst 0, 1, 0, 0, 0, []) := rs_of (by decide +kernel) (by decide +kernel)
theorem DX5_cast_188 : rs MX5_cast 188 = some (.istore 5, 2, 0, 0, 0, []) := rs_of (by decide +kernel) (by decide +kernel)
theorem DX5_cast_190 : rs MX5_cast 190 = some (.iload 5, 2, 0, 0, 0, []) := rs_of (by decide +kernel) (by decide +kernel)
theorem DX5_cast_192 : rs MX5_cast 192 = some (.aload_n 0, 1, 0, 0, 0, []) := rs_of (by decide +kernel) (by decide +kernel)
theorem DX5_cast_193 : rs MX5_cast 193 = some (.getfield 15, 3, 6, 3, 0, []) := rs_of (by decide +kernel) (by decide +kernel)
theorem DX5_cast_196 : rs MX5_cast 196 = some (.arraylength, 1, 25, 0, 0, []) := rs_of (by decide +kernel) (by decide +kernel)
theorem DX5_cast_197 : rs MX5_cast 197 = some (.if_icmp .ge 273, 3, 470, 0, 0, []) := rs_of (by decide +kernel) (by decide +kernel)
theorem DX5_cast_200 : rs MX5_cast 200 = some (.aload_n 0, 1, 0, 0, 0, []) := rs_of (by decide +kernel) (by decide +kernel)
theorem DX5_cast_201 : rs MX5_cast 201 = some (.getfield 15, 3, 6, 3, 0, []) := rs_of (by decide +kernel) (by decide +kernel)
theorem DX5_cast_204 : rs MX5_cast 204 = some (.iload 5, 2, 0, 0, 0, []) := rs_of (by decide +kernel) (by decide +kernel)
theorem DX5_cast_206 : rs MX5_cast 206 = some (.aaload, 1, 25, 0, 0, []) := rs_of (by decide +kernel) (by decide +kernel)
theorem DX5_cast_207 : rs MX5_cast 207 = some (.astore 6, 2, 0, 0, 0, []) := rs_of (by decide +kernel) (by decide +kernel)
theorem DX5_cast_209 : rs MX5_cast 209 = some (.aload 6, 2, 0, 0, 0, []) := rs_of (by decide +kernel) (by decide +kernel)
theorem DX5_cast_211 : rs MX5_cast 211 = some (.bipush 6, 2, 0, 0, 6, []) := rs_of (by decide +kernel) (by decide +kernel)
theorem DX5_cast_213 : rs MX5_cast 213 = some (.iaload, 1, 0, 0, 0, []) := rs_of (by decide +kernel) (by decide +kernel)
theorem DX5_cast_214 : rs MX5_cast 214 = some (.ifCond .ne 6, 3, 220, 0, 0, []) := rs_of (by decide +kernel) (by decide +kernel)
theorem DX5_cast_217 : rs MX5_cast 217 = some (.goto 247, 3, 464, 0, 0, []) := rs_of (by decide +kernel) (by decide +kernel)
theorem DX5_cast_220 : rs MX5_cast 220 = some (.iconst 1, 1, 0, 0, 1, []) := rs_of (by decide +kernel) (by decide +kernel)
theorem DX5_cast_221 : rs MX5_cast 221 = some (.istore 7, 2, 0, 0, 0, []) := rs_of (by decide +kernel) (by decide +kernel)
theorem DX5_cast_223 : rs MX5_cast 223 = some (.iload 7, 2, 0, 0, 0, []) := rs_of (by decide +kernel) (by decide +kernel)
theorem DX5_cast_225 : rs MX5_cast 225 = some (.aload_n 0, 1, 0, 0, 0, []) := rs_of (by decide +kernel) (by decide +kernel)
theorem DX5_cast_226 : rs MX5_cast 226 = some (.getfield 9, 3, 6, 2, 0, []) := rs_of (by decide +kernel) (by decide +kernel)
theorem DX5_cast_229 : rs MX5_cast 229 = some (.iload 4, 2, 0, 0, 0, []) := rs_of (by decide +kernel) (by decide +kernel)
theorem DX5_cast_231 : rs MX5_cast 231 = some (.aaload, 1, 25, 0, 0, []) := rs_of (by decide +kernel) (by decide +kernel)
theorem DX5_cast_232 : rs MX5_cast 232 = some (.iconst 2, 1, 0, 0, 2, []) := rs_of (by decide +kernel) (by decide +kernel)
theorem DX5_cast_233 : rs MX5_cast 233 = some (.iaload, 1, 0, 0, 0, []) := rs_of (by decide +kernel) (by decide +kernel)
theorem DX5_cast_234 : rs MX5_cast 234 = some (.aload 6, 2, 0, 0, 0, []) := rs_of (by decide +kernel) (by decide +kernel)
theorem DX5_cast_236 : rs MX5_cast 236 = some (.iconst 4, 1, 0, 0, 4, []) := rs_of (by decide +kernel) (by decide +kernel)
theorem DX5_cast_237 : rs MX5_cast 237 = some (.iaload, 1, 0, 0, 0, []) := rs_of (by decide +kernel) (by decide +kernel)
theorem DX5_cast_238 : rs MX5_cast 238 = some (.imul, 1, 0, 0, 0, []) := rs_of (by decide +kernel) (by decide +kernel)
theorem DX5_cast_239 : rs MX5_cast 239 = some (.iconst 2, 1, 0, 0, 2, []) := rs_of (by decide +kernel) (by decide +kernel)
theorem DX5_cast_240 : rs MX5_cast 240 = some (.idiv, 1, 0, 0, 0, []) := rs_of (by decide +kernel) (by decide +kernel)
theorem DX5_cast_241 : rs MX5_cast 241 = some (.if_icmp .gt 223, 3, 464, 0, 0, []) := rs_of (by decide +kernel) (by decide +kernel)
theorem DX5_cast_244 : rs MX5_cast 244 = some (.aload 6, 2, 0, 0, 0, []) := rs_of (by decide +kernel) (by decide +kernel)
theorem DX5_cast_246 : rs MX5_cast 246 = some (.iconst 0, 1, 0, 0, 0, []) := rs_of (by decide +kernel) (by decide +kernel)
theorem DX5_cast_247 : rs MX5_cast 247 = some (.iaload, 1, 0, 0, 0, []) := rs_of (by decide +kernel) (by decide +kernel)
theorem DX5_cast_248 : rs MX5_cast 248 = some (.iload 7, 2, 0, 0, 0, []) := rs_of (by decide +kernel) (by decide +kernel)
theorem DX5_cast_250 : rs MX5_cast 250 = some (.aload_n 0, 1, 0, 0, 0, []) := rs_of (by decide +kernel) (by decide +kernel)
theorem DX5_cast_251 : rs MX5_cast 251 = some (.getfield 9, 3, 6, 2, 0, []) := rs_of (by decide +kernel) (by decide +kernel)
theorem DX5_cast_254 : rs MX5_cast 254 = some (.iload 4, 2, 0, 0, 0, []) := rs_of (by decide +kernel) (by decide +kernel)
theorem DX5_cast_256 : rs MX5_cast 256 = some (.aaload, 1, 25, 0, 0, []) := rs_of (by decide +kernel) (by decide +kernel)
theorem DX5_cast_257 : rs MX5_cast 257 = some (.iconst 0, 1, 0, 0, 0, []) := rs_of (by decide +kernel) (by decide +kernel)
theorem DX5_cast_258 : rs MX5_cast 258 = some (.iaload, 1, 0, 0, 0, []) := rs_of (by decide +kernel) (by decide +kernel)
theorem DX5_cast_259 : rs MX5_cast 259 = some (.imul, 1, 0, 0, 0, []) := rs_of (by decide +kernel) (by decide +kernel)
theorem DX5_cast_260 : rs MX5_cast 260 = some (.iadd, 1, 0, 0, 0, []) := rs_of (by decide +kernel) (by decide +kernel)
theorem DX5_cast_261 : rs MX5_cast 261 = some (.istore 8, 2, 0, 0, 0, []) := rs_of (by decide +kernel) (by decide +kernel)
theorem DX5_cast_263 : rs MX5_cast 263 = some (.iload 8, 2, 0, 0, 0, []) := rs_of (by decide +kernel) (by decide +kernel)
theorem DX5_cast_265 : rs MX5_cast 265 = some (.aload 6, 2, 0, 0, 0, []) := rs_of (by decide +kernel) (by decide +kernel)
theorem DX5_cast_267 : rs MX5_cast 267 = some (.iconst 0, 1, 0, 0, 0, []) := rs_of (by decide +kernel) (by decide +kernel)
theorem DX5_cast_268 : rs MX5_cast 268 = some (.iaload, 1, 0, 0, 0, []) := rs_of (by decide +kernel) (by decide +kernel)
theorem DX5_cast_269 : rs MX5_cast 269 = some (.aload 6, 2, 0, 0, 0, []) := rs_of (by decide +kernel) (by decide +kernel)
theorem DX5_cast_271 : rs MX5_cast 271 = some (.iconst 2, 1, 0, 0, 2, []) := rs_of (by decide +kernel) (by decide +kernel)
theorem DX5_cast_272 : rs MX5_cast 272 = some (.iaload, 1, 0, 0, 0, []) := rs_of (by decide +kernel) (by decide +kernel)
theorem DX5_cast_273 : rs MX5_cast 273 = some (.iadd, 1, 0, 0, 0, []) := rs_of (by decide +kernel) (by decide +kernel)
theorem DX5_cast_274 : rs MX5_cast 274 = some (.iload 7, 2, 0, 0, 0, []) := rs_of (by decide +kernel) (by decide +kernel)
theorem DX5_cast_276 : rs MX5_cast 276 = some (.aload_n 0, 1, 0, 0, 0, []) := rs_of (by decide +kernel) (by decide +kernel)
theorem DX5_cast_277 : rs MX5_cast 277 = some (.getfield 9, 3, 6, 2, 0, []) := rs_of (by decide +kernel) (by decide +kernel)
theorem DX5_cast_280 : rs MX5_cast 280 = some (.iload 4, 2, 0, 0, 0, []) := rs_of (by decide +kernel) (by decide +kernel)
theorem DX5_cast_282 : rs MX5_cast 282 = some (.aaload, 1, 25, 0, 0, []) := rs_of (by decide +kernel) (by decide +kernel)
theorem DX5_cast_283 : rs MX5_cast 283 = some (.iconst 0, 1, 0, 0, 0, []) := rs_of (by decide +kernel) (by decide +kernel)
theorem DX5_cast_284 : rs MX5_cast 284 = some (.iaload, 1, 0, 0, 0, []) := rs_of (by decide +kernel) (by decide +kernel)
theorem DX5_cast_285 : rs MX5_cast 285 = some (.imul, 1, 0, 0, 0, []) := rs_of (by decide +kernel) (by decide +kernel)
theorem DX5_cast_286 : rs MX5_cast 286 = some (.iadd, 1, 0, 0, 0, []) := rs_of (by decide +kernel) (by decide +kernel)
theorem DX5_cast_287 : rs MX5_cast 287 = some (.if_icmp .ge 171, 3, 458, 0, 0, []) := rs_of (by decide +kernel) (by decide +kernel)
theorem DX5_cast_290 : rs MX5_cast 290 = some (.aload 6, 2, 0, 0, 0, []) := rs_of (by decide +kernel) (by decide +kernel)
theorem DX5_cast_292 : rs MX5_cast 292 = some (.iconst 1, 1, 0, 0, 1, []) := rs_of (by decide +kernel) (by decide +kernel)
theorem DX5_cast_293 : rs MX5_cast 293 = some (.iaload, 1, 0, 0, 0, []) := rs_of (by decide +kernel) (by decide +kernel)
theorem DX5_cast_294 : rs MX5_cast 294 = some (.iload 7, 2, 0, 0, 0, []) := rs_of (by decide +kernel) (by decide +kernel)
theorem DX5_cast_296 : rs MX5_cast 296 = some (.aload_n 0, 1, 0, 0, 0, []) := rs_of (by decide +kernel) (by decide +kernel)
theorem DX5_cast_297 : rs MX5_cast 297 = some (.getfield 9, 3, 6, 2, 0, []) := rs_of (by decide +kernel) (by decide +kernel)
theorem DX5_cast_300 : rs MX5_cast 300 = some (.iload 4, 2, 0, 0, 0, []) := rs_of (by decide +kernel) (by decide +kernel)
theorem DX5_cast_302 : rs MX5_cast 302 = some (.aaload, 1, 25, 0, 0, []) := rs_of (by decide +kernel) (by decide +kernel)
theorem DX5_cast_303 : rs MX5_cast 303 = some (.iconst 1, 1, 0, 0, 1, []) := rs_of (by decide +kernel) (by decide +kernel)
theorem DX5_cast_304 : rs MX5_cast 304 = some (.iaload, 1, 0, 0, 0, []) := rs_of (by decide +kernel) (by decide +kernel)
theorem DX5_cast_305 : rs MX5_cast 305 = some (.imul, 1, 0, 0, 0, []) := rs_of (by decide +kernel) (by decide +kernel)
theorem DX5_cast_306 : rs MX5_cast 306 = some (.iadd, 1, 0, 0, 0, []) := rs_of (by decide +kernel) (by decide +kernel)
theorem DX5_cast_307 : rs MX5_cast 307 = some (.istore 9, 2, 0, 0, 0, []) := rs_of (by decide +kernel) (by decide +kernel)
theorem DX5_cast_309 : rs MX5_cast 309 = some (.iload 9, 2, 0, 0, 0, []) := rs_of (by decide +kernel) (by decide +kernel)
theorem DX5_cast_311 : rs MX5_cast 311 = some (.aload 6, 2, 0, 0, 0, []) := rs_of (by decide +kernel) (by decide +kernel)
theorem DX5_cast_313 : rs MX5_cast 313 = some (.iconst 1, 1, 0, 0, 1, []) := rs_of (by decide +kernel) (by decide +kernel)
theorem DX5_cast_314 : rs MX5_cast 314 = some (.iaload, 1, 0, 0, 0, []) := rs_of (by decide +kernel) (by decide +kernel)
theorem DX5_cast_315 : rs MX5_cast 315 = some (.aload 6, 2, 0, 0, 0, []) := rs_of (by decide +kernel) (by decide +kernel)
theorem DX5_cast_317 : rs MX5_cast 317 = some (.iconst 3, 1, 0, 0, 3, []) := rs_of (by decide +kernel) (by decide +kernel)
theorem DX5_cast_318 : rs MX5_cast 318 = some (.iaload, 1, 0, 0, 0, []) := rs_of (by decide +kernel) (by decide +kernel)
theorem DX5_cast_319 : rs MX5_cast 319 = some (.iadd, 1, 0, 0, 0, []) := rs_of (by decide +kernel) (by decide +kernel)
theorem DX5_cast_320 : rs MX5_cast 320 = some (.iload 7, 2, 0, 0, 0, []) := rs_of (by decide +kernel) (by decide +kernel)
theorem DX5_cast_322 : rs MX5_cast 322 = some (.aload_n 0, 1, 0, 0, 0, []) := rs_of (by decide +kernel) (by decide +kernel)
theorem DX5_cast_323 : rs MX5_cast 323 = some (.getfield 9, 3, 6, 2, 0, []) := rs_of (by decide +kernel) (by decide +kernel)
theorem DX5_cast_326 : rs MX5_cast 326 = some (.iload 4, 2, 0, 0, 0, []) := rs_of (by decide +kernel) (by decide +kernel)
theorem DX5_cast_328 : rs MX5_cast 328 = some (.aaload, 1, 25, 0, 0, []) := rs_of (by decide +kernel) (by decide +kernel)
theorem DX5_cast_329 : rs MX5_cast 329 = some (.iconst 1, 1, 0, 0, 1, []) := rs_of (by decide +kernel) (by decide +kernel)
theorem DX5_cast_330 : rs MX5_cast 330 = some (.iaload, 1, 0, 0, 0, []) := rs_of (by decide +kernel) (by decide +kernel)
theorem DX5_cast_331 : rs MX5_cast 331 = some (.imul, 1, 0, 0, 0, []) := rs_of (by decide +kernel) (by decide +kernel)
theorem DX5_cast_332 : rs MX5_cast 332 = some (.iadd, 1, 0, 0, 0, []) := rs_of (by decide +kernel) (by decide +kernel)
theorem DX5_cast_333 : rs MX5_cast 333 = some (.if_icmp .ge 119, 3, 452, 0, 0, []) := rs_of (by decide +kernel) (by decide +kernel)
theorem DX5_cast_336 : rs MX5_cast 336 = some (.iload 8, 2, 0, 0, 0, []) := rs_of (by decide +kernel) (by decide +kernel)
theorem DX5_cast_338 : rs MX5_cast 338 = some (.ifCond .lt 108, 3, 446, 0, 0, []) := rs_of (by decide +kernel) (by decide +kernel)
theorem DX5_cast_341 : rs MX5_cast 341 = some (.iload 9, 2, 0, 0, 0, []) := rs_of (by decide +kernel) (by decide +kernel)
theorem DX5_cast_343 : rs MX5_cast 343 = some (.ifCond .lt 103, 3, 446, 0, 0, []) := rs_of (by decide +kernel) (by decide +kernel)
theorem DX5_cast_346 : rs MX5_cast 346 = some (.iload 8, 2, 0, 0, 0, []) := rs_of (by decide +kernel) (by decide +kernel)
theorem DX5_cast_348 : rs MX5_cast 348 = some (.bipush 15, 2, 0, 0, 15, []) := rs_of (by decide +kernel) (by decide +kernel)
theorem DX5_cast_350 : rs MX5_cast 350 = some (.if_icmp .gt 96, 3, 446, 0, 0, []) := rs_of (by decide +kernel) (by decide +kernel)
theorem DX5_cast_353 : rs MX5_cast 353 = some (.iload 9, 2, 0, 0, 0, []) := rs_of (by decide +kernel) (by decide +kernel)
theorem DX5_cast_355 : rs MX5_cast 355 = some (.bipush 15, 2, 0, 0, 15, []) := rs_of (by decide +kernel) (by decide +kernel)
theorem DX5_cast_357 : rs MX5_cast 357 = some (.if_icmp .gt 89, 3, 446, 0, 0, []) := rs_of (by decide +kernel) (by decide +kernel)
theorem DX5_cast_360 : rs MX5_cast 360 = some (.aload_n 1, 1, 1, 0, 0, []) := rs_of (by decide +kernel) (by decide +kernel)
theorem DX5_cast_361 : rs MX5_cast 361 = some (.iload 8, 2, 0, 0, 0, []) := rs_of (by decide +kernel) (by decide +kernel)
theorem DX5_cast_363 : rs MX5_cast 363 = some (.bipush 16, 2, 0, 0, 16, []) := rs_of (by decide +kernel) (by decide +kernel)
theorem DX5_cast_365 : rs MX5_cast 365 = some (.iload 9, 2, 0, 0, 0, []) := rs_of (by decide +kernel) (by decide +kernel)
theorem DX5_cast_367 : rs MX5_cast 367 = some (.imul, 1, 0, 0, 0, []) := rs_of (by decide +kernel) (by decide +kernel)
theorem DX5_cast_368 : rs MX5_cast 368 = some (.iadd, 1, 0, 0, 0, []) := rs_of (by decide +kernel) (by decide +kernel)
theorem DX5_cast_369 : rs MX5_cast 369 = some (.iaload, 1, 0, 0, 0, []) := rs_of (by decide +kernel) (by decide +kernel)
theorem DX5_cast_370 : rs MX5_cast 370 = some (.iconst 1, 1, 0, 0, 1, []) := rs_of (by decide +kernel) (by decide +kernel)
theorem DX5_cast_371 : rs MX5_cast 371 = some (.if_icmp .ne 6, 3, 377, 0, 0, []) := rs_of (by decide +kernel) (by decide +kernel)
theorem DX5_cast_374 : rs MX5_cast 374 = some (.goto 72, 3, 446, 0, 0, []) := rs_of (by decide +kernel) (by decide +kernel)
theorem DX5_cast_377 : rs MX5_cast 377 = some (.iload 8, 2, 0, 0, 0, []) := rs_of (by decide +kernel) (by decide +kernel)
theorem DX5_cast_379 : rs MX5_cast 379 = some (.bipush 16, 2, 0, 0, 16, []) := rs_of (by decide +kernel) (by decide +kernel)
theorem DX5_cast_381 : rs MX5_cast 381 = some (.iload 9, 2, 0, 0, 0, []) := rs_of (by decide +kernel) (by decide +kernel)
theorem DX5_cast_383 : rs MX5_cast 383 = some (.imul, 1, 0, 0, 0, []) := rs_of (by decide +kernel) (by decide +kernel)
theorem DX5_cast_384 : rs MX5_cast 384 = some (.iadd, 1, 0, 0, 0, []) := rs_of (by decide +kernel) (by decide +kernel)
theorem DX5_cast_385 : rs MX5_cast 385 = some (.istore 10, 2, 0, 0, 0, []) := rs_of (by decide +kernel) (by decide +kernel)
theorem DX5_cast_387 : rs MX5_cast 387 = some (.aload_n 3, 1, 3, 0, 0, []) := rs_of (by decide +kernel) (by decide +kernel)
theorem DX5_cast_388 : rs MX5_cast 388 = some (.iload 10, 2, 0, 0, 0, []) := rs_of (by decide +kernel) (by decide +kernel)
theorem DX5_cast_390 : rs MX5_cast 390 = some (.iaload, 1, 0, 0, 0, []) := rs_of (by decide +kernel) (by decide +kernel)
theorem DX5_cast_391 : rs MX5_cast 391 = some (.iload 5, 2, 0, 0, 0, []) := rs_of (by decide +kernel) (by decide +kernel)
theorem DX5_cast_393 : rs MX5_cast 393 = some (.if_icmp .eq 17, 3, 410, 0, 0, []) := rs_of (by decide +kernel) (by decide +kernel)
theorem DX5_cast_396 : rs MX5_cast 396 = some (.aload_n 0, 1, 0, 0, 0, []) := rs_of (by decide +kernel) (by decide +kernel)
theorem DX5_cast_397 : rs MX5_cast 397 = some (.getfield 31, 3, 6, 8, 0, []) := rs_of (by decide +kernel) (by decide +kernel)
theorem DX5_cast_400 : rs MX5_cast 400 = some (.iload 4, 2, 0, 0, 0, []) := rs_of (by decide +kernel) (by decide +kernel)
theorem DX5_cast_402 : rs MX5_cast 402 = some (.aaload, 1, 25, 0, 0, []) := rs_of (by decide +kernel) (by decide +kernel)
theorem DX5_cast_403 : rs MX5_cast 403 = some (.iload 10, 2, 0, 0, 0, []) := rs_of (by decide +kernel) (by decide +kernel)
theorem DX5_cast_405 : rs MX5_cast 405 = some (.dup2, 1, 0, 0, 0, []) := rs_of (by decide +kernel) (by decide +kernel)
theorem DX5_cast_406 : rs MX5_cast 406 = some (.iaload, 1, 0, 0, 0, []) := rs_of (by decide +kernel) (by decide +kernel)
theorem DX5_cast_407 : rs MX5_cast 407 = some (.iconst 1, 1, 0, 0, 1, []) := rs_of (by decide +kernel) (by decide +kernel)
theorem DX5_cast_408 : rs MX5_cast 408 = some (.iadd, 1, 0, 0, 0, []) := rs_of (by decide +kernel) (by decide +kernel)
theorem DX5_cast_409 : rs MX5_cast 409 = some (.iastore, 1, 0, 0, 0, []) := rs_of (by decide +kernel) (by decide +kernel)
theorem DX5_cast_410 : rs MX5_cast 410 = some (.aload_n 3, 1, 3, 0, 0, []) := rs_of (by decide +kernel) (by decide +kernel)
theorem DX5_cast_411 : rs MX5_cast 411 = some (.iload 10, 2, 0, 0, 0, []) := rs_of (by decide +kernel) (by decide +kernel)
theorem DX5_cast_413 : rs MX5_cast 413 = some (.iload 5, 2, 0, 0, 0, []) := rs_of (by decide +kernel) (by decide +kernel)
theorem DX5_cast_415 : rs MX5_cast 415 = some (.iastore, 1, 0, 0, 0, []) := rs_of (by decide +kernel) (by decide +kernel)
theorem DX5_cast_416 : rs MX5_cast 416 = some (.iload 7, 2, 0, 0, 0, []) := rs_of (by decide +kernel) (by decide +kernel)
theorem DX5_cast_418 : rs MX5_cast 418 = some (.aload_n 2, 1, 2, 0, 0, []) := rs_of (by decide +kernel) (by decide +kernel)
theorem DX5_cast_419 : rs MX5_cast 419 = some (.iload 10, 2, 0, 0, 0, []) := rs_of (by decide +kernel) (by decide +kernel)
theorem DX5_cast_421 : rs MX5_cast 421 = some (.iaload, 1, 0, 0, 0, []) := rs_of (by decide +kernel) (by decide +kernel)
theorem DX5_cast_422 : rs MX5_cast 422 = some (.if_icmp .lt 6, 3, 428, 0, 0, []) := rs_of (by decide +kernel) (by decide +kernel)
theorem DX5_cast_425 : rs MX5_cast 425 = some (.goto 21, 3, 446, 0, 0, []) := rs_of (by decide +kernel) (by decide +kernel)
theorem DX5_cast_428 : rs MX5_cast 428 = some (.aload_n 2, 1, 2, 0, 0, []) := rs_of (by decide +kernel) (by decide +kernel)
theorem DX5_cast_429 : rs MX5_cast 429 = some (.iload 10, 2, 0, 0, 0, []) := rs_of (by decide +kernel) (by decide +kernel)
theorem DX5_cast_431 : rs MX5_cast 431 = some (.iload 7, 2, 0, 0, 0, []) := rs_of (by decide +kernel) (by decide +kernel)
theorem DX5_cast_433 : rs MX5_cast 433 = some (.iastore, 1, 0, 0, 0, []) := rs_of (by decide +kernel) (by decide +kernel)
theorem DX5_cast_434 : rs MX5_cast 434 = some (.aload_n 0, 1, 0, 0, 0, []) := rs_of (by decide +kernel) (by decide +kernel)
theorem DX5_cast_435 : rs MX5_cast 435 = some (.getfield 28, 3, 6, 7, 0, []) := rs_of (by decide +kernel) (by decide +kernel)
theorem DX5_cast_438 : rs MX5_cast 438 = some (.iload 4, 2, 0, 0, 0, []) := rs_of (by decide +kernel) (by decide +kernel)
theorem DX5_cast_440 : rs MX5_cast 440 = some (.aaload, 1, 25, 0, 0, []) := rs_of (by decide +kernel) (by decide +kernel)
theorem DX5_cast_441 : rs MX5_cast 441 = some (.iload 10, 2, 0, 0, 0, []) := rs_of (by decide +kernel) (by decide +kernel)
theorem DX5_cast_443 : rs MX5_cast 443 = some (.iload 5, 2, 0, 0, 0, []) := rs_of (by decide +kernel) (by decide +kernel)
theorem DX5_cast_445 : rs MX5_cast 445 = some (.iastore, 1, 0, 0, 0, []) := rs_of (by decide +kernel) (by decide +kernel)
theorem DX5_cast_446 : rs MX5_cast 446 = some (.iinc 9 1, 3, 9, 0, 1, []) := rs_of (by decide +kernel) (by decide +kernel)
theorem DX5_cast_449 : rs MX5_cast 449 = some (.goto (-140), 3, 309, 0, 0, []) := rs_of (by decide +kernel) (by decide +kernel)
theorem DX5_cast_452 : rs MX5_cast 452 = some (.iinc 8 1, 3, 8, 0, 1, []) := rs_of (by decide +kernel) (by decide +kernel)
theorem DX5_cast_455 : rs MX5_cast 455 = some (.goto (-192), 3, 263, 0, 0, []) := rs_of (by decide +kernel) (by decide +kernel)
theorem DX5_cast_458 : rs MX5_cast 458 = some (.iinc 7 1, 3, 7, 0, 1, []) := rs_of (by decide +kernel) (by decide +kernel)
theorem DX5_cast_461 : rs MX5_cast 461 = some (.goto (-238), 3, 223, 0, 0, []) := rs_of (by decide +kernel) (by decide +kernel)
theorem DX5_cast_464 : rs MX5_cast 464 = some (.iinc 5 1, 3, 5, 0, 1, []) := rs_of (by decide +kernel) (by decide +kernel)
theorem DX5_cast_467 : rs MX5_cast 467 = some (.goto (-277), 3, 190, 0, 0, []) := rs_of (by decide +kernel) (by decide +kernel)
theorem DX5_cast_470 : rs MX5_cast 470 = some (.iinc 4 1, 3, 4, 0, 1, []) := rs_of (by decide +kernel) (by decide +kernel)
theorem DX5_cast_473 : rs MX5_cast 473 = some (.goto (-357), 3, 116, 0, 0, []) := rs_of (by decide +kernel) (by decide +kernel)
theorem DX5_cast_476 : rs MX5_cast 476 = some (.return_, 1, 0, 0, 0, []) := rs_of (by decide +kernel) (by decide +kernel)
end
section
theorem DJ9_max_7cf53_0 : rs MJ9_max_7cf53 0 = some (.iload_n 0, 1, 0, 0, 0, []) := rs_of (by decide +kernel) (by decide +kernel)
theorem DJ9_max_7cf53_1 : rs MJ9_max_7cf53 1 = some (.iload_n 1, 1, 1, 0, 0, []) := rs_of (by decide +kernel) (by decide +kernel)
theorem DJ9_max_7cf53_2 : rs MJ9_max_7cf53 2 = some (.if_icmp .lt 7, 3, 9, 0, 0, []) := rs_of (by decide +kernel) (by decide +kernel)
theorem DJ9_max_7cf53_5 : rs MJ9_max_7cf53 5 = some (.iload_n 0, 1, 0, 0, 0, []) := rs_of (by decide +kernel) (by decide +kernel)
theorem DJ9_max_7cf53_6 : rs MJ9_max_7cf53 6 = some (.goto 4, 3, 10, 0, 0, []) := rs_of (by decide +kernel) (by decide +kernel)
theorem DJ9_max_7cf53_9 : rs MJ9_max_7cf53 9 = some (.iload_n 1, 1, 1, 0, 0, []) := rs_of (by decide +kernel) (by decide +kernel)
theorem DJ9_max_7cf53_10 : rs MJ9_max_7cf53 10 = some (.ireturn, 1, 0, 0, 0, []) := rs_of (by decide +kernel) (by decide +kernel)
theorem DJ9_min_7cf53_0 : rs MJ9_min_7cf53 0 = some (.iload_n 0, 1, 0, 0, 0, []) := rs_of (by decide +kernel) (by decide +kernel)
theorem DJ9_min_7cf53_1 : rs MJ9_min_7cf53 1 = some (.iload_n 1, 1, 1, 0, 0, []) := rs_of (by decide +kernel) (by decide +kernel)
theorem DJ9_min_7cf53_2 : rs MJ9_min_7cf53 2 = some (.if_icmp .gt 7, 3, 9, 0, 0, []) := rs_of (by decide +kernel) (by decide +kernel)
theorem DJ9_min_7cf53_5 : rs MJ9_min_7cf53 5 = some (.iload_n 0, 1, 0, 0, 0, []) := rs_of (by decide +kernel) (by decide +kernel)
theorem DJ9_min_7cf53_6 : rs MJ9_min_7cf53 6 = some (.goto 4, 3, 10, 0, 0, []) := rs_of (by decide +kernel) (by decide +kernel)
theorem DJ9_min_7cf53_9 : rs MJ9_min_7cf53 9 = some (.iload_n 1, 1, 1, 0, 0, []) := rs_of (by decide +kernel) (by decide +kernel)
theorem DJ9_min_7cf53_10 : rs MJ9_min_7cf53 10 = some (.ireturn, 1, 0, 0, 0, []) := rs_of (by decide +kernel) (by decide +kernel)
theorem DJxa1e45_init_da8c8_0 : rs MJxa1e45_init_da8c8 0 = some (.aload_n 0, 1, 0, 0, 0, []) := rs_of (by decide +kernel) (by decide +kernel)
theorem DJxa1e45_init_da8c8_1 : rs MJxa1e45_init_da8c8 1 = some (.invokespecial 1, 3, 0, 0, 0, []) := rs_of (by decide +kernel) (by decide +kernel)
theorem DJxa1e45_init_da8c8_4 : rs MJxa1e45_init_da8c8 4 = some (.return_, 1, 0, 0, 0, []) := rs_of (by decide +kernel) (by decide +kernel)
theorem DJxc12de_init_da8c8_0 : rs MJxc12de_init_da8c8 0 = some (.aload_n 0, 1, 0, 0, 0, []) := rs_of (by decide +kernel) (by decide +kernel)
theorem DJxc12de_init_da8c8_1 : rs MJxc12de_init_da8c8 1 = some (.invokespecial 1, 3, 0, 0, 0, []) := rs_of (by decide +kernel) (by decide +kernel)
theorem DJxc12de_init_da8c8_4 : rs MJxc12de_init_da8c8 4 = some (.aload_n 0, 1, 0, 0, 0, []) := rs_of (by decide +kernel) (by decide +kernel)
theorem DJxc12de_init_da8c8_5 : rs MJxc12de_init_da8c8 5 = some (.iconst 0, 1, 0, 0, 0, []) := rs_of (by decide +kernel) (by decide +kernel)
theorem DJxc12de_init_da8c8_6 : rs MJxc12de_init_da8c8 6 = some (.putfield 7, 3, 0, 0, 0, []) := rs_of (by decide +kernel) (by decide +kernel)
theorem DJxc12de_init_da8c8_9 : rs MJxc12de_init_da8c8 9 = some (.return_, 1, 0, 0, 0, []) := rs_of (by decide +kernel) (by decide +kernel)
theorem DJx4a65c_init_da8c8_0 : rs MJx4a65c_init_da8c8 0 = some (.aload_n 0, 1, 0, 0, 0, []) := rs_of (by decide +kernel) (by decide +kernel)
theorem DJx4a65c_init_da8c8_1 : rs MJx4a65c_init_da8c8 1 = some (.invokespecial 1, 3, 0, 0, 0, []) := rs_of (by decide +kernel) (by decide +kernel)
theorem DJx4a65c_init_da8c8_4 : rs MJx4a65c_init_da8c8 4 = some (.aload_n 0, 1, 0, 0, 0, []) := rs_of (by decide +kernel) (by decide +kernel)
theorem DJx4a65c_init_da8c8_5 : rs MJx4a65c_init_da8c8 5 = some (.getstatic 39, 3, 0, 0, 0, []) := rs_of (by decide +kernel) (by decide +kernel)
theorem DJx4a65c_init_da8c8_8 : rs MJx4a65c_init_da8c8 8 = some (.putfield 9, 3, 0, 1, 0, []) := rs_of (by decide +kernel) (by decide +kernel)
theorem DJx4a65c_init_da8c8_11 : rs MJx4a65c_init_da8c8 11 = some (.return_, 1, 0, 0, 0, []) := rs_of (by decide +kernel) (by decide +kernel)
theorem DJx4a65c_grow_92f84_0 : rs MJx4a65c_grow_92f84 0 = some (.aload_n 0, 1, 0, 0, 0, []) := rs_of (by decide +kernel) (by decide +kernel)
theorem DJx4a65c_grow_92f84_1 : rs MJx4a65c_grow_92f84 1 = some (.getfield 9, 3, 0, 1, 0, []) := rs_of (by decide +kernel) (by decide +kernel)
theorem DJx4a65c_grow_92f84_4 : rs MJx4a65c_grow_92f84 4 = some (.arraylength, 1, 0, 0, 0, []) := rs_of (by decide +kernel) (by decide +kernel)
theorem DJx4a65c_grow_92f84_5 : rs MJx4a65c_grow_92f84 5 = some (.istore_n 2, 1, 2, 0, 0, []) := rs_of (by decide +kernel) (by decide +kernel)
theorem DJx4a65c_grow_92f84_6 : rs MJx4a65c_grow_92f84 6 = some (.iload_n 2, 1, 2, 0, 0, []) := rs_of (by decide +kernel) (by decide +kernel)
theorem DJx4a65c_grow_92f84_7 : rs MJx4a65c_grow_92f84 7 = some (.ifCond .gt 13, 3, 20, 0, 0, []) := rs_of (by decide +kernel) (by decide +kernel)
theorem DJx4a65c_grow_92f84_10 : rs MJx4a65c_grow_92f84 10 = some (.aload_n 0, 1, 0, 0, 0, []) := rs_of (by decide +kernel) (by decide +kernel)
theorem DJx4a65c_grow_92f84_11 : rs MJx4a65c_grow_92f84 11 = some (.getfield 9, 3, 0, 1, 0, []) := rs_of (by decide +kernel) (by decide +kernel)
theorem DJx4a65c_grow_92f84_14 : rs MJx4a65c_grow_92f84 14 = some (.getstatic 39, 3, 0, 0, 0, []) := rs_of (by decide +kernel) (by decide +kernel)
theorem DJx4a65c_grow_92f84_17 : rs MJx4a65c_grow_92f84 17 = some (.if_acmp .eq 28, 3, 45, 0, 0, []) := rs_of (by decide +kernel) (by decide +kernel)
theorem DJx4a65c_grow_92f84_20 : rs MJx4a65c_grow_92f84 20 = some (.iload_n 2, 1, 2, 0, 0, []) := rs_of (by decide +kernel) (by decide +kernel)
theorem DJx4a65c_grow_92f84_21 : rs MJx4a65c_grow_92f84 21 = some (.iload_n 1, 1, 1, 0, 0, []) := rs_of (by decide +kernel) (by decide +kernel)
theorem DJx4a65c_grow_92f84_22 : rs MJx4a65c_grow_92f84 22 = some (.iload_n 2, 1, 2, 0, 0, []) := rs_of (by decide +kernel) (by decide +kernel)
theorem DJx4a65c_grow_92f84_23 : rs MJx4a65c_grow_92f84 23 = some (.isub, 1, 0, 0, 0, []) := rs_of (by decide +kernel) (by decide +kernel)
theorem DJx4a65c_grow_92f84_24 : rs MJx4a65c_grow_92f84 24 = some (.iload_n 2, 1, 2, 0, 0, []) := rs_of (by decide +kernel) (by decide +kernel)
theorem DJx4a65c_grow_92f84_25 : rs MJx4a65c_grow_92f84 25 = some (.iconst 1, 1, 0, 0, 1, []) := rs_of (by decide +kernel) (by decide +kernel)
theorem DJx4a65c_grow_92f84_26 : rs MJx4a65c_grow_92f84 26 = some (.ishr, 1, 0, 0, 0, []) := rs_of (by decide +kernel) (by decide +kernel)
theorem DJx4a65c_grow_92f84_27 : rs MJx4a65c_grow_92f84 27 = some (.invokestatic 73, 3, 0, 0, 0, []) := rs_of (by decide +kernel) (by decide +kernel)
theorem DJx4a65c_grow_92f84_30 : rs MJx4a65c_grow_92f84 30 = some (.istore_n 3, 1, 3, 0, 0, []) := rs_of (by decide +kernel) (by decide +kernel)
theorem DJx4a65c_grow_92f84_31 : rs MJx4a65c_grow_92f84 31 = some (.aload_n 0, 1, 0, 0, 0, []) := rs_of (by decide +kernel) (by decide +kernel)
theorem DJx4a65c_grow_92f84_32 : rs MJx4a65c_grow_92f84 32 = some (.aload_n 0, 1, 0, 0, 0, []) := rs_of (by decide +kernel) (by decide +kernel)
theorem DJx4a65c_grow_92f84_33 : rs MJx4a65c_grow_92f84 33 = some (.getfield 9, 3, 0, 1, 0, []) := rs_of (by decide +kernel) (by decide +kernel)
theorem DJx4a65c_grow_92f84_36 : rs MJx4a65c_grow_92f84 36 = some (.iload_n 3, 1, 3, 0, 0, []) := rs_of (by decide +kernel) (by decide +kernel)
theorem DJx4a65c_grow_92f84_37 : rs MJx4a65c_grow_92f84 37 = some (.invokestatic 66, 3, 0, 0, 0, []) := rs_of (by decide +kernel) (by decide +kernel)
theorem DJx4a65c_grow_92f84_40 : rs MJx4a65c_grow_92f84 40 = some (.dup_x1, 1, 0, 0, 0, []) := rs_of (by decide +kernel) (by decide +kernel)
theorem DJx4a65c_grow_92f84_41 : rs MJx4a65c_grow_92f84 41 = some (.putfield 9, 3, 0, 1, 0, []) := rs_of (by decide +kernel) (by decide +kernel)
theorem DJx4a65c_grow_92f84_44 : rs MJx4a65c_grow_92f84 44 = some (.areturn, 1, 0, 0, 0, []) := rs_of (by decide +kernel) (by decide +kernel)
theorem DJx4a65c_grow_92f84_45 : rs MJx4a65c_grow_92f84 45 = some (.aload_n 0, 1, 0, 0, 0, []) := rs_of (by decide +kernel) (by decide +kernel)
theorem DJx4a65c_grow_92f84_46 : rs MJx4a65c_grow_92f84 46 = some (.bipush 10, 2, 0, 0, 10, []) := rs_of (by decide +kernel) (by decide +kernel)
theorem DJx4a65c_grow_92f84_48 : rs MJx4a65c_grow_92f84 48 = some (.iload_n 1, 1, 1, 0, 0, []) := rs_of (by decide +kernel) (by decide +kernel)
theorem DJx4a65c_grow_92f84_49 : rs MJx4a65c_grow_92f84 49 = some (.invokestatic 79, 3, 0, 0, 0, []) := rs_of (by decide +kernel) (by decide +kernel)
theorem DJx4a65c_grow_92f84_52 : rs MJx4a65c_grow_92f84 52 = some (.anewarray 7, 3, 61, 0, 0, []) := rs_of (by decide +kernel) (by decide +kernel)
theorem DJx4a65c_grow_92f84_55 : rs MJx4a65c_grow_92f84 55 = some (.dup_x1, 1, 0, 0, 0, []) := rs_of (by decide +kernel) (by decide +kernel)
theorem DJx4a65c_grow_92f84_56 : rs MJx4a65c_grow_92f84 56 = some (.putfield 9, 3, 0, 1, 0, []) := rs_of (by decide +kernel) (by decide +kernel)
theorem DJx4a65c_grow_92f84_59 : rs MJx4a65c_grow_92f84 59 = some (.areturn, 1, 0, 0, 0, []) := rs_of (by decide +kernel) (by decide +kernel)
theorem DJx4a65c_grow_d5877_0 : rs MJx4a65c_grow_d5877 0 = some (.aload_n 0, 1, 0, 0, 0, []) := rs_of (by decide +kernel) (by decide +kernel)
theorem DJx4a65c_grow_d5877_1 : rs MJx4a65c_grow_d5877 1 = some (.aload_n 0, 1, 0, 0, 0, []) := rs_of (by decide +kernel) (by decide +kernel)
theorem DJx4a65c_grow_d5877_2 : rs MJx4a65c_grow_d5877 2 = some (.getfield 48, 3, 0, 2, 0, []) := rs_of (by decide +kernel) (by decide +kernel)
theorem DJx4a65c_grow_d5877_5 : rs MJx4a65c_grow_d5877 5 = some (.iconst 1, 1, 0, 0, 1, []) := rs_of (by decide +kernel) (by decide +kernel)
theorem DJx4a65c_grow_d5877_6 : rs MJx4a65c_grow_d5877 6 = some (.iadd, 1, 0, 0, 0, []) := rs_of (by decide +kernel) (by decide +kernel)
theorem DJx4a65c_grow_d5877_7 : rs MJx4a65c_grow_d5877 7 = some (.invokevirtual 69, 3, 0, 0, 0, []) := rs_of (by decide +kernel) (by decide +kernel)
theorem DJx4a65c_grow_d5877_10 : rs MJx4a65c_grow_d5877 10 = some (.areturn, 1, 0, 0, 0, []) := rs_of (by decide +kernel) (by decide +kernel)
theorem DJx4a65c_size_8abf5_0 : rs MJx4a65c_size_8abf5 0 = some (.aload_n 0, 1, 0, 0, 0, []) := rs_of (by decide +kernel) (by decide +kernel)
theorem DJx4a65c_size_8abf5_1 : rs MJx4a65c_size_8abf5 1 = some (.getfield 48, 3, 0, 2, 0, []) := rs_of (by decide +kernel) (by decide +kernel)
theorem DJx4a65c_size_8abf5_4 : rs MJx4a65c_size_8abf5 4 = some (.ireturn, 1, 0, 0, 0, []) := rs_of (by decide +kernel) (by decide +kernel)
theorem DJx4a65c_elementData_915e3_0 : rs MJx4a65c_elementData_915e3 0 = some (.aload_n 0, 1, 0, 0, 0, []) := rs_of (by decide +kernel) (by decide +kernel)
theorem DJx4a65c_elementData_915e3_1 : rs MJx4a65c_elementData_915e3 1 = some (.getfield 9, 3, 0, 1, 0, []) := rs_of (by decide +kernel) (by decide +kernel)
theorem DJx4a65c_elementData_915e3_4 : rs MJx4a65c_elementData_915e3 4 = some (.iload_n 1, 1, 1, 0, 0, []) := rs_of (by decide +kernel) (by decide +kernel)
theorem DJx4a65c_elementData_915e3_5 : rs MJx4a65c_elementData_915e3 5 = some (.aaload, 1, 0, 0, 0, []) := rs_of (by decide +kernel) (by decide +kernel)
theorem DJx4a65c_elementData_915e3_6 : rs MJx4a65c_elementData_915e3 6 = some (.areturn, 1, 0, 0, 0, []) := rs_of (by decide +kernel) (by decide +kernel)
theorem DJx4a65c_get_915e3_0 : rs MJx4a65c_get_915e3 0 = some (.iload_n 1, 1, 1, 0, 0, []) := rs_of (by decide +kernel) (by decide +kernel)
theorem DJx4a65c_get_915e3_1 : rs MJx4a65c_get_915e3 1 = some (.aload_n 0, 1, 0, 0, 0, []) := rs_of (by decide +kernel) (by decide +kernel)
theorem DJx4a65c_get_915e3_2 : rs MJx4a65c_get_915e3 2 = some (.getfield 48, 3, 0, 2, 0, []) := rs_of (by decide +kernel) (by decide +kernel)
theorem DJx4a65c_get_915e3_5 : rs MJx4a65c_get_915e3 5 = some (.invokestatic 118, 3, 0, 0, 0, []) := rs_of (by decide +kernel) (by decide +kernel)
theorem DJx4a65c_get_915e3_8 : rs MJx4a65c_get_915e3 8 = some (.pop, 1, 0, 0, 0, []) := rs_of (by decide +kernel) (by decide +kernel)
theorem DJx4a65c_get_915e3_9 : rs MJx4a65c_get_915e3 9 = some (.aload_n 0, 1, 0, 0, 0, []) := rs_of (by decide +kernel) (by decide +kernel)
theorem DJx4a65c_get_915e3_10 : rs MJx4a65c_get_915e3 10 = some (.iload_n 1, 1, 1, 0, 0, []) := rs_of (by decide +kernel) (by decide +kernel)
theorem DJx4a65c_get_915e3_11 : rs MJx4a65c_get_915e3 11 = some (.invokevirtual 123, 3, 0, 0, 0, []) := rs_of (by decide +kernel) (by decide +kernel)
theorem DJx4a65c_get_915e3_14 : rs MJx4a65c_get_915e3 14 = some (.areturn, 1, 0, 0, 0, []) := rs_of (by decide +kernel) (by decide +kernel)
theorem DJx4a65c_add_72be8_0 : rs MJx4a65c_add_72be8 0 = some (.iload_n 3, 1, 3, 0, 0, []) := rs_of (by decide +kernel) (by decide +kernel)
theorem DJx4a65c_add_72be8_1 : rs MJx4a65c_add_72be8 1 = some (.aload_n 2, 1, 2, 0, 0, []) := rs_of (by decide +kernel) (by decide +kernel)
theorem DJx4a65c_add_72be8_2 : rs MJx4a65c_add_72be8 2 = some (.arraylength, 1, 0, 0, 0, []) := rs_of (by decide +kernel) (by decide +kernel)
theorem DJx4a65c_add_72be8_3 : rs MJx4a65c_add_72be8 3 = some (.if_icmp .ne 8, 3, 11, 0, 0, []) := rs_of (by decide +kernel) (by decide +kernel)
theorem DJx4a65c_add_72be8_6 : rs MJx4a65c_add_72be8 6 = some (.aload_n 0, 1, 0, 0, 0, []) := rs_of (by decide +kernel) (by decide +kernel)
theorem DJx4a65c_add_72be8_7 : rs MJx4a65c_add_72be8 7 = some (.invokevirtual 129, 3, 0, 0, 0, []) := rs_of (by decide +kernel) (by decide +kernel)
theorem DJx4a65c_add_72be8_10 : rs MJx4a65c_add_72be8 10 = some (.astore_n 2, 1, 2, 0, 0, []) := rs_of (by decide +kernel) (by decide +kernel)
theorem DJx4a65c_add_72be8_11 : rs MJx4a65c_add_72be8 11 = some (.aload_n 2, 1, 2, 0, 0, []) := rs_of (by decide +kernel) (by decide +kernel)
theorem DJx4a65c_add_72be8_12 : rs MJx4a65c_add_72be8 12 = some (.iload_n 3, 1, 3, 0, 0, []) := rs_of (by decide +kernel) (by decide +kernel)
theorem DJx4a65c_add_72be8_13 : rs MJx4a65c_add_72be8 13 = some (.aload_n 1, 1, 1, 0, 0, []) := rs_of (by decide +kernel) (by decide +kernel)
theorem DJx4a65c_add_72be8_14 : rs MJx4a65c_add_72be8 14 = some (.aastore, 1, 0, 0, 0, []) := rs_of (by decide +kernel) (by decide +kernel)
theorem DJx4a65c_add_72be8_15 : rs MJx4a65c_add_72be8 15 = some (.aload_n 0, 1, 0, 0, 0, []) := rs_of (by decide +kernel) (by decide +kernel)
theorem DJx4a65c_add_72be8_16 : rs MJx4a65c_add_72be8 16 = some (.iload_n 3, 1, 3, 0, 0, []) := rs_of (by decide +kernel) (by decide +kernel)
theorem DJx4a65c_add_72be8_17 : rs MJx4a65c_add_72be8 17 = some (.iconst 1, 1, 0, 0, 1, []) := rs_of (by decide +kernel) (by decide +kernel)
theorem DJx4a65c_add_72be8_18 : rs MJx4a65c_add_72be8 18 = some (.iadd, 1, 0, 0, 0, []) := rs_of (by decide +kernel) (by decide +kernel)
theorem DJx4a65c_add_72be8_19 : rs MJx4a65c_add_72be8 19 = some (.putfield 48, 3, 0, 2, 0, []) := rs_of (by decide +kernel) (by decide +kernel)
theorem DJx4a65c_add_72be8_22 : rs MJx4a65c_add_72be8 22 = some (.return_, 1, 0, 0, 0, []) := rs_of (by decide +kernel) (by decide +kernel)
theorem DJx4a65c_add_9ea2d_0 : rs MJx4a65c_add_9ea2d 0 = some (.aload_n 0, 1, 0, 0, 0, []) := rs_of (by decide +kernel) (by decide +kernel)
theorem DJx4a65c_add_9ea2d_1 : rs MJx4a65c_add_9ea2d 1 = some (.dup, 1, 0, 0, 0, []) := rs_of (by decide +kernel) (by decide +kernel)
theorem DJx4a65c_add_9ea2d_2 : rs MJx4a65c_add_9ea2d 2 = some (.getfield 63, 3, 0, 0, 0, []) := rs_of (by decide +kernel) (by decide +kernel)
theorem DJx4a65c_add_9ea2d_5 : rs MJx4a65c_add_9ea2d 5 = some (.iconst 1, 1, 0, 0, 1, []) := rs_of (by decide +kernel) (by decide +kernel)
theorem DJx4a65c_add_9ea2d_6 : rs MJx4a65c_add_9ea2d 6 = some (.iadd, 1, 0, 0, 0, []) := rs_of (by decide +kernel) (by decide +kernel)
theorem DJx4a65c_add_9ea2d_7 : rs MJx4a65c_add_9ea2d 7 = some (.putfield 63, 3, 0, 0, 0, []) := rs_of (by decide +kernel) (by decide +kernel)
theorem DJx4a65c_add_9ea2d_10 : rs MJx4a65c_add_9ea2d 10 = some (.aload_n 0, 1, 0, 0, 0, []) := rs_of (by decide +kernel) (by decide +kernel)
theorem DJx4a65c_add_9ea2d_11 : rs MJx4a65c_add_9ea2d 11 = some (.aload_n 1, 1, 1, 0, 0, []) := rs_of (by decide +kernel) (by decide +kernel)
theorem DJx4a65c_add_9ea2d_12 : rs MJx4a65c_add_9ea2d 12 = some (.aload_n 0, 1, 0, 0, 0, []) := rs_of (by decide +kernel) (by decide +kernel)
theorem DJx4a65c_add_9ea2d_13 : rs MJx4a65c_add_9ea2d 13 = some (.getfield 9, 3, 0, 1, 0, []) := rs_of (by decide +kernel) (by decide +kernel)
theorem DJx4a65c_add_9ea2d_16 : rs MJx4a65c_add_9ea2d 16 = some (.aload_n 0, 1, 0, 0, 0, []) := rs_of (by decide +kernel) (by decide +kernel)
theorem DJx4a65c_add_9ea2d_17 : rs MJx4a65c_add_9ea2d 17 = some (.getfield 48, 3, 0, 2, 0, []) := rs_of (by decide +kernel) (by decide +kernel)
theorem DJx4a65c_add_9ea2d_20 : rs MJx4a65c_add_9ea2d 20 = some (.invokevirtual 131, 3, 0, 0, 0, []) := rs_of (by decide +kernel) (by decide +kernel)
theorem DJx4a65c_add_9ea2d_23 : rs MJx4a65c_add_9ea2d 23 = some (.iconst 1, 1, 0, 0, 1, []) := rs_of (by decide +kernel) (by decide +kernel)
theorem DJx4a65c_add_9ea2d_24 : rs MJx4a65c_add_9ea2d 24 = some (.ireturn, 1, 0, 0, 0, []) := rs_of (by decide +kernel) (by decide +kernel)
theorem DJ7_fill_53178_0 : rs MJ7_fill_53178 0 = some (.iconst 0, 1, 0, 0, 0, []) := rs_of (by decide +kernel) (by decide +kernel)
theorem DJ7_fill_53178_1 : rs MJ7_fill_53178 1 = some (.istore_n 2, 1, 2, 0, 0, []) := rs_of (by decide +kernel) (by decide +kernel)
theorem DJ7_fill_53178_2 : rs MJ7_fill_53178 2 = some (.aload_n 0, 1, 0, 0, 0, []) := rs_of (by decide +kernel) (by decide +kernel)
theorem DJ7_fill_53178_3 : rs MJ7_fill_53178 3 = some (.arraylength, 1, 0, 0, 0, []) := rs_of (by decide +kernel) (by decide +kernel)
theorem DJ7_fill_53178_4 : rs MJ7_fill_53178 4 = some (.istore_n 3, 1, 3, 0, 0, []) := rs_of (by decide +kernel) (by decide +kernel)
theorem DJ7_fill_53178_5 : rs MJ7_fill_53178 5 = some (.iload_n 2, 1, 2, 0, 0, []) := rs_of (by decide +kernel) (by decide +kernel)
theorem DJ7_fill_53178_6 : rs MJ7_fill_53178 6 = some (.iload_n 3, 1, 3, 0, 0, []) := rs_of (by decide +kernel) (by decide +kernel)
theorem DJ7_fill_53178_7 : rs MJ7_fill_53178 7 = some (.if_icmp .ge 13, 3, 20, 0, 0, []) := rs_of (by decide +kernel) (by decide +kernel)
theorem DJ7_fill_53178_10 : rs MJ7_fill_53178 10 = some (.aload_n 0, 1, 0, 0, 0, []) := rs_of (by decide +kernel) (by decide +kernel)
theorem DJ7_fill_53178_11 : rs MJ7_fill_53178 11 = some (.iload_n 2, 1, 2, 0, 0, []) := rs_of (by decide +kernel) (by decide +kernel)
theorem DJ7_fill_53178_12 : rs MJ7_fill_53178 12 = some (.iload_n 1, 1, 1, 0, 0, []) := rs_of (by decide +kernel) (by decide +kernel)
theorem DJ7_fill_53178_13 : rs MJ7_fill_53178 13 = some (.iastore, 1, 0, 0, 0, []) := rs_of (by decide +kernel) (by decide +kernel)
theorem DJ7_fill_53178_14 : rs MJ7_fill_53178 14 = some (.iinc 2 1, 3, 2, 0, 1, []) := rs_of (by decide +kernel) (by decide +kernel)
theorem DJ7_fill_53178_17 : rs MJ7_fill_53178 17 = some (.goto (-12), 3, 5, 0, 0, []) := rs_of (by decide +kernel) (by decide +kernel)
theorem DJ7_fill_53178_20 : rs MJ7_fill_53178 20 = some (.return_, 1, 0, 0, 0, []) := rs_of (by decide +kernel) (by decide +kernel)
theorem DJ7_copyOf_1904c_0 : rs MJ7_copyOf_1904c 0 = some (.aload_n 0, 1, 0, 0, 0, []) := rs_of (by decide +kernel) (by decide +kernel)
theorem DJ7_copyOf_1904c_1 : rs MJ7_copyOf_1904c 1 = some (.iload_n 1, 1, 1, 0, 0, []) := rs_of (by decide +kernel) (by decide +kernel)
theorem DJ7_copyOf_1904c_2 : rs MJ7_copyOf_1904c 2 = some (.aload_n 0, 1, 0, 0, 0, []) := rs_of (by decide +kernel) (by decide +kernel)
theorem DJ7_copyOf_1904c_3 : rs MJ7_copyOf_1904c 3 = some (.invokevirtual 86, 3, 0, 0, 0, []) := rs_of (by decide +kernel) (by decide +kernel)
theorem DJ7_copyOf_1904c_6 : rs MJ7_copyOf_1904c 6 = some (.invokestatic 300, 3, 0, 0, 0, []) := rs_of (by decide +kernel) (by decide +kernel)
theorem DJ7_copyOf_1904c_9 : rs MJ7_copyOf_1904c 9 = some (.areturn, 1, 0, 0, 0, []) := rs_of (by decide +kernel) (by decide +kernel)
theorem DJ7_copyOf_6403c_0 : rs MJ7_copyOf_6403c 0 = some (.aload_n 2, 1, 2, 0, 0, []) := rs_of (by decide +kernel) (by decide +kernel)
theorem DJ7_copyOf_6403c_1 : rs MJ7_copyOf_6403c 1 = some (.ldc 110, 2, 60, 0, 0, []) := rs_of (by decide +kernel) (by decide +kernel)
theorem DJ7_copyOf_6403c_3 : rs MJ7_copyOf_6403c 3 = some (.if_acmp .ne 10, 3, 13, 0, 0, []) := rs_of (by decide +kernel) (by decide +kernel)
theorem DJ7_copyOf_6403c_6 : rs MJ7_copyOf_6403c 6 = some (.iload_n 1, 1, 1, 0, 0, []) := rs_of (by decide +kernel) (by decide +kernel)
theorem DJ7_copyOf_6403c_7 : rs MJ7_copyOf_6403c 7 = some (.anewarray 2, 3, 61, 0, 0, []) := rs_of (by decide +kernel) (by decide +kernel)
theorem DJ7_copyOf_6403c_10 : rs MJ7_copyOf_6403c 10 = some (.goto 14, 3, 24, 0, 0, []) := rs_of (by decide +kernel) (by decide +kernel)
theorem DJ7_copyOf_6403c_13 : rs MJ7_copyOf_6403c 13 = some (.aload_n 2, 1, 2, 0, 0, []) := rs_of (by decide +kernel) (by decide +kernel)
theorem DJ7_copyOf_6403c_14 : rs MJ7_copyOf_6403c 14 = some (.invokevirtual 90, 3, 0, 0, 0, []) := rs_of (by decide +kernel) (by decide +kernel)
theorem DJ7_copyOf_6403c_17 : rs MJ7_copyOf_6403c 17 = some (.iload_n 1, 1, 1, 0, 0, []) := rs_of (by decide +kernel) (by decide +kernel)
theorem DJ7_copyOf_6403c_18 : rs MJ7_copyOf_6403c 18 = some (.invokestatic 95, 3, 0, 0, 0, []) := rs_of (by decide +kernel) (by decide +kernel)
theorem DJ7_copyOf_6403c_21 : rs MJ7_copyOf_6403c 21 = some (.checkcast 110, 3, 60, 0, 0, []) := rs_of (by decide +kernel) (by decide +kernel)
theorem DJ7_copyOf_6403c_24 : rs MJ7_copyOf_6403c 24 = some (.astore_n 3, 1, 3, 0, 0, []) := rs_of (by decide +kernel) (by decide +kernel)
theorem DJ7_copyOf_6403c_25 : rs MJ7_copyOf_6403c 25 = some (.aload_n 0, 1, 0, 0, 0, []) := rs_of (by decide +kernel) (by decide +kernel)
theorem DJ7_copyOf_6403c_26 : rs MJ7_copyOf_6403c 26 = some (.iconst 0, 1, 0, 0, 0, []) := rs_of (by decide +kernel) (by decide +kernel)
theorem DJ7_copyOf_6403c_27 : rs MJ7_copyOf_6403c 27 = some (.aload_n 3, 1, 3, 0, 0, []) := rs_of (by decide +kernel) (by decide +kernel)
theorem DJ7_copyOf_6403c_28 : rs MJ7_copyOf_6403c 28 = some (.iconst 0, 1, 0, 0, 0, []) := rs_of (by decide +kernel) (by decide +kernel)
theorem DJ7_copyOf_6403c_29 : rs MJ7_copyOf_6403c 29 = some (.aload_n 0, 1, 0, 0, 0, []) := rs_of (by decide +kernel) (by decide +kernel)
theorem DJ7_copyOf_6403c_30 : rs MJ7_copyOf_6403c 30 = some (.arraylength, 1, 0, 0, 0, []) := rs_of (by decide +kernel) (by decide +kernel)
theorem DJ7_copyOf_6403c_31 : rs MJ7_copyOf_6403c 31 = some (.iload_n 1, 1, 1, 0, 0, []) := rs_of (by decide +kernel) (by decide +kernel)
theorem DJ7_copyOf_6403c_32 : rs MJ7_copyOf_6403c 32 = some (.invokestatic 304, 3, 0, 0, 0, []) := rs_of (by decide +kernel) (by decide +kernel)
theorem DJ7_copyOf_6403c_35 : rs MJ7_copyOf_6403c 35 = some (.invokestatic 150, 3, 0, 0, 0, []) := rs_of (by decide +kernel) (by decide +kernel)
theorem DJ7_copyOf_6403c_38 : rs MJ7_copyOf_6403c 38 = some (.aload_n 3, 1, 3, 0, 0, []) := rs_of (by decide +kernel) (by decide +kernel)
theorem DJ7_copyOf_6403c_39 : rs MJ7_copyOf_6403c 39 = some (.areturn, 1, 0, 0, 0, []) := rs_of (by decide +kernel) (by decide +kernel)
theorem DJ15_checkIndex_7cf53_0 : rs MJ15_checkIndex_7cf53 0 = some (.iload_n 0, 1, 0, 0, 0, []) := rs_of (by decide +kernel) (by decide +kernel)
theorem DJ15_checkIndex_7cf53_1 : rs MJ15_checkIndex_7cf53 1 = some (.iload_n 1, 1, 1, 0, 0, []) := rs_of (by decide +kernel) (by decide +kernel)
theorem DJ15_checkIndex_7cf53_2 : rs MJ15_checkIndex_7cf53 2 = some (.aconst_null, 1, 0, 0, 0, []) := rs_of (by decide +kernel) (by decide +kernel)
theorem DJ15_checkIndex_7cf53_3 : rs MJ15_checkIndex_7cf53 3 = some (.invokestatic 105, 3, 0, 0, 0, []) := rs_of (by decide +kernel) (by decide +kernel)
theorem DJ15_checkIndex_7cf53_6 : rs MJ15_checkIndex_7cf53 6 = some (.ireturn, 1, 0, 0, 0, []) := rs_of (by decide +kernel) (by decide +kernel)
theorem DJ8_newLength_cabcc_0 : rs MJ8_newLength_cabcc 0 = some (.iload_n 0, 1, 0, 0, 0, []) := rs_of (by decide +kernel) (by decide +kernel)
theorem DJ8_newLength_cabcc_1 : rs MJ8_newLength_cabcc 1 = some (.iload_n 1, 1, 1, 0, 0, []) := rs_of (by decide +kernel) (by decide +kernel)
theorem DJ8_newLength_cabcc_2 : rs MJ8_newLength_cabcc 2 = some (.iload_n 2, 1, 2, 0, 0, []) := rs_of (by decide +kernel) (by decide +kernel)
theorem DJ8_newLength_cabcc_3 : rs MJ8_newLength_cabcc 3 = some (.invokestatic 194, 3, 0, 0, 0, []) := rs_of (by decide +kernel) (by decide +kernel)
theorem DJ8_newLength_cabcc_6 : rs MJ8_newLength_cabcc 6 = some (.iadd, 1, 0, 0, 0, []) := rs_of (by decide +kernel) (by decide +kernel)
theorem DJ8_newLength_cabcc_7 : rs MJ8_newLength_cabcc 7 = some (.istore_n 3, 1, 3, 0, 0, []) := rs_of (by decide +kernel) (by decide +kernel)
theorem DJ8_newLength_cabcc_8 : rs MJ8_newLength_cabcc 8 = some (.iconst 0, 1, 0, 0, 0, []) := rs_of (by decide +kernel) (by decide +kernel)
theorem DJ8_newLength_cabcc_9 : rs MJ8_newLength_cabcc 9 = some (.iload_n 3, 1, 3, 0, 0, []) := rs_of (by decide +kernel) (by decide +kernel)
theorem DJ8_newLength_cabcc_10 : rs MJ8_newLength_cabcc 10 = some (.if_icmp .ge 11, 3, 21, 0, 0, []) := rs_of (by decide +kernel) (by decide +kernel)
theorem DJ8_newLength_cabcc_13 : rs MJ8_newLength_cabcc 13 = some (.iload_n 3, 1, 3, 0, 0, []) := rs_of (by decide +kernel) (by decide +kernel)
theorem DJ8_newLength_cabcc_14 : rs MJ8_newLength_cabcc 14 = some (.ldc 200, 2, 99, 0, 0, []) := rs_of (by decide +kernel) (by decide +kernel)
theorem DJ8_newLength_cabcc_16 : rs MJ8_newLength_cabcc 16 = some (.if_icmp .gt 5, 3, 21, 0, 0, []) := rs_of (by decide +kernel) (by decide +kernel)
theorem DJ8_newLength_cabcc_19 : rs MJ8_newLength_cabcc 19 = some (.iload_n 3, 1, 3, 0, 0, []) := rs_of (by decide +kernel) (by decide +kernel)
theorem DJ8_newLength_cabcc_20 : rs MJ8_newLength_cabcc 20 = some (.ireturn, 1, 0, 0, 0, []) := rs_of (by decide +kernel) (by decide +kernel)
theorem DJ8_newLength_cabcc_21 : rs MJ8_newLength_cabcc 21 = some (.iload_n 0, 1, 0, 0, 0, []) := rs_of (by decide +kernel) (by decide +kernel)
theorem DJ8_newLength_cabcc_22 : rs MJ8_newLength_cabcc 22 = some (.iload_n 1, 1, 1, 0, 0, []) := rs_of (by decide +kernel) (by decide +kernel)
theorem DJ8_newLength_cabcc_23 : rs MJ8_newLength_cabcc 23 = some (.invokestatic 201, 3, 0, 0, 0, []) := rs_of (by decide +kernel) (by decide +kernel)
theorem DJ8_newLength_cabcc_26 : rs MJ8_newLength_cabcc 26 = some (.ireturn, 1, 0, 0, 0, []) := rs_of (by decide +kernel) (by decide +kernel)
theorem DJ8_hugeLength_7cf53_0 : rs MJ8_hugeLength_7cf53 0 = some (.iload_n 0, 1, 0, 0, 0, []) := rs_of (by decide +kernel) (by decide +kernel)
theorem DJ8_hugeLength_7cf53_1 : rs MJ8_hugeLength_7cf53 1 = some (.iload_n 1, 1, 1, 0, 0, []) := rs_of (by decide +kernel) (by decide +kernel)
theorem DJ8_hugeLength_7cf53_2 : rs MJ8_hugeLength_7cf53 2 = some (.iadd, 1, 0, 0, 0, []) := rs_of (by decide +kernel) (by decide +kernel)
theorem DJ8_hugeLength_7cf53_3 : rs MJ8_hugeLength_7cf53 3 = some (.istore_n 2, 1, 2, 0, 0, []) := rs_of (by decide +kernel) (by decide +kernel)
theorem DJ8_hugeLength_7cf53_4 : rs MJ8_hugeLength_7cf53 4 = some (.iload_n 2, 1, 2, 0, 0, []) := rs_of (by decide +kernel) (by decide +kernel)
theorem DJ8_hugeLength_7cf53_5 : rs MJ8_hugeLength_7cf53 5 = some (.ifCond .ge 44, 3, 49, 0, 0, []) := rs_of (by decide +kernel) (by decide +kernel)
theorem DJ8_hugeLength_7cf53_8 : rs MJ8_hugeLength_7cf53 8 = some (.new 204, 3, 99, 0, 0, []) := rs_of (by decide +kernel) (by decide +kernel)
theorem DJ8_hugeLength_7cf53_11 : rs MJ8_hugeLength_7cf53 11 = some (.dup, 1, 0, 0, 0, []) := rs_of (by decide +kernel) (by decide +kernel)
theorem DJ8_hugeLength_7cf53_12 : rs MJ8_hugeLength_7cf53 12 = some (.new 89, 3, 99, 0, 0, []) := rs_of (by decide +kernel) (by decide +kernel)
theorem DJ8_hugeLength_7cf53_15 : rs MJ8_hugeLength_7cf53 15 = some (.dup, 1, 0, 0, 0, []) := rs_of (by decide +kernel) (by decide +kernel)
theorem DJ8_hugeLength_7cf53_16 : rs MJ8_hugeLength_7cf53 16 = some (.invokespecial 91, 3, 0, 0, 0, []) := rs_of (by decide +kernel) (by decide +kernel)
theorem DJ8_hugeLength_7cf53_19 : rs MJ8_hugeLength_7cf53 19 = some (.ldc 206, 2, 99, 0, 0, []) := rs_of (by decide +kernel) (by decide +kernel)
theorem DJ8_hugeLength_7cf53_21 : rs MJ8_hugeLength_7cf53 21 = some (.invokevirtual 94, 3, 0, 0, 0, []) := rs_of (by decide +kernel) (by decide +kernel)
theorem DJ8_hugeLength_7cf53_24 : rs MJ8_hugeLength_7cf53 24 = some (.iload_n 0, 1, 0, 0, 0, []) := rs_of (by decide +kernel) (by decide +kernel)
theorem DJ8_hugeLength_7cf53_25 : rs MJ8_hugeLength_7cf53 25 = some (.invokevirtual 98, 3, 0, 0, 0, []) := rs_of (by decide +kernel) (by decide +kernel)
theorem DJ8_hugeLength_7cf53_28 : rs MJ8_hugeLength_7cf53 28 = some (.ldc 208, 2, 99, 0, 0, []) := rs_of (by decide +kernel) (by decide +kernel)
theorem DJ8_hugeLength_7cf53_30 : rs MJ8_hugeLength_7cf53 30 = some (.invokevirtual 94, 3, 0, 0, 0, []) := rs_of (by decide +kernel) (by decide +kernel)
theorem DJ8_hugeLength_7cf53_33 : rs MJ8_hugeLength_7cf53 33 = some (.iload_n 1, 1, 1, 0, 0, []) := rs_of (by decide +kernel) (by decide +kernel)
theorem DJ8_hugeLength_7cf53_34 : rs MJ8_hugeLength_7cf53 34 = some (.invokevirtual 98, 3, 0, 0, 0, []) := rs_of (by decide +kernel) (by decide +kernel)
theorem DJ8_hugeLength_7cf53_37 : rs MJ8_hugeLength_7cf53 37 = some (.ldc 210, 2, 99, 0, 0, []) := rs_of (by decide +kernel) (by decide +kernel)
theorem DJ8_hugeLength_7cf53_39 : rs MJ8_hugeLength_7cf53 39 = some (.invokevirtual 94, 3, 0, 0, 0, []) := rs_of (by decide +kernel) (by decide +kernel)
theorem DJ8_hugeLength_7cf53_42 : rs MJ8_hugeLength_7cf53 42 = some (.invokevirtual 101, 3, 0, 0, 0, []) := rs_of (by decide +kernel) (by decide +kernel)
theorem DJ8_hugeLength_7cf53_45 : rs MJ8_hugeLength_7cf53 45 = some (.invokespecial 212, 3, 0, 0, 0, []) := rs_of (by decide +kernel) (by decide +kernel)
theorem DJ8_hugeLength_7cf53_48 : rs MJ8_hugeLength_7cf53 48 = some (.athrow, 1, 0, 0, 0, []) := rs_of (by decide +kernel) (by decide +kernel)
theorem DJ8_hugeLength_7cf53_49 : rs MJ8_hugeLength_7cf53 49 = some (.iload_n 2, 1, 2, 0, 0, []) := rs_of (by decide +kernel) (by decide +kernel)
theorem DJ8_hugeLength_7cf53_50 : rs MJ8_hugeLength_7cf53 50 = some (.ldc 200, 2, 99, 0, 0, []) := rs_of (by decide +kernel) (by decide +kernel)
theorem DJ8_hugeLength_7cf53_52 : rs MJ8_hugeLength_7cf53 52 = some (.if_icmp .gt 6, 3, 58, 0, 0, []) := rs_of (by decide +kernel) (by decide +kernel)
theorem DJ8_hugeLength_7cf53_55 : rs MJ8_hugeLength_7cf53 55 = some (.ldc 200, 2, 99, 0, 0, []) := rs_of (by decide +kernel) (by decide +kernel)
theorem DJ8_hugeLength_7cf53_57 : rs MJ8_hugeLength_7cf53 57 = some (.ireturn, 1, 0, 0, 0, []) := rs_of (by decide +kernel) (by decide +kernel)
theorem DJ8_hugeLength_7cf53_58 : rs MJ8_hugeLength_7cf53 58 = some (.iload_n 2, 1, 2, 0, 0, []) := rs_of (by decide +kernel) (by decide +kernel)
theorem DJ8_hugeLength_7cf53_59 : rs MJ8_hugeLength_7cf53 59 = some (.ireturn, 1, 0, 0, 0, []) := rs_of (by decide +kernel) (by decide +kernel)
theorem DJ3_checkIndex_8e157_0 : rs MJ3_checkIndex_8e157 0 = some (.iload_n 0, 1, 0, 0, 0, []) := rs_of (by decide +kernel) (by decide +kernel)
theorem DJ3_checkIndex_8e157_1 : rs MJ3_checkIndex_8e157 1 = some (.ifCond .lt 8, 3, 9, 0, 0, []) := rs_of (by decide +kernel) (by decide +kernel)
theorem DJ3_checkIndex_8e157_4 : rs MJ3_checkIndex_8e157 4 = some (.iload_n 0, 1, 0, 0, 0, []) := rs_of (by decide +kernel) (by decide +kernel)
theorem DJ3_checkIndex_8e157_5 : rs MJ3_checkIndex_8e157 5 = some (.iload_n 1, 1, 1, 0, 0, []) := rs_of (by decide +kernel) (by decide +kernel)
theorem DJ3_checkIndex_8e157_6 : rs MJ3_checkIndex_8e157 6 = some (.if_icmp .lt 10, 3, 16, 0, 0, []) := rs_of (by decide +kernel) (by decide +kernel)
theorem DJ3_checkIndex_8e157_9 : rs MJ3_checkIndex_8e157 9 = some (.aload_n 2, 1, 2, 0, 0, []) := rs_of (by decide +kernel) (by decide +kernel)
theorem DJ3_checkIndex_8e157_10 : rs MJ3_checkIndex_8e157 10 = some (.iload_n 0, 1, 0, 0, 0, []) := rs_of (by decide +kernel) (by decide +kernel)
theorem DJ3_checkIndex_8e157_11 : rs MJ3_checkIndex_8e157 11 = some (.iload_n 1, 1, 1, 0, 0, []) := rs_of (by decide +kernel) (by decide +kernel)
theorem DJ3_checkIndex_8e157_12 : rs MJ3_checkIndex_8e157 12 = some (.invokestatic 95, 3, 0, 0, 0, []) := rs_of (by decide +kernel) (by decide +kernel)
theorem DJ3_checkIndex_8e157_15 : rs MJ3_checkIndex_8e157 15 = some (.athrow, 1, 0, 0, 0, []) := rs_of (by decide +kernel) (by decide +kernel)
theorem DJ3_checkIndex_8e157_16 : rs MJ3_checkIndex_8e157 16 = some (.iload_n 0, 1, 0, 0, 0, []) := rs_of (by decide +kernel) (by decide +kernel)
theorem DJ3_checkIndex_8e157_17 : rs MJ3_checkIndex_8e157 17 = some (.ireturn, 1, 0, 0, 0, []) := rs_of (by decide +kernel) (by decide +kernel)
end
section
theorem DL_below_0 : rs ML_below 0 = some (.iload_n 0, 1, 0, 0, 0, []) := rs_of (by decide +kernel) (by decide +kernel)
theorem DL_below_1 : rs ML_below 1 = some (.ldc 7, 2, 98, 0, 2147483647, []) := rs_of (by decide +kernel) (by decide +kernel)
theorem DL_below_3 : rs ML_below 3 = some (.iand, 1, 0, 0, 0, []) := rs_of (by decide +kernel) (by decide +kernel)
theorem DL_below_4 : rs ML_below 4 = some (.iload_n 1, 1, 1, 0, 0, []) := rs_of (by decide +kernel) (by decide +kernel)
theorem DL_below_5 : rs ML_below 5 = some (.irem, 1, 0, 0, 0, []) := rs_of (by decide +kernel) (by decide +kernel)
theorem DL_below_6 : rs ML_below 6 = some (.ireturn, 1, 0, 0, 0, []) := rs_of (by decide +kernel) (by decide +kernel)
theorem DL_cell_0 : rs ML_cell 0 = some (.iload_n 1, 1, 1, 0, 0, []) := rs_of (by decide +kernel) (by decide +kernel)
theorem DL_cell_1 : rs ML_cell 1 = some (.aload_n 0, 1, 0, 0, 0, []) := rs_of (by decide +kernel) (by decide +kernel)
theorem DL_cell_2 : rs ML_cell 2 = some (.arraylength, 1, 25, 0, 0, []) := rs_of (by decide +kernel) (by decide +kernel)
theorem DL_cell_3 : rs ML_cell 3 = some (.if_icmp .ge 9, 3, 12, 0, 0, []) := rs_of (by decide +kernel) (by decide +kernel)
theorem DL_cell_6 : rs ML_cell 6 = some (.aload_n 0, 1, 0, 0, 0, []) := rs_of (by decide +kernel) (by decide +kernel)
theorem DL_cell_7 : rs ML_cell 7 = some (.iload_n 1, 1, 1, 0, 0, []) := rs_of (by decide +kernel) (by decide +kernel)
theorem DL_cell_8 : rs ML_cell 8 = some (.iaload, 1, 0, 0, 0, []) := rs_of (by decide +kernel) (by decide +kernel)
theorem DL_cell_9 : rs ML_cell 9 = some (.goto 9, 3, 18, 0, 0, []) := rs_of (by decide +kernel) (by decide +kernel)
theorem DL_cell_12 : rs ML_cell 12 = some (.ldc 8, 2, 98, 0, 790386105, []) := rs_of (by decide +kernel) (by decide +kernel)
theorem DL_cell_14 : rs ML_cell 14 = some (.iload_n 1, 1, 1, 0, 0, []) := rs_of (by decide +kernel) (by decide +kernel)
theorem DL_cell_15 : rs ML_cell 15 = some (.iconst 3, 1, 0, 0, 3, []) := rs_of (by decide +kernel) (by decide +kernel)
theorem DL_cell_16 : rs ML_cell 16 = some (.iadd, 1, 0, 0, 0, []) := rs_of (by decide +kernel) (by decide +kernel)
theorem DL_cell_17 : rs ML_cell 17 = some (.imul, 1, 0, 0, 0, []) := rs_of (by decide +kernel) (by decide +kernel)
theorem DL_cell_18 : rs ML_cell 18 = some (.ireturn, 1, 0, 0, 0, []) := rs_of (by decide +kernel) (by decide +kernel)
theorem DL_build_0 : rs ML_build 0 = some (.new 9, 3, 6, 0, 0, []) := rs_of (by decide +kernel) (by decide +kernel)
theorem DL_build_3 : rs ML_build 3 = some (.dup, 1, 0, 0, 0, []) := rs_of (by decide +kernel) (by decide +kernel)
theorem DL_build_4 : rs ML_build 4 = some (.invokespecial 11, 3, 0, 0, 0, []) := rs_of (by decide +kernel) (by decide +kernel)
theorem DL_build_7 : rs ML_build 7 = some (.astore_n 2, 1, 2, 0, 0, []) := rs_of (by decide +kernel) (by decide +kernel)
theorem DL_build_8 : rs ML_build 8 = some (.aload_n 1, 1, 1, 0, 0, []) := rs_of (by decide +kernel) (by decide +kernel)
theorem DL_build_9 : rs ML_build 9 = some (.iconst 0, 1, 0, 0, 0, []) := rs_of (by decide +kernel) (by decide +kernel)
theorem DL_build_10 : rs ML_build 10 = some (.invokestatic 12, 3, 0, 0, 0, []) := rs_of (by decide +kernel) (by decide +kernel)
theorem DL_build_13 : rs ML_build 13 = some (.iconst 4, 1, 0, 0, 4, []) := rs_of (by decide +kernel) (by decide +kernel)
theorem DL_build_14 : rs ML_build 14 = some (.invokestatic 18, 3, 0, 0, 0, []) := rs_of (by decide +kernel) (by decide +kernel)
theorem DL_build_17 : rs ML_build 17 = some (.istore_n 3, 1, 3, 0, 0, []) := rs_of (by decide +kernel) (by decide +kernel)
theorem DL_build_18 : rs ML_build 18 = some (.iconst 0, 1, 0, 0, 0, []) := rs_of (by decide +kernel) (by decide +kernel)
theorem DL_build_19 : rs ML_build 19 = some (.istore 4, 2, 0, 0, 0, []) := rs_of (by decide +kernel) (by decide +kernel)
theorem DL_build_21 : rs ML_build 21 = some (.iload 4, 2, 0, 0, 0, []) := rs_of (by decide +kernel) (by decide +kernel)
theorem DL_build_23 : rs ML_build 23 = some (.iload_n 3, 1, 3, 0, 0, []) := rs_of (by decide +kernel) (by decide +kernel)
theorem DL_build_24 : rs ML_build 24 = some (.if_icmp .ge 137, 3, 161, 0, 0, []) := rs_of (by decide +kernel) (by decide +kernel)
theorem DL_build_27 : rs ML_build 27 = some (.aload_n 1, 1, 1, 0, 0, []) := rs_of (by decide +kernel) (by decide +kernel)
theorem DL_build_28 : rs ML_build 28 = some (.iconst 1, 1, 0, 0, 1, []) := rs_of (by decide +kernel) (by decide +kernel)
theorem DL_build_29 : rs ML_build 29 = some (.invokestatic 12, 3, 0, 0, 0, []) := rs_of (by decide +kernel) (by decide +kernel)
theorem DL_build_32 : rs ML_build 32 = some (.iconst 4, 1, 0, 0, 4, []) := rs_of (by decide +kernel) (by decide +kernel)
theorem DL_build_33 : rs ML_build 33 = some (.iload 4, 2, 0, 0, 0, []) := rs_of (by decide +kernel) (by decide +kernel)
theorem DL_build_35 : rs ML_build 35 = some (.imul, 1, 0, 0, 0, []) := rs_of (by decide +kernel) (by decide +kernel)
theorem DL_build_36 : rs ML_build 36 = some (.ishr, 1, 0, 0, 0, []) := rs_of (by decide +kernel) (by decide +kernel)
theorem DL_build_37 : rs ML_build 37 = some (.istore 5, 2, 0, 0, 0, []) := rs_of (by decide +kernel) (by decide +kernel)
theorem DL_build_39 : rs ML_build 39 = some (.iload 5, 2, 0, 0, 0, []) := rs_of (by decide +kernel) (by decide +kernel)
theorem DL_build_41 : rs ML_build 41 = some (.bipush 12, 2, 0, 0, 12, []) := rs_of (by decide +kernel) (by decide +kernel)
theorem DL_build_43 : rs ML_build 43 = some (.invokestatic 18, 3, 0, 0, 0, []) := rs_of (by decide +kernel) (by decide +kernel)
theorem DL_build_46 : rs ML_build 46 = some (.istore 6, 2, 0, 0, 0, []) := rs_of (by decide +kernel) (by decide +kernel)
theorem DL_build_48 : rs ML_build 48 = some (.iload 5, 2, 0, 0, 0, []) := rs_of (by decide +kernel) (by decide +kernel)
theorem DL_build_50 : rs ML_build 50 = some (.iconst 2, 1, 0, 0, 2, []) := rs_of (by decide +kernel) (by decide +kernel)
theorem DL_build_51 : rs ML_build 51 = some (.ishr, 1, 0, 0, 0, []) := rs_of (by decide +kernel) (by decide +kernel)
theorem DL_build_52 : rs ML_build 52 = some (.iconst 3, 1, 0, 0, 3, []) := rs_of (by decide +kernel) (by decide +kernel)
theorem DL_build_53 : rs ML_build 53 = some (.invokestatic 18, 3, 0, 0, 0, []) := rs_of (by decide +kernel) (by decide +kernel)
theorem DL_build_56 : rs ML_build 56 = some (.iconst 1, 1, 0, 0, 1, []) := rs_of (by decide +kernel) (by decide +kernel)
theorem DL_build_57 : rs ML_build 57 = some (.isub, 1, 0, 0, 0, []) := rs_of (by decide +kernel) (by decide +kernel)
theorem DL_build_58 : rs ML_build 58 = some (.istore 7, 2, 0, 0, 0, []) := rs_of (by decide +kernel) (by decide +kernel)
theorem DL_build_60 : rs ML_build 60 = some (.iload 7, 2, 0, 0, 0, []) := rs_of (by decide +kernel) (by decide +kernel)
theorem DL_build_62 : rs ML_build 62 = some (.ifCond .ne 18, 3, 80, 0, 0, []) := rs_of (by decide +kernel) (by decide +kernel)
theorem DL_build_65 : rs ML_build 65 = some (.iconst 2, 1, 0, 0, 2, []) := rs_of (by decide +kernel) (by decide +kernel)
theorem DL_build_66 : rs ML_build 66 = some (.iload 5, 2, 0, 0, 0, []) := rs_of (by decide +kernel) (by decide +kernel)
theorem DL_build_68 : rs ML_build 68 = some (.iconst 4, 1, 0, 0, 4, []) := rs_of (by decide +kernel) (by decide +kernel)
theorem DL_build_69 : rs ML_build 69 = some (.ishr, 1, 0, 0, 0, []) := rs_of (by decide +kernel) (by decide +kernel)
theorem DL_build_70 : rs ML_build 70 = some (.iconst 2, 1, 0, 0, 2, []) := rs_of (by decide +kernel) (by decide +kernel)
theorem DL_build_71 : rs ML_build 71 = some (.invokestatic 18, 3, 0, 0, 0, []) := rs_of (by decide +kernel) (by decide +kernel)
theorem DL_build_74 : rs ML_build 74 = some (.imul, 1, 0, 0, 0, []) := rs_of (by decide +kernel) (by decide +kernel)
theorem DL_build_75 : rs ML_build 75 = some (.iconst 1, 1, 0, 0, 1, []) := rs_of (by decide +kernel) (by decide +kernel)
theorem DL_build_76 : rs ML_build 76 = some (.isub, 1, 0, 0, 0, []) := rs_of (by decide +kernel) (by decide +kernel)
theorem DL_build_77 : rs ML_build 77 = some (.goto 13, 3, 90, 0, 0, []) := rs_of (by decide +kernel) (by decide +kernel)
theorem DL_build_80 : rs ML_build 80 = some (.iload 5, 2, 0, 0, 0, []) := rs_of (by decide +kernel) (by decide +kernel)
theorem DL_build_82 : rs ML_build 82 = some (.iconst 4, 1, 0, 0, 4, []) := rs_of (by decide +kernel) (by decide +kernel)
theorem DL_build_83 : rs ML_build 83 = some (.ishr, 1, 0, 0, 0, []) := rs_of (by decide +kernel) (by decide +kernel)
theorem DL_build_84 : rs ML_build 84 = some (.iconst 3, 1, 0, 0, 3, []) := rs_of (by decide +kernel) (by decide +kernel)
theorem DL_build_85 : rs ML_build 85 = some (.invokestatic 18, 3, 0, 0, 0, []) := rs_of (by decide +kernel) (by decide +kernel)
theorem DL_build_88 : rs ML_build 88 = some (.iconst 1, 1, 0, 0, 1, []) := rs_of (by decide +kernel) (by decide +kernel)
theorem DL_build_89 : rs ML_build 89 = some (.isub, 1, 0, 0, 0, []) := rs_of (by decide +kernel) (by decide +kernel)
theorem DL_build_90 : rs ML_build 90 = some (.istore 8, 2, 0, 0, 0, []) := rs_of (by decide +kernel) (by decide +kernel)
theorem DL_build_92 : rs ML_build 92 = some (.iload 5, 2, 0, 0, 0, []) := rs_of (by decide +kernel) (by decide +kernel)
theorem DL_build_94 : rs ML_build 94 = some (.bipush 6, 2, 0, 0, 6, []) := rs_of (by decide +kernel) (by decide +kernel)
theorem DL_build_96 : rs ML_build 96 = some (.ishr, 1, 0, 0, 0, []) := rs_of (by decide +kernel) (by decide +kernel)
theorem DL_build_97 : rs ML_build 97 = some (.bipush 7, 2, 0, 0, 7, []) := rs_of (by decide +kernel) (by decide +kernel)
theorem DL_build_99 : rs ML_build 99 = some (.invokestatic 18, 3, 0, 0, 0, []) := rs_of (by decide +kernel) (by decide +kernel)
theorem DL_build_102 : rs ML_build 102 = some (.istore 9, 2, 0, 0, 0, []) := rs_of (by decide +kernel) (by decide +kernel)
theorem DL_build_104 : rs ML_build 104 = some (.aload_n 0, 1, 0, 0, 0, []) := rs_of (by decide +kernel) (by decide +kernel)
theorem DL_build_105 : rs ML_build 105 = some (.iload 6, 2, 0, 0, 0, []) := rs_of (by decide +kernel) (by decide +kernel)
theorem DL_build_107 : rs ML_build 107 = some (.iload 7, 2, 0, 0, 0, []) := rs_of (by decide +kernel) (by decide +kernel)
theorem DL_build_109 : rs ML_build 109 = some (.iload 8, 2, 0, 0, 0, []) := rs_of (by decide +kernel) (by decide +kernel)
theorem DL_build_111 : rs ML_build 111 = some (.iload 9, 2, 0, 0, 0, []) := rs_of (by decide +kernel) (by decide +kernel)
theorem DL_build_113 : rs ML_build 113 = some (.invokevirtual 22, 3, 0, 0, 0, []) := rs_of (by decide +kernel) (by decide +kernel)
theorem DL_build_116 : rs ML_build 116 = some (.aload_n 2, 1, 2, 0, 0, []) := rs_of (by decide +kernel) (by decide +kernel)
theorem DL_build_117 : rs ML_build 117 = some (.getfield 28, 3, 6, 2, 0, []) := rs_of (by decide +kernel) (by decide +kernel)
theorem DL_build_120 : rs ML_build 120 = some (.iload 6, 2, 0, 0, 0, []) := rs_of (by decide +kernel) (by decide +kernel)
theorem DL_build_122 : rs ML_build 122 = some (.aaload, 1, 25, 0, 0, []) := rs_of (by decide +kernel) (by decide +kernel)
theorem DL_build_123 : rs ML_build 123 = some (.iconst 2, 1, 0, 0, 2, []) := rs_of (by decide +kernel) (by decide +kernel)
theorem DL_build_124 : rs ML_build 124 = some (.iaload, 1, 0, 0, 0, []) := rs_of (by decide +kernel) (by decide +kernel)
theorem DL_build_125 : rs ML_build 125 = some (.if_icmp .eq 5, 3, 130, 0, 0, []) := rs_of (by decide +kernel) (by decide +kernel)
theorem DL_build_128 : rs ML_build 128 = some (.aconst_null, 1, 0, 0, 0, []) := rs_of (by decide +kernel) (by decide +kernel)
theorem DL_build_129 : rs ML_build 129 = some (.areturn, 1, 0, 0, 0, []) := rs_of (by decide +kernel) (by decide +kernel)
theorem DL_build_130 : rs ML_build 130 = some (.aload_n 2, 1, 2, 0, 0, []) := rs_of (by decide +kernel) (by decide +kernel)
theorem DL_build_131 : rs ML_build 131 = some (.getfield 28, 3, 6, 2, 0, []) := rs_of (by decide +kernel) (by decide +kernel)
theorem DL_build_134 : rs ML_build 134 = some (.iload 6, 2, 0, 0, 0, []) := rs_of (by decide +kernel) (by decide +kernel)
theorem DL_build_136 : rs ML_build 136 = some (.iconst 3, 1, 0, 0, 3, []) := rs_of (by decide +kernel) (by decide +kernel)
theorem DL_build_137 : rs ML_build 137 = some (.newarray .int, 2, 0, 0, 0, []) := rs_of (by decide +kernel) (by decide +kernel)
theorem DL_build_139 : rs ML_build 139 = some (.dup, 1, 0, 0, 0, []) := rs_of (by decide +kernel) (by decide +kernel)
theorem DL_build_140 : rs ML_build 140 = some (.iconst 0, 1, 0, 0, 0, []) := rs_of (by decide +kernel) (by decide +kernel)
theorem DL_build_141 : rs ML_build 141 = some (.iload 7, 2, 0, 0, 0, []) := rs_of (by decide +kernel) (by decide +kernel)
theorem DL_build_143 : rs ML_build 143 = some (.iastore, 1, 0, 0, 0, []) := rs_of (by decide +kernel) (by decide +kernel)
theorem DL_build_144 : rs ML_build 144 = some (.dup, 1, 0, 0, 0, []) := rs_of (by decide +kernel) (by decide +kernel)
theorem DL_build_145 : rs ML_build 145 = some (.iconst 1, 1, 0, 0, 1, []) := rs_of (by decide +kernel) (by decide +kernel)
theorem DL_build_146 : rs ML_build 146 = some (.iload 8, 2, 0, 0, 0, []) := rs_of (by decide +kernel) (by decide +kernel)
theorem DL_build_148 : rs ML_build 148 = some (.iastore, 1, 0, 0, 0, []) := rs_of (by decide +kernel) (by decide +kernel)
theorem DL_build_149 : rs ML_build 149 = some (.dup, 1, 0, 0, 0, []) := rs_of (by decide +kernel) (by decide +kernel)
theorem DL_build_150 : rs ML_build 150 = some (.iconst 2, 1, 0, 0, 2, []) := rs_of (by decide +kernel) (by decide +kernel)
theorem DL_build_151 : rs ML_build 151 = some (.iload 9, 2, 0, 0, 0, []) := rs_of (by decide +kernel) (by decide +kernel)
theorem DL_build_153 : rs ML_build 153 = some (.iastore, 1, 0, 0, 0, []) := rs_of (by decide +kernel) (by decide +kernel)
theorem DL_build_154 : rs ML_build 154 = some (.aastore, 1, 25, 0, 0, []) := rs_of (by decide +kernel) (by decide +kernel)
theorem DL_build_155 : rs ML_build 155 = some (.iinc 4 1, 3, 4, 0, 1, []) := rs_of (by decide +kernel) (by decide +kernel)
theorem DL_build_158 : rs ML_build 158 = some (.goto (-137), 3, 21, 0, 0, []) := rs_of (by decide +kernel) (by decide +kernel)
theorem DL_build_161 : rs ML_build 161 = some (.iconst 1, 1, 0, 0, 1, []) := rs_of (by decide +kernel) (by decide +kernel)
theorem DL_build_162 : rs ML_build 162 = some (.aload_n 1, 1, 1, 0, 0, []) := rs_of (by decide +kernel) (by decide +kernel)
theorem DL_build_163 : rs ML_build 163 = some (.iconst 2, 1, 0, 0, 2, []) := rs_of (by decide +kernel) (by decide +kernel)
theorem DL_build_164 : rs ML_build 164 = some (.invokestatic 12, 3, 0, 0, 0, []) := rs_of (by decide +kernel) (by decide +kernel)
theorem DL_build_167 : rs ML_build 167 = some (.bipush 7, 2, 0, 0, 7, []) := rs_of (by decide +kernel) (by decide +kernel)
theorem DL_build_169 : rs ML_build 169 = some (.invokestatic 18, 3, 0, 0, 0, []) := rs_of (by decide +kernel) (by decide +kernel)
theorem DL_build_172 : rs ML_build 172 = some (.iadd, 1, 0, 0, 0, []) := rs_of (by decide +kernel) (by decide +kernel)
theorem DL_build_173 : rs ML_build 173 = some (.istore 4, 2, 0, 0, 0, []) := rs_of (by decide +kernel) (by decide +kernel)
theorem DL_build_175 : rs ML_build 175 = some (.iconst 0, 1, 0, 0, 0, []) := rs_of (by decide +kernel) (by decide +kernel)
theorem DL_build_176 : rs ML_build 176 = some (.istore 5, 2, 0, 0, 0, []) := rs_of (by decide +kernel) (by decide +kernel)
theorem DL_build_178 : rs ML_build 178 = some (.iload 5, 2, 0, 0, 0, []) := rs_of (by decide +kernel) (by decide +kernel)
theorem DL_build_180 : rs ML_build 180 = some (.iload 4, 2, 0, 0, 0, []) := rs_of (by decide +kernel) (by decide +kernel)
theorem DL_build_182 : rs ML_build 182 = some (.if_icmp .ge 299, 3, 481, 0, 0, []) := rs_of (by decide +kernel) (by decide +kernel)
theorem DL_build_185 : rs ML_build 185 = some (.aload_n 1, 1, 1, 0, 0, []) := rs_of (by decide +kernel) (by decide +kernel)
theorem DL_build_186 : rs ML_build 186 = some (.iconst 3, 1, 0, 0, 3, []) := rs_of (by decide +kernel) (by decide +kernel)
theorem DL_build_187 : rs ML_build 187 = some (.iload 5, 2, 0, 0, 0, []) := rs_of (by decide +kernel) (by decide +kernel)
theorem DL_build_189 : rs ML_build 189 = some (.iconst 4, 1, 0, 0, 4, []) := rs_of (by decide +kernel) (by decide +kernel)
theorem DL_build_190 : rs ML_build 190 = some (.irem, 1, 0, 0, 0, []) := rs_of (by decide +kernel) (by decide +kernel)
theorem DL_build_191 : rs ML_build 191 = some (.iadd, 1, 0, 0, 0, []) := rs_of (by decide +kernel) (by decide +kernel)
theorem DL_build_192 : rs ML_build 192 = some (.invokestatic 12, 3, 0, 0, 0, []) := rs_of (by decide +kernel) (by decide +kernel)
theorem DL_build_195 : rs ML_build 195 = some (.iload 5, 2, 0, 0, 0, []) := rs_of (by decide +kernel) (by decide +kernel)
theorem DL_build_197 : rs ML_build 197 = some (.ishr, 1, 0, 0, 0, []) := rs_of (by decide +kernel) (by decide +kernel)
theorem DL_build_198 : rs ML_build 198 = some (.bipush 37, 2, 0, 0, 37, []) := rs_of (by decide +kernel) (by decide +kernel)
theorem DL_build_200 : rs ML_build 200 = some (.iload 5, 2, 0, 0, 0, []) := rs_of (by decide +kernel) (by decide +kernel)
theorem DL_build_202 : rs ML_build 202 = some (.imul, 1, 0, 0, 0, []) := rs_of (by decide +kernel) (by decide +kernel)
theorem DL_build_203 : rs ML_build 203 = some (.iadd, 1, 0, 0, 0, []) := rs_of (by decide +kernel) (by decide +kernel)
theorem DL_build_204 : rs ML_build 204 = some (.istore 6, 2, 0, 0, 0, []) := rs_of (by decide +kernel) (by decide +kernel)
theorem DL_build_206 : rs ML_build 206 = some (.iconst 1, 1, 0, 0, 1, []) := rs_of (by decide +kernel) (by decide +kernel)
theorem DL_build_207 : rs ML_build 207 = some (.iload 6, 2, 0, 0, 0, []) := rs_of (by decide +kernel) (by decide +kernel)
theorem DL_build_209 : rs ML_build 209 = some (.iconst 4, 1, 0, 0, 4, []) := rs_of (by decide +kernel) (by decide +kernel)
theorem DL_build_210 : rs ML_build 210 = some (.invokestatic 18, 3, 0, 0, 0, []) := rs_of (by decide +kernel) (by decide +kernel)
theorem DL_build_213 : rs ML_build 213 = some (.iadd, 1, 0, 0, 0, []) := rs_of (by decide +kernel) (by decide +kernel)
theorem DL_build_214 : rs ML_build 214 = some (.istore 7, 2, 0, 0, 0, []) := rs_of (by decide +kernel) (by decide +kernel)
theorem DL_build_216 : rs ML_build 216 = some (.iconst 1, 1, 0, 0, 1, []) := rs_of (by decide +kernel) (by decide +kernel)
theorem DL_build_217 : rs ML_build 217 = some (.iload 6, 2, 0, 0, 0, []) := rs_of (by decide +kernel) (by decide +kernel)
theorem DL_build_219 : rs ML_build 219 = some (.iconst 2, 1, 0, 0, 2, []) := rs_of (by decide +kernel) (by decide +kernel)
theorem DL_build_220 : rs ML_build 220 = some (.ishr, 1, 0, 0, 0, []) := rs_of (by decide +kernel) (by decide +kernel)
theorem DL_build_221 : rs ML_build 221 = some (.iconst 4, 1, 0, 0, 4, []) := rs_of (by decide +kernel) (by decide +kernel)
theorem DL_build_222 : rs ML_build 222 = some (.invokestatic 18, 3, 0, 0, 0, []) := rs_of (by decide +kernel) (by decide +kernel)
theorem DL_build_225 : rs ML_build 225 = some (.iadd, 1, 0, 0, 0, []) := rs_of (by decide +kernel) (by decide +kernel)
theorem DL_build_226 : rs ML_build 226 = some (.istore 8, 2, 0, 0, 0, []) := rs_of (by decide +kernel) (by decide +kernel)
theorem DL_build_228 : rs ML_build 228 = some (.bipush 7, 2, 0, 0, 7, []) := rs_of (by decide +kernel) (by decide +kernel)
theorem DL_build_230 : rs ML_build 230 = some (.newarray .int, 2, 0, 0, 0, []) := rs_of (by decide +kernel) (by decide +kernel)
theorem DL_build_232 : rs ML_build 232 = some (.dup, 1, 0, 0, 0, []) := rs_of (by decide +kernel) (by decide +kernel)
theorem DL_build_233 : rs ML_build 233 = some (.iconst 0, 1, 0, 0, 0, []) := rs_of (by decide +kernel) (by decide +kernel)
theorem DL_build_234 : rs ML_build 234 = some (.iload 6, 2, 0, 0, 0, []) := rs_of (by decide +kernel) (by decide +kernel)
theorem DL_build_236 : rs ML_build 236 = some (.iconst 3, 1, 0, 0, 3, []) := rs_of (by decide +kernel) (by decide +kernel)
theorem DL_build_237 : rs ML_build 237 = some (.ishr, 1, 0, 0, 0, []) := rs_of (by decide +kernel) (by decide +kernel)
theorem DL_build_238 : rs ML_build 238 = some (.bipush 17, 2, 0, 0, 17, []) := rs_of (by decide +kernel) (by decide +kernel)
theorem DL_build_240 : rs ML_build 240 = some (.iload 7, 2, 0, 0, 0, []) := rs_of (by decide +kernel) (by decide +kernel)
theorem DL_build_242 : rs ML_build 242 = some (.isub, 1, 0, 0, 0, []) := rs_of (by decide +kernel) (by decide +kernel)
theorem DL_build_243 : rs ML_build 243 = some (.invokestatic 18, 3, 0, 0, 0, []) := rs_of (by decide +kernel) (by decide +kernel)
theorem DL_build_246 : rs ML_build 246 = some (.iastore, 1, 0, 0, 0, []) := rs_of (by decide +kernel) (by decide +kernel)
theorem DL_build_247 : rs ML_build 247 = some (.dup, 1, 0, 0, 0, []) := rs_of (by decide +kernel) (by decide +kernel)
theorem DL_build_248 : rs ML_build 248 = some (.iconst 1, 1, 0, 0, 1, []) := rs_of (by decide +kernel) (by decide +kernel)
theorem DL_build_249 : rs ML_build 249 = some (.iload 6, 2, 0, 0, 0, []) := rs_of (by decide +kernel) (by decide +kernel)
theorem DL_build_251 : rs ML_build 251 = some (.iconst 5, 1, 0, 0, 5, []) := rs_of (by decide +kernel) (by decide +kernel)
theorem DL_build_252 : rs ML_build 252 = some (.ishr, 1, 0, 0, 0, []) := rs_of (by decide +kernel) (by decide +kernel)
theorem DL_build_253 : rs ML_build 253 = some (.bipush 17, 2, 0, 0, 17, []) := rs_of (by decide +kernel) (by decide +kernel)
theorem DL_build_255 : rs ML_build 255 = some (.iload 8, 2, 0, 0, 0, []) := rs_of (by decide +kernel) (by decide +kernel)
theorem DL_build_257 : rs ML_build 257 = some (.isub, 1, 0, 0, 0, []) := rs_of (by decide +kernel) (by decide +kernel)
theorem DL_build_258 : rs ML_build 258 = some (.invokestatic 18, 3, 0, 0, 0, []) := rs_of (by decide +kernel) (by decide +kernel)
theorem DL_build_261 : rs ML_build 261 = some (.iastore, 1, 0, 0, 0, []) := rs_of (by decide +kernel) (by decide +kernel)
theorem DL_build_262 : rs ML_build 262 = some (.dup, 1, 0, 0, 0, []) := rs_of (by decide +kernel) (by decide +kernel)
theorem DL_build_263 : rs ML_build 263 = some (.iconst 2, 1, 0, 0, 2, []) := rs_of (by decide +kernel) (by decide +kernel)
theorem DL_build_264 : rs ML_build 264 = some (.iload 7, 2, 0, 0, 0, []) := rs_of (by decide +kernel) (by decide +kernel)
theorem DL_build_266 : rs ML_build 266 = some (.iastore, 1, 0, 0, 0, []) := rs_of (by decide +kernel) (by decide +kernel)
theorem DL_build_267 : rs ML_build 267 = some (.dup, 1, 0, 0, 0, []) := rs_of (by decide +kernel) (by decide +kernel)
theorem DL_build_268 : rs ML_build 268 = some (.iconst 3, 1, 0, 0, 3, []) := rs_of (by decide +kernel) (by decide +kernel)
theorem DL_build_269 : rs ML_build 269 = some (.iload 8, 2, 0, 0, 0, []) := rs_of (by decide +kernel) (by decide +kernel)
theorem DL_build_271 : rs ML_build 271 = some (.iastore, 1, 0, 0, 0, []) := rs_of (by decide +kernel) (by decide +kernel)
theorem DL_build_272 : rs ML_build 272 = some (.dup, 1, 0, 0, 0, []) := rs_of (by decide +kernel) (by decide +kernel)
theorem DL_build_273 : rs ML_build 273 = some (.iconst 4, 1, 0, 0, 4, []) := rs_of (by decide +kernel) (by decide +kernel)
theorem DL_build_274 : rs ML_build 274 = some (.iconst 1, 1, 0, 0, 1, []) := rs_of (by decide +kernel) (by decide +kernel)
theorem DL_build_275 : rs ML_build 275 = some (.iload 6, 2, 0, 0, 0, []) := rs_of (by decide +kernel) (by decide +kernel)
theorem DL_build_277 : rs ML_build 277 = some (.bipush 6, 2, 0, 0, 6, []) := rs_of (by decide +kernel) (by decide +kernel)
theorem DL_build_279 : rs ML_build 279 = some (.ishr, 1, 0, 0, 0, []) := rs_of (by decide +kernel) (by decide +kernel)
theorem DL_build_280 : rs ML_build 280 = some (.bipush 9, 2, 0, 0, 9, []) := rs_of (by decide +kernel) (by decide +kernel)
theorem DL_build_282 : rs ML_build 282 = some (.invokestatic 18, 3, 0, 0, 0, []) := rs_of (by decide +kernel) (by decide +kernel)
theorem DL_build_285 : rs ML_build 285 = some (.iadd, 1, 0, 0, 0, []) := rs_of (by decide +kernel) (by decide +kernel)
theorem DL_build_286 : rs ML_build 286 = some (.iastore, 1, 0, 0, 0, []) := rs_of (by decide +kernel) (by decide +kernel)
theorem DL_build_287 : rs ML_build 287 = some (.dup, 1, 0, 0, 0, []) := rs_of (by decide +kernel) (by decide +kernel)
theorem DL_build_288 : rs ML_build 288 = some (.iconst 5, 1, 0, 0, 5, []) := rs_of (by decide +kernel) (by decide +kernel)
theorem DL_build_289 : rs ML_build 289 = some (.iload 6, 2, 0, 0, 0, []) := rs_of (by decide +kernel) (by decide +kernel)
theorem DL_build_291 : rs ML_build 291 = some (.bipush 8, 2, 0, 0, 8, []) := rs_of (by decide +kernel) (by decide +kernel)
theorem DL_build_293 : rs ML_build 293 = some (.ishr, 1, 0, 0, 0, []) := rs_of (by decide +kernel) (by decide +kernel)
theorem DL_build_294 : rs ML_build 294 = some (.bipush 8, 2, 0, 0, 8, []) := rs_of (by decide +kernel) (by decide +kernel)
theorem DL_build_296 : rs ML_build 296 = some (.invokestatic 18, 3, 0, 0, 0, []) := rs_of (by decide +kernel) (by decide +kernel)
theorem DL_build_299 : rs ML_build 299 = some (.iastore, 1, 0, 0, 0, []) := rs_of (by decide +kernel) (by decide +kernel)
theorem DL_build_300 : rs ML_build 300 = some (.dup, 1, 0, 0, 0, []) := rs_of (by decide +kernel) (by decide +kernel)
theorem DL_build_301 : rs ML_build 301 = some (.bipush 6, 2, 0, 0, 6, []) := rs_of (by decide +kernel) (by decide +kernel)
theorem DL_build_303 : rs ML_build 303 = some (.iconst 1, 1, 0, 0, 1, []) := rs_of (by decide +kernel) (by decide +kernel)
theorem DL_build_304 : rs ML_build 304 = some (.iastore, 1, 0, 0, 0, []) := rs_of (by decide +kernel) (by decide +kernel)
theorem DL_build_305 : rs ML_build 305 = some (.astore 9, 2, 0, 0, 0, []) := rs_of (by decide +kernel) (by decide +kernel)
theorem DL_build_307 : rs ML_build 307 = some (.iconst 1, 1, 0, 0, 1, []) := rs_of (by decide +kernel) (by decide +kernel)
theorem DL_build_308 : rs ML_build 308 = some (.istore 10, 2, 0, 0, 0, []) := rs_of (by decide +kernel) (by decide +kernel)
theorem DL_build_310 : rs ML_build 310 = some (.aload_n 2, 1, 2, 0, 0, []) := rs_of (by decide +kernel) (by decide +kernel)
theorem DL_build_311 : rs ML_build 311 = some (.getfield 32, 3, 6, 3, 0, []) := rs_of (by decide +kernel) (by decide +kernel)
theorem DL_build_314 : rs ML_build 314 = some (.astore 11, 2, 0, 0, 0, []) := rs_of (by decide +kernel) (by decide +kernel)
theorem DL_build_316 : rs ML_build 316 = some (.aload 11, 2, 0, 0, 0, []) := rs_of (by decide +kernel) (by decide +kernel)
theorem DL_build_318 : rs ML_build 318 = some (.arraylength, 1, 25, 0, 0, []) := rs_of (by decide +kernel) (by decide +kernel)
theorem DL_build_319 : rs ML_build 319 = some (.istore 12, 2, 0, 0, 0, []) := rs_of (by decide +kernel) (by decide +kernel)
theorem DL_build_321 : rs ML_build 321 = some (.iconst 0, 1, 0, 0, 0, []) := rs_of (by decide +kernel) (by decide +kernel)
theorem DL_build_322 : rs ML_build 322 = some (.istore 13, 2, 0, 0, 0, []) := rs_of (by decide +kernel) (by decide +kernel)
theorem DL_build_324 : rs ML_build 324 = some (.iload 13, 2, 0, 0, 0, []) := rs_of (by decide +kernel) (by decide +kernel)
theorem DL_build_326 : rs ML_build 326 = some (.iload 12, 2, 0, 0, 0, []) := rs_of (by decide +kernel) (by decide +kernel)
theorem DL_build_328 : rs ML_build 328 = some (.if_icmp .ge 92, 3, 420, 0, 0, []) := rs_of (by decide +kernel) (by decide +kernel)
theorem DL_build_331 : rs ML_build 331 = some (.aload 11, 2, 0, 0, 0, []) := rs_of (by decide +kernel) (by decide +kernel)
theorem DL_build_333 : rs ML_build 333 = some (.iload 13, 2, 0, 0, 0, []) := rs_of (by decide +kernel) (by decide +kernel)
theorem DL_build_335 : rs ML_build 335 = some (.aaload, 1, 25, 0, 0, []) := rs_of (by decide +kernel) (by decide +kernel)
theorem DL_build_336 : rs ML_build 336 = some (.astore 14, 2, 0, 0, 0, []) := rs_of (by decide +kernel) (by decide +kernel)
theorem DL_build_338 : rs ML_build 338 = some (.iload 10, 2, 0, 0, 0, []) := rs_of (by decide +kernel) (by decide +kernel)
theorem DL_build_340 : rs ML_build 340 = some (.ifCond .eq 71, 3, 411, 0, 0, []) := rs_of (by decide +kernel) (by decide +kernel)
theorem DL_build_343 : rs ML_build 343 = some (.aload 9, 2, 0, 0, 0, []) := rs_of (by decide +kernel) (by decide +kernel)
theorem DL_build_345 : rs ML_build 345 = some (.iconst 0, 1, 0, 0, 0, []) := rs_of (by decide +kernel) (by decide +kernel)
theorem DL_build_346 : rs ML_build 346 = some (.iaload, 1, 0, 0, 0, []) := rs_of (by decide +kernel) (by decide +kernel)
theorem DL_build_347 : rs ML_build 347 = some (.aload 9, 2, 0, 0, 0, []) := rs_of (by decide +kernel) (by decide +kernel)
theorem DL_build_349 : rs ML_build 349 = some (.iconst 2, 1, 0, 0, 2, []) := rs_of (by decide +kernel) (by decide +kernel)
theorem DL_build_350 : rs ML_build 350 = some (.iaload, 1, 0, 0, 0, []) := rs_of (by decide +kernel) (by decide +kernel)
theorem DL_build_351 : rs ML_build 351 = some (.iadd, 1, 0, 0, 0, []) := rs_of (by decide +kernel) (by decide +kernel)
theorem DL_build_352 : rs ML_build 352 = some (.aload 14, 2, 0, 0, 0, []) := rs_of (by decide +kernel) (by decide +kernel)
theorem DL_build_354 : rs ML_build 354 = some (.iconst 0, 1, 0, 0, 0, []) := rs_of (by decide +kernel) (by decide +kernel)
theorem DL_build_355 : rs ML_build 355 = some (.iaload, 1, 0, 0, 0, []) := rs_of (by decide +kernel) (by decide +kernel)
theorem DL_build_356 : rs ML_build 356 = some (.if_icmp .le 51, 3, 407, 0, 0, []) := rs_of (by decide +kernel) (by decide +kernel)
theorem DL_build_359 : rs ML_build 359 = some (.aload 14, 2, 0, 0, 0, []) := rs_of (by decide +kernel) (by decide +kernel)
theorem DL_build_361 : rs ML_build 361 = some (.iconst 0, 1, 0, 0, 0, []) := rs_of (by decide +kernel) (by decide +kernel)
theorem DL_build_362 : rs ML_build 362 = some (.iaload, 1, 0, 0, 0, []) := rs_of (by decide +kernel) (by decide +kernel)
theorem DL_build_363 : rs ML_build 363 = some (.aload 14, 2, 0, 0, 0, []) := rs_of (by decide +kernel) (by decide +kernel)
theorem DL_build_365 : rs ML_build 365 = some (.iconst 2, 1, 0, 0, 2, []) := rs_of (by decide +kernel) (by decide +kernel)
theorem DL_build_366 : rs ML_build 366 = some (.iaload, 1, 0, 0, 0, []) := rs_of (by decide +kernel) (by decide +kernel)
theorem DL_build_367 : rs ML_build 367 = some (.iadd, 1, 0, 0, 0, []) := rs_of (by decide +kernel) (by decide +kernel)
theorem DL_build_368 : rs ML_build 368 = some (.aload 9, 2, 0, 0, 0, []) := rs_of (by decide +kernel) (by decide +kernel)
theorem DL_build_370 : rs ML_build 370 = some (.iconst 0, 1, 0, 0, 0, []) := rs_of (by decide +kernel) (by decide +kernel)
theorem DL_build_371 : rs ML_build 371 = some (.iaload, 1, 0, 0, 0, []) := rs_of (by decide +kernel) (by decide +kernel)
theorem DL_build_372 : rs ML_build 372 = some (.if_icmp .le 35, 3, 407, 0, 0, []) := rs_of (by decide +kernel) (by decide +kernel)
theorem DL_build_375 : rs ML_build 375 = some (.aload 9, 2, 0, 0, 0, []) := rs_of (by decide +kernel) (by decide +kernel)
theorem DL_build_377 : rs ML_build 377 = some (.iconst 1, 1, 0, 0, 1, []) := rs_of (by decide +kernel) (by decide +kernel)
theorem DL_build_378 : rs ML_build 378 = some (.iaload, 1, 0, 0, 0, []) := rs_of (by decide +kernel) (by decide +kernel)
theorem DL_build_379 : rs ML_build 379 = some (.aload 9, 2, 0, 0, 0, []) := rs_of (by decide +kernel) (by decide +kernel)
theorem DL_build_381 : rs ML_build 381 = some (.iconst 3, 1, 0, 0, 3, []) := rs_of (by decide +kernel) (by decide +kernel)
theorem DL_build_382 : rs ML_build 382 = some (.iaload, 1, 0, 0, 0, []) := rs_of (by decide +kernel) (by decide +kernel)
theorem DL_build_383 : rs ML_build 383 = some (.iadd, 1, 0, 0, 0, []) := rs_of (by decide +kernel) (by decide +kernel)
theorem DL_build_384 : rs ML_build 384 = some (.aload 14, 2, 0, 0, 0, []) := rs_of (by decide +kernel) (by decide +kernel)
theorem DL_build_386 : rs ML_build 386 = some (.iconst 1, 1, 0, 0, 1, []) := rs_of (by decide +kernel) (by decide +kernel)
theorem DL_build_387 : rs ML_build 387 = some (.iaload, 1, 0, 0, 0, []) := rs_of (by decide +kernel) (by decide +kernel)
theorem DL_build_388 : rs ML_build 388 = some (.if_icmp .le 19, 3, 407, 0, 0, []) := rs_of (by decide +kernel) (by decide +kernel)
theorem DL_build_391 : rs ML_build 391 = some (.aload 14, 2, 0, 0, 0, []) := rs_of (by decide +kernel) (by decide +kernel)
theorem DL_build_393 : rs ML_build 393 = some (.iconst 1, 1, 0, 0, 1, []) := rs_of (by decide +kernel) (by decide +kernel)
theorem DL_build_394 : rs ML_build 394 = some (.iaload, 1, 0, 0, 0, []) := rs_of (by decide +kernel) (by decide +kernel)
theorem DL_build_395 : rs ML_build 395 = some (.aload 14, 2, 0, 0, 0, []) := rs_of (by decide +kernel) (by decide +kernel)
theorem DL_build_397 : rs ML_build 397 = some (.iconst 3, 1, 0, 0, 3, []) := rs_of (by decide +kernel) (by decide +kernel)
theorem DL_build_398 : rs ML_build 398 = some (.iaload, 1, 0, 0, 0, []) := rs_of (by decide +kernel) (by decide +kernel)
theorem DL_build_399 : rs ML_build 399 = some (.iadd, 1, 0, 0, 0, []) := rs_of (by decide +kernel) (by decide +kernel)
theorem DL_build_400 : rs ML_build 400 = some (.aload 9, 2, 0, 0, 0, []) := rs_of (by decide +kernel) (by decide +kernel)
theorem DL_build_402 : rs ML_build 402 = some (.iconst 1, 1, 0, 0, 1, []) := rs_of (by decide +kernel) (by decide +kernel)
theorem DL_build_403 : rs ML_build 403 = some (.iaload, 1, 0, 0, 0, []) := rs_of (by decide +kernel) (by decide +kernel)
theorem DL_build_404 : rs ML_build 404 = some (.if_icmp .gt 7, 3, 411, 0, 0, []) := rs_of (by decide +kernel) (by decide +kernel)
theorem DL_build_407 : rs ML_build 407 = some (.iconst 1, 1, 0, 0, 1, []) := rs_of (by decide +kernel) (by decide +kernel)
theorem DL_build_408 : rs ML_build 408 = some (.goto 4, 3, 412, 0, 0, []) := rs_of (by decide +kernel) (by decide +kernel)
theorem DL_build_411 : rs ML_build 411 = some (.iconst 0, 1, 0, 0, 0, []) := rs_of (by decide +kernel) (by decide +kernel)
theorem DL_build_412 : rs ML_build 412 = some (.istore 10, 2, 0, 0, 0, []) := rs_of (by decide +kernel) (by decide +kernel)
theorem DL_build_414 : rs ML_build 414 = some (.iinc 13 1, 3, 13, 0, 1, []) := rs_of (by decide +kernel) (by decide +kernel)
theorem DL_build_417 : rs ML_build 417 = some (.goto (-93), 3, 324, 0, 0, []) := rs_of (by decide +kernel) (by decide +kernel)
theorem DL_build_420 : rs ML_build 420 = some (.iload 10, 2, 0, 0, 0, []) := rs_of (by decide +kernel) (by decide +kernel)
theorem DL_build_422 : rs ML_build 422 = some (.ifCond .ne 6, 3, 428, 0, 0, []) := rs_of (by decide +kernel) (by decide +kernel)
theorem DL_build_425 : rs ML_build 425 = some (.goto 50, 3, 475, 0, 0, []) := rs_of (by decide +kernel) (by decide +kernel)
theorem DL_build_428 : rs ML_build 428 = some (.aload_n 0, 1, 0, 0, 0, []) := rs_of (by decide +kernel) (by decide +kernel)
theorem DL_build_429 : rs ML_build 429 = some (.aload 9, 2, 0, 0, 0, []) := rs_of (by decide +kernel) (by decide +kernel)
theorem DL_build_431 : rs ML_build 431 = some (.iconst 0, 1, 0, 0, 0, []) := rs_of (by decide +kernel) (by decide +kernel)
theorem DL_build_432 : rs ML_build 432 = some (.iaload, 1, 0, 0, 0, []) := rs_of (by decide +kernel) (by decide +kernel)
theorem DL_build_433 : rs ML_build 433 = some (.aload 9, 2, 0, 0, 0, []) := rs_of (by decide +kernel) (by decide +kernel)
theorem DL_build_435 : rs ML_build 435 = some (.iconst 1, 1, 0, 0, 1, []) := rs_of (by decide +kernel) (by decide +kernel)
theorem DL_build_436 : rs ML_build 436 = some (.iaload, 1, 0, 0, 0, []) := rs_of (by decide +kernel) (by decide +kernel)
theorem DL_build_437 : rs ML_build 437 = some (.iload 7, 2, 0, 0, 0, []) := rs_of (by decide +kernel) (by decide +kernel)
theorem DL_build_439 : rs ML_build 439 = some (.iload 8, 2, 0, 0, 0, []) := rs_of (by decide +kernel) (by decide +kernel)
theorem DL_build_441 : rs ML_build 441 = some (.aload 9, 2, 0, 0, 0, []) := rs_of (by decide +kernel) (by decide +kernel)
theorem DL_build_443 : rs ML_build 443 = some (.iconst 4, 1, 0, 0, 4, []) := rs_of (by decide +kernel) (by decide +kernel)
theorem DL_build_444 : rs ML_build 444 = some (.iaload, 1, 0, 0, 0, []) := rs_of (by decide +kernel) (by decide +kernel)
theorem DL_build_445 : rs ML_build 445 = some (.aload 9, 2, 0, 0, 0, []) := rs_of (by decide +kernel) (by decide +kernel)
theorem DL_build_447 : rs ML_build 447 = some (.iconst 5, 1, 0, 0, 5, []) := rs_of (by decide +kernel) (by decide +kernel)
theorem DL_build_448 : rs ML_build 448 = some (.iaload, 1, 0, 0, 0, []) := rs_of (by decide +kernel) (by decide +kernel)
theorem DL_build_449 : rs ML_build 449 = some (.invokevirtual 35, 3, 0, 0, 0, []) := rs_of (by decide +kernel) (by decide +kernel)
theorem DL_build_452 : rs ML_build 452 = some (.aload_n 2, 1, 2, 0, 0, []) := rs_of (by decide +kernel) (by decide +kernel)
theorem DL_build_453 : rs ML_build 453 = some (.getfield 32, 3, 6, 3, 0, []) := rs_of (by decide +kernel) (by decide +kernel)
theorem DL_build_456 : rs ML_build 456 = some (.arraylength, 1, 25, 0, 0, []) := rs_of (by decide +kernel) (by decide +kernel)
theorem DL_build_457 : rs ML_build 457 = some (.if_icmp .eq 5, 3, 462, 0, 0, []) := rs_of (by decide +kernel) (by decide +kernel)
theorem DL_build_460 : rs ML_build 460 = some (.aconst_null, 1, 0, 0, 0, []) := rs_of (by decide +kernel) (by decide +kernel)
theorem DL_build_461 : rs ML_build 461 = some (.areturn, 1, 0, 0, 0, []) := rs_of (by decide +kernel) (by decide +kernel)
theorem DL_build_462 : rs ML_build 462 = some (.aload_n 2, 1, 2, 0, 0, []) := rs_of (by decide +kernel) (by decide +kernel)
theorem DL_build_463 : rs ML_build 463 = some (.aload_n 2, 1, 2, 0, 0, []) := rs_of (by decide +kernel) (by decide +kernel)
theorem DL_build_464 : rs ML_build 464 = some (.getfield 32, 3, 6, 3, 0, []) := rs_of (by decide +kernel) (by decide +kernel)
theorem DL_build_467 : rs ML_build 467 = some (.aload 9, 2, 0, 0, 0, []) := rs_of (by decide +kernel) (by decide +kernel)
theorem DL_build_469 : rs ML_build 469 = some (.invokestatic 39, 3, 0, 0, 0, []) := rs_of (by decide +kernel) (by decide +kernel)
theorem DL_build_472 : rs ML_build 472 = some (.putfield 32, 3, 6, 3, 0, []) := rs_of (by decide +kernel) (by decide +kernel)
theorem DL_build_475 : rs ML_build 475 = some (.iinc 5 1, 3, 5, 0, 1, []) := rs_of (by decide +kernel) (by decide +kernel)
theorem DL_build_478 : rs ML_build 478 = some (.goto (-300), 3, 178, 0, 0, []) := rs_of (by decide +kernel) (by decide +kernel)
theorem DL_build_481 : rs ML_build 481 = some (.aload_n 2, 1, 2, 0, 0, []) := rs_of (by decide +kernel) (by decide +kernel)
theorem DL_build_482 : rs ML_build 482 = some (.invokevirtual 43, 3, 0, 0, 0, []) := rs_of (by decide +kernel) (by decide +kernel)
theorem DL_build_485 : rs ML_build 485 = some (.aload_n 1, 1, 1, 0, 0, []) := rs_of (by decide +kernel) (by decide +kernel)
theorem DL_build_486 : rs ML_build 486 = some (.bipush 7, 2, 0, 0, 7, []) := rs_of (by decide +kernel) (by decide +kernel)
theorem DL_build_488 : rs ML_build 488 = some (.invokestatic 12, 3, 0, 0, 0, []) := rs_of (by decide +kernel) (by decide +kernel)
theorem DL_build_491 : rs ML_build 491 = some (.bipush 16, 2, 0, 0, 16, []) := rs_of (by decide +kernel) (by decide +kernel)
theorem DL_build_493 : rs ML_build 493 = some (.invokestatic 18, 3, 0, 0, 0, []) := rs_of (by decide +kernel) (by decide +kernel)
theorem DL_build_496 : rs ML_build 496 = some (.istore 5, 2, 0, 0, 0, []) := rs_of (by decide +kernel) (by decide +kernel)
theorem DL_build_498 : rs ML_build 498 = some (.iconst 0, 1, 0, 0, 0, []) := rs_of (by decide +kernel) (by decide +kernel)
theorem DL_build_499 : rs ML_build 499 = some (.istore 6, 2, 0, 0, 0, []) := rs_of (by decide +kernel) (by decide +kernel)
theorem DL_build_501 : rs ML_build 501 = some (.iload 6, 2, 0, 0, 0, []) := rs_of (by decide +kernel) (by decide +kernel)
theorem DL_build_503 : rs ML_build 503 = some (.iload 5, 2, 0, 0, 0, []) := rs_of (by decide +kernel) (by decide +kernel)
theorem DL_build_505 : rs ML_build 505 = some (.if_icmp .ge 221, 3, 726, 0, 0, []) := rs_of (by decide +kernel) (by decide +kernel)
theorem DL_build_508 : rs ML_build 508 = some (.aload_n 1, 1, 1, 0, 0, []) := rs_of (by decide +kernel) (by decide +kernel)
theorem DL_build_509 : rs ML_build 509 = some (.bipush 8, 2, 0, 0, 8, []) := rs_of (by decide +kernel) (by decide +kernel)
theorem DL_build_511 : rs ML_build 511 = some (.iload 6, 2, 0, 0, 0, []) := rs_of (by decide +kernel) (by decide +kernel)
theorem DL_build_513 : rs ML_build 513 = some (.bipush 8, 2, 0, 0, 8, []) := rs_of (by decide +kernel) (by decide +kernel)
theorem DL_build_515 : rs ML_build 515 = some (.irem, 1, 0, 0, 0, []) := rs_of (by decide +kernel) (by decide +kernel)
theorem DL_build_516 : rs ML_build 516 = some (.iadd, 1, 0, 0, 0, []) := rs_of (by decide +kernel) (by decide +kernel)
theorem DL_build_517 : rs ML_build 517 = some (.invokestatic 12, 3, 0, 0, 0, []) := rs_of (by decide +kernel) (by decide +kernel)
theorem DL_build_520 : rs ML_build 520 = some (.iload 6, 2, 0, 0, 0, []) := rs_of (by decide +kernel) (by decide +kernel)
theorem DL_build_522 : rs ML_build 522 = some (.iconst 2, 1, 0, 0, 2, []) := rs_of (by decide +kernel) (by decide +kernel)
theorem DL_build_523 : rs ML_build 523 = some (.idiv, 1, 0, 0, 0, []) := rs_of (by decide +kernel) (by decide +kernel)
theorem DL_build_524 : rs ML_build 524 = some (.ishr, 1, 0, 0, 0, []) := rs_of (by decide +kernel) (by decide +kernel)
theorem DL_build_525 : rs ML_build 525 = some (.bipush 11, 2, 0, 0, 11, []) := rs_of (by decide +kernel) (by decide +kernel)
theorem DL_build_527 : rs ML_build 527 = some (.iload 6, 2, 0, 0, 0, []) := rs_of (by decide +kernel) (by decide +kernel)
theorem DL_build_529 : rs ML_build 529 = some (.imul, 1, 0, 0, 0, []) := rs_of (by decide +kernel) (by decide +kernel)
theorem DL_build_530 : rs ML_build 530 = some (.iadd, 1, 0, 0, 0, []) := rs_of (by decide +kernel) (by decide +kernel)
theorem DL_build_531 : rs ML_build 531 = some (.istore 7, 2, 0, 0, 0, []) := rs_of (by decide +kernel) (by decide +kernel)
theorem DL_build_533 : rs ML_build 533 = some (.iload 7, 2, 0, 0, 0, []) := rs_of (by decide +kernel) (by decide +kernel)
theorem DL_build_535 : rs ML_build 535 = some (.iconst 2, 1, 0, 0, 2, []) := rs_of (by decide +kernel) (by decide +kernel)
theorem DL_build_536 : rs ML_build 536 = some (.ishr, 1, 0, 0, 0, []) := rs_of (by decide +kernel) (by decide +kernel)
theorem DL_build_537 : rs ML_build 537 = some (.bipush 12, 2, 0, 0, 12, []) := rs_of (by decide +kernel) (by decide +kernel)
theorem DL_build_539 : rs ML_build 539 = some (.invokestatic 18, 3, 0, 0, 0, []) := rs_of (by decide +kernel) (by decide +kernel)
theorem DL_build_542 : rs ML_build 542 = some (.istore 8, 2, 0, 0, 0, []) := rs_of (by decide +kernel) (by decide +kernel)
theorem DL_build_544 : rs ML_build 544 = some (.bipush 9, 2, 0, 0, 9, []) := rs_of (by decide +kernel) (by decide +kernel)
theorem DL_build_546 : rs ML_build 546 = some (.newarray .int, 2, 0, 0, 0, []) := rs_of (by decide +kernel) (by decide +kernel)
theorem DL_build_548 : rs ML_build 548 = some (.dup, 1, 0, 0, 0, []) := rs_of (by decide +kernel) (by decide +kernel)
theorem DL_build_549 : rs ML_build 549 = some (.iconst 0, 1, 0, 0, 0, []) := rs_of (by decide +kernel) (by decide +kernel)
theorem DL_build_550 : rs ML_build 550 = some (.iload 7, 2, 0, 0, 0, []) := rs_of (by decide +kernel) (by decide +kernel)
theorem DL_build_552 : rs ML_build 552 = some (.aload_n 2, 1, 2, 0, 0, []) := rs_of (by decide +kernel) (by decide +kernel)
theorem DL_build_553 : rs ML_build 553 = some (.getfield 32, 3, 6, 3, 0, []) := rs_of (by decide +kernel) (by decide +kernel)
theorem DL_build_556 : rs ML_build 556 = some (.arraylength, 1, 25, 0, 0, []) := rs_of (by decide +kernel) (by decide +kernel)
theorem DL_build_557 : rs ML_build 557 = some (.invokestatic 18, 3, 0, 0, 0, []) := rs_of (by decide +kernel) (by decide +kernel)
theorem DL_build_560 : rs ML_build 560 = some (.iastore, 1, 0, 0, 0, []) := rs_of (by decide +kernel) (by decide +kernel)
theorem DL_build_561 : rs ML_build 561 = some (.dup, 1, 0, 0, 0, []) := rs_of (by decide +kernel) (by decide +kernel)
theorem DL_build_562 : rs ML_build 562 = some (.iconst 1, 1, 0, 0, 1, []) := rs_of (by decide +kernel) (by decide +kernel)
theorem DL_build_563 : rs ML_build 563 = some (.iload 7, 2, 0, 0, 0, []) := rs_of (by decide +kernel) (by decide +kernel)
theorem DL_build_565 : rs ML_build 565 = some (.iconst 3, 1, 0, 0, 3, []) := rs_of (by decide +kernel) (by decide +kernel)
theorem DL_build_566 : rs ML_build 566 = some (.ishr, 1, 0, 0, 0, []) := rs_of (by decide +kernel) (by decide +kernel)
theorem DL_build_567 : rs ML_build 567 = some (.bipush 16, 2, 0, 0, 16, []) := rs_of (by decide +kernel) (by decide +kernel)
theorem DL_build_569 : rs ML_build 569 = some (.invokestatic 18, 3, 0, 0, 0, []) := rs_of (by decide +kernel) (by decide +kernel)
theorem DL_build_572 : rs ML_build 572 = some (.iastore, 1, 0, 0, 0, []) := rs_of (by decide +kernel) (by decide +kernel)
theorem DL_build_573 : rs ML_build 573 = some (.dup, 1, 0, 0, 0, []) := rs_of (by decide +kernel) (by decide +kernel)
theorem DL_build_574 : rs ML_build 574 = some (.iconst 2, 1, 0, 0, 2, []) := rs_of (by decide +kernel) (by decide +kernel)
theorem DL_build_575 : rs ML_build 575 = some (.iload 8, 2, 0, 0, 0, []) := rs_of (by decide +kernel) (by decide +kernel)
theorem DL_build_577 : rs ML_build 577 = some (.iastore, 1, 0, 0, 0, []) := rs_of (by decide +kernel) (by decide +kernel)
theorem DL_build_578 : rs ML_build 578 = some (.dup, 1, 0, 0, 0, []) := rs_of (by decide +kernel) (by decide +kernel)
theorem DL_build_579 : rs ML_build 579 = some (.iconst 3, 1, 0, 0, 3, []) := rs_of (by decide +kernel) (by decide +kernel)
theorem DL_build_580 : rs ML_build 580 = some (.iload 8, 2, 0, 0, 0, []) := rs_of (by decide +kernel) (by decide +kernel)
theorem DL_build_582 : rs ML_build 582 = some (.iload 7, 2, 0, 0, 0, []) := rs_of (by decide +kernel) (by decide +kernel)
theorem DL_build_584 : rs ML_build 584 = some (.iconst 4, 1, 0, 0, 4, []) := rs_of (by decide +kernel) (by decide +kernel)
theorem DL_build_585 : rs ML_build 585 = some (.ishr, 1, 0, 0, 0, []) := rs_of (by decide +kernel) (by decide +kernel)
theorem DL_build_586 : rs ML_build 586 = some (.bipush 12, 2, 0, 0, 12, []) := rs_of (by decide +kernel) (by decide +kernel)
theorem DL_build_588 : rs ML_build 588 = some (.iload 8, 2, 0, 0, 0, []) := rs_of (by decide +kernel) (by decide +kernel)
theorem DL_build_590 : rs ML_build 590 = some (.isub, 1, 0, 0, 0, []) := rs_of (by decide +kernel) (by decide +kernel)
theorem DL_build_591 : rs ML_build 591 = some (.invokestatic 18, 3, 0, 0, 0, []) := rs_of (by decide +kernel) (by decide +kernel)
theorem DL_build_594 : rs ML_build 594 = some (.iadd, 1, 0, 0, 0, []) := rs_of (by decide +kernel) (by decide +kernel)
theorem DL_build_595 : rs ML_build 595 = some (.iastore, 1, 0, 0, 0, []) := rs_of (by decide +kernel) (by decide +kernel)
theorem DL_build_596 : rs ML_build 596 = some (.dup, 1, 0, 0, 0, []) := rs_of (by decide +kernel) (by decide +kernel)
theorem DL_build_597 : rs ML_build 597 = some (.iconst 4, 1, 0, 0, 4, []) := rs_of (by decide +kernel) (by decide +kernel)
theorem DL_build_598 : rs ML_build 598 = some (.iconst 1, 1, 0, 0, 1, []) := rs_of (by decide +kernel) (by decide +kernel)
theorem DL_build_599 : rs ML_build 599 = some (.iload 7, 2, 0, 0, 0, []) := rs_of (by decide +kernel) (by decide +kernel)
theorem DL_build_601 : rs ML_build 601 = some (.iconst 5, 1, 0, 0, 5, []) := rs_of (by decide +kernel) (by decide +kernel)
theorem DL_build_602 : rs ML_build 602 = some (.ishr, 1, 0, 0, 0, []) := rs_of (by decide +kernel) (by decide +kernel)
theorem DL_build_603 : rs ML_build 603 = some (.iload 7, 2, 0, 0, 0, []) := rs_of (by decide +kernel) (by decide +kernel)
theorem DL_build_605 : rs ML_build 605 = some (.bipush 7, 2, 0, 0, 7, []) := rs_of (by decide +kernel) (by decide +kernel)
theorem DL_build_607 : rs ML_build 607 = some (.ishr, 1, 0, 0, 0, []) := rs_of (by decide +kernel) (by decide +kernel)
theorem DL_build_608 : rs ML_build 608 = some (.iconst 2, 1, 0, 0, 2, []) := rs_of (by decide +kernel) (by decide +kernel)
theorem DL_build_609 : rs ML_build 609 = some (.invokestatic 18, 3, 0, 0, 0, []) := rs_of (by decide +kernel) (by decide +kernel)
theorem DL_build_612 : rs ML_build 612 = some (.ifCond .ne 8, 3, 620, 0, 0, []) := rs_of (by decide +kernel) (by decide +kernel)
theorem DL_build_615 : rs ML_build 615 = some (.bipush 6, 2, 0, 0, 6, []) := rs_of (by decide +kernel) (by decide +kernel)
theorem DL_build_617 : rs ML_build 617 = some (.goto 5, 3, 622, 0, 0, []) := rs_of (by decide +kernel) (by decide +kernel)
theorem DL_build_620 : rs ML_build 620 = some (.bipush 60, 2, 0, 0, 60, []) := rs_of (by decide +kernel) (by decide +kernel)
theorem DL_build_622 : rs ML_build 622 = some (.invokestatic 18, 3, 0, 0, 0, []) := rs_of (by decide +kernel) (by decide +kernel)
theorem DL_build_625 : rs ML_build 625 = some (.iadd, 1, 0, 0, 0, []) := rs_of (by decide +kernel) (by decide +kernel)
theorem DL_build_626 : rs ML_build 626 = some (.iastore, 1, 0, 0, 0, []) := rs_of (by decide +kernel) (by decide +kernel)
theorem DL_build_627 : rs ML_build 627 = some (.dup, 1, 0, 0, 0, []) := rs_of (by decide +kernel) (by decide +kernel)
theorem DL_build_628 : rs ML_build 628 = some (.iconst 5, 1, 0, 0, 5, []) := rs_of (by decide +kernel) (by decide +kernel)
theorem DL_build_629 : rs ML_build 629 = some (.iconst 1, 1, 0, 0, 1, []) := rs_of (by decide +kernel) (by decide +kernel)
theorem DL_build_630 : rs ML_build 630 = some (.iload 7, 2, 0, 0, 0, []) := rs_of (by decide +kernel) (by decide +kernel)
theorem DL_build_632 : rs ML_build 632 = some (.bipush 8, 2, 0, 0, 8, []) := rs_of (by decide +kernel) (by decide +kernel)
theorem DL_build_634 : rs ML_build 634 = some (.ishr, 1, 0, 0, 0, []) := rs_of (by decide +kernel) (by decide +kernel)
theorem DL_build_635 : rs ML_build 635 = some (.iload 7, 2, 0, 0, 0, []) := rs_of (by decide +kernel) (by decide +kernel)
theorem DL_build_637 : rs ML_build 637 = some (.iconst 2, 1, 0, 0, 2, []) := rs_of (by decide +kernel) (by decide +kernel)
theorem DL_build_638 : rs ML_build 638 = some (.invokestatic 18, 3, 0, 0, 0, []) := rs_of (by decide +kernel) (by decide +kernel)
theorem DL_build_641 : rs ML_build 641 = some (.ifCond .ne 7, 3, 648, 0, 0, []) := rs_of (by decide +kernel) (by decide +kernel)
theorem DL_build_644 : rs ML_build 644 = some (.iconst 4, 1, 0, 0, 4, []) := rs_of (by decide +kernel) (by decide +kernel)
theorem DL_build_645 : rs ML_build 645 = some (.goto 5, 3, 650, 0, 0, []) := rs_of (by decide +kernel) (by decide +kernel)
theorem DL_build_648 : rs ML_build 648 = some (.bipush 99, 2, 0, 0, 99, []) := rs_of (by decide +kernel) (by decide +kernel)
theorem DL_build_650 : rs ML_build 650 = some (.invokestatic 18, 3, 0, 0, 0, []) := rs_of (by decide +kernel) (by decide +kernel)
theorem DL_build_653 : rs ML_build 653 = some (.iadd, 1, 0, 0, 0, []) := rs_of (by decide +kernel) (by decide +kernel)
theorem DL_build_654 : rs ML_build 654 = some (.iastore, 1, 0, 0, 0, []) := rs_of (by decide +kernel) (by decide +kernel)
theorem DL_build_655 : rs ML_build 655 = some (.dup, 1, 0, 0, 0, []) := rs_of (by decide +kernel) (by decide +kernel)
theorem DL_build_656 : rs ML_build 656 = some (.bipush 6, 2, 0, 0, 6, []) := rs_of (by decide +kernel) (by decide +kernel)
theorem DL_build_658 : rs ML_build 658 = some (.iconst 1, 1, 0, 0, 1, []) := rs_of (by decide +kernel) (by decide +kernel)
theorem DL_build_659 : rs ML_build 659 = some (.iastore, 1, 0, 0, 0, []) := rs_of (by decide +kernel) (by decide +kernel)
theorem DL_build_660 : rs ML_build 660 = some (.dup, 1, 0, 0, 0, []) := rs_of (by decide +kernel) (by decide +kernel)
theorem DL_build_661 : rs ML_build 661 = some (.bipush 7, 2, 0, 0, 7, []) := rs_of (by decide +kernel) (by decide +kernel)
theorem DL_build_663 : rs ML_build 663 = some (.iconst 0, 1, 0, 0, 0, []) := rs_of (by decide +kernel) (by decide +kernel)
theorem DL_build_664 : rs ML_build 664 = some (.iastore, 1, 0, 0, 0, []) := rs_of (by decide +kernel) (by decide +kernel)
theorem DL_build_665 : rs ML_build 665 = some (.dup, 1, 0, 0, 0, []) := rs_of (by decide +kernel) (by decide +kernel)
theorem DL_build_666 : rs ML_build 666 = some (.bipush 8, 2, 0, 0, 8, []) := rs_of (by decide +kernel) (by decide +kernel)
theorem DL_build_668 : rs ML_build 668 = some (.iconst 0, 1, 0, 0, 0, []) := rs_of (by decide +kernel) (by decide +kernel)
theorem DL_build_669 : rs ML_build 669 = some (.iastore, 1, 0, 0, 0, []) := rs_of (by decide +kernel) (by decide +kernel)
theorem DL_build_670 : rs ML_build 670 = some (.astore 9, 2, 0, 0, 0, []) := rs_of (by decide +kernel) (by decide +kernel)
theorem DL_build_672 : rs ML_build 672 = some (.aload_n 0, 1, 0, 0, 0, []) := rs_of (by decide +kernel) (by decide +kernel)
theorem DL_build_673 : rs ML_build 673 = some (.aload 9, 2, 0, 0, 0, []) := rs_of (by decide +kernel) (by decide +kernel)
theorem DL_build_675 : rs ML_build 675 = some (.iconst 0, 1, 0, 0, 0, []) := rs_of (by decide +kernel) (by decide +kernel)
theorem DL_build_676 : rs ML_build 676 = some (.iaload, 1, 0, 0, 0, []) := rs_of (by decide +kernel) (by decide +kernel)
theorem DL_build_677 : rs ML_build 677 = some (.aload 9, 2, 0, 0, 0, []) := rs_of (by decide +kernel) (by decide +kernel)
theorem DL_build_679 : rs ML_build 679 = some (.iconst 1, 1, 0, 0, 1, []) := rs_of (by decide +kernel) (by decide +kernel)
theorem DL_build_680 : rs ML_build 680 = some (.iaload, 1, 0, 0, 0, []) := rs_of (by decide +kernel) (by decide +kernel)
theorem DL_build_681 : rs ML_build 681 = some (.aload 9, 2, 0, 0, 0, []) := rs_of (by decide +kernel) (by decide +kernel)
theorem DL_build_683 : rs ML_build 683 = some (.iconst 2, 1, 0, 0, 2, []) := rs_of (by decide +kernel) (by decide +kernel)
theorem DL_build_684 : rs ML_build 684 = some (.iaload, 1, 0, 0, 0, []) := rs_of (by decide +kernel) (by decide +kernel)
theorem DL_build_685 : rs ML_build 685 = some (.aload 9, 2, 0, 0, 0, []) := rs_of (by decide +kernel) (by decide +kernel)
theorem DL_build_687 : rs ML_build 687 = some (.iconst 3, 1, 0, 0, 3, []) := rs_of (by decide +kernel) (by decide +kernel)
theorem DL_build_688 : rs ML_build 688 = some (.iaload, 1, 0, 0, 0, []) := rs_of (by decide +kernel) (by decide +kernel)
theorem DL_build_689 : rs ML_build 689 = some (.aload 9, 2, 0, 0, 0, []) := rs_of (by decide +kernel) (by decide +kernel)
theorem DL_build_691 : rs ML_build 691 = some (.iconst 4, 1, 0, 0, 4, []) := rs_of (by decide +kernel) (by decide +kernel)
theorem DL_build_692 : rs ML_build 692 = some (.iaload, 1, 0, 0, 0, []) := rs_of (by decide +kernel) (by decide +kernel)
theorem DL_build_693 : rs ML_build 693 = some (.aload 9, 2, 0, 0, 0, []) := rs_of (by decide +kernel) (by decide +kernel)
theorem DL_build_695 : rs ML_build 695 = some (.iconst 5, 1, 0, 0, 5, []) := rs_of (by decide +kernel) (by decide +kernel)
theorem DL_build_696 : rs ML_build 696 = some (.iaload, 1, 0, 0, 0, []) := rs_of (by decide +kernel) (by decide +kernel)
theorem DL_build_697 : rs ML_build 697 = some (.invokevirtual 46, 3, 0, 0, 0, []) := rs_of (by decide +kernel) (by decide +kernel)
theorem DL_build_700 : rs ML_build 700 = some (.iload 6, 2, 0, 0, 0, []) := rs_of (by decide +kernel) (by decide +kernel)
theorem DL_build_702 : rs ML_build 702 = some (.if_icmp .eq 5, 3, 707, 0, 0, []) := rs_of (by decide +kernel) (by decide +kernel)
theorem DL_build_705 : rs ML_build 705 = some (.aconst_null, 1, 0, 0, 0, []) := rs_of (by decide +kernel) (by decide +kernel)
theorem DL_build_706 : rs ML_build 706 = some (.areturn, 1, 0, 0, 0, []) := rs_of (by decide +kernel) (by decide +kernel)
theorem DL_build_707 : rs ML_build 707 = some (.aload_n 2, 1, 2, 0, 0, []) := rs_of (by decide +kernel) (by decide +kernel)
theorem DL_build_708 : rs ML_build 708 = some (.aload_n 2, 1, 2, 0, 0, []) := rs_of (by decide +kernel) (by decide +kernel)
theorem DL_build_709 : rs ML_build 709 = some (.getfield 49, 3, 6, 4, 0, []) := rs_of (by decide +kernel) (by decide +kernel)
theorem DL_build_712 : rs ML_build 712 = some (.aload 9, 2, 0, 0, 0, []) := rs_of (by decide +kernel) (by decide +kernel)
theorem DL_build_714 : rs ML_build 714 = some (.invokestatic 39, 3, 0, 0, 0, []) := rs_of (by decide +kernel) (by decide +kernel)
theorem DL_build_717 : rs ML_build 717 = some (.putfield 49, 3, 6, 4, 0, []) := rs_of (by decide +kernel) (by decide +kernel)
theorem DL_build_720 : rs ML_build 720 = some (.iinc 6 1, 3, 6, 0, 1, []) := rs_of (by decide +kernel) (by decide +kernel)
theorem DL_build_723 : rs ML_build 723 = some (.goto (-222), 3, 501, 0, 0, []) := rs_of (by decide +kernel) (by decide +kernel)
theorem DL_build_726 : rs ML_build 726 = some (.aload_n 2, 1, 2, 0, 0, []) := rs_of (by decide +kernel) (by decide +kernel)
theorem DL_build_727 : rs ML_build 727 = some (.areturn, 1, 0, 0, 0, []) := rs_of (by decide +kernel) (by decide +kernel)
theorem DL_law_0 : rs ML_law 0 = some (.new 23, 3, 5, 0, 0, []) := rs_of (by decide +kernel) (by decide +kernel)
theorem DL_law_3 : rs ML_law 3 = some (.dup, 1, 0, 0, 0, []) := rs_of (by decide +kernel) (by decide +kernel)
theorem DL_law_4 : rs ML_law 4 = some (.invokespecial 52, 3, 0, 0, 0, []) := rs_of (by decide +kernel) (by decide +kernel)
theorem DL_law_7 : rs ML_law 7 = some (.astore_n 1, 1, 1, 0, 0, []) := rs_of (by decide +kernel) (by decide +kernel)
theorem DL_law_8 : rs ML_law 8 = some (.aload_n 1, 1, 1, 0, 0, []) := rs_of (by decide +kernel) (by decide +kernel)
theorem DL_law_9 : rs ML_law 9 = some (.aload_n 0, 1, 0, 0, 0, []) := rs_of (by decide +kernel) (by decide +kernel)
theorem DL_law_10 : rs ML_law 10 = some (.invokestatic 53, 3, 0, 0, 0, []) := rs_of (by decide +kernel) (by decide +kernel)
theorem DL_law_13 : rs ML_law 13 = some (.astore_n 2, 1, 2, 0, 0, []) := rs_of (by decide +kernel) (by decide +kernel)
theorem DL_law_14 : rs ML_law 14 = some (.aload_n 2, 1, 2, 0, 0, []) := rs_of (by decide +kernel) (by decide +kernel)
theorem DL_law_15 : rs ML_law 15 = some (.ifnonnull 5, 3, 20, 0, 0, []) := rs_of (by decide +kernel) (by decide +kernel)
theorem DL_law_18 : rs ML_law 18 = some (.iconst 0, 1, 0, 0, 0, []) := rs_of (by decide +kernel) (by decide +kernel)
theorem DL_law_19 : rs ML_law 19 = some (.ireturn, 1, 0, 0, 0, []) := rs_of (by decide +kernel) (by decide +kernel)
theorem DL_law_20 : rs ML_law 20 = some (.aload_n 2, 1, 2, 0, 0, []) := rs_of (by decide +kernel) (by decide +kernel)
theorem DL_law_21 : rs ML_law 21 = some (.getfield 49, 3, 6, 4, 0, []) := rs_of (by decide +kernel) (by decide +kernel)
theorem DL_law_24 : rs ML_law 24 = some (.arraylength, 1, 25, 0, 0, []) := rs_of (by decide +kernel) (by decide +kernel)
theorem DL_law_25 : rs ML_law 25 = some (.istore_n 3, 1, 3, 0, 0, []) := rs_of (by decide +kernel) (by decide +kernel)
theorem DL_law_26 : rs ML_law 26 = some (.aload_n 2, 1, 2, 0, 0, []) := rs_of (by decide +kernel) (by decide +kernel)
theorem DL_law_27 : rs ML_law 27 = some (.getfield 32, 3, 6, 3, 0, []) := rs_of (by decide +kernel) (by decide +kernel)
theorem DL_law_30 : rs ML_law 30 = some (.arraylength, 1, 25, 0, 0, []) := rs_of (by decide +kernel) (by decide +kernel)
theorem DL_law_31 : rs ML_law 31 = some (.istore 4, 2, 0, 0, 0, []) := rs_of (by decide +kernel) (by decide +kernel)
theorem DL_law_33 : rs ML_law 33 = some (.iconst 0, 1, 0, 0, 0, []) := rs_of (by decide +kernel) (by decide +kernel)
theorem DL_law_34 : rs ML_law 34 = some (.istore 5, 2, 0, 0, 0, []) := rs_of (by decide +kernel) (by decide +kernel)
theorem DL_law_36 : rs ML_law 36 = some (.iconst 0, 1, 0, 0, 0, []) := rs_of (by decide +kernel) (by decide +kernel)
theorem DL_law_37 : rs ML_law 37 = some (.istore 6, 2, 0, 0, 0, []) := rs_of (by decide +kernel) (by decide +kernel)
theorem DL_law_39 : rs ML_law 39 = some (.iload 6, 2, 0, 0, 0, []) := rs_of (by decide +kernel) (by decide +kernel)
theorem DL_law_41 : rs ML_law 41 = some (.bipush 8, 2, 0, 0, 8, []) := rs_of (by decide +kernel) (by decide +kernel)
theorem DL_law_43 : rs ML_law 43 = some (.if_icmp .ge 1041, 3, 1084, 0, 0, []) := rs_of (by decide +kernel) (by decide +kernel)
theorem DL_law_46 : rs ML_law 46 = some (.aload_n 0, 1, 0, 0, 0, []) := rs_of (by decide +kernel) (by decide +kernel)
theorem DL_law_47 : rs ML_law 47 = some (.iload 6, 2, 0, 0, 0, []) := rs_of (by decide +kernel) (by decide +kernel)
theorem DL_law_49 : rs ML_law 49 = some (.invokestatic 12, 3, 0, 0, 0, []) := rs_of (by decide +kernel) (by decide +kernel)
theorem DL_law_52 : rs ML_law 52 = some (.istore 7, 2, 0, 0, 0, []) := rs_of (by decide +kernel) (by decide +kernel)
theorem DL_law_54 : rs ML_law 54 = some (.iload 7, 2, 0, 0, 0, []) := rs_of (by decide +kernel) (by decide +kernel)
theorem DL_law_56 : rs ML_law 56 = some (.iload 4, 2, 0, 0, 0, []) := rs_of (by decide +kernel) (by decide +kernel)
theorem DL_law_58 : rs ML_law 58 = some (.invokestatic 18, 3, 0, 0, 0, []) := rs_of (by decide +kernel) (by decide +kernel)
theorem DL_law_61 : rs ML_law 61 = some (.istore 8, 2, 0, 0, 0, []) := rs_of (by decide +kernel) (by decide +kernel)
theorem DL_law_63 : rs ML_law 63 = some (.iload 7, 2, 0, 0, 0, []) := rs_of (by decide +kernel) (by decide +kernel)
theorem DL_law_65 : rs ML_law 65 = some (.iconst 3, 1, 0, 0, 3, []) := rs_of (by decide +kernel) (by decide +kernel)
theorem DL_law_66 : rs ML_law 66 = some (.ishr, 1, 0, 0, 0, []) := rs_of (by decide +kernel) (by decide +kernel)
theorem DL_law_67 : rs ML_law 67 = some (.iconst 3, 1, 0, 0, 3, []) := rs_of (by decide +kernel) (by decide +kernel)
theorem DL_law_68 : rs ML_law 68 = some (.invokestatic 18, 3, 0, 0, 0, []) := rs_of (by decide +kernel) (by decide +kernel)
theorem DL_law_71 : rs ML_law 71 = some (.ifCond .ne 21, 3, 92, 0, 0, []) := rs_of (by decide +kernel) (by decide +kernel)
theorem DL_law_74 : rs ML_law 74 = some (.aload_n 1, 1, 1, 0, 0, []) := rs_of (by decide +kernel) (by decide +kernel)
theorem DL_law_75 : rs ML_law 75 = some (.iload 8, 2, 0, 0, 0, []) := rs_of (by decide +kernel) (by decide +kernel)
theorem DL_law_77 : rs ML_law 77 = some (.iconst 1, 1, 0, 0, 1, []) := rs_of (by decide +kernel) (by decide +kernel)
theorem DL_law_78 : rs ML_law 78 = some (.iload 7, 2, 0, 0, 0, []) := rs_of (by decide +kernel) (by decide +kernel)
theorem DL_law_80 : rs ML_law 80 = some (.iconst 5, 1, 0, 0, 5, []) := rs_of (by decide +kernel) (by decide +kernel)
theorem DL_law_81 : rs ML_law 81 = some (.ishr, 1, 0, 0, 0, []) := rs_of (by decide +kernel) (by decide +kernel)
theorem DL_law_82 : rs ML_law 82 = some (.bipush 9, 2, 0, 0, 9, []) := rs_of (by decide +kernel) (by decide +kernel)
theorem DL_law_84 : rs ML_law 84 = some (.invokestatic 18, 3, 0, 0, 0, []) := rs_of (by decide +kernel) (by decide +kernel)
theorem DL_law_87 : rs ML_law 87 = some (.iadd, 1, 0, 0, 0, []) := rs_of (by decide +kernel) (by decide +kernel)
theorem DL_law_88 : rs ML_law 88 = some (.invokevirtual 56, 3, 0, 0, 0, []) := rs_of (by decide +kernel) (by decide +kernel)
theorem DL_law_91 : rs ML_law 91 = some (.pop, 1, 0, 0, 0, []) := rs_of (by decide +kernel) (by decide +kernel)
theorem DL_law_92 : rs ML_law 92 = some (.iconst 0, 1, 0, 0, 0, []) := rs_of (by decide +kernel) (by decide +kernel)
theorem DL_law_93 : rs ML_law 93 = some (.istore 9, 2, 0, 0, 0, []) := rs_of (by decide +kernel) (by decide +kernel)
theorem DL_law_95 : rs ML_law 95 = some (.iconst 0, 1, 0, 0, 0, []) := rs_of (by decide +kernel) (by decide +kernel)
theorem DL_law_96 : rs ML_law 96 = some (.istore 10, 2, 0, 0, 0, []) := rs_of (by decide +kernel) (by decide +kernel)
theorem DL_law_98 : rs ML_law 98 = some (.iload 10, 2, 0, 0, 0, []) := rs_of (by decide +kernel) (by decide +kernel)
theorem DL_law_100 : rs ML_law 100 = some (.bipush 12, 2, 0, 0, 12, []) := rs_of (by decide +kernel) (by decide +kernel)
theorem DL_law_102 : rs ML_law 102 = some (.if_icmp .ge 583, 3, 685, 0, 0, []) := rs_of (by decide +kernel) (by decide +kernel)
theorem DL_law_105 : rs ML_law 105 = some (.iload 4, 2, 0, 0, 0, []) := rs_of (by decide +kernel) (by decide +kernel)
theorem DL_law_107 : rs ML_law 107 = some (.newarray .int, 2, 0, 0, 0, []) := rs_of (by decide +kernel) (by decide +kernel)
theorem DL_law_109 : rs ML_law 109 = some (.astore 11, 2, 0, 0, 0, []) := rs_of (by decide +kernel) (by decide +kernel)
theorem DL_law_111 : rs ML_law 111 = some (.iconst 0, 1, 0, 0, 0, []) := rs_of (by decide +kernel) (by decide +kernel)
theorem DL_law_112 : rs ML_law 112 = some (.istore 12, 2, 0, 0, 0, []) := rs_of (by decide +kernel) (by decide +kernel)
theorem DL_law_114 : rs ML_law 114 = some (.iconst 0, 1, 0, 0, 0, []) := rs_of (by decide +kernel) (by decide +kernel)
theorem DL_law_115 : rs ML_law 115 = some (.istore 13, 2, 0, 0, 0, []) := rs_of (by decide +kernel) (by decide +kernel)
theorem DL_law_117 : rs ML_law 117 = some (.iconst 0, 1, 0, 0, 0, []) := rs_of (by decide +kernel) (by decide +kernel)
theorem DL_law_118 : rs ML_law 118 = some (.istore 14, 2, 0, 0, 0, []) := rs_of (by decide +kernel) (by decide +kernel)
theorem DL_law_120 : rs ML_law 120 = some (.iload 14, 2, 0, 0, 0, []) := rs_of (by decide +kernel) (by decide +kernel)
theorem DL_law_122 : rs ML_law 122 = some (.sipush 256, 3, 0, 0, 256, []) := rs_of (by decide +kernel) (by decide +kernel)
theorem DL_law_125 : rs ML_law 125 = some (.if_icmp .ge 138, 3, 263, 0, 0, []) := rs_of (by decide +kernel) (by decide +kernel)
theorem DL_law_128 : rs ML_law 128 = some (.aload_n 1, 1, 1, 0, 0, []) := rs_of (by decide +kernel) (by decide +kernel)
theorem DL_law_129 : rs ML_law 129 = some (.iload 10, 2, 0, 0, 0, []) := rs_of (by decide +kernel) (by decide +kernel)
theorem DL_law_131 : rs ML_law 131 = some (.iload 14, 2, 0, 0, 0, []) := rs_of (by decide +kernel) (by decide +kernel)
theorem DL_law_133 : rs ML_law 133 = some (.bipush 16, 2, 0, 0, 16, []) := rs_of (by decide +kernel) (by decide +kernel)
theorem DL_law_135 : rs ML_law 135 = some (.irem, 1, 0, 0, 0, []) := rs_of (by decide +kernel) (by decide +kernel)
theorem DL_law_136 : rs ML_law 136 = some (.iload 14, 2, 0, 0, 0, []) := rs_of (by decide +kernel) (by decide +kernel)
theorem DL_law_138 : rs ML_law 138 = some (.bipush 16, 2, 0, 0, 16, []) := rs_of (by decide +kernel) (by decide +kernel)
theorem DL_law_140 : rs ML_law 140 = some (.idiv, 1, 0, 0, 0, []) := rs_of (by decide +kernel) (by decide +kernel)
theorem DL_law_141 : rs ML_law 141 = some (.invokevirtual 59, 3, 0, 0, 0, []) := rs_of (by decide +kernel) (by decide +kernel)
theorem DL_law_144 : rs ML_law 144 = some (.istore 15, 2, 0, 0, 0, []) := rs_of (by decide +kernel) (by decide +kernel)
theorem DL_law_146 : rs ML_law 146 = some (.aload_n 1, 1, 1, 0, 0, []) := rs_of (by decide +kernel) (by decide +kernel)
theorem DL_law_147 : rs ML_law 147 = some (.iload 10, 2, 0, 0, 0, []) := rs_of (by decide +kernel) (by decide +kernel)
theorem DL_law_149 : rs ML_law 149 = some (.iload 14, 2, 0, 0, 0, []) := rs_of (by decide +kernel) (by decide +kernel)
theorem DL_law_151 : rs ML_law 151 = some (.bipush 16, 2, 0, 0, 16, []) := rs_of (by decide +kernel) (by decide +kernel)
theorem DL_law_153 : rs ML_law 153 = some (.irem, 1, 0, 0, 0, []) := rs_of (by decide +kernel) (by decide +kernel)
theorem DL_law_154 : rs ML_law 154 = some (.iload 14, 2, 0, 0, 0, []) := rs_of (by decide +kernel) (by decide +kernel)
theorem DL_law_156 : rs ML_law 156 = some (.bipush 16, 2, 0, 0, 16, []) := rs_of (by decide +kernel) (by decide +kernel)
theorem DL_law_158 : rs ML_law 158 = some (.idiv, 1, 0, 0, 0, []) := rs_of (by decide +kernel) (by decide +kernel)
theorem DL_law_159 : rs ML_law 159 = some (.invokevirtual 63, 3, 0, 0, 0, []) := rs_of (by decide +kernel) (by decide +kernel)
theorem DL_law_162 : rs ML_law 162 = some (.istore 16, 2, 0, 0, 0, []) := rs_of (by decide +kernel) (by decide +kernel)
theorem DL_law_164 : rs ML_law 164 = some (.iload 12, 2, 0, 0, 0, []) := rs_of (by decide +kernel) (by decide +kernel)
theorem DL_law_166 : rs ML_law 166 = some (.iload 15, 2, 0, 0, 0, []) := rs_of (by decide +kernel) (by decide +kernel)
theorem DL_law_168 : rs ML_law 168 = some (.bipush (-2), 2, 0, 0, (-2), []) := rs_of (by decide +kernel) (by decide +kernel)
theorem DL_law_170 : rs ML_law 170 = some (.if_icmp .ne 7, 3, 177, 0, 0, []) := rs_of (by decide +kernel) (by decide +kernel)
theorem DL_law_173 : rs ML_law 173 = some (.iconst 1, 1, 0, 0, 1, []) := rs_of (by decide +kernel) (by decide +kernel)
theorem DL_law_174 : rs ML_law 174 = some (.goto 4, 3, 178, 0, 0, []) := rs_of (by decide +kernel) (by decide +kernel)
theorem DL_law_177 : rs ML_law 177 = some (.iconst 0, 1, 0, 0, 0, []) := rs_of (by decide +kernel) (by decide +kernel)
theorem DL_law_178 : rs ML_law 178 = some (.iadd, 1, 0, 0, 0, []) := rs_of (by decide +kernel) (by decide +kernel)
theorem DL_law_179 : rs ML_law 179 = some (.istore 12, 2, 0, 0, 0, []) := rs_of (by decide +kernel) (by decide +kernel)
theorem DL_law_181 : rs ML_law 181 = some (.iload 13, 2, 0, 0, 0, []) := rs_of (by decide +kernel) (by decide +kernel)
theorem DL_law_183 : rs ML_law 183 = some (.iload 16, 2, 0, 0, 0, []) := rs_of (by decide +kernel) (by decide +kernel)
theorem DL_law_185 : rs ML_law 185 = some (.iconst 1, 1, 0, 0, 1, []) := rs_of (by decide +kernel) (by decide +kernel)
theorem DL_law_186 : rs ML_law 186 = some (.if_icmp .le 7, 3, 193, 0, 0, []) := rs_of (by decide +kernel) (by decide +kernel)
theorem DL_law_189 : rs ML_law 189 = some (.iconst 1, 1, 0, 0, 1, []) := rs_of (by decide +kernel) (by decide +kernel)
theorem DL_law_190 : rs ML_law 190 = some (.goto 4, 3, 194, 0, 0, []) := rs_of (by decide +kernel) (by decide +kernel)
theorem DL_law_193 : rs ML_law 193 = some (.iconst 0, 1, 0, 0, 0, []) := rs_of (by decide +kernel) (by decide +kernel)
theorem DL_law_194 : rs ML_law 194 = some (.iadd, 1, 0, 0, 0, []) := rs_of (by decide +kernel) (by decide +kernel)
theorem DL_law_195 : rs ML_law 195 = some (.istore 13, 2, 0, 0, 0, []) := rs_of (by decide +kernel) (by decide +kernel)
theorem DL_law_197 : rs ML_law 197 = some (.iload 15, 2, 0, 0, 0, []) := rs_of (by decide +kernel) (by decide +kernel)
theorem DL_law_199 : rs ML_law 199 = some (.bipush (-2), 2, 0, 0, (-2), []) := rs_of (by decide +kernel) (by decide +kernel)
theorem DL_law_201 : rs ML_law 201 = some (.if_icmp .lt 40, 3, 241, 0, 0, []) := rs_of (by decide +kernel) (by decide +kernel)
theorem DL_law_204 : rs ML_law 204 = some (.iload 15, 2, 0, 0, 0, []) := rs_of (by decide +kernel) (by decide +kernel)
theorem DL_law_206 : rs ML_law 206 = some (.iload 4, 2, 0, 0, 0, []) := rs_of (by decide +kernel) (by decide +kernel)
theorem DL_law_208 : rs ML_law 208 = some (.if_icmp .ge 33, 3, 241, 0, 0, []) := rs_of (by decide +kernel) (by decide +kernel)
theorem DL_law_211 : rs ML_law 211 = some (.iload 15, 2, 0, 0, 0, []) := rs_of (by decide +kernel) (by decide +kernel)
theorem DL_law_213 : rs ML_law 213 = some (.ifCond .lt 7, 3, 220, 0, 0, []) := rs_of (by decide +kernel) (by decide +kernel)
theorem DL_law_216 : rs ML_law 216 = some (.iconst 1, 1, 0, 0, 1, []) := rs_of (by decide +kernel) (by decide +kernel)
theorem DL_law_217 : rs ML_law 217 = some (.goto 4, 3, 221, 0, 0, []) := rs_of (by decide +kernel) (by decide +kernel)
theorem DL_law_220 : rs ML_law 220 = some (.iconst 0, 1, 0, 0, 0, []) := rs_of (by decide +kernel) (by decide +kernel)
theorem DL_law_221 : rs ML_law 221 = some (.iload 16, 2, 0, 0, 0, []) := rs_of (by decide +kernel) (by decide +kernel)
theorem DL_law_223 : rs ML_law 223 = some (.ifCond .le 7, 3, 230, 0, 0, []) := rs_of (by decide +kernel) (by decide +kernel)
theorem DL_law_226 : rs ML_law 226 = some (.iconst 1, 1, 0, 0, 1, []) := rs_of (by decide +kernel) (by decide +kernel)
theorem DL_law_227 : rs ML_law 227 = some (.goto 4, 3, 231, 0, 0, []) := rs_of (by decide +kernel) (by decide +kernel)
theorem DL_law_230 : rs ML_law 230 = some (.iconst 0, 1, 0, 0, 0, []) := rs_of (by decide +kernel) (by decide +kernel)
theorem DL_law_231 : rs ML_law 231 = some (.if_icmp .ne 10, 3, 241, 0, 0, []) := rs_of (by decide +kernel) (by decide +kernel)
theorem DL_law_234 : rs ML_law 234 = some (.iload 16, 2, 0, 0, 0, []) := rs_of (by decide +kernel) (by decide +kernel)
theorem DL_law_236 : rs ML_law 236 = some (.iload 4, 2, 0, 0, 0, []) := rs_of (by decide +kernel) (by decide +kernel)
theorem DL_law_238 : rs ML_law 238 = some (.if_icmp .le 5, 3, 243, 0, 0, []) := rs_of (by decide +kernel) (by decide +kernel)
theorem DL_law_241 : rs ML_law 241 = some (.iconst 0, 1, 0, 0, 0, []) := rs_of (by decide +kernel) (by decide +kernel)
theorem DL_law_242 : rs ML_law 242 = some (.ireturn, 1, 0, 0, 0, []) := rs_of (by decide +kernel) (by decide +kernel)
theorem DL_law_243 : rs ML_law 243 = some (.iload 15, 2, 0, 0, 0, []) := rs_of (by decide +kernel) (by decide +kernel)
theorem DL_law_245 : rs ML_law 245 = some (.ifCond .lt 12, 3, 257, 0, 0, []) := rs_of (by decide +kernel) (by decide +kernel)
theorem DL_law_248 : rs ML_law 248 = some (.aload 11, 2, 0, 0, 0, []) := rs_of (by decide +kernel) (by decide +kernel)
theorem DL_law_250 : rs ML_law 250 = some (.iload 15, 2, 0, 0, 0, []) := rs_of (by decide +kernel) (by decide +kernel)
theorem DL_law_252 : rs ML_law 252 = some (.dup2, 1, 0, 0, 0, []) := rs_of (by decide +kernel) (by decide +kernel)
theorem DL_law_253 : rs ML_law 253 = some (.iaload, 1, 0, 0, 0, []) := rs_of (by decide +kernel) (by decide +kernel)
theorem DL_law_254 : rs ML_law 254 = some (.iconst 1, 1, 0, 0, 1, []) := rs_of (by decide +kernel) (by decide +kernel)
end
section
theorem DL_law_255 : rs ML_law 255 = some (.iadd, 1, 0, 0, 0, []) := rs_of (by decide +kernel) (by decide +kernel)
theorem DL_law_256 : rs ML_law 256 = some (.iastore, 1, 0, 0, 0, []) := rs_of (by decide +kernel) (by decide +kernel)
theorem DL_law_257 : rs ML_law 257 = some (.iinc 14 1, 3, 14, 0, 1, []) := rs_of (by decide +kernel) (by decide +kernel)
theorem DL_law_260 : rs ML_law 260 = some (.goto (-140), 3, 120, 0, 0, []) := rs_of (by decide +kernel) (by decide +kernel)
theorem DL_law_263 : rs ML_law 263 = some (.iconst 0, 1, 0, 0, 0, []) := rs_of (by decide +kernel) (by decide +kernel)
theorem DL_law_264 : rs ML_law 264 = some (.istore 14, 2, 0, 0, 0, []) := rs_of (by decide +kernel) (by decide +kernel)
theorem DL_law_266 : rs ML_law 266 = some (.iconst 0, 1, 0, 0, 0, []) := rs_of (by decide +kernel) (by decide +kernel)
theorem DL_law_267 : rs ML_law 267 = some (.istore 15, 2, 0, 0, 0, []) := rs_of (by decide +kernel) (by decide +kernel)
theorem DL_law_269 : rs ML_law 269 = some (.iconst 0, 1, 0, 0, 0, []) := rs_of (by decide +kernel) (by decide +kernel)
theorem DL_law_270 : rs ML_law 270 = some (.istore 16, 2, 0, 0, 0, []) := rs_of (by decide +kernel) (by decide +kernel)
theorem DL_law_272 : rs ML_law 272 = some (.iconst 0, 1, 0, 0, 0, []) := rs_of (by decide +kernel) (by decide +kernel)
theorem DL_law_273 : rs ML_law 273 = some (.istore 17, 2, 0, 0, 0, []) := rs_of (by decide +kernel) (by decide +kernel)
theorem DL_law_275 : rs ML_law 275 = some (.iload 17, 2, 0, 0, 0, []) := rs_of (by decide +kernel) (by decide +kernel)
theorem DL_law_277 : rs ML_law 277 = some (.iload 4, 2, 0, 0, 0, []) := rs_of (by decide +kernel) (by decide +kernel)
theorem DL_law_279 : rs ML_law 279 = some (.if_icmp .ge 340, 3, 619, 0, 0, []) := rs_of (by decide +kernel) (by decide +kernel)
theorem DL_law_282 : rs ML_law 282 = some (.aload_n 1, 1, 1, 0, 0, []) := rs_of (by decide +kernel) (by decide +kernel)
theorem DL_law_283 : rs ML_law 283 = some (.iload 17, 2, 0, 0, 0, []) := rs_of (by decide +kernel) (by decide +kernel)
theorem DL_law_285 : rs ML_law 285 = some (.iload 10, 2, 0, 0, 0, []) := rs_of (by decide +kernel) (by decide +kernel)
theorem DL_law_287 : rs ML_law 287 = some (.invokevirtual 66, 3, 0, 0, 0, []) := rs_of (by decide +kernel) (by decide +kernel)
theorem DL_law_290 : rs ML_law 290 = some (.aload 11, 2, 0, 0, 0, []) := rs_of (by decide +kernel) (by decide +kernel)
theorem DL_law_292 : rs ML_law 292 = some (.iload 17, 2, 0, 0, 0, []) := rs_of (by decide +kernel) (by decide +kernel)
theorem DL_law_294 : rs ML_law 294 = some (.iaload, 1, 0, 0, 0, []) := rs_of (by decide +kernel) (by decide +kernel)
theorem DL_law_295 : rs ML_law 295 = some (.if_icmp .eq 5, 3, 300, 0, 0, []) := rs_of (by decide +kernel) (by decide +kernel)
theorem DL_law_298 : rs ML_law 298 = some (.iconst 0, 1, 0, 0, 0, []) := rs_of (by decide +kernel) (by decide +kernel)
theorem DL_law_299 : rs ML_law 299 = some (.ireturn, 1, 0, 0, 0, []) := rs_of (by decide +kernel) (by decide +kernel)
theorem DL_law_300 : rs ML_law 300 = some (.iload 14, 2, 0, 0, 0, []) := rs_of (by decide +kernel) (by decide +kernel)
theorem DL_law_302 : rs ML_law 302 = some (.aload 11, 2, 0, 0, 0, []) := rs_of (by decide +kernel) (by decide +kernel)
theorem DL_law_304 : rs ML_law 304 = some (.iload 17, 2, 0, 0, 0, []) := rs_of (by decide +kernel) (by decide +kernel)
theorem DL_law_306 : rs ML_law 306 = some (.iaload, 1, 0, 0, 0, []) := rs_of (by decide +kernel) (by decide +kernel)
theorem DL_law_307 : rs ML_law 307 = some (.iadd, 1, 0, 0, 0, []) := rs_of (by decide +kernel) (by decide +kernel)
theorem DL_law_308 : rs ML_law 308 = some (.istore 14, 2, 0, 0, 0, []) := rs_of (by decide +kernel) (by decide +kernel)
theorem DL_law_310 : rs ML_law 310 = some (.iconst 0, 1, 0, 0, 0, []) := rs_of (by decide +kernel) (by decide +kernel)
theorem DL_law_311 : rs ML_law 311 = some (.istore 18, 2, 0, 0, 0, []) := rs_of (by decide +kernel) (by decide +kernel)
theorem DL_law_313 : rs ML_law 313 = some (.iconst 0, 1, 0, 0, 0, []) := rs_of (by decide +kernel) (by decide +kernel)
theorem DL_law_314 : rs ML_law 314 = some (.istore 19, 2, 0, 0, 0, []) := rs_of (by decide +kernel) (by decide +kernel)
theorem DL_law_316 : rs ML_law 316 = some (.iconst 0, 1, 0, 0, 0, []) := rs_of (by decide +kernel) (by decide +kernel)
theorem DL_law_317 : rs ML_law 317 = some (.istore 20, 2, 0, 0, 0, []) := rs_of (by decide +kernel) (by decide +kernel)
theorem DL_law_319 : rs ML_law 319 = some (.iload 20, 2, 0, 0, 0, []) := rs_of (by decide +kernel) (by decide +kernel)
theorem DL_law_321 : rs ML_law 321 = some (.iload_n 3, 1, 3, 0, 0, []) := rs_of (by decide +kernel) (by decide +kernel)
theorem DL_law_322 : rs ML_law 322 = some (.if_icmp .ge 257, 3, 579, 0, 0, []) := rs_of (by decide +kernel) (by decide +kernel)
theorem DL_law_325 : rs ML_law 325 = some (.aload_n 1, 1, 1, 0, 0, []) := rs_of (by decide +kernel) (by decide +kernel)
theorem DL_law_326 : rs ML_law 326 = some (.iload 20, 2, 0, 0, 0, []) := rs_of (by decide +kernel) (by decide +kernel)
theorem DL_law_328 : rs ML_law 328 = some (.iconst 0, 1, 0, 0, 0, []) := rs_of (by decide +kernel) (by decide +kernel)
theorem DL_law_329 : rs ML_law 329 = some (.invokevirtual 69, 3, 0, 0, 0, []) := rs_of (by decide +kernel) (by decide +kernel)
theorem DL_law_332 : rs ML_law 332 = some (.iload 17, 2, 0, 0, 0, []) := rs_of (by decide +kernel) (by decide +kernel)
theorem DL_law_334 : rs ML_law 334 = some (.if_icmp .eq 6, 3, 340, 0, 0, []) := rs_of (by decide +kernel) (by decide +kernel)
theorem DL_law_337 : rs ML_law 337 = some (.goto 236, 3, 573, 0, 0, []) := rs_of (by decide +kernel) (by decide +kernel)
theorem DL_law_340 : rs ML_law 340 = some (.aload_n 1, 1, 1, 0, 0, []) := rs_of (by decide +kernel) (by decide +kernel)
theorem DL_law_341 : rs ML_law 341 = some (.iload 20, 2, 0, 0, 0, []) := rs_of (by decide +kernel) (by decide +kernel)
theorem DL_law_343 : rs ML_law 343 = some (.iload 10, 2, 0, 0, 0, []) := rs_of (by decide +kernel) (by decide +kernel)
theorem DL_law_345 : rs ML_law 345 = some (.invokevirtual 72, 3, 0, 0, 0, []) := rs_of (by decide +kernel) (by decide +kernel)
theorem DL_law_348 : rs ML_law 348 = some (.istore 21, 2, 0, 0, 0, []) := rs_of (by decide +kernel) (by decide +kernel)
theorem DL_law_350 : rs ML_law 350 = some (.aload_n 1, 1, 1, 0, 0, []) := rs_of (by decide +kernel) (by decide +kernel)
theorem DL_law_351 : rs ML_law 351 = some (.iload 20, 2, 0, 0, 0, []) := rs_of (by decide +kernel) (by decide +kernel)
theorem DL_law_353 : rs ML_law 353 = some (.bipush 6, 2, 0, 0, 6, []) := rs_of (by decide +kernel) (by decide +kernel)
theorem DL_law_355 : rs ML_law 355 = some (.invokevirtual 69, 3, 0, 0, 0, []) := rs_of (by decide +kernel) (by decide +kernel)
theorem DL_law_358 : rs ML_law 358 = some (.iconst 1, 1, 0, 0, 1, []) := rs_of (by decide +kernel) (by decide +kernel)
theorem DL_law_359 : rs ML_law 359 = some (.if_icmp .ne 31, 3, 390, 0, 0, []) := rs_of (by decide +kernel) (by decide +kernel)
theorem DL_law_362 : rs ML_law 362 = some (.iload 10, 2, 0, 0, 0, []) := rs_of (by decide +kernel) (by decide +kernel)
theorem DL_law_364 : rs ML_law 364 = some (.aload_n 1, 1, 1, 0, 0, []) := rs_of (by decide +kernel) (by decide +kernel)
theorem DL_law_365 : rs ML_law 365 = some (.iload 20, 2, 0, 0, 0, []) := rs_of (by decide +kernel) (by decide +kernel)
theorem DL_law_367 : rs ML_law 367 = some (.iconst 2, 1, 0, 0, 2, []) := rs_of (by decide +kernel) (by decide +kernel)
theorem DL_law_368 : rs ML_law 368 = some (.invokevirtual 69, 3, 0, 0, 0, []) := rs_of (by decide +kernel) (by decide +kernel)
theorem DL_law_371 : rs ML_law 371 = some (.if_icmp .lt 19, 3, 390, 0, 0, []) := rs_of (by decide +kernel) (by decide +kernel)
theorem DL_law_374 : rs ML_law 374 = some (.iload 10, 2, 0, 0, 0, []) := rs_of (by decide +kernel) (by decide +kernel)
theorem DL_law_376 : rs ML_law 376 = some (.aload_n 1, 1, 1, 0, 0, []) := rs_of (by decide +kernel) (by decide +kernel)
theorem DL_law_377 : rs ML_law 377 = some (.iload 20, 2, 0, 0, 0, []) := rs_of (by decide +kernel) (by decide +kernel)
theorem DL_law_379 : rs ML_law 379 = some (.iconst 3, 1, 0, 0, 3, []) := rs_of (by decide +kernel) (by decide +kernel)
theorem DL_law_380 : rs ML_law 380 = some (.invokevirtual 69, 3, 0, 0, 0, []) := rs_of (by decide +kernel) (by decide +kernel)
theorem DL_law_383 : rs ML_law 383 = some (.if_icmp .gt 7, 3, 390, 0, 0, []) := rs_of (by decide +kernel) (by decide +kernel)
theorem DL_law_386 : rs ML_law 386 = some (.iconst 1, 1, 0, 0, 1, []) := rs_of (by decide +kernel) (by decide +kernel)
theorem DL_law_387 : rs ML_law 387 = some (.goto 4, 3, 391, 0, 0, []) := rs_of (by decide +kernel) (by decide +kernel)
theorem DL_law_390 : rs ML_law 390 = some (.iconst 0, 1, 0, 0, 0, []) := rs_of (by decide +kernel) (by decide +kernel)
theorem DL_law_391 : rs ML_law 391 = some (.istore 22, 2, 0, 0, 0, []) := rs_of (by decide +kernel) (by decide +kernel)
theorem DL_law_393 : rs ML_law 393 = some (.iload 21, 2, 0, 0, 0, []) := rs_of (by decide +kernel) (by decide +kernel)
theorem DL_law_395 : rs ML_law 395 = some (.ifCond .lt 24, 3, 419, 0, 0, []) := rs_of (by decide +kernel) (by decide +kernel)
theorem DL_law_398 : rs ML_law 398 = some (.iload 21, 2, 0, 0, 0, []) := rs_of (by decide +kernel) (by decide +kernel)
theorem DL_law_400 : rs ML_law 400 = some (.iload 22, 2, 0, 0, 0, []) := rs_of (by decide +kernel) (by decide +kernel)
theorem DL_law_402 : rs ML_law 402 = some (.ifCond .eq 13, 3, 415, 0, 0, []) := rs_of (by decide +kernel) (by decide +kernel)
theorem DL_law_405 : rs ML_law 405 = some (.aload_n 1, 1, 1, 0, 0, []) := rs_of (by decide +kernel) (by decide +kernel)
theorem DL_law_406 : rs ML_law 406 = some (.iload 20, 2, 0, 0, 0, []) := rs_of (by decide +kernel) (by decide +kernel)
theorem DL_law_408 : rs ML_law 408 = some (.iconst 4, 1, 0, 0, 4, []) := rs_of (by decide +kernel) (by decide +kernel)
theorem DL_law_409 : rs ML_law 409 = some (.invokevirtual 69, 3, 0, 0, 0, []) := rs_of (by decide +kernel) (by decide +kernel)
theorem DL_law_412 : rs ML_law 412 = some (.goto 4, 3, 416, 0, 0, []) := rs_of (by decide +kernel) (by decide +kernel)
theorem DL_law_415 : rs ML_law 415 = some (.iconst 0, 1, 0, 0, 0, []) := rs_of (by decide +kernel) (by decide +kernel)
theorem DL_law_416 : rs ML_law 416 = some (.if_icmp .le 5, 3, 421, 0, 0, []) := rs_of (by decide +kernel) (by decide +kernel)
theorem DL_law_419 : rs ML_law 419 = some (.iconst 0, 1, 0, 0, 0, []) := rs_of (by decide +kernel) (by decide +kernel)
theorem DL_law_420 : rs ML_law 420 = some (.ireturn, 1, 0, 0, 0, []) := rs_of (by decide +kernel) (by decide +kernel)
theorem DL_law_421 : rs ML_law 421 = some (.iload 18, 2, 0, 0, 0, []) := rs_of (by decide +kernel) (by decide +kernel)
theorem DL_law_423 : rs ML_law 423 = some (.iload 21, 2, 0, 0, 0, []) := rs_of (by decide +kernel) (by decide +kernel)
theorem DL_law_425 : rs ML_law 425 = some (.iadd, 1, 0, 0, 0, []) := rs_of (by decide +kernel) (by decide +kernel)
theorem DL_law_426 : rs ML_law 426 = some (.istore 18, 2, 0, 0, 0, []) := rs_of (by decide +kernel) (by decide +kernel)
theorem DL_law_428 : rs ML_law 428 = some (.iload 9, 2, 0, 0, 0, []) := rs_of (by decide +kernel) (by decide +kernel)
theorem DL_law_430 : rs ML_law 430 = some (.iload 21, 2, 0, 0, 0, []) := rs_of (by decide +kernel) (by decide +kernel)
theorem DL_law_432 : rs ML_law 432 = some (.aload_n 1, 1, 1, 0, 0, []) := rs_of (by decide +kernel) (by decide +kernel)
theorem DL_law_433 : rs ML_law 433 = some (.iload 20, 2, 0, 0, 0, []) := rs_of (by decide +kernel) (by decide +kernel)
theorem DL_law_435 : rs ML_law 435 = some (.iconst 5, 1, 0, 0, 5, []) := rs_of (by decide +kernel) (by decide +kernel)
theorem DL_law_436 : rs ML_law 436 = some (.invokevirtual 69, 3, 0, 0, 0, []) := rs_of (by decide +kernel) (by decide +kernel)
theorem DL_law_439 : rs ML_law 439 = some (.imul, 1, 0, 0, 0, []) := rs_of (by decide +kernel) (by decide +kernel)
theorem DL_law_440 : rs ML_law 440 = some (.iadd, 1, 0, 0, 0, []) := rs_of (by decide +kernel) (by decide +kernel)
theorem DL_law_441 : rs ML_law 441 = some (.istore 9, 2, 0, 0, 0, []) := rs_of (by decide +kernel) (by decide +kernel)
theorem DL_law_443 : rs ML_law 443 = some (.iload 16, 2, 0, 0, 0, []) := rs_of (by decide +kernel) (by decide +kernel)
theorem DL_law_445 : rs ML_law 445 = some (.iload 22, 2, 0, 0, 0, []) := rs_of (by decide +kernel) (by decide +kernel)
theorem DL_law_447 : rs ML_law 447 = some (.ifCond .eq 19, 3, 466, 0, 0, []) := rs_of (by decide +kernel) (by decide +kernel)
theorem DL_law_450 : rs ML_law 450 = some (.iload 21, 2, 0, 0, 0, []) := rs_of (by decide +kernel) (by decide +kernel)
theorem DL_law_452 : rs ML_law 452 = some (.aload_n 1, 1, 1, 0, 0, []) := rs_of (by decide +kernel) (by decide +kernel)
theorem DL_law_453 : rs ML_law 453 = some (.iload 20, 2, 0, 0, 0, []) := rs_of (by decide +kernel) (by decide +kernel)
theorem DL_law_455 : rs ML_law 455 = some (.iconst 4, 1, 0, 0, 4, []) := rs_of (by decide +kernel) (by decide +kernel)
theorem DL_law_456 : rs ML_law 456 = some (.invokevirtual 69, 3, 0, 0, 0, []) := rs_of (by decide +kernel) (by decide +kernel)
theorem DL_law_459 : rs ML_law 459 = some (.if_icmp .ge 7, 3, 466, 0, 0, []) := rs_of (by decide +kernel) (by decide +kernel)
theorem DL_law_462 : rs ML_law 462 = some (.iconst 1, 1, 0, 0, 1, []) := rs_of (by decide +kernel) (by decide +kernel)
theorem DL_law_463 : rs ML_law 463 = some (.goto 4, 3, 467, 0, 0, []) := rs_of (by decide +kernel) (by decide +kernel)
theorem DL_law_466 : rs ML_law 466 = some (.iconst 0, 1, 0, 0, 0, []) := rs_of (by decide +kernel) (by decide +kernel)
theorem DL_law_467 : rs ML_law 467 = some (.iadd, 1, 0, 0, 0, []) := rs_of (by decide +kernel) (by decide +kernel)
theorem DL_law_468 : rs ML_law 468 = some (.istore 16, 2, 0, 0, 0, []) := rs_of (by decide +kernel) (by decide +kernel)
theorem DL_law_470 : rs ML_law 470 = some (.iload 19, 2, 0, 0, 0, []) := rs_of (by decide +kernel) (by decide +kernel)
theorem DL_law_472 : rs ML_law 472 = some (.ifCond .ne 20, 3, 492, 0, 0, []) := rs_of (by decide +kernel) (by decide +kernel)
theorem DL_law_475 : rs ML_law 475 = some (.iload 22, 2, 0, 0, 0, []) := rs_of (by decide +kernel) (by decide +kernel)
theorem DL_law_477 : rs ML_law 477 = some (.ifCond .eq 19, 3, 496, 0, 0, []) := rs_of (by decide +kernel) (by decide +kernel)
theorem DL_law_480 : rs ML_law 480 = some (.iload 21, 2, 0, 0, 0, []) := rs_of (by decide +kernel) (by decide +kernel)
theorem DL_law_482 : rs ML_law 482 = some (.aload_n 1, 1, 1, 0, 0, []) := rs_of (by decide +kernel) (by decide +kernel)
theorem DL_law_483 : rs ML_law 483 = some (.iload 20, 2, 0, 0, 0, []) := rs_of (by decide +kernel) (by decide +kernel)
theorem DL_law_485 : rs ML_law 485 = some (.iconst 4, 1, 0, 0, 4, []) := rs_of (by decide +kernel) (by decide +kernel)
theorem DL_law_486 : rs ML_law 486 = some (.invokevirtual 69, 3, 0, 0, 0, []) := rs_of (by decide +kernel) (by decide +kernel)
theorem DL_law_489 : rs ML_law 489 = some (.if_icmp .ge 7, 3, 496, 0, 0, []) := rs_of (by decide +kernel) (by decide +kernel)
theorem DL_law_492 : rs ML_law 492 = some (.iconst 1, 1, 0, 0, 1, []) := rs_of (by decide +kernel) (by decide +kernel)
theorem DL_law_493 : rs ML_law 493 = some (.goto 4, 3, 497, 0, 0, []) := rs_of (by decide +kernel) (by decide +kernel)
theorem DL_law_496 : rs ML_law 496 = some (.iconst 0, 1, 0, 0, 0, []) := rs_of (by decide +kernel) (by decide +kernel)
theorem DL_law_497 : rs ML_law 497 = some (.istore 19, 2, 0, 0, 0, []) := rs_of (by decide +kernel) (by decide +kernel)
theorem DL_law_499 : rs ML_law 499 = some (.iconst 0, 1, 0, 0, 0, []) := rs_of (by decide +kernel) (by decide +kernel)
theorem DL_law_500 : rs ML_law 500 = some (.istore 23, 2, 0, 0, 0, []) := rs_of (by decide +kernel) (by decide +kernel)
theorem DL_law_502 : rs ML_law 502 = some (.iload 23, 2, 0, 0, 0, []) := rs_of (by decide +kernel) (by decide +kernel)
theorem DL_law_504 : rs ML_law 504 = some (.iload_n 3, 1, 3, 0, 0, []) := rs_of (by decide +kernel) (by decide +kernel)
theorem DL_law_505 : rs ML_law 505 = some (.if_icmp .ge 68, 3, 573, 0, 0, []) := rs_of (by decide +kernel) (by decide +kernel)
theorem DL_law_508 : rs ML_law 508 = some (.iload 22, 2, 0, 0, 0, []) := rs_of (by decide +kernel) (by decide +kernel)
theorem DL_law_510 : rs ML_law 510 = some (.ifCond .eq 63, 3, 573, 0, 0, []) := rs_of (by decide +kernel) (by decide +kernel)
theorem DL_law_513 : rs ML_law 513 = some (.aload_n 1, 1, 1, 0, 0, []) := rs_of (by decide +kernel) (by decide +kernel)
theorem DL_law_514 : rs ML_law 514 = some (.iload 23, 2, 0, 0, 0, []) := rs_of (by decide +kernel) (by decide +kernel)
theorem DL_law_516 : rs ML_law 516 = some (.iconst 0, 1, 0, 0, 0, []) := rs_of (by decide +kernel) (by decide +kernel)
theorem DL_law_517 : rs ML_law 517 = some (.invokevirtual 69, 3, 0, 0, 0, []) := rs_of (by decide +kernel) (by decide +kernel)
theorem DL_law_520 : rs ML_law 520 = some (.iload 17, 2, 0, 0, 0, []) := rs_of (by decide +kernel) (by decide +kernel)
theorem DL_law_522 : rs ML_law 522 = some (.if_icmp .ne 45, 3, 567, 0, 0, []) := rs_of (by decide +kernel) (by decide +kernel)
theorem DL_law_525 : rs ML_law 525 = some (.aload_n 1, 1, 1, 0, 0, []) := rs_of (by decide +kernel) (by decide +kernel)
theorem DL_law_526 : rs ML_law 526 = some (.iload 23, 2, 0, 0, 0, []) := rs_of (by decide +kernel) (by decide +kernel)
theorem DL_law_528 : rs ML_law 528 = some (.iconst 5, 1, 0, 0, 5, []) := rs_of (by decide +kernel) (by decide +kernel)
theorem DL_law_529 : rs ML_law 529 = some (.invokevirtual 69, 3, 0, 0, 0, []) := rs_of (by decide +kernel) (by decide +kernel)
theorem DL_law_532 : rs ML_law 532 = some (.aload_n 1, 1, 1, 0, 0, []) := rs_of (by decide +kernel) (by decide +kernel)
theorem DL_law_533 : rs ML_law 533 = some (.iload 20, 2, 0, 0, 0, []) := rs_of (by decide +kernel) (by decide +kernel)
theorem DL_law_535 : rs ML_law 535 = some (.iconst 5, 1, 0, 0, 5, []) := rs_of (by decide +kernel) (by decide +kernel)
theorem DL_law_536 : rs ML_law 536 = some (.invokevirtual 69, 3, 0, 0, 0, []) := rs_of (by decide +kernel) (by decide +kernel)
theorem DL_law_539 : rs ML_law 539 = some (.if_icmp .ge 28, 3, 567, 0, 0, []) := rs_of (by decide +kernel) (by decide +kernel)
theorem DL_law_542 : rs ML_law 542 = some (.iload 21, 2, 0, 0, 0, []) := rs_of (by decide +kernel) (by decide +kernel)
theorem DL_law_544 : rs ML_law 544 = some (.aload_n 1, 1, 1, 0, 0, []) := rs_of (by decide +kernel) (by decide +kernel)
theorem DL_law_545 : rs ML_law 545 = some (.iload 20, 2, 0, 0, 0, []) := rs_of (by decide +kernel) (by decide +kernel)
theorem DL_law_547 : rs ML_law 547 = some (.iconst 4, 1, 0, 0, 4, []) := rs_of (by decide +kernel) (by decide +kernel)
theorem DL_law_548 : rs ML_law 548 = some (.invokevirtual 69, 3, 0, 0, 0, []) := rs_of (by decide +kernel) (by decide +kernel)
theorem DL_law_551 : rs ML_law 551 = some (.if_icmp .ge 16, 3, 567, 0, 0, []) := rs_of (by decide +kernel) (by decide +kernel)
theorem DL_law_554 : rs ML_law 554 = some (.aload_n 1, 1, 1, 0, 0, []) := rs_of (by decide +kernel) (by decide +kernel)
theorem DL_law_555 : rs ML_law 555 = some (.iload 23, 2, 0, 0, 0, []) := rs_of (by decide +kernel) (by decide +kernel)
theorem DL_law_557 : rs ML_law 557 = some (.iload 10, 2, 0, 0, 0, []) := rs_of (by decide +kernel) (by decide +kernel)
theorem DL_law_559 : rs ML_law 559 = some (.invokevirtual 72, 3, 0, 0, 0, []) := rs_of (by decide +kernel) (by decide +kernel)
theorem DL_law_562 : rs ML_law 562 = some (.ifCond .le 5, 3, 567, 0, 0, []) := rs_of (by decide +kernel) (by decide +kernel)
theorem DL_law_565 : rs ML_law 565 = some (.iconst 0, 1, 0, 0, 0, []) := rs_of (by decide +kernel) (by decide +kernel)
theorem DL_law_566 : rs ML_law 566 = some (.ireturn, 1, 0, 0, 0, []) := rs_of (by decide +kernel) (by decide +kernel)
theorem DL_law_567 : rs ML_law 567 = some (.iinc 23 1, 3, 23, 0, 1, []) := rs_of (by decide +kernel) (by decide +kernel)
theorem DL_law_570 : rs ML_law 570 = some (.goto (-68), 3, 502, 0, 0, []) := rs_of (by decide +kernel) (by decide +kernel)
theorem DL_law_573 : rs ML_law 573 = some (.iinc 20 1, 3, 20, 0, 1, []) := rs_of (by decide +kernel) (by decide +kernel)
theorem DL_law_576 : rs ML_law 576 = some (.goto (-257), 3, 319, 0, 0, []) := rs_of (by decide +kernel) (by decide +kernel)
theorem DL_law_579 : rs ML_law 579 = some (.iload 18, 2, 0, 0, 0, []) := rs_of (by decide +kernel) (by decide +kernel)
theorem DL_law_581 : rs ML_law 581 = some (.aload 11, 2, 0, 0, 0, []) := rs_of (by decide +kernel) (by decide +kernel)
theorem DL_law_583 : rs ML_law 583 = some (.iload 17, 2, 0, 0, 0, []) := rs_of (by decide +kernel) (by decide +kernel)
theorem DL_law_585 : rs ML_law 585 = some (.iaload, 1, 0, 0, 0, []) := rs_of (by decide +kernel) (by decide +kernel)
theorem DL_law_586 : rs ML_law 586 = some (.if_icmp .gt 18, 3, 604, 0, 0, []) := rs_of (by decide +kernel) (by decide +kernel)
theorem DL_law_589 : rs ML_law 589 = some (.iload 19, 2, 0, 0, 0, []) := rs_of (by decide +kernel) (by decide +kernel)
theorem DL_law_591 : rs ML_law 591 = some (.ifCond .eq 15, 3, 606, 0, 0, []) := rs_of (by decide +kernel) (by decide +kernel)
theorem DL_law_594 : rs ML_law 594 = some (.iload 18, 2, 0, 0, 0, []) := rs_of (by decide +kernel) (by decide +kernel)
theorem DL_law_596 : rs ML_law 596 = some (.aload 11, 2, 0, 0, 0, []) := rs_of (by decide +kernel) (by decide +kernel)
theorem DL_law_598 : rs ML_law 598 = some (.iload 17, 2, 0, 0, 0, []) := rs_of (by decide +kernel) (by decide +kernel)
theorem DL_law_600 : rs ML_law 600 = some (.iaload, 1, 0, 0, 0, []) := rs_of (by decide +kernel) (by decide +kernel)
theorem DL_law_601 : rs ML_law 601 = some (.if_icmp .eq 5, 3, 606, 0, 0, []) := rs_of (by decide +kernel) (by decide +kernel)
theorem DL_law_604 : rs ML_law 604 = some (.iconst 0, 1, 0, 0, 0, []) := rs_of (by decide +kernel) (by decide +kernel)
theorem DL_law_605 : rs ML_law 605 = some (.ireturn, 1, 0, 0, 0, []) := rs_of (by decide +kernel) (by decide +kernel)
theorem DL_law_606 : rs ML_law 606 = some (.iload 15, 2, 0, 0, 0, []) := rs_of (by decide +kernel) (by decide +kernel)
theorem DL_law_608 : rs ML_law 608 = some (.iload 18, 2, 0, 0, 0, []) := rs_of (by decide +kernel) (by decide +kernel)
theorem DL_law_610 : rs ML_law 610 = some (.iadd, 1, 0, 0, 0, []) := rs_of (by decide +kernel) (by decide +kernel)
theorem DL_law_611 : rs ML_law 611 = some (.istore 15, 2, 0, 0, 0, []) := rs_of (by decide +kernel) (by decide +kernel)
theorem DL_law_613 : rs ML_law 613 = some (.iinc 17 1, 3, 17, 0, 1, []) := rs_of (by decide +kernel) (by decide +kernel)
theorem DL_law_616 : rs ML_law 616 = some (.goto (-341), 3, 275, 0, 0, []) := rs_of (by decide +kernel) (by decide +kernel)
theorem DL_law_619 : rs ML_law 619 = some (.aload_n 1, 1, 1, 0, 0, []) := rs_of (by decide +kernel) (by decide +kernel)
theorem DL_law_620 : rs ML_law 620 = some (.iload 10, 2, 0, 0, 0, []) := rs_of (by decide +kernel) (by decide +kernel)
theorem DL_law_622 : rs ML_law 622 = some (.iconst 0, 1, 0, 0, 0, []) := rs_of (by decide +kernel) (by decide +kernel)
theorem DL_law_623 : rs ML_law 623 = some (.invokevirtual 75, 3, 0, 0, 0, []) := rs_of (by decide +kernel) (by decide +kernel)
theorem DL_law_626 : rs ML_law 626 = some (.iload 14, 2, 0, 0, 0, []) := rs_of (by decide +kernel) (by decide +kernel)
theorem DL_law_628 : rs ML_law 628 = some (.if_icmp .ne 49, 3, 677, 0, 0, []) := rs_of (by decide +kernel) (by decide +kernel)
theorem DL_law_631 : rs ML_law 631 = some (.aload_n 1, 1, 1, 0, 0, []) := rs_of (by decide +kernel) (by decide +kernel)
theorem DL_law_632 : rs ML_law 632 = some (.iload 10, 2, 0, 0, 0, []) := rs_of (by decide +kernel) (by decide +kernel)
theorem DL_law_634 : rs ML_law 634 = some (.iconst 1, 1, 0, 0, 1, []) := rs_of (by decide +kernel) (by decide +kernel)
theorem DL_law_635 : rs ML_law 635 = some (.invokevirtual 75, 3, 0, 0, 0, []) := rs_of (by decide +kernel) (by decide +kernel)
theorem DL_law_638 : rs ML_law 638 = some (.iload 13, 2, 0, 0, 0, []) := rs_of (by decide +kernel) (by decide +kernel)
theorem DL_law_640 : rs ML_law 640 = some (.if_icmp .ne 37, 3, 677, 0, 0, []) := rs_of (by decide +kernel) (by decide +kernel)
theorem DL_law_643 : rs ML_law 643 = some (.aload_n 1, 1, 1, 0, 0, []) := rs_of (by decide +kernel) (by decide +kernel)
theorem DL_law_644 : rs ML_law 644 = some (.iload 10, 2, 0, 0, 0, []) := rs_of (by decide +kernel) (by decide +kernel)
theorem DL_law_646 : rs ML_law 646 = some (.iconst 2, 1, 0, 0, 2, []) := rs_of (by decide +kernel) (by decide +kernel)
theorem DL_law_647 : rs ML_law 647 = some (.invokevirtual 75, 3, 0, 0, 0, []) := rs_of (by decide +kernel) (by decide +kernel)
theorem DL_law_650 : rs ML_law 650 = some (.iload 15, 2, 0, 0, 0, []) := rs_of (by decide +kernel) (by decide +kernel)
theorem DL_law_652 : rs ML_law 652 = some (.if_icmp .ne 25, 3, 677, 0, 0, []) := rs_of (by decide +kernel) (by decide +kernel)
theorem DL_law_655 : rs ML_law 655 = some (.aload_n 1, 1, 1, 0, 0, []) := rs_of (by decide +kernel) (by decide +kernel)
theorem DL_law_656 : rs ML_law 656 = some (.iload 10, 2, 0, 0, 0, []) := rs_of (by decide +kernel) (by decide +kernel)
theorem DL_law_658 : rs ML_law 658 = some (.iconst 3, 1, 0, 0, 3, []) := rs_of (by decide +kernel) (by decide +kernel)
theorem DL_law_659 : rs ML_law 659 = some (.invokevirtual 75, 3, 0, 0, 0, []) := rs_of (by decide +kernel) (by decide +kernel)
theorem DL_law_662 : rs ML_law 662 = some (.iload 16, 2, 0, 0, 0, []) := rs_of (by decide +kernel) (by decide +kernel)
theorem DL_law_664 : rs ML_law 664 = some (.if_icmp .ne 13, 3, 677, 0, 0, []) := rs_of (by decide +kernel) (by decide +kernel)
theorem DL_law_667 : rs ML_law 667 = some (.iload 12, 2, 0, 0, 0, []) := rs_of (by decide +kernel) (by decide +kernel)
theorem DL_law_669 : rs ML_law 669 = some (.aload_n 1, 1, 1, 0, 0, []) := rs_of (by decide +kernel) (by decide +kernel)
theorem DL_law_670 : rs ML_law 670 = some (.iconst 5, 1, 0, 0, 5, []) := rs_of (by decide +kernel) (by decide +kernel)
theorem DL_law_671 : rs ML_law 671 = some (.invokevirtual 78, 3, 0, 0, 0, []) := rs_of (by decide +kernel) (by decide +kernel)
theorem DL_law_674 : rs ML_law 674 = some (.if_icmp .eq 5, 3, 679, 0, 0, []) := rs_of (by decide +kernel) (by decide +kernel)
theorem DL_law_677 : rs ML_law 677 = some (.iconst 0, 1, 0, 0, 0, []) := rs_of (by decide +kernel) (by decide +kernel)
theorem DL_law_678 : rs ML_law 678 = some (.ireturn, 1, 0, 0, 0, []) := rs_of (by decide +kernel) (by decide +kernel)
theorem DL_law_679 : rs ML_law 679 = some (.iinc 10 1, 3, 10, 0, 1, []) := rs_of (by decide +kernel) (by decide +kernel)
theorem DL_law_682 : rs ML_law 682 = some (.goto (-584), 3, 98, 0, 0, []) := rs_of (by decide +kernel) (by decide +kernel)
theorem DL_law_685 : rs ML_law 685 = some (.aload_n 1, 1, 1, 0, 0, []) := rs_of (by decide +kernel) (by decide +kernel)
theorem DL_law_686 : rs ML_law 686 = some (.iconst 4, 1, 0, 0, 4, []) := rs_of (by decide +kernel) (by decide +kernel)
theorem DL_law_687 : rs ML_law 687 = some (.invokevirtual 78, 3, 0, 0, 0, []) := rs_of (by decide +kernel) (by decide +kernel)
theorem DL_law_690 : rs ML_law 690 = some (.istore 10, 2, 0, 0, 0, []) := rs_of (by decide +kernel) (by decide +kernel)
theorem DL_law_692 : rs ML_law 692 = some (.iload_n 3, 1, 3, 0, 0, []) := rs_of (by decide +kernel) (by decide +kernel)
theorem DL_law_693 : rs ML_law 693 = some (.newarray .int, 2, 0, 0, 0, []) := rs_of (by decide +kernel) (by decide +kernel)
theorem DL_law_695 : rs ML_law 695 = some (.astore 11, 2, 0, 0, 0, []) := rs_of (by decide +kernel) (by decide +kernel)
theorem DL_law_697 : rs ML_law 697 = some (.iload_n 3, 1, 3, 0, 0, []) := rs_of (by decide +kernel) (by decide +kernel)
theorem DL_law_698 : rs ML_law 698 = some (.newarray .int, 2, 0, 0, 0, []) := rs_of (by decide +kernel) (by decide +kernel)
theorem DL_law_700 : rs ML_law 700 = some (.astore 12, 2, 0, 0, 0, []) := rs_of (by decide +kernel) (by decide +kernel)
theorem DL_law_702 : rs ML_law 702 = some (.iconst 0, 1, 0, 0, 0, []) := rs_of (by decide +kernel) (by decide +kernel)
theorem DL_law_703 : rs ML_law 703 = some (.istore 13, 2, 0, 0, 0, []) := rs_of (by decide +kernel) (by decide +kernel)
theorem DL_law_705 : rs ML_law 705 = some (.iload 13, 2, 0, 0, 0, []) := rs_of (by decide +kernel) (by decide +kernel)
theorem DL_law_707 : rs ML_law 707 = some (.iload_n 3, 1, 3, 0, 0, []) := rs_of (by decide +kernel) (by decide +kernel)
theorem DL_law_708 : rs ML_law 708 = some (.if_icmp .ge 35, 3, 743, 0, 0, []) := rs_of (by decide +kernel) (by decide +kernel)
theorem DL_law_711 : rs ML_law 711 = some (.aload 11, 2, 0, 0, 0, []) := rs_of (by decide +kernel) (by decide +kernel)
theorem DL_law_713 : rs ML_law 713 = some (.iload 13, 2, 0, 0, 0, []) := rs_of (by decide +kernel) (by decide +kernel)
theorem DL_law_715 : rs ML_law 715 = some (.aload_n 1, 1, 1, 0, 0, []) := rs_of (by decide +kernel) (by decide +kernel)
theorem DL_law_716 : rs ML_law 716 = some (.iload 13, 2, 0, 0, 0, []) := rs_of (by decide +kernel) (by decide +kernel)
theorem DL_law_718 : rs ML_law 718 = some (.bipush 7, 2, 0, 0, 7, []) := rs_of (by decide +kernel) (by decide +kernel)
theorem DL_law_720 : rs ML_law 720 = some (.invokevirtual 69, 3, 0, 0, 0, []) := rs_of (by decide +kernel) (by decide +kernel)
theorem DL_law_723 : rs ML_law 723 = some (.iastore, 1, 0, 0, 0, []) := rs_of (by decide +kernel) (by decide +kernel)
theorem DL_law_724 : rs ML_law 724 = some (.aload 12, 2, 0, 0, 0, []) := rs_of (by decide +kernel) (by decide +kernel)
theorem DL_law_726 : rs ML_law 726 = some (.iload 13, 2, 0, 0, 0, []) := rs_of (by decide +kernel) (by decide +kernel)
theorem DL_law_728 : rs ML_law 728 = some (.aload_n 1, 1, 1, 0, 0, []) := rs_of (by decide +kernel) (by decide +kernel)
theorem DL_law_729 : rs ML_law 729 = some (.iload 13, 2, 0, 0, 0, []) := rs_of (by decide +kernel) (by decide +kernel)
theorem DL_law_731 : rs ML_law 731 = some (.bipush 6, 2, 0, 0, 6, []) := rs_of (by decide +kernel) (by decide +kernel)
theorem DL_law_733 : rs ML_law 733 = some (.invokevirtual 69, 3, 0, 0, 0, []) := rs_of (by decide +kernel) (by decide +kernel)
theorem DL_law_736 : rs ML_law 736 = some (.iastore, 1, 0, 0, 0, []) := rs_of (by decide +kernel) (by decide +kernel)
theorem DL_law_737 : rs ML_law 737 = some (.iinc 13 1, 3, 13, 0, 1, []) := rs_of (by decide +kernel) (by decide +kernel)
theorem DL_law_740 : rs ML_law 740 = some (.goto (-35), 3, 705, 0, 0, []) := rs_of (by decide +kernel) (by decide +kernel)
theorem DL_law_743 : rs ML_law 743 = some (.aload_n 1, 1, 1, 0, 0, []) := rs_of (by decide +kernel) (by decide +kernel)
theorem DL_law_744 : rs ML_law 744 = some (.iconst 1, 1, 0, 0, 1, []) := rs_of (by decide +kernel) (by decide +kernel)
theorem DL_law_745 : rs ML_law 745 = some (.invokevirtual 82, 3, 0, 0, 0, []) := rs_of (by decide +kernel) (by decide +kernel)
theorem DL_law_748 : rs ML_law 748 = some (.istore 13, 2, 0, 0, 0, []) := rs_of (by decide +kernel) (by decide +kernel)
theorem DL_law_750 : rs ML_law 750 = some (.iload 5, 2, 0, 0, 0, []) := rs_of (by decide +kernel) (by decide +kernel)
theorem DL_law_752 : rs ML_law 752 = some (.iload 13, 2, 0, 0, 0, []) := rs_of (by decide +kernel) (by decide +kernel)
theorem DL_law_754 : rs ML_law 754 = some (.iadd, 1, 0, 0, 0, []) := rs_of (by decide +kernel) (by decide +kernel)
theorem DL_law_755 : rs ML_law 755 = some (.istore 5, 2, 0, 0, 0, []) := rs_of (by decide +kernel) (by decide +kernel)
theorem DL_law_757 : rs ML_law 757 = some (.iconst 0, 1, 0, 0, 0, []) := rs_of (by decide +kernel) (by decide +kernel)
theorem DL_law_758 : rs ML_law 758 = some (.istore 14, 2, 0, 0, 0, []) := rs_of (by decide +kernel) (by decide +kernel)
theorem DL_law_760 : rs ML_law 760 = some (.iconst 0, 1, 0, 0, 0, []) := rs_of (by decide +kernel) (by decide +kernel)
theorem DL_law_761 : rs ML_law 761 = some (.istore 15, 2, 0, 0, 0, []) := rs_of (by decide +kernel) (by decide +kernel)
theorem DL_law_763 : rs ML_law 763 = some (.iload 15, 2, 0, 0, 0, []) := rs_of (by decide +kernel) (by decide +kernel)
theorem DL_law_765 : rs ML_law 765 = some (.iload_n 3, 1, 3, 0, 0, []) := rs_of (by decide +kernel) (by decide +kernel)
theorem DL_law_766 : rs ML_law 766 = some (.if_icmp .ge 133, 3, 899, 0, 0, []) := rs_of (by decide +kernel) (by decide +kernel)
theorem DL_law_769 : rs ML_law 769 = some (.aload_n 1, 1, 1, 0, 0, []) := rs_of (by decide +kernel) (by decide +kernel)
theorem DL_law_770 : rs ML_law 770 = some (.iload 15, 2, 0, 0, 0, []) := rs_of (by decide +kernel) (by decide +kernel)
theorem DL_law_772 : rs ML_law 772 = some (.bipush 7, 2, 0, 0, 7, []) := rs_of (by decide +kernel) (by decide +kernel)
theorem DL_law_774 : rs ML_law 774 = some (.invokevirtual 69, 3, 0, 0, 0, []) := rs_of (by decide +kernel) (by decide +kernel)
theorem DL_law_777 : rs ML_law 777 = some (.istore 16, 2, 0, 0, 0, []) := rs_of (by decide +kernel) (by decide +kernel)
theorem DL_law_779 : rs ML_law 779 = some (.aload 12, 2, 0, 0, 0, []) := rs_of (by decide +kernel) (by decide +kernel)
theorem DL_law_781 : rs ML_law 781 = some (.iload 15, 2, 0, 0, 0, []) := rs_of (by decide +kernel) (by decide +kernel)
theorem DL_law_783 : rs ML_law 783 = some (.iaload, 1, 0, 0, 0, []) := rs_of (by decide +kernel) (by decide +kernel)
theorem DL_law_784 : rs ML_law 784 = some (.iconst 1, 1, 0, 0, 1, []) := rs_of (by decide +kernel) (by decide +kernel)
theorem DL_law_785 : rs ML_law 785 = some (.if_icmp .ne 18, 3, 803, 0, 0, []) := rs_of (by decide +kernel) (by decide +kernel)
theorem DL_law_788 : rs ML_law 788 = some (.aload_n 1, 1, 1, 0, 0, []) := rs_of (by decide +kernel) (by decide +kernel)
theorem DL_law_789 : rs ML_law 789 = some (.iload 15, 2, 0, 0, 0, []) := rs_of (by decide +kernel) (by decide +kernel)
theorem DL_law_791 : rs ML_law 791 = some (.bipush 6, 2, 0, 0, 6, []) := rs_of (by decide +kernel) (by decide +kernel)
theorem DL_law_793 : rs ML_law 793 = some (.invokevirtual 69, 3, 0, 0, 0, []) := rs_of (by decide +kernel) (by decide +kernel)
theorem DL_law_796 : rs ML_law 796 = some (.ifCond .ne 7, 3, 803, 0, 0, []) := rs_of (by decide +kernel) (by decide +kernel)
theorem DL_law_799 : rs ML_law 799 = some (.iconst 1, 1, 0, 0, 1, []) := rs_of (by decide +kernel) (by decide +kernel)
theorem DL_law_800 : rs ML_law 800 = some (.goto 4, 3, 804, 0, 0, []) := rs_of (by decide +kernel) (by decide +kernel)
theorem DL_law_803 : rs ML_law 803 = some (.iconst 0, 1, 0, 0, 0, []) := rs_of (by decide +kernel) (by decide +kernel)
theorem DL_law_804 : rs ML_law 804 = some (.istore 17, 2, 0, 0, 0, []) := rs_of (by decide +kernel) (by decide +kernel)
theorem DL_law_806 : rs ML_law 806 = some (.iload 14, 2, 0, 0, 0, []) := rs_of (by decide +kernel) (by decide +kernel)
theorem DL_law_808 : rs ML_law 808 = some (.iload 17, 2, 0, 0, 0, []) := rs_of (by decide +kernel) (by decide +kernel)
theorem DL_law_810 : rs ML_law 810 = some (.ifCond .eq 7, 3, 817, 0, 0, []) := rs_of (by decide +kernel) (by decide +kernel)
theorem DL_law_813 : rs ML_law 813 = some (.iconst 1, 1, 0, 0, 1, []) := rs_of (by decide +kernel) (by decide +kernel)
theorem DL_law_814 : rs ML_law 814 = some (.goto 4, 3, 818, 0, 0, []) := rs_of (by decide +kernel) (by decide +kernel)
theorem DL_law_817 : rs ML_law 817 = some (.iconst 0, 1, 0, 0, 0, []) := rs_of (by decide +kernel) (by decide +kernel)
theorem DL_law_818 : rs ML_law 818 = some (.iadd, 1, 0, 0, 0, []) := rs_of (by decide +kernel) (by decide +kernel)
theorem DL_law_819 : rs ML_law 819 = some (.istore 14, 2, 0, 0, 0, []) := rs_of (by decide +kernel) (by decide +kernel)
theorem DL_law_821 : rs ML_law 821 = some (.iload 16, 2, 0, 0, 0, []) := rs_of (by decide +kernel) (by decide +kernel)
theorem DL_law_823 : rs ML_law 823 = some (.iconst 2, 1, 0, 0, 2, []) := rs_of (by decide +kernel) (by decide +kernel)
theorem DL_law_824 : rs ML_law 824 = some (.if_icmp .gt 67, 3, 891, 0, 0, []) := rs_of (by decide +kernel) (by decide +kernel)
theorem DL_law_827 : rs ML_law 827 = some (.iload 17, 2, 0, 0, 0, []) := rs_of (by decide +kernel) (by decide +kernel)
theorem DL_law_829 : rs ML_law 829 = some (.ifCond .eq 18, 3, 847, 0, 0, []) := rs_of (by decide +kernel) (by decide +kernel)
theorem DL_law_832 : rs ML_law 832 = some (.aload 11, 2, 0, 0, 0, []) := rs_of (by decide +kernel) (by decide +kernel)
theorem DL_law_834 : rs ML_law 834 = some (.iload 15, 2, 0, 0, 0, []) := rs_of (by decide +kernel) (by decide +kernel)
theorem DL_law_836 : rs ML_law 836 = some (.iaload, 1, 0, 0, 0, []) := rs_of (by decide +kernel) (by decide +kernel)
theorem DL_law_837 : rs ML_law 837 = some (.iconst 1, 1, 0, 0, 1, []) := rs_of (by decide +kernel) (by decide +kernel)
theorem DL_law_838 : rs ML_law 838 = some (.if_icmp .ne 53, 3, 891, 0, 0, []) := rs_of (by decide +kernel) (by decide +kernel)
theorem DL_law_841 : rs ML_law 841 = some (.iload 16, 2, 0, 0, 0, []) := rs_of (by decide +kernel) (by decide +kernel)
theorem DL_law_843 : rs ML_law 843 = some (.iconst 2, 1, 0, 0, 2, []) := rs_of (by decide +kernel) (by decide +kernel)
theorem DL_law_844 : rs ML_law 844 = some (.if_icmp .ne 47, 3, 891, 0, 0, []) := rs_of (by decide +kernel) (by decide +kernel)
theorem DL_law_847 : rs ML_law 847 = some (.aload 12, 2, 0, 0, 0, []) := rs_of (by decide +kernel) (by decide +kernel)
theorem DL_law_849 : rs ML_law 849 = some (.iload 15, 2, 0, 0, 0, []) := rs_of (by decide +kernel) (by decide +kernel)
theorem DL_law_851 : rs ML_law 851 = some (.iaload, 1, 0, 0, 0, []) := rs_of (by decide +kernel) (by decide +kernel)
theorem DL_law_852 : rs ML_law 852 = some (.ifCond .ne 13, 3, 865, 0, 0, []) := rs_of (by decide +kernel) (by decide +kernel)
theorem DL_law_855 : rs ML_law 855 = some (.iload 16, 2, 0, 0, 0, []) := rs_of (by decide +kernel) (by decide +kernel)
theorem DL_law_857 : rs ML_law 857 = some (.aload 11, 2, 0, 0, 0, []) := rs_of (by decide +kernel) (by decide +kernel)
theorem DL_law_859 : rs ML_law 859 = some (.iload 15, 2, 0, 0, 0, []) := rs_of (by decide +kernel) (by decide +kernel)
theorem DL_law_861 : rs ML_law 861 = some (.iaload, 1, 0, 0, 0, []) := rs_of (by decide +kernel) (by decide +kernel)
theorem DL_law_862 : rs ML_law 862 = some (.if_icmp .ne 29, 3, 891, 0, 0, []) := rs_of (by decide +kernel) (by decide +kernel)
theorem DL_law_865 : rs ML_law 865 = some (.aload 12, 2, 0, 0, 0, []) := rs_of (by decide +kernel) (by decide +kernel)
theorem DL_law_867 : rs ML_law 867 = some (.iload 15, 2, 0, 0, 0, []) := rs_of (by decide +kernel) (by decide +kernel)
theorem DL_law_869 : rs ML_law 869 = some (.iaload, 1, 0, 0, 0, []) := rs_of (by decide +kernel) (by decide +kernel)
theorem DL_law_870 : rs ML_law 870 = some (.iconst 1, 1, 0, 0, 1, []) := rs_of (by decide +kernel) (by decide +kernel)
theorem DL_law_871 : rs ML_law 871 = some (.if_icmp .ne 22, 3, 893, 0, 0, []) := rs_of (by decide +kernel) (by decide +kernel)
theorem DL_law_874 : rs ML_law 874 = some (.iload 16, 2, 0, 0, 0, []) := rs_of (by decide +kernel) (by decide +kernel)
theorem DL_law_876 : rs ML_law 876 = some (.ifCond .eq 17, 3, 893, 0, 0, []) := rs_of (by decide +kernel) (by decide +kernel)
theorem DL_law_879 : rs ML_law 879 = some (.iload 16, 2, 0, 0, 0, []) := rs_of (by decide +kernel) (by decide +kernel)
theorem DL_law_881 : rs ML_law 881 = some (.aload 11, 2, 0, 0, 0, []) := rs_of (by decide +kernel) (by decide +kernel)
theorem DL_law_883 : rs ML_law 883 = some (.iload 15, 2, 0, 0, 0, []) := rs_of (by decide +kernel) (by decide +kernel)
theorem DL_law_885 : rs ML_law 885 = some (.iaload, 1, 0, 0, 0, []) := rs_of (by decide +kernel) (by decide +kernel)
theorem DL_law_886 : rs ML_law 886 = some (.iconst 1, 1, 0, 0, 1, []) := rs_of (by decide +kernel) (by decide +kernel)
theorem DL_law_887 : rs ML_law 887 = some (.iadd, 1, 0, 0, 0, []) := rs_of (by decide +kernel) (by decide +kernel)
theorem DL_law_888 : rs ML_law 888 = some (.if_icmp .eq 5, 3, 893, 0, 0, []) := rs_of (by decide +kernel) (by decide +kernel)
theorem DL_law_891 : rs ML_law 891 = some (.iconst 0, 1, 0, 0, 0, []) := rs_of (by decide +kernel) (by decide +kernel)
theorem DL_law_892 : rs ML_law 892 = some (.ireturn, 1, 0, 0, 0, []) := rs_of (by decide +kernel) (by decide +kernel)
theorem DL_law_893 : rs ML_law 893 = some (.iinc 15 1, 3, 15, 0, 1, []) := rs_of (by decide +kernel) (by decide +kernel)
theorem DL_law_896 : rs ML_law 896 = some (.goto (-133), 3, 763, 0, 0, []) := rs_of (by decide +kernel) (by decide +kernel)
theorem DL_law_899 : rs ML_law 899 = some (.iconst 0, 1, 0, 0, 0, []) := rs_of (by decide +kernel) (by decide +kernel)
theorem DL_law_900 : rs ML_law 900 = some (.istore 15, 2, 0, 0, 0, []) := rs_of (by decide +kernel) (by decide +kernel)
theorem DL_law_902 : rs ML_law 902 = some (.iconst 0, 1, 0, 0, 0, []) := rs_of (by decide +kernel) (by decide +kernel)
theorem DL_law_903 : rs ML_law 903 = some (.istore 16, 2, 0, 0, 0, []) := rs_of (by decide +kernel) (by decide +kernel)
theorem DL_law_905 : rs ML_law 905 = some (.iload 16, 2, 0, 0, 0, []) := rs_of (by decide +kernel) (by decide +kernel)
theorem DL_law_907 : rs ML_law 907 = some (.bipush 8, 2, 0, 0, 8, []) := rs_of (by decide +kernel) (by decide +kernel)
theorem DL_law_909 : rs ML_law 909 = some (.if_icmp .ge 20, 3, 929, 0, 0, []) := rs_of (by decide +kernel) (by decide +kernel)
theorem DL_law_912 : rs ML_law 912 = some (.iload 15, 2, 0, 0, 0, []) := rs_of (by decide +kernel) (by decide +kernel)
theorem DL_law_914 : rs ML_law 914 = some (.aload_n 1, 1, 1, 0, 0, []) := rs_of (by decide +kernel) (by decide +kernel)
theorem DL_law_915 : rs ML_law 915 = some (.iload 16, 2, 0, 0, 0, []) := rs_of (by decide +kernel) (by decide +kernel)
theorem DL_law_917 : rs ML_law 917 = some (.invokevirtual 85, 3, 0, 0, 0, []) := rs_of (by decide +kernel) (by decide +kernel)
theorem DL_law_920 : rs ML_law 920 = some (.iadd, 1, 0, 0, 0, []) := rs_of (by decide +kernel) (by decide +kernel)
theorem DL_law_921 : rs ML_law 921 = some (.istore 15, 2, 0, 0, 0, []) := rs_of (by decide +kernel) (by decide +kernel)
theorem DL_law_923 : rs ML_law 923 = some (.iinc 16 1, 3, 16, 0, 1, []) := rs_of (by decide +kernel) (by decide +kernel)
theorem DL_law_926 : rs ML_law 926 = some (.goto (-21), 3, 905, 0, 0, []) := rs_of (by decide +kernel) (by decide +kernel)
theorem DL_law_929 : rs ML_law 929 = some (.iconst 0, 1, 0, 0, 0, []) := rs_of (by decide +kernel) (by decide +kernel)
theorem DL_law_930 : rs ML_law 930 = some (.istore 16, 2, 0, 0, 0, []) := rs_of (by decide +kernel) (by decide +kernel)
theorem DL_law_932 : rs ML_law 932 = some (.iconst 0, 1, 0, 0, 0, []) := rs_of (by decide +kernel) (by decide +kernel)
theorem DL_law_933 : rs ML_law 933 = some (.istore 17, 2, 0, 0, 0, []) := rs_of (by decide +kernel) (by decide +kernel)
theorem DL_law_935 : rs ML_law 935 = some (.iload 17, 2, 0, 0, 0, []) := rs_of (by decide +kernel) (by decide +kernel)
theorem DL_law_937 : rs ML_law 937 = some (.bipush 16, 2, 0, 0, 16, []) := rs_of (by decide +kernel) (by decide +kernel)
theorem DL_law_939 : rs ML_law 939 = some (.if_icmp .ge 20, 3, 959, 0, 0, []) := rs_of (by decide +kernel) (by decide +kernel)
theorem DL_law_942 : rs ML_law 942 = some (.iload 16, 2, 0, 0, 0, []) := rs_of (by decide +kernel) (by decide +kernel)
theorem DL_law_944 : rs ML_law 944 = some (.aload_n 1, 1, 1, 0, 0, []) := rs_of (by decide +kernel) (by decide +kernel)
theorem DL_law_945 : rs ML_law 945 = some (.iload 17, 2, 0, 0, 0, []) := rs_of (by decide +kernel) (by decide +kernel)
theorem DL_law_947 : rs ML_law 947 = some (.invokevirtual 88, 3, 0, 0, 0, []) := rs_of (by decide +kernel) (by decide +kernel)
theorem DL_law_950 : rs ML_law 950 = some (.iadd, 1, 0, 0, 0, []) := rs_of (by decide +kernel) (by decide +kernel)
theorem DL_law_951 : rs ML_law 951 = some (.istore 16, 2, 0, 0, 0, []) := rs_of (by decide +kernel) (by decide +kernel)
theorem DL_law_953 : rs ML_law 953 = some (.iinc 17 1, 3, 17, 0, 1, []) := rs_of (by decide +kernel) (by decide +kernel)
theorem DL_law_956 : rs ML_law 956 = some (.goto (-21), 3, 935, 0, 0, []) := rs_of (by decide +kernel) (by decide +kernel)
theorem DL_law_959 : rs ML_law 959 = some (.iconst 0, 1, 0, 0, 0, []) := rs_of (by decide +kernel) (by decide +kernel)
theorem DL_law_960 : rs ML_law 960 = some (.istore 17, 2, 0, 0, 0, []) := rs_of (by decide +kernel) (by decide +kernel)
theorem DL_law_962 : rs ML_law 962 = some (.iconst 0, 1, 0, 0, 0, []) := rs_of (by decide +kernel) (by decide +kernel)
theorem DL_law_963 : rs ML_law 963 = some (.istore 18, 2, 0, 0, 0, []) := rs_of (by decide +kernel) (by decide +kernel)
theorem DL_law_965 : rs ML_law 965 = some (.iload 18, 2, 0, 0, 0, []) := rs_of (by decide +kernel) (by decide +kernel)
theorem DL_law_967 : rs ML_law 967 = some (.iload_n 3, 1, 3, 0, 0, []) := rs_of (by decide +kernel) (by decide +kernel)
theorem DL_law_968 : rs ML_law 968 = some (.if_icmp .ge 22, 3, 990, 0, 0, []) := rs_of (by decide +kernel) (by decide +kernel)
theorem DL_law_971 : rs ML_law 971 = some (.iload 17, 2, 0, 0, 0, []) := rs_of (by decide +kernel) (by decide +kernel)
theorem DL_law_973 : rs ML_law 973 = some (.aload_n 1, 1, 1, 0, 0, []) := rs_of (by decide +kernel) (by decide +kernel)
theorem DL_law_974 : rs ML_law 974 = some (.iload 18, 2, 0, 0, 0, []) := rs_of (by decide +kernel) (by decide +kernel)
theorem DL_law_976 : rs ML_law 976 = some (.bipush 8, 2, 0, 0, 8, []) := rs_of (by decide +kernel) (by decide +kernel)
theorem DL_law_978 : rs ML_law 978 = some (.invokevirtual 69, 3, 0, 0, 0, []) := rs_of (by decide +kernel) (by decide +kernel)
theorem DL_law_981 : rs ML_law 981 = some (.iadd, 1, 0, 0, 0, []) := rs_of (by decide +kernel) (by decide +kernel)
theorem DL_law_982 : rs ML_law 982 = some (.istore 17, 2, 0, 0, 0, []) := rs_of (by decide +kernel) (by decide +kernel)
theorem DL_law_984 : rs ML_law 984 = some (.iinc 18 1, 3, 18, 0, 1, []) := rs_of (by decide +kernel) (by decide +kernel)
theorem DL_law_987 : rs ML_law 987 = some (.goto (-22), 3, 965, 0, 0, []) := rs_of (by decide +kernel) (by decide +kernel)
theorem DL_law_990 : rs ML_law 990 = some (.iload 14, 2, 0, 0, 0, []) := rs_of (by decide +kernel) (by decide +kernel)
theorem DL_law_992 : rs ML_law 992 = some (.iload 13, 2, 0, 0, 0, []) := rs_of (by decide +kernel) (by decide +kernel)
theorem DL_law_994 : rs ML_law 994 = some (.if_icmp .ne 62, 3, 1056, 0, 0, []) := rs_of (by decide +kernel) (by decide +kernel)
theorem DL_law_997 : rs ML_law 997 = some (.aload_n 1, 1, 1, 0, 0, []) := rs_of (by decide +kernel) (by decide +kernel)
theorem DL_law_998 : rs ML_law 998 = some (.iconst 3, 1, 0, 0, 3, []) := rs_of (by decide +kernel) (by decide +kernel)
theorem DL_law_999 : rs ML_law 999 = some (.invokevirtual 78, 3, 0, 0, 0, []) := rs_of (by decide +kernel) (by decide +kernel)
theorem DL_law_1002 : rs ML_law 1002 = some (.iload 5, 2, 0, 0, 0, []) := rs_of (by decide +kernel) (by decide +kernel)
theorem DL_law_1004 : rs ML_law 1004 = some (.if_icmp .ne 52, 3, 1056, 0, 0, []) := rs_of (by decide +kernel) (by decide +kernel)
theorem DL_law_1007 : rs ML_law 1007 = some (.aload_n 1, 1, 1, 0, 0, []) := rs_of (by decide +kernel) (by decide +kernel)
theorem DL_law_1008 : rs ML_law 1008 = some (.iconst 4, 1, 0, 0, 4, []) := rs_of (by decide +kernel) (by decide +kernel)
theorem DL_law_1009 : rs ML_law 1009 = some (.invokevirtual 78, 3, 0, 0, 0, []) := rs_of (by decide +kernel) (by decide +kernel)
theorem DL_law_1012 : rs ML_law 1012 = some (.iload 10, 2, 0, 0, 0, []) := rs_of (by decide +kernel) (by decide +kernel)
theorem DL_law_1014 : rs ML_law 1014 = some (.iload 9, 2, 0, 0, 0, []) := rs_of (by decide +kernel) (by decide +kernel)
theorem DL_law_1016 : rs ML_law 1016 = some (.iadd, 1, 0, 0, 0, []) := rs_of (by decide +kernel) (by decide +kernel)
theorem DL_law_1017 : rs ML_law 1017 = some (.if_icmp .ne 39, 3, 1056, 0, 0, []) := rs_of (by decide +kernel) (by decide +kernel)
theorem DL_law_1020 : rs ML_law 1020 = some (.iload 15, 2, 0, 0, 0, []) := rs_of (by decide +kernel) (by decide +kernel)
theorem DL_law_1022 : rs ML_law 1022 = some (.iload 16, 2, 0, 0, 0, []) := rs_of (by decide +kernel) (by decide +kernel)
theorem DL_law_1024 : rs ML_law 1024 = some (.if_icmp .ne 32, 3, 1056, 0, 0, []) := rs_of (by decide +kernel) (by decide +kernel)
theorem DL_law_1027 : rs ML_law 1027 = some (.iload 16, 2, 0, 0, 0, []) := rs_of (by decide +kernel) (by decide +kernel)
theorem DL_law_1029 : rs ML_law 1029 = some (.iload 17, 2, 0, 0, 0, []) := rs_of (by decide +kernel) (by decide +kernel)
theorem DL_law_1031 : rs ML_law 1031 = some (.if_icmp .ne 25, 3, 1056, 0, 0, []) := rs_of (by decide +kernel) (by decide +kernel)
theorem DL_law_1034 : rs ML_law 1034 = some (.iload 16, 2, 0, 0, 0, []) := rs_of (by decide +kernel) (by decide +kernel)
theorem DL_law_1036 : rs ML_law 1036 = some (.aload_n 1, 1, 1, 0, 0, []) := rs_of (by decide +kernel) (by decide +kernel)
theorem DL_law_1037 : rs ML_law 1037 = some (.iconst 4, 1, 0, 0, 4, []) := rs_of (by decide +kernel) (by decide +kernel)
theorem DL_law_1038 : rs ML_law 1038 = some (.invokevirtual 78, 3, 0, 0, 0, []) := rs_of (by decide +kernel) (by decide +kernel)
theorem DL_law_1041 : rs ML_law 1041 = some (.if_icmp .ne 15, 3, 1056, 0, 0, []) := rs_of (by decide +kernel) (by decide +kernel)
theorem DL_law_1044 : rs ML_law 1044 = some (.aload_n 1, 1, 1, 0, 0, []) := rs_of (by decide +kernel) (by decide +kernel)
theorem DL_law_1045 : rs ML_law 1045 = some (.iconst 0, 1, 0, 0, 0, []) := rs_of (by decide +kernel) (by decide +kernel)
theorem DL_law_1046 : rs ML_law 1046 = some (.invokevirtual 78, 3, 0, 0, 0, []) := rs_of (by decide +kernel) (by decide +kernel)
theorem DL_law_1049 : rs ML_law 1049 = some (.iload 6, 2, 0, 0, 0, []) := rs_of (by decide +kernel) (by decide +kernel)
theorem DL_law_1051 : rs ML_law 1051 = some (.iconst 1, 1, 0, 0, 1, []) := rs_of (by decide +kernel) (by decide +kernel)
theorem DL_law_1052 : rs ML_law 1052 = some (.iadd, 1, 0, 0, 0, []) := rs_of (by decide +kernel) (by decide +kernel)
theorem DL_law_1053 : rs ML_law 1053 = some (.if_icmp .eq 5, 3, 1058, 0, 0, []) := rs_of (by decide +kernel) (by decide +kernel)
theorem DL_law_1056 : rs ML_law 1056 = some (.iconst 0, 1, 0, 0, 0, []) := rs_of (by decide +kernel) (by decide +kernel)
theorem DL_law_1057 : rs ML_law 1057 = some (.ireturn, 1, 0, 0, 0, []) := rs_of (by decide +kernel) (by decide +kernel)
theorem DL_law_1058 : rs ML_law 1058 = some (.aload_n 1, 1, 1, 0, 0, []) := rs_of (by decide +kernel) (by decide +kernel)
theorem DL_law_1059 : rs ML_law 1059 = some (.invokevirtual 91, 3, 0, 0, 0, []) := rs_of (by decide +kernel) (by decide +kernel)
theorem DL_law_1062 : rs ML_law 1062 = some (.dconst 0, 1, 0, 0, 0, []) := rs_of (by decide +kernel) (by decide +kernel)
theorem DL_law_1063 : rs ML_law 1063 = some (.dcmp .g, 1, 0, 0, 0, []) := rs_of (by decide +kernel) (by decide +kernel)
theorem DL_law_1064 : rs ML_law 1064 = some (.ifCond .lt 12, 3, 1076, 0, 0, []) := rs_of (by decide +kernel) (by decide +kernel)
theorem DL_law_1067 : rs ML_law 1067 = some (.aload_n 1, 1, 1, 0, 0, []) := rs_of (by decide +kernel) (by decide +kernel)
theorem DL_law_1068 : rs ML_law 1068 = some (.invokevirtual 91, 3, 0, 0, 0, []) := rs_of (by decide +kernel) (by decide +kernel)
theorem DL_law_1071 : rs ML_law 1071 = some (.dconst 1, 1, 0, 0, 0, []) := rs_of (by decide +kernel) (by decide +kernel)
theorem DL_law_1072 : rs ML_law 1072 = some (.dcmp .l, 1, 0, 0, 0, []) := rs_of (by decide +kernel) (by decide +kernel)
theorem DL_law_1073 : rs ML_law 1073 = some (.ifCond .le 5, 3, 1078, 0, 0, []) := rs_of (by decide +kernel) (by decide +kernel)
theorem DL_law_1076 : rs ML_law 1076 = some (.iconst 0, 1, 0, 0, 0, []) := rs_of (by decide +kernel) (by decide +kernel)
theorem DL_law_1077 : rs ML_law 1077 = some (.ireturn, 1, 0, 0, 0, []) := rs_of (by decide +kernel) (by decide +kernel)
theorem DL_law_1078 : rs ML_law 1078 = some (.iinc 6 1, 3, 6, 0, 1, []) := rs_of (by decide +kernel) (by decide +kernel)
theorem DL_law_1081 : rs ML_law 1081 = some (.goto (-1042), 3, 39, 0, 0, []) := rs_of (by decide +kernel) (by decide +kernel)
theorem DL_law_1084 : rs ML_law 1084 = some (.aload_n 1, 1, 1, 0, 0, []) := rs_of (by decide +kernel) (by decide +kernel)
theorem DL_law_1085 : rs ML_law 1085 = some (.iconst 2, 1, 0, 0, 2, []) := rs_of (by decide +kernel) (by decide +kernel)
theorem DL_law_1086 : rs ML_law 1086 = some (.invokevirtual 78, 3, 0, 0, 0, []) := rs_of (by decide +kernel) (by decide +kernel)
theorem DL_law_1089 : rs ML_law 1089 = some (.iload_n 3, 1, 3, 0, 0, []) := rs_of (by decide +kernel) (by decide +kernel)
theorem DL_law_1090 : rs ML_law 1090 = some (.iload 5, 2, 0, 0, 0, []) := rs_of (by decide +kernel) (by decide +kernel)
theorem DL_law_1092 : rs ML_law 1092 = some (.isub, 1, 0, 0, 0, []) := rs_of (by decide +kernel) (by decide +kernel)
theorem DL_law_1093 : rs ML_law 1093 = some (.if_icmp .ne 7, 3, 1100, 0, 0, []) := rs_of (by decide +kernel) (by decide +kernel)
theorem DL_law_1096 : rs ML_law 1096 = some (.iconst 1, 1, 0, 0, 1, []) := rs_of (by decide +kernel) (by decide +kernel)
theorem DL_law_1097 : rs ML_law 1097 = some (.goto 4, 3, 1101, 0, 0, []) := rs_of (by decide +kernel) (by decide +kernel)
theorem DL_law_1100 : rs ML_law 1100 = some (.iconst 0, 1, 0, 0, 0, []) := rs_of (by decide +kernel) (by decide +kernel)
theorem DL_law_1101 : rs ML_law 1101 = some (.ireturn, 1, 0, 0, 0, []) := rs_of (by decide +kernel) (by decide +kernel)
end
section
/-! ===== the abstract heap: kinds, int fields, reference fields, lengths, rows of ints (booleans), longs, references ===== -/
abbrev Hp : Type := (Nat → Nat) × (Nat → Nat → Nat → Int32) × (Nat → Nat → Nat → Option Nat) × (Nat → Nat) × (Nat → Nat → Int32) × (Nat → Nat → Int64) × (Nat → Nat → Option Nat)
def kd (h : Hp) (a : Nat) : Nat := h.1 a
def fi (h : Hp) (c k a : Nat) : Int32 := h.2.1 c k a
def fr (h : Hp) (c k a : Nat) : Option Nat := h.2.2.1 c k a
def ln (h : Hp) (a : Nat) : Nat := h.2.2.2.1 a
def ia (h : Hp) (a i : Nat) : Int32 := h.2.2.2.2.1 a i
def ja (h : Hp) (a i : Nat) : Int64 := h.2.2.2.2.2.1 a i
def ra (h : Hp) (a i : Nat) : Option Nat := h.2.2.2.2.2.2 a i
def setI (h : Hp) (c k a : Nat) (v : Int32) : Hp := (h.1, fun c' k' a' => if c' = c ∧ k' = k ∧ a' = a then v else h.2.1 c' k' a', h.2.2)
def setR (h : Hp) (c k a : Nat) (v : Option Nat) : Hp := (h.1, h.2.1, fun c' k' a' => if c' = c ∧ k' = k ∧ a' = a then v else h.2.2.1 c' k' a', h.2.2.2)
def setIA (h : Hp) (a i : Nat) (v : Int32) : Hp := (h.1, h.2.1, h.2.2.1, h.2.2.2.1, fun a' i' => if a' = a ∧ i' = i then v else h.2.2.2.2.1 a' i', h.2.2.2.2.2)
def setLA (h : Hp) (a i : Nat) (v : Int64) : Hp := (h.1, h.2.1, h.2.2.1, h.2.2.2.1, h.2.2.2.2.1, fun a' i' => if a' = a ∧ i' = i then v else h.2.2.2.2.2.1 a' i', h.2.2.2.2.2.2)
def setRA (h : Hp) (a i : Nat) (v : Option Nat) : Hp := (h.1, h.2.1, h.2.2.1, h.2.2.2.1, h.2.2.2.2.1, h.2.2.2.2.2.1, fun a' i' => if a' = a ∧ i' = i then v else h.2.2.2.2.2.2 a' i')
/-- n references of a0 from sp on, laid into a from dp on -/
def cpRA (h : Hp) (a0 a sp dp n : Nat) : Hp := (h.1, h.2.1, h.2.2.1, h.2.2.2.1, h.2.2.2.2.1, h.2.2.2.2.2.1, fun a' i' => if a' = a ∧ dp ≤ i' ∧ i' < dp + n then h.2.2.2.2.2.2 a0 (sp + (i' - dp)) else h.2.2.2.2.2.2 a' i')
def cpIA (h : Hp) (a0 a sp dp n : Nat) : Hp := (h.1, h.2.1, h.2.2.1, h.2.2.2.1, fun a' i' => if a' = a ∧ dp ≤ i' ∧ i' < dp + n then h.2.2.2.2.1 a0 (sp + (i' - dp)) else h.2.2.2.2.1 a' i', h.2.2.2.2.2)
/-- a new object, a new row -/
def newO (h : Hp) (a c : Nat) : Hp := (fun a' => if a' = a then c + 1 else h.1 a', fun c' k' a' => if a' = a then 0 else h.2.1 c' k' a', fun c' k' a' => if a' = a then none else h.2.2.1 c' k' a', h.2.2.2)
def newA (h : Hp) (a t n : Nat) : Hp := (fun a' => if a' = a then t else h.1 a', h.2.1, h.2.2.1, fun a' => if a' = a then n else h.2.2.2.1 a', fun a' i' => if a' = a then 0 else h.2.2.2.2.1 a' i', fun a' i' => if a' = a then 0 else h.2.2.2.2.2.1 a' i', fun a' i' => if a' = a then none else h.2.2.2.2.2.2 a' i')
theorem kd_setI (h : Hp) (c k a : Nat) (v : Int32) (a1 : Nat) : kd (setI h c k a v) a1 = kd h a1 := rfl
theorem fi_setI (h : Hp) (c k a : Nat) (v : Int32) (c1 k1 a1 : Nat) : fi (setI h c k a v) c1 k1 a1 = if c1 = c ∧ k1 = k ∧ a1 = a then v else fi h c1 k1 a1 := rfl
theorem fr_setI (h : Hp) (c k a : Nat) (v : Int32) (c1 k1 a1 : Nat) : fr (setI h c k a v) c1 k1 a1 = fr h c1 k1 a1 := rfl
theorem ln_setI (h : Hp) (c k a : Nat) (v : Int32) (a1 : Nat) : ln (setI h c k a v) a1 = ln h a1 := rfl
theorem ia_setI (h : Hp) (c k a : Nat) (v : Int32) (a1 i1 : Nat) : ia (setI h c k a v) a1 i1 = ia h a1 i1 := rfl
theorem ja_setI (h : Hp) (c k a : Nat) (v : Int32) (a1 i1 : Nat) : ja (setI h c k a v) a1 i1 = ja h a1 i1 := rfl
theorem ra_setI (h : Hp) (c k a : Nat) (v : Int32) (a1 i1 : Nat) : ra (setI h c k a v) a1 i1 = ra h a1 i1 := rfl
theorem kd_setR (h : Hp) (c k a : Nat) (v : Option Nat) (a1 : Nat) : kd (setR h c k a v) a1 = kd h a1 := rfl
theorem fi_setR (h : Hp) (c k a : Nat) (v : Option Nat) (c1 k1 a1 : Nat) : fi (setR h c k a v) c1 k1 a1 = fi h c1 k1 a1 := rfl
theorem fr_setR (h : Hp) (c k a : Nat) (v : Option Nat) (c1 k1 a1 : Nat) : fr (setR h c k a v) c1 k1 a1 = if c1 = c ∧ k1 = k ∧ a1 = a then v else fr h c1 k1 a1 := rfl
theorem ln_setR (h : Hp) (c k a : Nat) (v : Option Nat) (a1 : Nat) : ln (setR h c k a v) a1 = ln h a1 := rfl
theorem ia_setR (h : Hp) (c k a : Nat) (v : Option Nat) (a1 i1 : Nat) : ia (setR h c k a v) a1 i1 = ia h a1 i1 := rfl
theorem ja_setR (h : Hp) (c k a : Nat) (v : Option Nat) (a1 i1 : Nat) : ja (setR h c k a v) a1 i1 = ja h a1 i1 := rfl
theorem ra_setR (h : Hp) (c k a : Nat) (v : Option Nat) (a1 i1 : Nat) : ra (setR h c k a v) a1 i1 = ra h a1 i1 := rfl
theorem kd_setIA (h : Hp) (a i : Nat) (v : Int32) (a1 : Nat) : kd (setIA h a i v) a1 = kd h a1 := rfl
theorem fi_setIA (h : Hp) (a i : Nat) (v : Int32) (c1 k1 a1 : Nat) : fi (setIA h a i v) c1 k1 a1 = fi h c1 k1 a1 := rfl
theorem fr_setIA (h : Hp) (a i : Nat) (v : Int32) (c1 k1 a1 : Nat) : fr (setIA h a i v) c1 k1 a1 = fr h c1 k1 a1 := rfl
theorem ln_setIA (h : Hp) (a i : Nat) (v : Int32) (a1 : Nat) : ln (setIA h a i v) a1 = ln h a1 := rfl
theorem ia_setIA (h : Hp) (a i : Nat) (v : Int32) (a1 i1 : Nat) : ia (setIA h a i v) a1 i1 = if a1 = a ∧ i1 = i then v else ia h a1 i1 := rfl
theorem ja_setIA (h : Hp) (a i : Nat) (v : Int32) (a1 i1 : Nat) : ja (setIA h a i v) a1 i1 = ja h a1 i1 := rfl
theorem ra_setIA (h : Hp) (a i : Nat) (v : Int32) (a1 i1 : Nat) : ra (setIA h a i v) a1 i1 = ra h a1 i1 := rfl
theorem kd_setLA (h : Hp) (a i : Nat) (v : Int64) (a1 : Nat) : kd (setLA h a i v) a1 = kd h a1 := rfl
theorem fi_setLA (h : Hp) (a i : Nat) (v : Int64) (c1 k1 a1 : Nat) : fi (setLA h a i v) c1 k1 a1 = fi h c1 k1 a1 := rfl
theorem fr_setLA (h : Hp) (a i : Nat) (v : Int64) (c1 k1 a1 : Nat) : fr (setLA h a i v) c1 k1 a1 = fr h c1 k1 a1 := rfl
theorem ln_setLA (h : Hp) (a i : Nat) (v : Int64) (a1 : Nat) : ln (setLA h a i v) a1 = ln h a1 := rfl
theorem ia_setLA (h : Hp) (a i : Nat) (v : Int64) (a1 i1 : Nat) : ia (setLA h a i v) a1 i1 = ia h a1 i1 := rfl
theorem ja_setLA (h : Hp) (a i : Nat) (v : Int64) (a1 i1 : Nat) : ja (setLA h a i v) a1 i1 = if a1 = a ∧ i1 = i then v else ja h a1 i1 := rfl
theorem ra_setLA (h : Hp) (a i : Nat) (v : Int64) (a1 i1 : Nat) : ra (setLA h a i v) a1 i1 = ra h a1 i1 := rfl
theorem kd_setRA (h : Hp) (a i : Nat) (v : Option Nat) (a1 : Nat) : kd (setRA h a i v) a1 = kd h a1 := rfl
theorem fi_setRA (h : Hp) (a i : Nat) (v : Option Nat) (c1 k1 a1 : Nat) : fi (setRA h a i v) c1 k1 a1 = fi h c1 k1 a1 := rfl
theorem fr_setRA (h : Hp) (a i : Nat) (v : Option Nat) (c1 k1 a1 : Nat) : fr (setRA h a i v) c1 k1 a1 = fr h c1 k1 a1 := rfl
theorem ln_setRA (h : Hp) (a i : Nat) (v : Option Nat) (a1 : Nat) : ln (setRA h a i v) a1 = ln h a1 := rfl
theorem ia_setRA (h : Hp) (a i : Nat) (v : Option Nat) (a1 i1 : Nat) : ia (setRA h a i v) a1 i1 = ia h a1 i1 := rfl
theorem ja_setRA (h : Hp) (a i : Nat) (v : Option Nat) (a1 i1 : Nat) : ja (setRA h a i v) a1 i1 = ja h a1 i1 := rfl
theorem ra_setRA (h : Hp) (a i : Nat) (v : Option Nat) (a1 i1 : Nat) : ra (setRA h a i v) a1 i1 = if a1 = a ∧ i1 = i then v else ra h a1 i1 := rfl
theorem kd_cpRA (h : Hp) (a0 a sp dp n : Nat) (a1 : Nat) : kd (cpRA h a0 a sp dp n) a1 = kd h a1 := rfl
theorem fi_cpRA (h : Hp) (a0 a sp dp n : Nat) (c1 k1 a1 : Nat) : fi (cpRA h a0 a sp dp n) c1 k1 a1 = fi h c1 k1 a1 := rfl
theorem fr_cpRA (h : Hp) (a0 a sp dp n : Nat) (c1 k1 a1 : Nat) : fr (cpRA h a0 a sp dp n) c1 k1 a1 = fr h c1 k1 a1 := rfl
theorem ln_cpRA (h : Hp) (a0 a sp dp n : Nat) (a1 : Nat) : ln (cpRA h a0 a sp dp n) a1 = ln h a1 := rfl
theorem ia_cpRA (h : Hp) (a0 a sp dp n : Nat) (a1 i1 : Nat) : ia (cpRA h a0 a sp dp n) a1 i1 = ia h a1 i1 := rfl
theorem ja_cpRA (h : Hp) (a0 a sp dp n : Nat) (a1 i1 : Nat) : ja (cpRA h a0 a sp dp n) a1 i1 = ja h a1 i1 := rfl
theorem ra_cpRA (h : Hp) (a0 a sp dp n : Nat) (a1 i1 : Nat) : ra (cpRA h a0 a sp dp n) a1 i1 = if a1 = a ∧ dp ≤ i1 ∧ i1 < dp + n then ra h a0 (sp + (i1 - dp)) else ra h a1 i1 := rfl
theorem kd_cpIA (h : Hp) (a0 a sp dp n : Nat) (a1 : Nat) : kd (cpIA h a0 a sp dp n) a1 = kd h a1 := rfl
theorem fi_cpIA (h : Hp) (a0 a sp dp n : Nat) (c1 k1 a1 : Nat) : fi (cpIA h a0 a sp dp n) c1 k1 a1 = fi h c1 k1 a1 := rfl
theorem fr_cpIA (h : Hp) (a0 a sp dp n : Nat) (c1 k1 a1 : Nat) : fr (cpIA h a0 a sp dp n) c1 k1 a1 = fr h c1 k1 a1 := rfl
theorem ln_cpIA (h : Hp) (a0 a sp dp n : Nat) (a1 : Nat) : ln (cpIA h a0 a sp dp n) a1 = ln h a1 := rfl
theorem ia_cpIA (h : Hp) (a0 a sp dp n : Nat) (a1 i1 : Nat) : ia (cpIA h a0 a sp dp n) a1 i1 = if a1 = a ∧ dp ≤ i1 ∧ i1 < dp + n then ia h a0 (sp + (i1 - dp)) else ia h a1 i1 := rfl
theorem ja_cpIA (h : Hp) (a0 a sp dp n : Nat) (a1 i1 : Nat) : ja (cpIA h a0 a sp dp n) a1 i1 = ja h a1 i1 := rfl
theorem ra_cpIA (h : Hp) (a0 a sp dp n : Nat) (a1 i1 : Nat) : ra (cpIA h a0 a sp dp n) a1 i1 = ra h a1 i1 := rfl
theorem kd_newO (h : Hp) (a c : Nat) (a1 : Nat) : kd (newO h a c) a1 = if a1 = a then c + 1 else kd h a1 := rfl
theorem fi_newO (h : Hp) (a c : Nat) (c1 k1 a1 : Nat) : fi (newO h a c) c1 k1 a1 = if a1 = a then 0 else fi h c1 k1 a1 := rfl
theorem fr_newO (h : Hp) (a c : Nat) (c1 k1 a1 : Nat) : fr (newO h a c) c1 k1 a1 = if a1 = a then none else fr h c1 k1 a1 := rfl
theorem ln_newO (h : Hp) (a c : Nat) (a1 : Nat) : ln (newO h a c) a1 = ln h a1 := rfl
theorem ia_newO (h : Hp) (a c : Nat) (a1 i1 : Nat) : ia (newO h a c) a1 i1 = ia h a1 i1 := rfl
theorem ja_newO (h : Hp) (a c : Nat) (a1 i1 : Nat) : ja (newO h a c) a1 i1 = ja h a1 i1 := rfl
theorem ra_newO (h : Hp) (a c : Nat) (a1 i1 : Nat) : ra (newO h a c) a1 i1 = ra h a1 i1 := rfl
theorem kd_newA (h : Hp) (a t n : Nat) (a1 : Nat) : kd (newA h a t n) a1 = if a1 = a then t else kd h a1 := rfl
theorem fi_newA (h : Hp) (a t n : Nat) (c1 k1 a1 : Nat) : fi (newA h a t n) c1 k1 a1 = fi h c1 k1 a1 := rfl
theorem fr_newA (h : Hp) (a t n : Nat) (c1 k1 a1 : Nat) : fr (newA h a t n) c1 k1 a1 = fr h c1 k1 a1 := rfl
theorem ln_newA (h : Hp) (a t n : Nat) (a1 : Nat) : ln (newA h a t n) a1 = if a1 = a then n else ln h a1 := rfl
theorem ia_newA (h : Hp) (a t n : Nat) (a1 i1 : Nat) : ia (newA h a t n) a1 i1 = if a1 = a then 0 else ia h a1 i1 := rfl
theorem ja_newA (h : Hp) (a t n : Nat) (a1 i1 : Nat) : ja (newA h a t n) a1 i1 = if a1 = a then 0 else ja h a1 i1 := rfl
theorem ra_newA (h : Hp) (a t n : Nat) (a1 i1 : Nat) : ra (newA h a t n) a1 i1 = if a1 = a then none else ra h a1 i1 := rfl
/-! which fields are references, how many there are, which are booleans -/
def refF : Nat → Nat → Bool
  | 0, 1 => true
  | 2, 5 => true
  | 2, 6 => true
  | 2, 7 => true
  | 2, 8 => true
  | 2, 12 => true
  | 4, _ => true
  | 5, 0 => true
  | 5, 1 => true
  | 5, 2 => true
  | 5, 3 => true
  | 5, 4 => true
  | 6, 0 => false
  | 6, 1 => false
  | 6, _ => true
  | _, _ => false
def booF : Nat → Nat → Bool
  | 1, 7 => true
  | 2, 4 => true
  | 2, 11 => true
  | 3, 7 => true
  | _, _ => false
def finF : Nat → Nat → Bool
  | 1, 6 => false
  | 1, 7 => false
  | 1, _ => true
  | 2, 0 => true
  | 2, 5 => true
  | 2, 6 => true
  | 2, 7 => true
  | 2, 8 => true
  | 2, 12 => true
  | 3, 0 => true
  | 3, 1 => true
  | 3, 2 => true
  | 3, 3 => true
  | 3, 4 => true
  | 3, 5 => true
  | 4, _ => true
  | 5, 0 => true
  | 5, 1 => true
  | 5, 2 => true
  | 5, 3 => true
  | 5, 4 => true
  | _, _ => false
def nF : Nat → Nat
  | 0 => 3
  | 1 => 8
  | 2 => 15
  | 3 => 10
  | 4 => 2
  | 5 => 7
  | 6 => 9
  | _ => 0
/-- the classes, the arrays' classes, (start of our cells, the empty row of ArrayList, the class object of Object[]), the texts' addresses -/
abbrev GT : Type := va_G × (ClassId × ClassId × ClassId × ClassId × ClassId) × (Nat × Nat × Nat) × (String → Nat → Nat)
def AA (G : GT) : Nat → Prop := fun q => G.2.2.1.1 ≤ q
def fvV (h : Hp) (c a k : Nat) : Value := if refF c k = true then va_rf (fr h c k a) else .int (fi h c k a)
def flL (h : Hp) (c a : Nat) : List Value := (List.range (nF c)).map (fvV h c a)
def cellOf (G : GT) (h : Hp) (a : Nat) : va_E :=
  if kd h a = 21 then .inl (G.2.1.1, ln h a, .inl (ia h a))
  else if kd h a = 22 then .inl (G.2.1.2.1, ln h a, .inl (ia h a))
  else if kd h a = 23 then .inl (G.2.1.1, ln h a, .inl (ia h a))
  else if kd h a = 24 then .inl (G.2.1.2.2.2.1, ln h a, .inr (.inr (.inr (.inr (ra h a)))))
  else if kd h a = 25 then .inl (G.2.1.2.2.2.2, ln h a, .inr (.inr (.inr (.inr (ra h a)))))
  else .inr (kd h a - 1, flL h (kd h a - 1) a)
def tysG (G : GT) : List (ClassId × FieldType) := [(G.2.1.1, .int), (G.2.1.2.1, .boolean), (G.2.1.1, .int), (G.2.1.2.2.2.1, .object "java/lang/Object"), (G.2.1.2.2.2.2, .array .int)]
def Rel (G : GT) (h : Hp) (H : Heap) : Prop := ∃ L : List Nat, (∀ a, kd h a ≠ 0 ↔ a ∈ L) ∧ va_P G.1 vwCl ([] ++ va_pl L (cellOf G h)) H ∧ va_D (AA G) ([] ++ va_pl L (cellOf G h))
/-! the words, the words that are no steady ones, the texts -/
def gw : List Cond := lw_tbl.filter goodWord
theorem gw_good {w : Cond} (h : w ∈ gw) : goodWord w = true := (List.mem_filter.mp h).2
theorem gw_tbl {w : Cond} (h : w ∈ gw) : w ∈ lw_tbl := (List.mem_filter.mp h).1
def nmOf : Nat → String
  | 0 => RJx4a65c
  | 1 => RX0
  | 2 => RX1
  | 3 => RX2
  | 4 => RX3
  | 5 => RX4
  | 6 => RX5
  | 50 => "java/lang/IllegalStateException"
  | 51 => "java/lang/IllegalArgumentException"
  | 52 => "java/lang/IndexOutOfBoundsException"
  | 60 => "[Ljava/lang/Object;"
  | 62 => "[I"
  | 63 => "[[I"
  | _ => "java/lang/Object"
def exN : List String := ["java/lang/IllegalStateException", "java/lang/IllegalArgumentException", "java/lang/IndexOutOfBoundsException"]
/-- the words that are no steady ones, but stand in the tables alone -/
def bwk : Cond → Bool
  | .castable _ _ => true
  | .declares _ => true
  | .methodLinkNest _ _ _ _ => true
  | _ => false
def bw : List Cond := lw_tbl.filter bwk
theorem bw_on {w : Cond} (h : bwk w = true) : w.onTables = true := by
  cases w <;> first | rfl | (simp [bwk] at h)
theorem bw_warm {w : Cond} (h : bwk w = true) {s U : State} (hW : s.WarmedH U.vm) (hZ : va_Nw w s) : va_Nw w U := by
  cases w <;> first | exact hZ.warmC hW | exact hZ.warmD hW | exact hZ.warmM hW | (simp [bwk] at h)
def strs : List (Nat × String) := [(64, "there is no room for this building"), (112, "the sun has no direction"), (167, "there is no room for this lease"), (224, "the days do not go so far"), (287, "there is no such number"), (289, "a value is out of its bounds"), (291, "the building is torn down")]
/-- the law's script lies below our cells: its place, its length, its ints -/
def scB (G : GT) : Nat := G.2.2.2 "script" 0
def scL (G : GT) : Nat := G.2.2.2 "script" 1
def scX (G : GT) (j : Nat) : Int32 := Int32.ofNat (G.2.2.2 "script" (j + 2))
def Glob (G : GT) (U : State) (H : Heap) : Prop :=
  va_K G.1 vwCl (tysG G) U ∧ vx_Zq Bundle.tN "UNASSIGNED_STACK" Bundle.steD (AA G) U H ∧ vx_Zq Bundle.tN "SUPPRESSED_SENTINEL" Bundle.listD (AA G) U H ∧
  (∀ q ∈ strs, vk_R RX4 q.1 q.2 (G.2.2.2 RX4 q.1) U) ∧ (∀ w ∈ bw, va_Nw w U) ∧ True ∧
  va_Z "java/util/ArrayList" "DEFAULTCAPACITY_EMPTY_ELEMENTDATA" "[Ljava/lang/Object;" (.ref G.2.2.1.2.1) (AA G) U H ∧ va_T (.object "java/lang/Object") G.2.2.1.2.1 0 (fun _ => .null) (AA G) U H ∧
  va_Mi "[Ljava/lang/Object;" G.2.2.1.2.2 U ∧ va_AO "java/lang/Object" U ∧ va_X (scB G) (scL G) (scX G) U H ∧ ¬ AA G (scB G) ∧ va_AOA .int U
theorem Glob.moved {G : GT} {u U : State} {H H1 : Heap} (hW : u.WarmedH U.vm) (hq : ∀ a : Nat, a < H.size → ¬ AA G a → H1[a]? = H[a]?) (h : Glob G u H) : Glob G U H1 := by
  obtain ⟨h1, h2, h3, h4, h5, h6, h7, h8, h9, h10, h11, h12, h13⟩ := h
  have hb : scB G < H.size := by
    obtain ⟨scr, hcb, -⟩ := h11
    exact (Array.getElem?_eq_some_iff.mp hcb).1
  exact ⟨h1.moved hW.alike, (h2.moved hW.alike).kept hq, (h3.moved hW.alike).kept hq, fun q m => (h4 q m).warm hW, fun w m => bw_warm (List.mem_filter.mp m).2 hW (h5 w m), trivial, (h7.moved hW.alike).kept hq, (h8.moved hW.alike).kept hq, h9.moved hW.alike, h10.moved hW.alike, (h11.moved hW.alike).kept (hq _ hb h12), h12, h13.moved hW.alike⟩
end
section
/-! ===== locals, stack patterns, contracts, the step ===== -/
abbrev Ls : Type := List (Option Value)
abbrev Ct : Type := List Value → Hp → (Option Value → Hp → Prop) → (String → Hp → Prop) → Prop
def getL : Ls → Nat → Option Value
  | [], _ => none
  | o :: _, 0 => o
  | _ :: t, n + 1 => getL t n
def kil : Option Value → Option Value
  | some (.long _) => none
  | some (.double _) => none
  | o => o
def putL : Ls → Nat → Value → Ls
  | [], _, _ => []
  | _ :: t, 0, v => some v :: t
  | o :: t, 1, v => kil o :: putL t 0 v
  | o :: t, n + 2, v => o :: putL t (n + 1) v
def clr : Ls → Ls
  | [] => []
  | _ :: t => none :: t
def putW : Ls → Nat → Value → Ls
  | [], _, _ => []
  | _ :: t, 0, v => some v :: clr t
  | o :: t, 1, v => kil o :: putW t 0 v
  | o :: t, n + 2, v => o :: putW t (n + 1) v
def sI (st : List Value) (f : Int32 → List Value → Prop) : Prop := match st with | .int x :: r => f x r | _ => False
def sL (st : List Value) (f : Int64 → List Value → Prop) : Prop := match st with | .long x :: r => f x r | _ => False
def sD (st : List Value) (f : UInt64 → List Value → Prop) : Prop := match st with | .double x :: r => f x r | _ => False
def sR (st : List Value) (f : Nat → List Value → Prop) : Prop := match st with | .ref x :: r => f x r | _ => False
def s1 (st : List Value) (f : Value → List Value → Prop) : Prop := match st with | .ref x :: r => f (.ref x) r | .int x :: r => f (.int x) r | _ => False
def s0 (st : List Value) (f : Prop) : Prop := match st with | [] => f | _ => False
def gI (ls : Ls) (i : Nat) (f : Int32 → Prop) : Prop := match getL ls i with | some (.int x) => f x | _ => False
def gL (ls : Ls) (i : Nat) (f : Int64 → Prop) : Prop := match getL ls i with | some (.long x) => f x | _ => False
def gD (ls : Ls) (i : Nat) (f : UInt64 → Prop) : Prop := match getL ls i with | some (.double x) => f x | _ => False
def gR (ls : Ls) (i : Nat) (f : Nat → Prop) : Prop := match getL ls i with | some (.ref x) => f x | _ => False
def oR (r : Option Nat) (f : Value → Prop) : Prop := ∃ a, r = some a ∧ f (.ref a)
def vR (st : List Value) (f : Option Nat → List Value → Prop) : Prop := match st with | .ref x :: r => f (some x) r | .null :: r => f none r | _ => False
def sPa : Nat → List Value → List Value → (List Value → List Value → Prop) → Prop
  | 0, st, acc, f => f acc st
  | _ + 1, [], _, _ => False
  | n + 1, v :: st, acc, f => sPa n st (v :: acc) f
def sP (n : Nat) (st : List Value) (f : List Value → List Value → Prop) : Prop := sPa n st [] f
def catN : Value → Nat
  | .long _ => 2
  | .double _ => 2
  | _ => 1
def catS : List Value → Nat
  | [] => 0
  | v :: r => catN v + catS r
/-- an index within -/
def inR (i : Int32) (n : Nat) : Prop := vp_in i n
/-- kind of the call, method, its code, arguments, depth, cells, slots, contract; kinds: 0 virtual, 1 static, 2 constructor, 3 a nest mate's constructor, 4 Object.<init>, 5 getClass, 6 arraycopy -/
abbrev CE : Type := Nat × MethodName × MI × Nat × Nat × Nat × Nat × Ct
def lkp : List (Nat × CE) → Nat → Option CE
  | [], _ => none
  | (j, e) :: r, i => if i = j then some e else lkp r i
def lkC (cs : List (Nat × CE)) (j : Nat) (f : CE → Prop) : Prop := match lkp cs j with
  | some ce => f ce
  | none => False
def mrt (M : MI) : Option FieldType := M.2.2.2.1
def mhh (M : MI) : List (Nat × Nat × Nat × Nat) := M.2.2.2.2
def mow (M : MI) : String := M.1
/-- the handler that takes E at pc: the first row of the table that covers pc and names E -/
def hndl (own : String) (pc : Nat) (E : String) : List (Nat × Nat × Nat × Nat) → Option Nat
  | [] => none
  | (a, b, t, k) :: r => if a ≤ pc ∧ pc < b ∧ (clss.lookup (own, k)).map nmOf = some E then some t else hndl own pc E r
def lenI : Instr → Nat
  | .bipush _ => 2
  | .sipush _ => 3
  | .iload _ => 2
  | .lload _ => 2
  | .dload _ => 2
  | .aload _ => 2
  | .istore _ => 2
  | .lstore _ => 2
  | .dstore _ => 2
  | .astore _ => 2
  | .iinc _ _ => 3
  | .goto _ => 3
  | .ifCond _ _ => 3
  | .if_icmp _ _ => 3
  | .if_acmp _ _ => 3
  | .getfield _ => 3
  | .putfield _ => 3
  | .getstatic _ => 3
  | .new _ => 3
  | .newarray _ => 2
  | .anewarray _ => 3
  | .multianewarray _ _ => 4
  | .checkcast _ => 3
  | .invokevirtual _ => 3
  | .invokestatic _ => 3
  | .invokespecial _ => 3
  | .ldc _ => 2
  | .ldc2_w _ => 3
  | .tableswitch _ _ _ _ => 0
  | _ => 1
def isS : List Nat → Nat → Bool
  | [], _ => false
  | a :: r, p => if p = a then true else isS r p
def swP (x : Int32) : Int → List Nat → (Nat → Prop) → Prop
  | _, [], _ => True
  | v, t :: r, f => (x.toInt = v → 0 < t ∧ f t) ∧ swP x (v + 1) r f
/-- 'throw new E("text")' stands at pc: new, dup, ldc, invokespecial, athrow; x: which class -/
def exI : Nat → Nat × Nat
  | 50 => (62, 66)
  | 51 => (110, 114)
  | _ => (208, 212)
def thrS (M : MI) (pc : Nat) : Nat := match decode M.2.1 (pc + 4) with | .ok (.ldc i, _) => i | .ok (.ldc_w i, _) => i | _ => 0
def thrOK (M : MI) (pc x : Nat) : Prop := decode M.2.1 pc = .ok (.new (exI x).1, 3) ∧ decode M.2.1 (pc + 3) = .ok (.dup, 1) ∧ ((decode M.2.1 (pc + 4) = .ok (.ldc (thrS M pc), 2) ∧ decode M.2.1 (pc + 6) = .ok (.invokespecial (exI x).2, 3) ∧ decode M.2.1 (pc + 9) = .ok (.athrow, 1)) ∨ (decode M.2.1 (pc + 4) = .ok (.ldc_w (thrS M pc), 3) ∧ decode M.2.1 (pc + 7) = .ok (.invokespecial (exI x).2, 3) ∧ decode M.2.1 (pc + 10) = .ok (.athrow, 1))) ∧ ∃ q ∈ strs, q.1 = thrS M pc
/-- a row of n rows of m ints; i of them are laid -/
def newM (h : Hp) (a : Nat) (B : Nat → Nat) (m n : Nat) : Nat → Hp
  | 0 => newA h a 25 n
  | i + 1 => setRA (newA (newM h a B m n i) (B i) 21 m) a i (some (B i))
section STEP
variable (G : GT) (M : MI) (ini : Bool) (d : Nat) (cs : List (Nat × CE)) (P : Option Value → Hp → Prop) (PX : String → Hp → Prop)
/-- behind a call; where its exceptions go -/
def cQ (K : Nat → Ls → List Value → Hp → Nat × Nat → Prop) (pc : Nat) (ls : Ls) (rest : List Value) (b : Nat × Nat) (v : Option Value) (h : Hp) : Prop := K (pc + 3) ls (v.toList ++ rest) h b
def cX (K : Nat → Ls → List Value → Hp → Nat × Nat → Prop) (pc : Nat) (ls : Ls) (b : Nat × Nat) (E : String) (h : Hp) : Prop := match mhh M with
  | [] => PX E h
  | hh => match hndl (mow M) pc E hh with
    | some t => ∀ a, K t ls [.ref a] h b
    | none => False
def callK (pc : Nat) (ls : Ls) (h : Hp) (b : Nat × Nat) (K : Nat → Ls → List Value → Hp → Nat × Nat → Prop) (ce : CE) (As rest : List Value) : Prop :=
  ce.2.2.2.2.1 + 1 ≤ d ∧ ce.2.2.2.2.2.1 ≤ b.1 ∧ ce.2.2.2.2.2.2.1 ≤ b.2 ∧ catS rest ≤ 8 ∧
  ce.2.2.2.2.2.2.2 As h (cQ K pc ls rest (b.1 - ce.2.2.2.2.2.1, b.2 - ce.2.2.2.2.2.2.1)) (cX M PX K pc ls (b.1 - ce.2.2.2.2.2.1, b.2 - ce.2.2.2.2.2.2.1))
def stepI (i : Instr) (x y : Nat) (v : Int32) (tg : List Nat) (pc : Nat) (ls : Ls) (st : List Value) (h : Hp) (b : Nat × Nat) (K : Nat → Ls → List Value → Hp → Nat × Nat → Prop) : Prop :=
  match i with
  | .iconst _ => K (pc + 1) ls (.int v :: st) h b
  | .bipush _ => K (pc + 2) ls (.int v :: st) h b
  | .sipush _ => K (pc + 3) ls (.int v :: st) h b
  | .aconst_null => K (pc + 1) ls (.null :: st) h b
  | .dconst n => if n = 0 then K (pc + 1) ls (.double 0 :: st) h b else n = 1 ∧ K (pc + 1) ls (.double 0x3ff0000000000000 :: st) h b
  | .ldc2_w _ => y = 1 ∧ K (pc + 3) ls (.long (Int64.ofNat x) :: st) h b
  | .ldc j => if x = 98 then K (pc + 2) ls (.int v :: st) h b else if x = 60 then mow M = RJ7 ∧ K (pc + 2) ls (.ref G.2.2.1.2.2 :: st) h b else mow M = RJ8 ∧ j = 200 ∧ K (pc + 2) ls (.int 2147483639 :: st) h b
  | .getstatic j => mow M = RJx4a65c ∧ j = 39 ∧ K (pc + 3) ls (.ref G.2.2.1.2.1 :: st) h b
  | .iload i => gI ls i fun w => K (pc + 2) ls (.int w :: st) h b
  | .iload_n _ => gI ls x fun w => K (pc + 1) ls (.int w :: st) h b
  | .lload i => gL ls i fun w => K (pc + 2) ls (.long w :: st) h b
  | .lload_n _ => gL ls x fun w => K (pc + 1) ls (.long w :: st) h b
  | .dload i => gD ls i fun w => K (pc + 2) ls (.double w :: st) h b
  | .aload i => gR ls i fun w => K (pc + 2) ls (.ref w :: st) h b
  | .aload_n _ => gR ls x fun w => K (pc + 1) ls (.ref w :: st) h b
  | .istore i => sI st fun w r => i < ls.length ∧ K (pc + 2) (putL ls i (.int w)) r h b
  | .istore_n _ => sI st fun w r => x < ls.length ∧ K (pc + 1) (putL ls x (.int w)) r h b
  | .lstore i => sL st fun w r => i + 1 < ls.length ∧ K (pc + 2) (putW ls i (.long w)) r h b
  | .lstore_n _ => sL st fun w r => x + 1 < ls.length ∧ K (pc + 1) (putW ls x (.long w)) r h b
  | .dstore i => sD st fun w r => i + 1 < ls.length ∧ K (pc + 2) (putW ls i (.double w)) r h b
  | .astore i => sR st fun w r => i < ls.length ∧ K (pc + 2) (putL ls i (.ref w)) r h b
  | .astore_n _ => sR st fun w r => x < ls.length ∧ K (pc + 1) (putL ls x (.ref w)) r h b
  | .iinc i _ => gI ls i fun w => i < ls.length ∧ K (pc + 3) (putL ls i (.int (w + v))) st h b
  | .iadd => sI st fun q r => sI r fun p r => K (pc + 1) ls (.int (p + q) :: r) h b
  | .isub => sI st fun q r => sI r fun p r => K (pc + 1) ls (.int (p - q) :: r) h b
  | .imul => sI st fun q r => sI r fun p r => K (pc + 1) ls (.int (p * q) :: r) h b
  | .idiv => sI st fun q r => sI r fun p r => ¬ q = 0 ∧ K (pc + 1) ls (.int (p / q) :: r) h b
  | .irem => sI st fun q r => sI r fun p r => ¬ q = 0 ∧ K (pc + 1) ls (.int (p - p / q * q) :: r) h b
  | .iand => sI st fun q r => sI r fun p r => K (pc + 1) ls (.int (p &&& q) :: r) h b
  | .ishr => sI st fun q r => sI r fun p r => K (pc + 1) ls (.int (p >>> (q &&& 31)) :: r) h b
  | .ladd => sL st fun q r => sL r fun p r => K (pc + 1) ls (.long (p + q) :: r) h b
  | .lmul => sL st fun q r => sL r fun p r => K (pc + 1) ls (.long (p * q) :: r) h b
  | .lcmp => sL st fun q r => sL r fun p r => K (pc + 1) ls (.int (lg_cmp p q) :: r) h b
  | .i2l => sI st fun p r => K (pc + 1) ls (.long p.toInt64 :: r) h b
  | .i2d => sI st fun p r => K (pc + 1) ls (.double (FP.i2d p) :: r) h b
  | .ddiv => sD st fun q r => sD r fun p r => vf_n64 (FP.ddiv p q) ∧ K (pc + 1) ls (.double (FP.ddiv p q) :: r) h b
  | .dcmp o => sD st fun q r => sD r fun p r => K (pc + 1) ls (.int (Op.cmpValue (FP.dcmp p q) o) :: r) h b
  | .dup => s1 st fun p r => K (pc + 1) ls (p :: p :: r) h b
  | .dup2 => s1 st fun p r => s1 r fun q r => K (pc + 1) ls (p :: q :: p :: q :: r) h b
  | .dup_x1 => s1 st fun p r => s1 r fun q r => K (pc + 1) ls (p :: q :: p :: r) h b
  | .pop => s1 st fun _ r => K (pc + 1) ls r h b
  | .goto _ => 0 < x ∧ K x ls st h b
  | .ifCond .eq _ => 0 < x ∧ sI st fun p r => (p = 0 → K x ls r h b) ∧ (¬ p = 0 → K (pc + 3) ls r h b)
  | .ifCond .ne _ => 0 < x ∧ sI st fun p r => (¬ p = 0 → K x ls r h b) ∧ (p = 0 → K (pc + 3) ls r h b)
  | .ifCond .lt _ => 0 < x ∧ sI st fun p r => (p < 0 → K x ls r h b) ∧ (¬ p < 0 → K (pc + 3) ls r h b)
  | .ifCond .ge _ => 0 < x ∧ sI st fun p r => (0 ≤ p → K x ls r h b) ∧ (¬ 0 ≤ p → K (pc + 3) ls r h b)
  | .ifCond .gt _ => 0 < x ∧ sI st fun p r => (0 < p → K x ls r h b) ∧ (¬ 0 < p → K (pc + 3) ls r h b)
  | .ifCond .le _ => 0 < x ∧ sI st fun p r => (p ≤ 0 → K x ls r h b) ∧ (¬ p ≤ 0 → K (pc + 3) ls r h b)
  | .if_icmp .eq _ => 0 < x ∧ sI st fun q r => sI r fun p r => (p = q → K x ls r h b) ∧ (¬ p = q → K (pc + 3) ls r h b)
  | .if_icmp .ne _ => 0 < x ∧ sI st fun q r => sI r fun p r => (¬ p = q → K x ls r h b) ∧ (p = q → K (pc + 3) ls r h b)
  | .if_icmp .lt _ => 0 < x ∧ sI st fun q r => sI r fun p r => (p < q → K x ls r h b) ∧ (¬ p < q → K (pc + 3) ls r h b)
  | .if_icmp .ge _ => 0 < x ∧ sI st fun q r => sI r fun p r => (q ≤ p → K x ls r h b) ∧ (¬ q ≤ p → K (pc + 3) ls r h b)
  | .if_icmp .gt _ => 0 < x ∧ sI st fun q r => sI r fun p r => (q < p → K x ls r h b) ∧ (¬ q < p → K (pc + 3) ls r h b)
  | .if_icmp .le _ => 0 < x ∧ sI st fun q r => sI r fun p r => (p ≤ q → K x ls r h b) ∧ (¬ p ≤ q → K (pc + 3) ls r h b)
  | .if_acmp .eq _ => 0 < x ∧ sR st fun q r => sR r fun p r => (p = q → K x ls r h b) ∧ (¬ p = q → K (pc + 3) ls r h b)
  | .if_acmp .ne _ => 0 < x ∧ sR st fun q r => sR r fun p r => (¬ p = q → K x ls r h b) ∧ (p = q → K (pc + 3) ls r h b)
  | .tableswitch dd lo hi offs => 0 < x ∧ (Int32.ofInt lo).toInt = lo ∧ lo + tg.length = hi + 1 ∧ sI st fun p r => swP p v.toInt tg (fun t => K t ls r h b) ∧ ((p.toInt < v.toInt ∨ v.toInt + tg.length ≤ p.toInt) → K x ls r h b)
  | .getfield _ => sR st fun a r => kd h a = x + 1 ∧ y < nF x ∧ (if refF x y = true then oR (fr h x y a) fun w => K (pc + 3) ls (w :: r) h b else K (pc + 3) ls (.int (fi h x y a) :: r) h b)
  | .putfield _ => if refF x y = true then vR st fun q r => sR r fun a r => kd h a = x + 1 ∧ y < nF x ∧ (finF x y = true → ini = true ∧ mow M = nmOf x) ∧ K (pc + 3) ls r (setR h x y a q) b
      else sI st fun w r => sR r fun a r => kd h a = x + 1 ∧ y < nF x ∧ (finF x y = true → ini = true ∧ mow M = nmOf x) ∧ (booF x y = true → w = 0 ∨ w = 1) ∧ K (pc + 3) ls r (setI h x y a w) b
  | .iaload => sI st fun j r => sR r fun a r => kd h a = 21 ∧ inR j (ln h a) ∧ K (pc + 1) ls (.int (ia h a j.toNatClampNeg) :: r) h b
  | .baload => sI st fun j r => sR r fun a r => kd h a = 22 ∧ inR j (ln h a) ∧ K (pc + 1) ls (.int (ia h a j.toNatClampNeg) :: r) h b
  | .aaload => if x = 25 then sI st fun j r => sR r fun a r => kd h a = 25 ∧ inR j (ln h a) ∧ oR (ra h a j.toNatClampNeg) fun w => K (pc + 1) ls (w :: r) h b else sI st fun j r => sR r fun a r => kd h a = 24 ∧ inR j (ln h a) ∧ oR (ra h a j.toNatClampNeg) fun w => K (pc + 1) ls (w :: r) h b
  | .iastore => sI st fun w r => sI r fun j r => sR r fun a r => kd h a = 21 ∧ inR j (ln h a) ∧ K (pc + 1) ls r (setIA h a j.toNatClampNeg w) b
  | .bastore => sI st fun w r => sI r fun j r => sR r fun a r => kd h a = 22 ∧ inR j (ln h a) ∧ (w = 0 ∨ w = 1) ∧ K (pc + 1) ls r (setIA h a j.toNatClampNeg w) b
  | .aastore => if x = 25 then sR st fun w r => sI r fun j r => sR r fun a r => kd h a = 25 ∧ inR j (ln h a) ∧ kd h w = 21 ∧ K (pc + 1) ls r (setRA h a j.toNatClampNeg (some w)) b else sR st fun w r => sI r fun j r => sR r fun a r => kd h a = 24 ∧ inR j (ln h a) ∧ (kd h w = 2 ∨ kd h w = 3 ∨ kd h w = 4) ∧ K (pc + 1) ls r (setRA h a j.toNatClampNeg (some w)) b
  | .arraylength => if x = 25 then sR st fun a r => kd h a = 25 ∧ K (pc + 1) ls (.int (nI (ln h a)) :: r) h b else sR st fun a r => (kd h a = 0 → a = G.2.2.1.2.1 ∧ K (pc + 1) ls (.int 0 :: r) h b) ∧ (¬ kd h a = 0 → 21 ≤ kd h a ∧ kd h a ≤ 24 ∧ K (pc + 1) ls (.int (nI (ln h a)) :: r) h b)
  | .newarray t => sI st fun n r => (t = .int ∨ t = .boolean) ∧ ¬ n < 0 ∧ n.toNatClampNeg ≤ 5000 ∧ 1 ≤ b.1 ∧ n.toNatClampNeg ≤ b.2 ∧
      ∀ a, kd h a = 0 → a ≠ G.2.2.1.2.1 → K (pc + 2) ls (.ref a :: r) (newA h a (if t = .int then 21 else if t = .boolean then 22 else 23) n.toNatClampNeg) (b.1 - 1, b.2 - n.toNatClampNeg)
  | .multianewarray _ dm => x = 63 ∧ dm = 2 ∧ sI st fun q r => sI r fun n r => ¬ n < 0 ∧ ¬ q < 0 ∧ n.toNatClampNeg ≤ 100 ∧ q.toNatClampNeg ≤ 5000 ∧ 1 + n.toNatClampNeg ≤ b.1 ∧ n.toNatClampNeg + n.toNatClampNeg * q.toNatClampNeg ≤ b.2 ∧
      ∀ (a : Nat) (B : Nat → Nat), kd h a = 0 → a ≠ G.2.2.1.2.1 → (∀ i, i < n.toNatClampNeg → kd h (B i) = 0 ∧ B i ≠ a ∧ B i ≠ G.2.2.1.2.1) → (∀ i j, i < n.toNatClampNeg → j < n.toNatClampNeg → B i = B j → i = j) →
      K (pc + 4) ls (.ref a :: r) (newM h a B q.toNatClampNeg n.toNatClampNeg n.toNatClampNeg) (b.1 - (1 + n.toNatClampNeg), b.2 - (n.toNatClampNeg + n.toNatClampNeg * q.toNatClampNeg))
  | .anewarray _ => if x = 62 then sI st fun n r => ¬ n < 0 ∧ n.toNatClampNeg ≤ 5000 ∧ 1 ≤ b.1 ∧ n.toNatClampNeg ≤ b.2 ∧
      ∀ a, kd h a = 0 → a ≠ G.2.2.1.2.1 → K (pc + 3) ls (.ref a :: r) (newA h a 25 n.toNatClampNeg) (b.1 - 1, b.2 - n.toNatClampNeg) else sI st fun n r => x = 61 ∧ ¬ n < 0 ∧ n.toNatClampNeg ≤ 5000 ∧ 1 ≤ b.1 ∧ n.toNatClampNeg ≤ b.2 ∧
      ∀ a, kd h a = 0 → a ≠ G.2.2.1.2.1 → K (pc + 3) ls (.ref a :: r) (newA h a 24 n.toNatClampNeg) (b.1 - 1, b.2 - n.toNatClampNeg)
  | .new _ => if x < 7 then 1 ≤ b.1 ∧ nF x ≤ b.2 ∧ ∀ a, kd h a = 0 → a ≠ G.2.2.1.2.1 → K (pc + 3) ls (.ref a :: st) (newO h a x) (b.1 - 1, b.2 - nF x)
      else 50 ≤ x ∧ x ≤ 52 ∧ mow M = RX4 ∧ mhh M = [] ∧ thrOK M pc x ∧ 7 ≤ d ∧ 1 ≤ b.1 ∧ 6 ≤ b.2 ∧ catS st ≤ 8 ∧ PX (nmOf x) h
  | .checkcast _ => sR st fun a r => (if x = 60 then kd h a = 24 else kd h a = x + 1 ∧ (x = 1 ∨ x = 2 ∨ x = 3)) ∧ K (pc + 3) ls (.ref a :: r) h b
  | .invokevirtual j => lkC cs j fun ce => if ce.1 = 0 then sP ce.2.2.2.1 st fun As r => sR r fun a r => kd h a ≠ 0 ∧ kd h a < 21 ∧ nmOf (kd h a - 1) = ce.2.1.cls ∧ callK M d PX pc ls h b K ce (.ref a :: As) r
        else ce.1 = 5 ∧ sR st fun a r => kd h a = 24 ∧ 2 ≤ d ∧ catS r ≤ 8 ∧ K (pc + 3) ls (.ref G.2.2.1.2.2 :: r) h b
  | .invokestatic j => lkC cs j fun ce => if ce.1 = 1 then sP ce.2.2.2.1 st fun As r => callK M d PX pc ls h b K ce As r
        else if ce.1 = 7 then sI st fun n r => sI r fun dp r => sR r fun a r => sI r fun sp r => sR r fun a0 r => kd h a0 = 21 ∧ kd h a = 21 ∧ ¬ sp < 0 ∧ ¬ dp < 0 ∧ ¬ n < 0 ∧ sp.toNatClampNeg + n.toNatClampNeg ≤ ln h a0 ∧ dp.toNatClampNeg + n.toNatClampNeg ≤ ln h a ∧
          2 ≤ d ∧ catS r ≤ 8 ∧ K (pc + 3) ls r (cpIA h a0 a sp.toNatClampNeg dp.toNatClampNeg n.toNatClampNeg) b
        else if ce.1 = 8 then sI st fun q r => sI r fun p r => 2 ≤ d ∧ catS r ≤ 8 ∧ K (pc + 3) ls (.int (if p < q then q else p) :: r) h b
        else if ce.1 = 9 then sI st fun q r => sI r fun p r => 2 ≤ d ∧ catS r ≤ 8 ∧ K (pc + 3) ls (.int (if q < p then q else p) :: r) h b
        else ce.1 = 6 ∧ sI st fun n r => sI r fun dp r => sR r fun a r => sI r fun sp r => sR r fun a0 r => kd h a0 = 24 ∧ kd h a = 24 ∧ ¬ sp < 0 ∧ ¬ dp < 0 ∧ ¬ n < 0 ∧ sp.toNatClampNeg + n.toNatClampNeg ≤ ln h a0 ∧ dp.toNatClampNeg + n.toNatClampNeg ≤ ln h a ∧
          (∃ k, (k = 2 ∨ k = 3 ∨ k = 4) ∧ ∀ i w, i < n.toNatClampNeg → ra h a0 (sp.toNatClampNeg + i) = some w → kd h w = k) ∧ 2 ≤ d ∧ catS r ≤ 8 ∧ K (pc + 3) ls r (cpRA h a0 a sp.toNatClampNeg dp.toNatClampNeg n.toNatClampNeg) b
  | .invokespecial j => lkC cs j fun ce => if ce.1 = 2 ∨ ce.1 = 3 then sP ce.2.2.2.1 st fun As r => sR r fun a r => kd h a ≠ 0 ∧ kd h a < 21 ∧ callK M d PX pc ls h b K ce (.ref a :: As) r
        else ce.1 = 4 ∧ sR st fun _ r => 1 ≤ d ∧ catS r ≤ 8 ∧ K (pc + 3) ls r h b
  | .ireturn => sI st fun w r => s0 r (match mrt M with | some .int => P (some (.int w)) h | some .boolean => (w = 0 ∨ w = 1) ∧ P (some (.int w)) h | _ => False)
  | .lreturn => sL st fun w r => s0 r (mrt M = some .long ∧ P (some (.long w)) h)
  | .dreturn => sD st fun w r => s0 r (mrt M = some .double ∧ P (some (.double w)) h)
  | .areturn => sR st fun w r => s0 r ((match mrt M with | some (.object _) => True | some (.array _) => True | _ => False) ∧ P (some (.ref w)) h)
  | .return_ => s0 st (mrt M = none ∧ P none h)
  | _ => False
def stF (pc : Nat) (ls : Ls) (st : List Value) (h : Hp) (b : Nat × Nat) (K : Nat → Ls → List Value → Hp → Nat × Nat → Prop) (q : RI) : Prop :=
  (lenI q.1 = q.2.1 ∨ lenI q.1 = 0) ∧ stepI G M ini d cs P PX q.1 q.2.2.1 q.2.2.2.1 q.2.2.2.2.1 q.2.2.2.2.2 pc ls st h b K
def stC (r : Option RI) (f : RI → Prop) : Prop := match r with
  | some q => f q
  | none => False
def step (pc : Nat) (ls : Ls) (st : List Value) (h : Hp) (b : Nat × Nat) (K : Nat → Ls → List Value → Hp → Nat × Nat → Prop) : Prop := stC (rs M pc) (stF G M ini d cs P PX pc ls st h b K)
def kN (stop : List Nat) (Z W : Nat → Ls → List Value → Hp → Nat × Nat → Prop) (pc : Nat) (ls : Ls) (st : List Value) (h : Hp) (b : Nat × Nat) : Prop := if isS stop pc = true then Z pc ls st h b else W pc ls st h b
/-- up to n steps, to the places in 'stop', where Z must hold -/
def wpN (stop : List Nat) (Z : Nat → Ls → List Value → Hp → Nat × Nat → Prop) : Nat → Nat → Ls → List Value → Hp → Nat × Nat → Prop
  | 0, _, _, _, _, _ => False
  | n + 1, pc, ls, st, h, b => step G M ini d cs P PX pc ls st h b (kN stop Z (wpN stop Z n))
end STEP
end
section
/-! ===== soundness of the steps ===== -/
theorem sI_e {st : List Value} {f : Int32 → List Value → Prop} (h : sI st f) : ∃ x r, st = .int x :: r ∧ f x r := by
  unfold sI at h; split at h
  · exact ⟨_, _, rfl, h⟩
  · exact h.elim
theorem sL_e {st : List Value} {f : Int64 → List Value → Prop} (h : sL st f) : ∃ x r, st = .long x :: r ∧ f x r := by
  unfold sL at h; split at h
  · exact ⟨_, _, rfl, h⟩
  · exact h.elim
theorem sD_e {st : List Value} {f : UInt64 → List Value → Prop} (h : sD st f) : ∃ x r, st = .double x :: r ∧ f x r := by
  unfold sD at h; split at h
  · exact ⟨_, _, rfl, h⟩
  · exact h.elim
theorem sR_e {st : List Value} {f : Nat → List Value → Prop} (h : sR st f) : ∃ x r, st = .ref x :: r ∧ f x r := by
  unfold sR at h; split at h
  · exact ⟨_, _, rfl, h⟩
  · exact h.elim
theorem s0_e {st : List Value} {f : Prop} (h : s0 st f) : st = [] ∧ f := by
  unfold s0 at h; split at h
  · exact ⟨rfl, h⟩
  · exact h.elim
theorem s1_e {st : List Value} {f : Value → List Value → Prop} (h : s1 st f) : ∃ x r, st = x :: r ∧ x.category = 1 ∧ f x r := by
  unfold s1 at h; split at h
  · exact ⟨_, _, rfl, rfl, h⟩
  · exact ⟨_, _, rfl, rfl, h⟩
  · exact h.elim
theorem vR_e {st : List Value} {f : Option Nat → List Value → Prop} (h : vR st f) : ∃ x r, st = va_rf x :: r ∧ f x r := by
  unfold vR at h; split at h
  · exact ⟨some _, _, rfl, h⟩
  · exact ⟨none, _, rfl, h⟩
  · exact h.elim
theorem gI_e {ls : Ls} {i : Nat} {f : Int32 → Prop} (h : gI ls i f) : ∃ x, getL ls i = some (.int x) ∧ f x := by
  unfold gI at h; split at h
  · exact ⟨_, by assumption, h⟩
  · exact h.elim
theorem gL_e {ls : Ls} {i : Nat} {f : Int64 → Prop} (h : gL ls i f) : ∃ x, getL ls i = some (.long x) ∧ f x := by
  unfold gL at h; split at h
  · exact ⟨_, by assumption, h⟩
  · exact h.elim
theorem gD_e {ls : Ls} {i : Nat} {f : UInt64 → Prop} (h : gD ls i f) : ∃ x, getL ls i = some (.double x) ∧ f x := by
  unfold gD at h; split at h
  · exact ⟨_, by assumption, h⟩
  · exact h.elim
theorem gR_e {ls : Ls} {i : Nat} {f : Nat → Prop} (h : gR ls i f) : ∃ x, getL ls i = some (.ref x) ∧ f x := by
  unfold gR at h; split at h
  · exact ⟨_, by assumption, h⟩
  · exact h.elim
theorem oR_e {r : Option Nat} {f : Value → Prop} (h : oR r f) : f (va_rf r) := by
  obtain ⟨a, rfl, h⟩ := h
  exact h
theorem sPa_e {f : List Value → List Value → Prop} : ∀ (n : Nat) (st acc : List Value), sPa n st acc f → ∃ b r, b.length = n ∧ st = b.reverse ++ r ∧ f (b ++ acc) r := by
  intro n
  induction n with
  | zero => intro st acc h; exact ⟨[], st, rfl, rfl, h⟩
  | succ n ih =>
    intro st acc h
    cases st with
    | nil => exact h.elim
    | cons v st =>
      obtain ⟨b, r, e1, e2, e3⟩ := ih st (v :: acc) h
      exact ⟨b ++ [v], r, by simp [e1], by simp [e2], by simpa using e3⟩
theorem sP_e {n : Nat} {st : List Value} {f : List Value → List Value → Prop} (h : sP n st f) : ∃ a r, a.length = n ∧ st = a.reverse ++ r ∧ f a r := by
  obtain ⟨b, r, e1, e2, e3⟩ := sPa_e n st [] h
  rw [List.append_nil] at e3
  exact ⟨b, r, e1, e2, e3⟩
theorem lkC_e {cs : List (Nat × CE)} {j : Nat} {f : CE → Prop} (h : lkC cs j f) : ∃ ce, lkp cs j = some ce ∧ f ce := by
  unfold lkC at h
  split at h
  · exact ⟨_, by assumption, h⟩
  · exact h.elim
theorem catS_e (st : List Value) : (st.map fun v => v.category).sum = catS st := by
  induction st with
  | nil => rfl
  | cons v r ih => simp only [List.map_cons, List.sum_cons, catS, ih]; cases v <;> rfl
/-! locals -/
def LsR (n : Nat) (ls : Ls) (la : Array Slot) : Prop := ls.length = n ∧ la.size = n ∧ lv_wf la ∧ ∀ (i : Nat) (v : Value), getL ls i = some v → la[i]? = some (.val v)
def asL (ls : Ls) : List (Nat × Value) := (List.range ls.length).filterMap fun i => (getL ls i).map fun v => (i, v)
theorem getL_lt : ∀ (ls : Ls) (i : Nat) (v : Value), getL ls i = some v → i < ls.length
  | [], _, _, h => by cases h
  | _ :: _, 0, _, _ => by simp
  | _ :: t, i + 1, v, h => by have := getL_lt t i v h; simp; omega
theorem mem_asL {ls : Ls} {i : Nat} {v : Value} : (i, v) ∈ asL ls ↔ getL ls i = some v := by
  unfold asL
  rw [List.mem_filterMap]
  constructor
  · rintro ⟨j, -, hj⟩
    rw [Option.map_eq_some_iff] at hj
    obtain ⟨w, h1, h2⟩ := hj
    cases h2
    exact h1
  · intro h
    exact ⟨i, List.mem_range.mpr (getL_lt _ _ _ h), by rw [h]; rfl⟩
theorem LsR.has {n : Nat} {ls : Ls} {la : Array Slot} (h : LsR n ls la) : lv_has la n (asL ls) := ⟨h.2.1, h.2.2.1, fun q hq => h.2.2.2 q.1 q.2 (mem_asL.mp hq)⟩
theorem putL_len : ∀ (ls : Ls) (i : Nat) (v : Value), (putL ls i v).length = ls.length
  | [], i, v => by cases i <;> rfl
  | o :: t, 0, v => rfl
  | o :: t, 1, v => by simp [putL, putL_len t 0 v]
  | o :: t, n + 2, v => by simp [putL, putL_len t (n + 1) v]
theorem kil_e {o : Option Value} {w : Value} (h : kil o = some w) : o = some w ∧ w.category = 1 := by
  unfold kil at h; split at h
  · cases h
  · cases h
  · subst h; refine ⟨rfl, ?_⟩; cases w <;> simp_all [Value.category]
theorem putL_e : ∀ (ls : Ls) (i j : Nat) (v w : Value), getL (putL ls i v) j = some w → (j = i ∧ w = v) ∨ (j ≠ i ∧ getL ls j = some w ∧ ¬ (j + 1 = i ∧ w.category = 2))
  | [], i, j, v, w, h => by cases i <;> cases h
  | o :: t, 0, 0, v, w, h => by cases h; exact Or.inl ⟨rfl, rfl⟩
  | o :: t, 0, j + 1, v, w, h => Or.inr ⟨by omega, h, by omega⟩
  | o :: t, 1, 0, v, w, h => by
    obtain ⟨h1, h2⟩ := kil_e (show kil o = some w from h)
    exact Or.inr ⟨by omega, h1, fun q => by omega⟩
  | o :: t, 1, j + 1, v, w, h => by
    rcases putL_e t 0 j v w h with ⟨e1, e2⟩ | ⟨e1, e2, e3⟩
    · exact Or.inl ⟨by omega, e2⟩
    · exact Or.inr ⟨by omega, e2, by omega⟩
  | o :: t, n + 2, 0, v, w, h => Or.inr ⟨by omega, h, by omega⟩
  | o :: t, n + 2, j + 1, v, w, h => by
    rcases putL_e t (n + 1) j v w h with ⟨e1, e2⟩ | ⟨e1, e2, e3⟩
    · exact Or.inl ⟨by omega, e2⟩
    · exact Or.inr ⟨by omega, e2, fun q => e3 ⟨by omega, q.2⟩⟩
theorem clr_len (t : Ls) : (clr t).length = t.length := by cases t <;> rfl
theorem putW_len : ∀ (ls : Ls) (i : Nat) (v : Value), (putW ls i v).length = ls.length
  | [], i, v => by cases i <;> rfl
  | _ :: t, 0, v => by simp [putW, clr_len]
  | o :: t, 1, v => by simp [putW, putW_len t 0 v]
  | o :: t, n + 2, v => by simp [putW, putW_len t (n + 1) v]
theorem clr_e : ∀ (t : Ls) (j : Nat) (w : Value), getL (clr t) j = some w → j ≠ 0 ∧ getL t j = some w
  | [], _, _, h => by cases h
  | _ :: _, 0, _, h => by cases h
  | _ :: _, _ + 1, _, h => ⟨by omega, h⟩
theorem putW_e : ∀ (ls : Ls) (i j : Nat) (v w : Value), getL (putW ls i v) j = some w → (j = i ∧ w = v) ∨ (j ≠ i ∧ j ≠ i + 1 ∧ getL ls j = some w ∧ ¬ (j + 1 = i ∧ w.category = 2))
  | [], i, j, v, w, h => by cases i <;> cases h
  | _ :: t, 0, 0, v, w, h => by cases h; exact Or.inl ⟨rfl, rfl⟩
  | _ :: t, 0, j + 1, v, w, h => by
    obtain ⟨h1, h2⟩ := clr_e t j w h
    exact Or.inr ⟨by omega, by omega, h2, by omega⟩
  | o :: t, 1, 0, v, w, h => by
    obtain ⟨h1, h2⟩ := kil_e (show kil o = some w from h)
    exact Or.inr ⟨by omega, by omega, h1, fun q => by omega⟩
  | o :: t, 1, j + 1, v, w, h => by
    rcases putW_e t 0 j v w h with ⟨e1, e2⟩ | ⟨e1, e2, e3, e4⟩
    · exact Or.inl ⟨by omega, e2⟩
    · exact Or.inr ⟨by omega, by omega, e3, by omega⟩
  | o :: t, n + 2, 0, v, w, h => Or.inr ⟨by omega, by omega, h, by omega⟩
  | o :: t, n + 2, j + 1, v, w, h => by
    rcases putW_e t (n + 1) j v w h with ⟨e1, e2⟩ | ⟨e1, e2, e3, e4⟩
    · exact Or.inl ⟨by omega, e2⟩
    · exact Or.inr ⟨by omega, by omega, e3, fun q => e4 ⟨by omega, q.2⟩⟩
theorem LsR.put {n i : Nat} {ls : Ls} {la la' : Array Slot} {v : Value} (h : LsR n ls la) (h' : lv_has la' n ((i, v) :: (asL ls).filter (fun q => !(q.1 == i) && !(q.1 + 1 == i && q.2.category == 2)))) : LsR n (putL ls i v) la' := by
  refine ⟨by rw [putL_len]; exact h.1, h'.1, h'.2.1, fun j w hj => ?_⟩
  rcases putL_e _ _ _ _ _ hj with ⟨e1, e2⟩ | ⟨e1, e2, e3⟩
  · subst e1; subst e2; exact h'.2.2 _ List.mem_cons_self
  · refine h'.2.2 (j, w) (List.mem_cons_of_mem _ (List.mem_filter.mpr ⟨mem_asL.mpr e2, ?_⟩))
    simp only [Bool.and_eq_true, Bool.not_eq_true', beq_eq_false_iff_ne, ne_eq]
    refine ⟨e1, ?_⟩
    cases hb : (j + 1 == i && w.category == 2)
    · rfl
    · simp only [Bool.and_eq_true, beq_iff_eq] at hb; exact absurd hb e3
theorem LsR.putW {n i : Nat} {ls : Ls} {la la' : Array Slot} {v : Value} (h : LsR n ls la) (h' : lv_has la' n ((i, v) :: (asL ls).filter (fun q => !(q.1 == i) && (!(q.1 == i + 1) && !(q.1 + 1 == i && q.2.category == 2))))) : LsR n (putW ls i v) la' := by
  refine ⟨by rw [putW_len]; exact h.1, h'.1, h'.2.1, fun j w hj => ?_⟩
  rcases putW_e _ _ _ _ _ hj with ⟨e1, e2⟩ | ⟨e1, e2, e3, e4⟩
  · subst e1; subst e2; exact h'.2.2 _ List.mem_cons_self
  · refine h'.2.2 (j, w) (List.mem_cons_of_mem _ (List.mem_filter.mpr ⟨mem_asL.mpr e3, ?_⟩))
    simp only [Bool.and_eq_true, Bool.not_eq_true', beq_eq_false_iff_ne, ne_eq]
    refine ⟨e1, e2, ?_⟩
    cases hb : (j + 1 == i && w.category == 2)
    · rfl
    · simp only [Bool.and_eq_true, beq_iff_eq] at hb; exact absurd hb e4
/-! the classes' tables, by number -/
def clT : Nat → u_T
  | 0 => TJx4a65c
  | 1 => TX0
  | 2 => TX1
  | 3 => TX2
  | 4 => TX3
  | 5 => TX4
  | _ => TX5
def clY : Nat → Nat → FieldType
  | 0 => tyJx4a65c
  | 1 => tyX0
  | 2 => tyX1
  | 3 => tyX2
  | 4 => tyX3
  | 5 => tyX4
  | _ => tyX5
theorem lt7 {P : Nat → Prop} (h0 : P 0) (h1 : P 1) (h2 : P 2) (h3 : P 3) (h4 : P 4) (h5 : P 5) (h6 : P 6) : ∀ x, x < 7 → P x := by
  intro x hx
  match x, hx with
  | 0, _ => exact h0
  | 1, _ => exact h1
  | 2, _ => exact h2
  | 3, _ => exact h3
  | 4, _ => exact h4
  | 5, _ => exact h5
  | 6, _ => exact h6
theorem cl_at : ∀ x, x < 7 → vwCl[x]? = some (nmOf x, clT x, nF x) := lt7 rfl rfl rfl rfl rfl rfl rfl
theorem cl_in : ∀ x, x < 7 → ∀ w ∈ u_ws (nmOf x) (clT x) (nF x), w ∈ gw := lt7 (by decide +kernel) (by decide +kernel) (by decide +kernel) (by decide +kernel) (by decide +kernel) (by decide +kernel) (by decide +kernel)
theorem cl_ty : ∀ x, x < 7 → ∀ k, k < nF x → parseFieldDescriptor (clT x k).2.2.1 = some (clY x k) := lt7 (by decide +kernel) (by decide +kernel) (by decide +kernel) (by decide +kernel) (by decide +kernel) (by decide +kernel) (by decide +kernel)
theorem cl_nm : ∀ x, x < 7 → ∀ a, a < nF x → ∀ b, b < nF x → a ≠ b → (clT x a).2.1 ≠ (clT x b).2.1 := lt7 (by decide +kernel) (by decide +kernel) (by decide +kernel) (by decide +kernel) (by decide +kernel) (by decide +kernel) (by decide +kernel)
theorem cl_fin : ∀ x, x < 7 → ∀ k, k < nF x → (clT x k).2.2.2 = finF x k ∧ (finF x k = true → (clT x k).1 = nmOf x) := lt7 (by decide +kernel) (by decide +kernel) (by decide +kernel) (by decide +kernel) (by decide +kernel) (by decide +kernel) (by decide +kernel)
/-- a reference's type keeps any reference; an int's any int; a boolean's 0 and 1 -/
theorem cl_ref : ∀ x, x < 7 → ∀ k, k < nF x → refF x k = true → (match clY x k with | .object _ => true | .array _ => true | _ => false) = true := lt7 (by decide +kernel) (by decide +kernel) (by decide +kernel) (by decide +kernel) (by decide +kernel) (by decide +kernel) (by decide +kernel)
theorem cl_int : ∀ x, x < 7 → ∀ k, k < nF x → refF x k = false → (match clY x k with | .int => !booF x k | .boolean => booF x k | _ => false) = true := lt7 (by decide +kernel) (by decide +kernel) (by decide +kernel) (by decide +kernel) (by decide +kernel) (by decide +kernel) (by decide +kernel)
theorem lk_mem {α β : Type} [BEq α] [LawfulBEq α] {k : α} {v : β} : ∀ (l : List (α × β)), l.lookup k = some v → (k, v) ∈ l
  | [], h => by cases h
  | (a, b) :: t, h => by
    rw [List.lookup_cons] at h
    split at h
    · rename_i hb; cases h; rw [eq_of_beq hb]; exact List.mem_cons_self
    · exact List.mem_cons_of_mem _ (lk_mem t h)
end
section
/-! ===== the machine's frame, contracts over the abstract heap ===== -/
def RetI (M : MI) (pc : Nat) : Option Value → Prop
  | none => decode M.2.1 pc = .ok (.return_, 1) ∧ mrt M = none
  | some (.int w) => decode M.2.1 pc = .ok (.ireturn, 1) ∧ ∃ ty, mrt M = some ty ∧ narrow ty (.int w) = .int w
  | some (.long _) => decode M.2.1 pc = .ok (.lreturn, 1) ∧ mrt M = some .long
  | some (.double _) => decode M.2.1 pc = .ok (.dreturn, 1) ∧ mrt M = some .double
  | some (.ref _) => decode M.2.1 pc = .ok (.areturn, 1) ∧ ∃ rt, mrt M = some rt ∧ ((∃ n, rt = .object n) ∨ ∃ t, rt = .array t)
  | _ => False
def Mach (G : GT) (M : MI) (ini : Bool) (d : Nat) (P : Option Value → Hp → Prop) (PX : String → Hp → Prop) (p : Program) (l : Launch) (e : Env) (R : Room) (s : State) (m : MethodId) (args : Array Value) (below : List Frame) (meth : Method) (c : Code) (Q : State → Prop) : Prop :=
  p.tables.exec = Jvm.exec ∧ c.code = M.2.1 ∧ c.maxLocals = M.2.2.1 ∧ s.vm.findClass M.1 = some m.cls ∧ (∀ w ∈ gw, w.before args s = true) ∧ Glob G s s.heap ∧ d ≤ R.frames ∧ 39 * d ≤ R.locals ∧ c.exceptionTable.toList = tableOf M.2.2.2.2 ∧ (ini = true → meth.name = "<init>") ∧ G.2.2.1.1 ≤ s.heap.size ∧ G.2.2.1.2.1 < G.2.2.1.1 ∧ l.stackTraces = false ∧
  (∀ (v : Option Value) (h : Hp) (H : Heap) (locs : List Loc) (cells slots pc : Nat) (la : Array Slot), RetI M pc v → P v h → Rel G h H → va_S (AA G) s.heap H locs → cells ≤ R.cells → slots ≤ R.slots → W p l e R s m args below meth c H locs cells slots Q (F0 m pc la v.toList)) ∧
  (∀ (x : Nat) (h : Hp) (H : Heap) (locs : List Loc) (cells slots pc : Nat) (la : Array Slot) (rest : List Value), 50 ≤ x → x ≤ 52 → M.1 = RX4 → mhh M = [] → thrOK M pc x → 7 ≤ d → catS rest ≤ 8 → la.size = M.2.2.1 → PX (nmOf x) h → Rel G h H → va_S (AA G) s.heap H locs → cells + 1 ≤ R.cells → slots + 6 ≤ R.slots → W p l e R s m args below meth c H locs cells slots Q (F0 m pc la rest)) ∧
  (∀ (E : String) (ce : Cell) (q : Addr) (h : Hp) (H : Heap) (locs : List Loc) (cells slots pc : Nat) (la : Array Slot) (rest : List Value), mhh M = [] → PX E h → Rel G h H → va_S (AA G) s.heap H locs → cells ≤ R.cells → slots ≤ R.slots → H[q]? = some ce → ce.vm = .none → s.vm.findClass E = some ce.cls → vx_W p l e R s m args below meth c H locs cells slots Q (F0 m pc la rest) q)
def Wp (G : GT) (M : MI) (ini : Bool) (d : Nat) (P : Option Value → Hp → Prop) (PX : String → Hp → Prop) (pc : Nat) (ls : Ls) (st : List Value) (h : Hp) (b : Nat × Nat) : Prop :=
  ∀ ⦃p : Program⦄ ⦃l : Launch⦄ ⦃e : Env⦄ ⦃R : Room⦄ ⦃s : State⦄ ⦃m : MethodId⦄ ⦃args : Array Value⦄ ⦃below : List Frame⦄ ⦃meth : Method⦄ ⦃c : Code⦄ ⦃Q : State → Prop⦄ ⦃H : Heap⦄ ⦃locs : List Loc⦄ ⦃cells slots : Nat⦄ ⦃la : Array Slot⦄,
    Mach G M ini d P PX p l e R s m args below meth c Q → Rel G h H → va_S (AA G) s.heap H locs → cells + b.1 ≤ R.cells → slots + b.2 ≤ R.slots → LsR M.2.2.1 ls la → W p l e R s m args below meth c H locs cells slots Q (F0 m pc la st)
def cwd (y : MethodName) (M : MI) : Cond := match M.2.2.2.2 with
  | [] => .code y M.2.1 M.2.2.1 M.2.2.2.1
  | hh => .codeWith y M.2.1 M.2.2.1 M.2.2.2.1 hh
def rmD (d mc ms : Nat) : Room := { frames := d, cells := mc, slots := ms, locals := 39 * d }
def PcG (G : GT) (As : List Value) (h : Hp) : Array Value → State → Prop := va_Pc As (fun U => Rel G h U.heap ∧ Glob G U U.heap ∧ G.2.2.1.1 ≤ U.heap.size ∧ G.2.2.1.2.1 < G.2.2.1.1)
def QcG (G : GT) (Q : Option Value → Hp → Prop) : Array Value → State → Outcome → State → Prop := fun _ st oc t => (∃ (v : Option Value) (u : Hp), oc = .returned v ∧ Q v u ∧ Rel G u t.heap) ∧ va_F (AA G) st t
def XcG (G : GT) (QX : String → Hp → Prop) : String → State → State → Prop := vx_X (fun _ : Hp => True) (fun E u t => QX E u ∧ Rel G u t.heap) (AA G)
/-- a method keeps its contract at depth d, with mc cells of ms slots -/
def OKm (G : GT) (y : MethodName) (M : MI) (d mc ms : Nat) (ct : Ct) : Prop := ∀ l : Launch, l.stackTraces = false → ∀ (As : List Value) (h : Hp) (Q : Option Value → Hp → Prop) (QX : String → Hp → Prop), ct As h Q QX → vx_Met l y (cwd y M :: gw) (rmD d mc ms) (PcG G As h) (QcG G Q) (XcG G QX) mc ms (AA G)
def dsc (y : MethodName) (n : Nat) : Prop := y.cls ≠ "java/lang/invoke/MethodHandle" ∧ y.cls ≠ "java/lang/invoke/VarHandle" ∧ (parseMethodDescriptor y.desc).map (fun d => d.parameters.length) = some n
/-- the words that a call at the constant pool's place j of 'own' needs -/
def ceW (own : String) (j : Nat) (ce : CE) : List Cond := match ce.1 with
  | 0 => [.methodLink own j ce.2.1, .instanceMethod ce.2.1, .selects ce.2.1.cls ce.2.1 ce.2.1, .initialized ce.2.1.cls, cwd ce.2.1 ce.2.2.1]
  | 1 => [.methodLink own j ce.2.1, .static ce.2.1, .initialized ce.2.1.cls, cwd ce.2.1 ce.2.2.1]
  | 2 => [.methodLink own j ce.2.1, .instanceMethod ce.2.1, .initialized ce.2.1.cls, cwd ce.2.1 ce.2.2.1]
  | 3 => [.instanceMethod ce.2.1, .initialized ce.2.1.cls, cwd ce.2.1 ce.2.2.1]
  | 4 => [.methodLink own j Lib.objectInit, .instanceMethod Lib.objectInit, .code Lib.objectInit ⟨#[0xb1]⟩ 1 none]
  | 5 => [.methodLink own j ⟨"java/lang/Object", "getClass", "()Ljava/lang/Class;"⟩, .selects "[Ljava/lang/Object;" ⟨"java/lang/Object", "getClass", "()Ljava/lang/Class;"⟩ ⟨"java/lang/Object", "getClass", "()Ljava/lang/Class;"⟩, .instanceMethod ⟨"java/lang/Object", "getClass", "()Ljava/lang/Class;"⟩, .native ⟨"java/lang/Object", "getClass", "()Ljava/lang/Class;"⟩]
  | 8 => [.methodLink own j Lib.Math.max.name, .static Lib.Math.max.name, .initialized "java/lang/Math", .code Lib.Math.max.name Lib.Math.max.code 2 (some .int)]
  | 9 => [.methodLink own j Lib.Math.min.name, .static Lib.Math.min.name, .initialized "java/lang/Math", .code Lib.Math.min.name Lib.Math.min.code 2 (some .int)]
  | _ => [.methodLink own j arraycopyName, .native arraycopyName, .static arraycopyName, .initialized "java/lang/System"]
def ceOK (G : GT) (own : String) (q : Nat × CE) : Prop := (∀ w ∈ ceW own q.1 q.2, w ∈ gw) ∧ (q.2.1 < 4 → dsc q.2.2.1 q.2.2.2.2.1 ∧ q.2.2.2.1.2.2.1 ≤ 20 ∧ OKm G q.2.2.1 q.2.2.2.1 q.2.2.2.2.2.1 q.2.2.2.2.2.2.1 q.2.2.2.2.2.2.2.1 q.2.2.2.2.2.2.2.2) ∧
  (q.2.1 = 2 → q.2.2.1.name = "<init>" ∧ q.2.2.2.1.2.2.2 = (none, [])) ∧ (q.2.1 = 3 → own = RX4 ∧ q.1 = 11 ∧ q.2.2.1 = yX3_init ∧ q.2.2.2.1.2.2.2 = (none, [])) ∧ (q.2.1 = 0 → q.2.2.2.1.2.2.2.2 = [])
/-- the rows of a method's exception table name exceptions -/
def hhOK (_own : String) (hh : List (Nat × Nat × Nat × Nat)) : Prop := ∀ r ∈ hh, False
/-! the relation -/
theorem Rel.lt {G : GT} {h : Hp} {H : Heap} (hR : Rel G h H) {a : Nat} (ha : kd h a ≠ 0) : a < H.size ∧ AA G a := by
  obtain ⟨L, h1, h2, h3⟩ := hR
  obtain ⟨k, hk⟩ := va_pl_get (X := []) (f := cellOf G h) ((h1 a).mp ha)
  exact ⟨(h2 k _ hk).lt, h3.2 k _ hk⟩
theorem Rel.kept {G : GT} {h : Hp} {H H1 : Heap} (hR : Rel G h H) (hq : ∀ q : Nat, q < H.size → H1[q]? = H[q]?) : Rel G h H1 := by
  obtain ⟨L, h1, h2, h3⟩ := hR
  exact ⟨L, h1, h2.kept (fun k q hk => hq q.1 (h2 k q hk).lt), h3⟩
theorem cell_obj {G : GT} {h : Hp} {a x : Nat} (hx : x < 7) (ha : kd h a = x + 1) : cellOf G h a = .inr (x, flL h x a) := by
  unfold cellOf
  rw [if_neg (by omega), if_neg (by omega), if_neg (by omega), if_neg (by omega), if_neg (by omega), ha, Nat.add_sub_cancel]
theorem flL_at {h : Hp} {x a k : Nat} (hk : k < nF x) : (flL h x a)[k]? = some (fvV h x a k) := by
  unfold flL
  rw [List.getElem?_map, List.getElem?_range hk]
  rfl
theorem flL_len {h : Hp} {x a : Nat} : (flL h x a).length = nF x := by simp [flL]
theorem flL_set {h h' : Hp} {x a k : Nat} {v : Value} (hs : fvV h' x a k = v) (ho : ∀ j, j ≠ k → fvV h' x a j = fvV h x a j) : (flL h x a).set k v = flL h' x a := by
  apply List.ext_getElem?
  intro j
  by_cases hj : j < nF x
  · rw [flL_at hj]
    by_cases hjk : k = j
    · subst hjk
      rw [List.getElem?_set_self (by rw [flL_len]; exact hj), hs]
    · rw [List.getElem?_set_ne hjk, flL_at hj, ho j (fun q => hjk q.symm)]
  · rw [List.getElem?_eq_none (by rw [List.length_set, flL_len]; omega), List.getElem?_eq_none (by rw [flL_len]; omega)]
/-- one cell changes -/
theorem Rel.set {G : GT} {h h' : Hp} {L : List Nat} {a k : Nat} {e : va_E} {H1 : Heap} (h1 : ∀ a, kd h a ≠ 0 ↔ a ∈ L) (hD : va_D (AA G) ([] ++ va_pl L (cellOf G h))) (ha : kd h a ≠ 0) (hk : ([] ++ va_pl L (cellOf G h))[k]? = some (a, cellOf G h a))
    (hP1 : va_P G.1 vwCl (([] ++ va_pl L (cellOf G h)).set k (a, e)) H1) (hD1 : va_D (AA G) (([] ++ va_pl L (cellOf G h)).set k (a, e))) (hkd : ∀ q, kd h' q = kd h q) (hs : cellOf G h' a = e) (ho : ∀ q, q ≠ a → cellOf G h' q = cellOf G h q) : Rel G h' H1 := by
  have e1 : ([] ++ va_pl L (cellOf G h)).set k (a, e) = [] ++ va_pl L (cellOf G h') := by
    rw [va_pl_set hD ((h1 a).mp ha) hk]
    congr 1
    apply va_pl_congr
    intro q
    by_cases hq : q = a
    · subst hq; rw [va_up_self, hs]
    · rw [va_up_ne _ _ hq, ho q hq]
  rw [e1] at hP1 hD1
  exact ⟨L, fun q => by rw [hkd]; exact h1 q, hP1, hD1⟩
/-- one cell is made -/
theorem Rel.push {G : GT} {h h' : Hp} {L : List Nat} {a : Nat} {e : va_E} {H1 : Heap} (h1 : ∀ a, kd h a ≠ 0 ↔ a ∈ L) (ha : kd h a = 0)
    (hP1 : va_P G.1 vwCl (([] ++ va_pl L (cellOf G h)) ++ [(a, e)]) H1) (hD1 : va_D (AA G) (([] ++ va_pl L (cellOf G h)) ++ [(a, e)])) (hka : kd h' a ≠ 0) (hkd : ∀ q, q ≠ a → kd h' q = kd h q) (hs : cellOf G h' a = e) (ho : ∀ q, q ≠ a → cellOf G h' q = cellOf G h q) : Rel G h' H1 := by
  have hn : a ∉ L := fun q => (h1 a).mpr q ha
  have e1 : ([] ++ va_pl L (cellOf G h)) ++ [(a, e)] = [] ++ va_pl (L ++ [a]) (cellOf G h') := by
    rw [List.nil_append, List.nil_append, va_pl_push hn]
    apply va_pl_congr
    intro q
    by_cases hq : q = a
    · subst hq; rw [va_up_self, hs]
    · rw [va_up_ne _ _ hq, ho q hq]
  rw [e1] at hP1 hD1
  refine ⟨L ++ [a], fun q => ?_, hP1, hD1⟩
  by_cases hq : q = a
  · subst hq; simp [hka]
  · rw [hkd q hq, h1 q]; simp [hq]
theorem cell_ne {G : GT} {h h' : Hp} {q : Nat} (h1 : kd h' q = kd h q) (h2 : ln h' q = ln h q) (h3 : ia h' q = ia h q) (h4 : ja h' q = ja h q) (h5 : ra h' q = ra h q) (h6 : ∀ c k, fi h' c k q = fi h c k q) (h7 : ∀ c k, fr h' c k q = fr h c k q) : cellOf G h' q = cellOf G h q := by
  have e : ∀ c, flL h' c q = flL h c q := fun c => by
    unfold flL
    apply List.map_congr_left
    intro k _
    unfold fvV
    rw [h6, h7]
  unfold cellOf
  rw [h1, h2, h3, h5, e]
/-- what a call or an exception needs of the globals, at a later state -/
theorem Glob.at {G : GT} {s U : State} {H : Heap} {locs : List Loc} (h : Glob G s s.heap) (hS : va_S (AA G) s.heap H locs) (hU : U.heap = H) (hW : s.WarmedH U.vm) : Glob G U U.heap := h.moved hW (fun a h1 h2 => by rw [hU]; exact hS.2.1 a h1 h2)
theorem PcG.blind {G : GT} {As : List Value} {h : Hp} : FrameBlind (PcG G As h) := by
  intro a U g mk ⟨h1, h2, h3, h4, h5⟩
  exact ⟨h1, h2, h3.moved (U := U.calling g mk a) (State.WarmedH.refl U) (fun _ _ _ => rfl), h4, h5⟩
end
section
/-! ===== the steps that touch cells ===== -/
section STPA
variable {G : GT} {M : MI} {ini : Bool} {d : Nat} {P : Option Value → Hp → Prop} {PX : String → Hp → Prop}
variable {p : Program} {l : Launch} {e : Env} {R : Room} {s : State} {m : MethodId} {args : Array Value} {below : List Frame} {meth : Method} {c : Code} {Q : State → Prop} {H : Heap} {locs : List Loc} {cells slots : Nat} {la : Array Slot}
variable {pc : Nat} {ls : Ls} {st rest : List Value} {h : Hp} {b : Nat × Nat}
theorem fld_ok : flds.all (fun q => decide (q.2.1 < 7) && decide (q.2.2 < nF q.2.1) && (decide (Cond.fieldLink q.1.1 q.1.2 (clT q.2.1 q.2.2).1 (clT q.2.1 q.2.2).2.1 (clT q.2.1 q.2.2).2.2.1 ∈ gw) || (decide (Cond.fieldLink q.1.1 q.1.2 (nmOf q.2.1) (clT q.2.1 q.2.2).2.1 (clT q.2.1 q.2.2).2.2.1 ∈ gw) && decide (Cond.sameField (nmOf q.2.1) (clT q.2.1 q.2.2).1 (clT q.2.1 q.2.2).2.1 (clT q.2.1 q.2.2).2.2.1 ∈ gw)))) = true := by decide +kernel
theorem fld_link {own : String} {idx x y : Nat} {args : Array Value} {s : State} (hts : ∀ w ∈ gw, w.before args s = true) (hf : flds.lookup (own, idx) = some (x, y)) : x < 7 ∧ y < nF x ∧ ∃ ref, (Cond.fieldLink own idx ref (clT x y).2.1 (clT x y).2.2.1).before args s = true ∧ ∀ z, s.fieldFound? (clT x y).1 (clT x y).2.1 (clT x y).2.2.1 = some z → s.fieldFound? ref (clT x y).2.1 (clT x y).2.2.1 = some z := by
  have h1 := List.all_eq_true.mp fld_ok _ (lk_mem _ hf)
  simp only [Bool.and_eq_true, Bool.or_eq_true, decide_eq_true_eq] at h1
  obtain ⟨⟨h2, h3⟩, h4 | ⟨h4, h5⟩⟩ := h1
  · exact ⟨h2, h3, _, hts _ h4, fun z hz => hz⟩
  · exact ⟨h2, h3, _, hts _ h4, fun z hz => u_same (hts _ h5) z hz⟩
theorem rs_getfield {own : String} {pc idx x y : Nat} {v : Int32} {tg : List Nat} (hr : rsOf own pc (.getfield idx) = (x, y, v, tg)) (hx : x ≠ 99) : flds.lookup (own, idx) = some (x, y) := by
  have hr : (match flds.lookup (own, idx) with | some q => (q.1, q.2, (0 : Int32), ([] : List Nat)) | none => (99, 0, 0, [])) = (x, y, v, tg) := hr
  split at hr
  · rename_i q hq; cases hr; exact hq
  · cases hr; exact absurd rfl hx
theorem rs_putfield {own : String} {pc idx x y : Nat} {v : Int32} {tg : List Nat} (hr : rsOf own pc (.putfield idx) = (x, y, v, tg)) (hx : x ≠ 99) : flds.lookup (own, idx) = some (x, y) := by
  have hr : (match flds.lookup (own, idx) with | some q => (q.1, q.2, (0 : Int32), ([] : List Nat)) | none => (99, 0, 0, [])) = (x, y, v, tg) := hr
  split at hr
  · rename_i q hq; cases hr; exact hq
  · cases hr; exact absurd rfl hx
theorem nF_lt {x y : Nat} (h : y < nF x) : x < 7 := by
  rcases Nat.lt_or_ge x 7 with q | q
  · exact q
  · have : nF x = 0 := by
      unfold nF
      split <;> first | omega | rfl
    omega
theorem st_getfield {idx x y a : Nat} {v : Int32} {tg : List Nat} (hM : Mach G M ini d P PX p l e R s m args below meth c Q) (hR : Rel G h H) (hdec : decode M.2.1 pc = .ok (.getfield idx, 3)) (hr : rsOf M.1 pc (.getfield idx) = (x, y, v, tg)) (hk : kd h a = x + 1) (hy : y < nF x)
    (kk : W p l e R s m args below meth c H locs cells slots Q (F0 m (pc + 3) la (fvV h x a y :: rest))) : W p l e R s m args below meth c H locs cells slots Q (F0 m pc la (.ref a :: rest)) := by
  have hx7 := nF_lt hy
  obtain ⟨hx, hb, hml, hown, hts, hg, -⟩ := hM
  obtain ⟨-, -, ref, hl, hsame⟩ := fld_link hts (rs_getfield hr (by omega))
  obtain ⟨L, h1, h2, h3⟩ := hR
  obtain ⟨k, hk2⟩ := va_pl_get (X := []) (f := cellOf G h) ((h1 a).mp (by omega))
  rw [cell_obj hx7 hk] at hk2
  exact va_get hx hb (C := nmOf x) (T := clT x) (N := nF x) hts (cl_in x hx7) hown hg.1 h2 k hk2 (cl_at x hx7) y hy hl hsame (flL_at hy) hdec kk
theorem st_putfield {idx x y a : Nat} {v : Int32} {tg : List Nat} {w : Value} {h' : Hp} (hM : Mach G M ini d P PX p l e R s m args below meth c Q) (hR : Rel G h H) (hS : va_S (AA G) s.heap H locs) (hdec : decode M.2.1 pc = .ok (.putfield idx, 3)) (hr : rsOf M.1 pc (.putfield idx) = (x, y, v, tg)) (hk : kd h a = x + 1) (hy : y < nF x)
    (hfin : finF x y = true → ini = true ∧ mow M = nmOf x) (hn : narrow (clY x y) w = w) (hfit : fits (clY x y) w = true)
    (hkd : ∀ q, kd h' q = kd h q) (hs : fvV h' x a y = w) (hs2 : ∀ j, j ≠ y → fvV h' x a j = fvV h x a j) (ho : ∀ q, q ≠ a → cellOf G h' q = cellOf G h q)
    (kk : ∀ (H1 : Heap) (locs1 : List Loc), Rel G h' H1 → va_S (AA G) s.heap H1 locs1 → W p l e R s m args below meth c H1 locs1 cells slots Q (F0 m (pc + 3) la rest)) : W p l e R s m args below meth c H locs cells slots Q (F0 m pc la (w :: .ref a :: rest)) := by
  have hx7 := nF_lt hy
  obtain ⟨hx, hb, hml, hown, hts, hg, -, -, -, hini, -⟩ := hM
  obtain ⟨-, -, ref, hl, hsame⟩ := fld_link hts (rs_putfield hr (by omega))
  obtain ⟨L, h1, h2, h3⟩ := hR
  obtain ⟨k, hk0⟩ := va_pl_get (X := []) (f := cellOf G h) ((h1 a).mp (by omega))
  have hk2 := hk0
  rw [cell_obj hx7 hk] at hk2
  have hcl := cl_fin x hx7 y hy
  have hcell : cellOf G h' a = .inr (x, (flL h x a).set y w) := by
    rw [cell_obj hx7 (by rw [hkd]; exact hk), flL_set hs hs2]
  cases hf : finF x y with
  | false =>
    refine va_put hx hb (C := nmOf x) (T := clT x) (N := nF x) hts (cl_in x hx7) (clY x) (cl_ty x hx7) (cl_nm x hx7) hown hg.1 h2 h3 hS k hk2 (cl_at x hx7) y hy hl hsame (by rw [hcl.1, hf]) (cl_ty x hx7 y hy) hn hfit (by rw [flL_len]; exact hy) hdec (fun H1 locs1 hP1 hD1 hS1 => ?_)
    exact kk H1 locs1 (Rel.set h1 h3 (by omega) hk0 hP1 hD1 hkd hcell ho) hS1
  | true =>
    obtain ⟨q1, q2⟩ := hfin hf
    refine va_putF hx hb (C := nmOf x) (T := clT x) (N := nF x) hts (cl_in x hx7) (clY x) (cl_ty x hx7) (cl_nm x hx7) hown hg.1 h2 h3 hS k hk2 (cl_at x hx7) y hy hl hsame (by rw [hcl.1, hf]) (hini q1) (by rw [hcl.2 hf]; exact q2.symm) (cl_ty x hx7 y hy) hn hfit (by rw [flL_len]; exact hy) hdec (fun H1 locs1 hP1 hD1 hS1 => ?_)
    exact kk H1 locs1 (Rel.set h1 h3 (by omega) hk0 hP1 hD1 hkd hcell ho) hS1
/-! rows -/
theorem cell_I {a : Nat} (hk : kd h a = 21) : cellOf G h a = .inl (G.2.1.1, ln h a, .inl (ia h a)) := by unfold cellOf; rw [if_pos hk]
theorem cell_Z {a : Nat} (hk : kd h a = 22) : cellOf G h a = .inl (G.2.1.2.1, ln h a, .inl (ia h a)) := by unfold cellOf; rw [if_neg (by omega), if_pos hk]
theorem cell_J {a : Nat} (hk : kd h a = 23) : cellOf G h a = .inl (G.2.1.1, ln h a, .inl (ia h a)) := by unfold cellOf; rw [if_neg (by omega), if_neg (by omega), if_pos hk]
theorem cell_O {a : Nat} (hk : kd h a = 24) : cellOf G h a = .inl (G.2.1.2.2.2.1, ln h a, .inr (.inr (.inr (.inr (ra h a))))) := by unfold cellOf; rw [if_neg (by omega), if_neg (by omega), if_neg (by omega), if_pos hk]
theorem cell_M {a : Nat} (hk : kd h a = 25) : cellOf G h a = .inl (G.2.1.2.2.2.2, ln h a, .inr (.inr (.inr (.inr (ra h a))))) := by unfold cellOf; rw [if_neg (by omega), if_neg (by omega), if_neg (by omega), if_neg (by omega), if_pos hk]
theorem Rel.at {a : Nat} (hR : Rel G h H) (hk : kd h a ≠ 0) : ∃ (L : List Nat) (k : Nat), (∀ a, kd h a ≠ 0 ↔ a ∈ L) ∧ va_P G.1 vwCl ([] ++ va_pl L (cellOf G h)) H ∧ va_D (AA G) ([] ++ va_pl L (cellOf G h)) ∧ ([] ++ va_pl L (cellOf G h))[k]? = some (a, cellOf G h a) := by
  obtain ⟨L, h1, h2, h3⟩ := hR
  obtain ⟨k, hk2⟩ := va_pl_get (X := []) (f := cellOf G h) ((h1 a).mp hk)
  exact ⟨L, k, h1, h2, h3, hk2⟩
theorem st_iald {a : Nat} {j : Int32} (hM : Mach G M ini d P PX p l e R s m args below meth c Q) (hR : Rel G h H) (hdec : decode M.2.1 pc = .ok (.iaload, 1)) (hk : kd h a = 21) (hin : inR j (ln h a))
    (kk : W p l e R s m args below meth c H locs cells slots Q (F0 m (pc + 1) la (.int (ia h a j.toNatClampNeg) :: rest))) : W p l e R s m args below meth c H locs cells slots Q (F0 m pc la (.int j :: .ref a :: rest)) := by
  obtain ⟨L, k, h1, h2, h3, hk2⟩ := hR.at (a := a) (by omega)
  rw [cell_I hk] at hk2
  exact va_iald hM.1 hM.2.1 hM.2.2.2.2.2.1.1 h2 k 0 hk2 rfl hin hdec kk
theorem st_zald {a : Nat} {j : Int32} (hM : Mach G M ini d P PX p l e R s m args below meth c Q) (hR : Rel G h H) (hdec : decode M.2.1 pc = .ok (.baload, 1)) (hk : kd h a = 22) (hin : inR j (ln h a))
    (kk : W p l e R s m args below meth c H locs cells slots Q (F0 m (pc + 1) la (.int (ia h a j.toNatClampNeg) :: rest))) : W p l e R s m args below meth c H locs cells slots Q (F0 m pc la (.int j :: .ref a :: rest)) := by
  obtain ⟨L, k, h1, h2, h3, hk2⟩ := hR.at (a := a) (by omega)
  rw [cell_Z hk] at hk2
  exact va_zald hM.1 hM.2.1 hM.2.2.2.2.2.1.1 h2 k 1 hk2 rfl hin hdec kk
theorem st_aald {a : Nat} {j : Int32} (hM : Mach G M ini d P PX p l e R s m args below meth c Q) (hR : Rel G h H) (hdec : decode M.2.1 pc = .ok (.aaload, 1)) (hk : kd h a = 24) (hin : inR j (ln h a))
    (kk : W p l e R s m args below meth c H locs cells slots Q (F0 m (pc + 1) la (va_rf (ra h a j.toNatClampNeg) :: rest))) : W p l e R s m args below meth c H locs cells slots Q (F0 m pc la (.int j :: .ref a :: rest)) := by
  obtain ⟨L, k, h1, h2, h3, hk2⟩ := hR.at (a := a) (by omega)
  rw [cell_O hk] at hk2
  exact va_aldq hM.1 hM.2.1 hM.2.2.2.2.2.1.1 h2 k 3 hk2 rfl hin hdec kk
theorem st_mald {a : Nat} {j : Int32} (hM : Mach G M ini d P PX p l e R s m args below meth c Q) (hR : Rel G h H) (hdec : decode M.2.1 pc = .ok (.aaload, 1)) (hk : kd h a = 25) (hin : inR j (ln h a))
    (kk : W p l e R s m args below meth c H locs cells slots Q (F0 m (pc + 1) la (va_rf (ra h a j.toNatClampNeg) :: rest))) : W p l e R s m args below meth c H locs cells slots Q (F0 m pc la (.int j :: .ref a :: rest)) := by
  obtain ⟨L, k, h1, h2, h3, hk2⟩ := hR.at (a := a) (by omega)
  rw [cell_M hk] at hk2
  have hlt : j.toNatClampNeg < ln h a := Nat.not_le.mp fun q => hin (Or.inr q)
  exact W.aald (v := va_rf (ra h a j.toNatClampNeg)) (ty := .array .int) hM.1 hM.2.1 (h2 k _ hk2) ((hM.2.2.2.2.2.1.1.2 4 _ rfl).1 (ln h a) (fun j => va_rf (ra h a j))) rfl (fun q => by cases q) (by show ¬ (j < 0 ∨ (arrV _ _ _).slots.size ≤ _); rw [arrV_size]; exact hin) (by show (arrV _ _ _).slots[_]? = _; rw [arrV_read _ _ hlt]) rfl rfl hdec kk
theorem kd_ne {h : Hp} {q a : Nat} (h1 : kd h q ≠ kd h a) : q ≠ a := fun z => h1 (by rw [z])
theorem setIA_o {a i : Nat} {v : Int32} {q : Nat} (hq : q ≠ a) : cellOf G (setIA h a i v) q = cellOf G h q := cell_ne rfl rfl (by funext i'; rw [ia_setIA, if_neg (fun z => hq z.1)]) rfl rfl (fun _ _ => rfl) (fun _ _ => rfl)
theorem setLA_o {a i : Nat} {v : Int64} {q : Nat} (hq : q ≠ a) : cellOf G (setLA h a i v) q = cellOf G h q := cell_ne rfl rfl rfl (by funext i'; rw [ja_setLA, if_neg (fun z => hq z.1)]) rfl (fun _ _ => rfl) (fun _ _ => rfl)
theorem setRA_o {a i : Nat} {v : Option Nat} {q : Nat} (hq : q ≠ a) : cellOf G (setRA h a i v) q = cellOf G h q := cell_ne rfl rfl rfl rfl (by funext i'; rw [ra_setRA, if_neg (fun z => hq z.1)]) (fun _ _ => rfl) (fun _ _ => rfl)
theorem cpRA_o {a0 a sp dp n : Nat} {q : Nat} (hq : q ≠ a) : cellOf G (cpRA h a0 a sp dp n) q = cellOf G h q := cell_ne rfl rfl rfl rfl (by funext i'; rw [ra_cpRA, if_neg (fun z => hq z.1)]) (fun _ _ => rfl) (fun _ _ => rfl)
theorem cpIA_o {a0 a sp dp n : Nat} {q : Nat} (hq : q ≠ a) : cellOf G (cpIA h a0 a sp dp n) q = cellOf G h q := cell_ne rfl rfl (by funext i'; rw [ia_cpIA, if_neg (fun z => hq z.1)]) rfl rfl (fun _ _ => rfl) (fun _ _ => rfl)
theorem setI_o {c k a : Nat} {v : Int32} {q : Nat} (hq : q ≠ a) : cellOf G (setI h c k a v) q = cellOf G h q := cell_ne rfl rfl rfl rfl rfl (fun _ _ => by rw [fi_setI, if_neg (fun z => hq z.2.2)]) (fun _ _ => rfl)
theorem setR_o {c k a : Nat} {v : Option Nat} {q : Nat} (hq : q ≠ a) : cellOf G (setR h c k a v) q = cellOf G h q := cell_ne rfl rfl rfl rfl rfl (fun _ _ => rfl) (fun _ _ => by rw [fr_setR, if_neg (fun z => hq z.2.2)])
theorem newO_o {a c : Nat} {q : Nat} (hq : q ≠ a) : cellOf G (newO h a c) q = cellOf G h q := cell_ne (by rw [kd_newO, if_neg hq]) rfl rfl rfl rfl (fun _ _ => by rw [fi_newO, if_neg hq]) (fun _ _ => by rw [fr_newO, if_neg hq])
theorem newA_o {a t n : Nat} {q : Nat} (hq : q ≠ a) : cellOf G (newA h a t n) q = cellOf G h q := cell_ne (by rw [kd_newA, if_neg hq]) (by rw [ln_newA, if_neg hq]) (by funext i'; rw [ia_newA, if_neg hq]) (by funext i'; rw [ja_newA, if_neg hq]) (by funext i'; rw [ra_newA, if_neg hq]) (fun _ _ => rfl) (fun _ _ => rfl)
theorem st_iast {a : Nat} {j w : Int32} (hM : Mach G M ini d P PX p l e R s m args below meth c Q) (hR : Rel G h H) (hS : va_S (AA G) s.heap H locs) (hdec : decode M.2.1 pc = .ok (.iastore, 1)) (hk : kd h a = 21) (hin : inR j (ln h a))
    (kk : ∀ (H1 : Heap) (locs1 : List Loc), Rel G (setIA h a j.toNatClampNeg w) H1 → va_S (AA G) s.heap H1 locs1 → W p l e R s m args below meth c H1 locs1 cells slots Q (F0 m (pc + 1) la rest)) : W p l e R s m args below meth c H locs cells slots Q (F0 m pc la (.int w :: .int j :: .ref a :: rest)) := by
  obtain ⟨L, k, h1, h2, h3, hk2⟩ := hR.at (a := a) (by omega)
  have hk0 := hk2
  rw [cell_I hk] at hk2
  refine va_iast hM.1 hM.2.1 hM.2.2.2.2.2.1.1 h2 h3 hS k 0 hk2 rfl hin hdec (fun H1 locs1 hP1 hD1 hS1 => kk H1 locs1 ?_ hS1)
  refine Rel.set h1 h3 (by omega) hk0 hP1 hD1 (fun _ => rfl) ?_ (fun q hq => setIA_o hq)
  have he : ia (setIA h a j.toNatClampNeg w) a = upd (ia h a) j.toNatClampNeg w := by
    funext i'
    rw [ia_setIA]
    simp [upd]
  rw [cell_I (show kd (setIA h a j.toNatClampNeg w) a = 21 from hk), he]
  rfl
theorem st_zast {a : Nat} {j w : Int32} (hM : Mach G M ini d P PX p l e R s m args below meth c Q) (hR : Rel G h H) (hS : va_S (AA G) s.heap H locs) (hdec : decode M.2.1 pc = .ok (.bastore, 1)) (hk : kd h a = 22) (hin : inR j (ln h a)) (hw : w = 0 ∨ w = 1)
    (kk : ∀ (H1 : Heap) (locs1 : List Loc), Rel G (setIA h a j.toNatClampNeg w) H1 → va_S (AA G) s.heap H1 locs1 → W p l e R s m args below meth c H1 locs1 cells slots Q (F0 m (pc + 1) la rest)) : W p l e R s m args below meth c H locs cells slots Q (F0 m pc la (.int w :: .int j :: .ref a :: rest)) := by
  obtain ⟨L, k, h1, h2, h3, hk2⟩ := hR.at (a := a) (by omega)
  have hk0 := hk2
  rw [cell_Z hk] at hk2
  have hb : vp_nar .boolean w = w := by rcases hw with rfl | rfl <;> rfl
  refine va_zast hM.1 hM.2.1 hM.2.2.2.2.2.1.1 h2 h3 hS k 1 hk2 rfl hin hdec (fun H1 locs1 hP1 hD1 hS1 => kk H1 locs1 ?_ hS1)
  refine Rel.set h1 h3 (by omega) hk0 hP1 hD1 (fun _ => rfl) ?_ (fun q hq => setIA_o hq)
  have he : ia (setIA h a j.toNatClampNeg w) a = upd (ia h a) j.toNatClampNeg w := by
    funext i'
    rw [ia_setIA]
    simp [upd]
  rw [cell_Z (show kd (setIA h a j.toNatClampNeg w) a = 22 from hk), hb, he]
  rfl
theorem st_aast {a w : Nat} {j : Int32} (hM : Mach G M ini d P PX p l e R s m args below meth c Q) (hR : Rel G h H) (hS : va_S (AA G) s.heap H locs) (hdec : decode M.2.1 pc = .ok (.aastore, 1)) (hk : kd h a = 24) (hin : inR j (ln h a)) (hw : kd h w = 2 ∨ kd h w = 3 ∨ kd h w = 4)
    (kk : ∀ (H1 : Heap) (locs1 : List Loc), Rel G (setRA h a j.toNatClampNeg (some w)) H1 → va_S (AA G) s.heap H1 locs1 → W p l e R s m args below meth c H1 locs1 cells slots Q (F0 m (pc + 1) la rest)) : W p l e R s m args below meth c H locs cells slots Q (F0 m pc la (.ref w :: .int j :: .ref a :: rest)) := by
  obtain ⟨L, k, h1, h2, h3, hk2⟩ := hR.at (a := a) (by omega)
  have hk0 := hk2
  rw [cell_O hk] at hk2
  obtain ⟨kw, hkw⟩ := va_pl_get (X := []) (f := cellOf G h) ((h1 w).mp (by omega))
  rw [cell_obj (x := kd h w - 1) (by omega) (by omega)] at hkw
  have hcast : va_Nw (.castable (nmOf (kd h w - 1)) "java/lang/Object") s := by
    refine hM.2.2.2.2.2.1.2.2.2.2.1 _ ?_
    rcases hw with q | q | q <;> rw [q] <;> decide +kernel
  refine va_astqO (r := (nmOf (kd h w - 1), clT (kd h w - 1), nF (kd h w - 1))) hM.1 hM.2.1 hM.2.2.2.2.2.1.1 h2 h3 hS k 3 kw (kd h w - 1) hk2 rfl hcast hkw (cl_at _ (by omega)) hin hdec (fun H1 locs1 hP1 hD1 hS1 => kk H1 locs1 ?_ hS1)
  refine Rel.set h1 h3 (by omega) hk0 hP1 hD1 (fun _ => rfl) ?_ (fun q hq => setRA_o hq)
  have he : ra (setRA h a j.toNatClampNeg (some w)) a = va_up (ra h a) j.toNatClampNeg (some w) := by
    funext i'
    rw [ra_setRA]
    simp [va_up]
  rw [cell_O (show kd (setRA h a j.toNatClampNeg (some w)) a = 24 from hk), he]
  rfl
theorem assign_self (vm : Vm) (c : ClassId) : vm.assignable c c = true := by
  show vm.assignableAux (255 + 1) c c = true
  rw [Vm.assignableAux]
  simp
theorem st_mast {a w : Nat} {j : Int32} (hM : Mach G M ini d P PX p l e R s m args below meth c Q) (hR : Rel G h H) (hS : va_S (AA G) s.heap H locs) (hdec : decode M.2.1 pc = .ok (.aastore, 1)) (hk : kd h a = 25) (hin : inR j (ln h a)) (hw : kd h w = 21)
    (kk : ∀ (H1 : Heap) (locs1 : List Loc), Rel G (setRA h a j.toNatClampNeg (some w)) H1 → va_S (AA G) s.heap H1 locs1 → W p l e R s m args below meth c H1 locs1 cells slots Q (F0 m (pc + 1) la rest)) : W p l e R s m args below meth c H locs cells slots Q (F0 m pc la (.ref w :: .int j :: .ref a :: rest)) := by
  obtain ⟨L, k, h1, h2, h3, hk2⟩ := hR.at (a := a) (by omega)
  have hk0 := hk2
  rw [cell_M hk] at hk2
  obtain ⟨kw, hkw⟩ := va_pl_get (X := []) (f := cellOf G h) ((h1 w).mp (by omega))
  rw [cell_I hw] at hkw
  have hlt : j.toNatClampNeg < ln h a := Nat.not_le.mp fun q => hin (Or.inr q)
  have hj0 : ¬ j < 0 := fun q => hin (Or.inl q)
  have hg := hM.2.2.2.2.2.1
  obtain ⟨comp, cA, kA, f1, -, f2, f3, f4⟩ := arrayOverA_spec hg.2.2.2.2.2.2.2.2.2.2.2.2
  have eA : cA = G.2.1.2.2.2.2 := Option.some.inj (f4.symm.trans (hg.1.2 4 _ rfl).2)
  have eI : comp = G.2.1.1 := Option.some.inj (f1.symm.trans (hg.1.2 0 _ rfl).2)
  subst eA
  subst eI
  obtain ⟨kI, hkI, -⟩ := Vm.findClass_spec f1
  have hcw := h2 kw _ hkw
  have hca := h2 k _ hk2
  refine W.aast (cv := vp_cell G.2.1.1 (ln h w, .inl (ia h w))) hM.1 hM.2.1 hca (fun q z => by cases z) (fun z => by cases z) f2 f3 rfl hkI ⟨hj0, by show _ < (arrV _ _ _).slots.size; rw [arrV_size]; exact hlt⟩ hcw (fun q z => by cases z) hkI (assign_self _ _) rfl rfl hdec fun H1 ee z oq => ?_
  refine kk H1 _ (Rel.set h1 h3 (by omega) hk0 (h2.set (e := .inl (G.2.1.2.2.2.2, ln h a, .inr (.inr (.inr (.inr (va_up (ra h a) j.toNatClampNeg (some w))))))) h3 hk2 ?_ oq) (h3.set hk2) (fun _ => rfl) ?_ (fun q hq => setRA_o hq)) (hS.put z oq (h3.2 k _ hk2))
  · show H1[a]? = some (vp_cell _ _)
    rw [ee]
    rw [vp_cell_q, vp_cell_q, arrV_store]
    congr 2
    funext q
    by_cases hq : q = j.toNatClampNeg
    · subst hq
      simp [updV, va_up, va_rf]
    · simp [updV, va_up, hq]
  · have he : ra (setRA h a j.toNatClampNeg (some w)) a = va_up (ra h a) j.toNatClampNeg (some w) := by
      funext i'
      rw [ra_setRA]
      simp [va_up]
    rw [cell_M (show kd (setRA h a j.toNatClampNeg (some w)) a = 25 from hk), he]
    rfl
theorem st_mlen {a : Nat} (hM : Mach G M ini d P PX p l e R s m args below meth c Q) (hR : Rel G h H) (hdec : decode M.2.1 pc = .ok (.arraylength, 1)) (hk : kd h a = 25)
    (kk : W p l e R s m args below meth c H locs cells slots Q (F0 m (pc + 1) la (.int (nI (ln h a)) :: rest))) : W p l e R s m args below meth c H locs cells slots Q (F0 m pc la (.ref a :: rest)) := by
  obtain ⟨L, k, h1, h2, h3, hk2⟩ := hR.at (a := a) (by omega)
  rw [cell_M hk] at hk2
  exact va_alen hM.1 hM.2.1 hM.2.2.2.2.2.1.1 h2 k 4 hk2 rfl rfl hdec kk
theorem st_alen {a : Nat} (hM : Mach G M ini d P PX p l e R s m args below meth c Q) (hR : Rel G h H) (hdec : decode M.2.1 pc = .ok (.arraylength, 1)) (hk : 21 ≤ kd h a ∧ kd h a ≤ 24)
    (kk : W p l e R s m args below meth c H locs cells slots Q (F0 m (pc + 1) la (.int (nI (ln h a)) :: rest))) : W p l e R s m args below meth c H locs cells slots Q (F0 m pc la (.ref a :: rest)) := by
  obtain ⟨L, k, h1, h2, h3, hk2⟩ := hR.at (a := a) (by omega)
  rcases (show kd h a = 21 ∨ kd h a = 22 ∨ kd h a = 23 ∨ kd h a = 24 by omega) with q | q | q | q
  · rw [cell_I q] at hk2; exact va_alen hM.1 hM.2.1 hM.2.2.2.2.2.1.1 h2 k 0 hk2 rfl rfl hdec kk
  · rw [cell_Z q] at hk2; exact va_alen hM.1 hM.2.1 hM.2.2.2.2.2.1.1 h2 k 1 hk2 rfl rfl hdec kk
  · rw [cell_J q] at hk2; exact va_alen hM.1 hM.2.1 hM.2.2.2.2.2.1.1 h2 k 2 hk2 rfl rfl hdec kk
  · rw [cell_O q] at hk2; exact va_alen hM.1 hM.2.1 hM.2.2.2.2.2.1.1 h2 k 3 hk2 rfl rfl hdec kk
theorem Rel.recv {a : Nat} (hM : Mach G M ini d P PX p l e R s m args below meth c Q) (hR : Rel G h H) (hk : kd h a ≠ 0) (h7 : kd h a - 1 < 7) : ∃ cell : Cell, H[a]? = some cell ∧ cell.vm.isStatics = false ∧ s.vm.findClass (nmOf (kd h a - 1)) = some cell.cls := by
  obtain ⟨L, k, h1, h2, h3, hk2⟩ := hR.at hk
  rw [cell_obj h7 (by omega)] at hk2
  exact va_recv hM.2.2.2.2.2.1.1 h2 (cl_at _ h7) hk2
end STPA
end
section
/-! ===== steps that make cells, calls, throws ===== -/
theorem ia_new0 {h : Hp} {a t n : Nat} : ia (newA h a t n) a = fun _ => 0 := by
  funext i
  rw [ia_newA, if_pos rfl]
theorem ja_new0 {h : Hp} {a t n : Nat} : ja (newA h a t n) a = fun _ => 0 := by
  funext i
  rw [ja_newA, if_pos rfl]
theorem ra_new0 {h : Hp} {a t n : Nat} : ra (newA h a t n) a = fun _ => none := by
  funext i
  rw [ra_newA, if_pos rfl]
theorem fcls_inj {s : State} {n : String} {a b : ClassId} (h1 : s.vm.findClass n = some a) (h2 : s.vm.findClass n = some b) : a = b := Option.some.inj (h1.symm.trans h2)
theorem rs_new {own : String} {pc idx x y : Nat} {v : Int32} {tg : List Nat} (hr : rsOf own pc (.new idx) = (x, y, v, tg)) (hx : x ≠ 99) : clss.lookup (own, idx) = some x := by
  have hr : (match clss.lookup (own, idx) with | some q => (q, (0 : Nat), (0 : Int32), ([] : List Nat)) | none => (99, 0, 0, [])) = (x, y, v, tg) := hr
  split at hr
  · rename_i q hq; cases hr; exact hq
  · cases hr; exact absurd rfl hx
theorem rs_anew {own : String} {pc idx x y : Nat} {v : Int32} {tg : List Nat} (hr : rsOf own pc (.anewarray idx) = (x, y, v, tg)) (hx : x ≠ 99) : clss.lookup (own, idx) = some x := by
  have hr : (match clss.lookup (own, idx) with | some q => (q, (0 : Nat), (0 : Int32), ([] : List Nat)) | none => (99, 0, 0, [])) = (x, y, v, tg) := hr
  split at hr
  · rename_i q hq; cases hr; exact hq
  · cases hr; exact absurd rfl hx
theorem rs_cast {own : String} {pc idx x y : Nat} {v : Int32} {tg : List Nat} (hr : rsOf own pc (.checkcast idx) = (x, y, v, tg)) (hx : x ≠ 99) : clss.lookup (own, idx) = some x := by
  have hr : (match clss.lookup (own, idx) with | some q => (q, (0 : Nat), (0 : Int32), ([] : List Nat)) | none => (99, 0, 0, [])) = (x, y, v, tg) := hr
  split at hr
  · rename_i q hq; cases hr; exact hq
  · cases hr; exact absurd rfl hx
theorem rs_ldc {own : String} {pc idx x y : Nat} {v : Int32} {tg : List Nat} (hr : rsOf own pc (.ldc idx) = (x, y, v, tg)) (hx : x ≠ 99) (hx2 : x ≠ 98) : clss.lookup (own, idx) = some x := by
  have hr : (match clss.lookup (own, idx) with | some q => (q, (0 : Nat), (0 : Int32), ([] : List Nat)) | none => (match icns.lookup (own, idx) with | some v => (98, 0, v, []) | none => (99, 0, 0, []))) = (x, y, v, tg) := hr
  split at hr
  · rename_i q hq; cases hr; exact hq
  · split at hr
    · cases hr; exact absurd rfl hx2
    · cases hr; exact absurd rfl hx
theorem clss_98 : clss.all (fun q => decide (q.2 ≠ 98)) = true := by decide +kernel
theorem rs_ldci {own : String} {pc idx y : Nat} {v : Int32} {tg : List Nat} (hr : rsOf own pc (.ldc idx) = (98, y, v, tg)) : icns.lookup (own, idx) = some v := by
  have hr : (match clss.lookup (own, idx) with | some q => (q, (0 : Nat), (0 : Int32), ([] : List Nat)) | none => (match icns.lookup (own, idx) with | some v => (98, 0, v, []) | none => (99, 0, 0, []))) = (98, y, v, tg) := hr
  split at hr
  · rename_i q hq
    have h1 := List.all_eq_true.mp clss_98 _ (lk_mem _ hq)
    have h2 : q = 98 := congrArg Prod.fst hr
    simp [h2] at h1
  · split at hr
    · rename_i w hw
      have h2 : w = v := congrArg (fun z => z.2.2.1) hr
      rw [← h2]
      exact hw
    · cases hr
theorem rs_mna {own : String} {pc idx dm x y : Nat} {v : Int32} {tg : List Nat} (hr : rsOf own pc (.multianewarray idx dm) = (x, y, v, tg)) (hx : x ≠ 99) : clss.lookup (own, idx) = some x := by
  have hr : (match clss.lookup (own, idx) with | some q => (q, (0 : Nat), (0 : Int32), ([] : List Nat)) | none => (99, 0, 0, [])) = (x, y, v, tg) := hr
  split at hr
  · rename_i q hq; cases hr; exact hq
  · cases hr; exact absurd rfl hx
theorem rs_ldc2 {own : String} {pc idx x : Nat} {v : Int32} {tg : List Nat} (hr : rsOf own pc (.ldc2_w idx) = (x, 1, v, tg)) : lcns.lookup (own, idx) = some x := by
  have hr : (match lcns.lookup (own, idx) with | some q => (q, (1 : Nat), (0 : Int32), ([] : List Nat)) | none => (0, 0, 0, [])) = (x, 1, v, tg) := hr
  split at hr
  · rename_i q hq; cases hr; exact hq
  · cases hr
theorem cls_ok : clss.all (fun q => decide (Cond.classLink q.1.1 q.1.2 (nmOf q.2) ∈ gw)) = true := by decide +kernel
theorem ldc_word : Cond.constant RJ8 200 2147483639 ∈ gw := by decide +kernel
theorem lcn_ok : lcns.all (fun q => decide (Cond.constantLong q.1.1 q.1.2 (Int64.ofNat q.2) ∈ gw)) = true := by decide +kernel
theorem icn_ok : icns.all (fun q => decide (Cond.constant q.1.1 q.1.2 q.2 ∈ gw)) = true := by decide +kernel
theorem icn_link {own : String} {idx : Nat} {v : Int32} (hf : icns.lookup (own, idx) = some v) : Cond.constant own idx v ∈ gw := by
  have h1 := List.all_eq_true.mp icn_ok _ (lk_mem _ hf)
  simpa only [decide_eq_true_eq] using h1
theorem cls_link {own : String} {idx x : Nat} (hf : clss.lookup (own, idx) = some x) : Cond.classLink own idx (nmOf x) ∈ gw := by
  have h1 := List.all_eq_true.mp cls_ok _ (lk_mem _ hf)
  simpa only [decide_eq_true_eq] using h1
theorem lcn_link {own : String} {idx x : Nat} (hf : lcns.lookup (own, idx) = some x) : Cond.constantLong own idx (Int64.ofNat x) ∈ gw := by
  have h1 := List.all_eq_true.mp lcn_ok _ (lk_mem _ hf)
  simpa only [decide_eq_true_eq] using h1
theorem cl_ini : ∀ x, x < 7 → (Cond.initialized (nmOf x) ∈ gw) ∧ (Cond.instantiable (nmOf x) (nF x) ∈ gw) := lt7 (by decide +kernel) (by decide +kernel) (by decide +kernel) (by decide +kernel) (by decide +kernel) (by decide +kernel) (by decide +kernel)
theorem cl_def : ∀ x, x < 7 → ∀ k, k < nF x → defaultValue (clY x k) = if refF x k = true then .null else .int 0 := lt7 (by decide +kernel) (by decide +kernel) (by decide +kernel) (by decide +kernel) (by decide +kernel) (by decide +kernel) (by decide +kernel)
theorem arr_words : Cond.arrayClass .int ∈ gw ∧ Cond.arrayClass .boolean ∈ gw := by decide +kernel
section STPB
variable {G : GT} {M : MI} {ini : Bool} {d : Nat} {P : Option Value → Hp → Prop} {PX : String → Hp → Prop}
variable {p : Program} {l : Launch} {e : Env} {R : Room} {s : State} {m : MethodId} {args : Array Value} {below : List Frame} {meth : Method} {c : Code} {Q : State → Prop} {H : Heap} {locs : List Loc} {cells slots : Nat} {la : Array Slot}
variable {pc : Nat} {ls : Ls} {st rest : List Value} {h : Hp} {b : Nat × Nat}
theorem Mach.A {q : Nat} (hM : Mach G M ini d P PX p l e R s m args below meth c Q) (hq : s.heap.size ≤ q) : AA G q := Nat.le_trans hM.2.2.2.2.2.2.2.2.2.2.1 hq
theorem fresh_kd {a : Nat} (hP1 : va_P G.1 vwCl ([] ++ va_pl [] (cellOf G h)) H) (hR : Rel G h H) (ha : ¬ a < H.size) : kd h a = 0 := by
  rcases Nat.eq_zero_or_pos (kd h a) with q | q
  · exact q
  · exact absurd (hR.lt (by omega)).1 ha
theorem fresh_of {L : List Nat} {f : Nat → va_E} {a : Nat} {ee : va_E} (hR1 : ∀ a, kd h a ≠ 0 ↔ a ∈ L) (hD : va_D (AA G) (([] ++ va_pl L f) ++ [(a, ee)])) : kd h a = 0 := by
  rcases Nat.eq_zero_or_pos (kd h a) with q | q
  · exact q
  · exfalso
    obtain ⟨k, hk⟩ := va_pl_get (X := []) (f := f) ((hR1 a).mp (by omega))
    have hl := (List.getElem?_eq_some_iff.mp hk).1
    have h1 : (([] ++ va_pl L f) ++ [(a, ee)])[k]? = some (a, f a) := by rw [List.getElem?_append_left hl]; exact hk
    have h2 : (([] ++ va_pl L f) ++ [(a, ee)])[([] ++ va_pl L f).length]? = some (a, ee) := by rw [List.getElem?_append_right (Nat.le_refl _), Nat.sub_self]; rfl
    have := hD.1 _ _ _ _ h1 h2 rfl
    omega
theorem AA_of {L : List Nat} {f : Nat → va_E} {a : Nat} {ee : va_E} (hD : va_D (AA G) (([] ++ va_pl L f) ++ [(a, ee)])) : AA G a := by
  have h2 : (([] ++ va_pl L f) ++ [(a, ee)])[([] ++ va_pl L f).length]? = some (a, ee) := by rw [List.getElem?_append_right (Nat.le_refl _), Nat.sub_self]; rfl
  exact hD.2 _ _ h2
theorem st_new {idx x y : Nat} {v : Int32} {tg : List Nat} (hM : Mach G M ini d P PX p l e R s m args below meth c Q) (hR : Rel G h H) (hS : va_S (AA G) s.heap H locs) (hdec : decode M.2.1 pc = .ok (.new idx, 3)) (hr : rsOf M.1 pc (.new idx) = (x, y, v, tg)) (hx7 : x < 7)
    (hc : cells + 1 ≤ R.cells) (hs : slots + nF x ≤ R.slots)
    (kk : ∀ (a : Nat) (H1 : Heap), kd h a = 0 → a ≠ G.2.2.1.2.1 → Rel G (newO h a x) H1 → va_S (AA G) s.heap H1 locs → W p l e R s m args below meth c H1 locs (cells + 1) (slots + nF x) Q (F0 m (pc + 3) la (.ref a :: rest))) : W p l e R s m args below meth c H locs cells slots Q (F0 m pc la rest) := by
  have hA : ∀ q, s.heap.size ≤ q → AA G q := fun q hq => hM.A hq
  obtain ⟨hx, hb, hml, hown, hts, hg, h7, h8, h9, h10, h11, h12, -⟩ := hM
  obtain ⟨L, h1, h2, h3⟩ := hR
  refine va_new (T := clT x) (N := nF x) (C := nmOf x) (fs := flL (newO h (H.size) x) x H.size) hx hb hts (cl_in x hx7) (clY x) (cl_ty x hx7) hown (hts _ (cls_link (rs_new hr (by omega)))) (hts _ (cl_ini x hx7).2) (hts _ (cl_ini x hx7).1) hg.1 h2 h3 hS hA (cl_at x hx7) (fun j hj => ?_) hc hs hdec (fun q H1 hP1 hD1 hS1 => ?_)
  · rw [cl_def x hx7 j hj]
    unfold vp_V
    rw [List.getD_eq_getElem?_getD, flL_at hj, Option.getD_some, fvV, fr_newO, if_pos rfl, fi_newO, if_pos rfl]
    cases hrf : refF x j <;> simp [va_rf]
  · have hk := fresh_of h1 hD1
    have hq := AA_of hD1
    have hfl : flL (newO h H.size x) x H.size = flL (newO h q x) x q := by
      unfold flL
      apply List.map_congr_left
      intro k _
      unfold fvV
      rw [fr_newO, if_pos rfl, fi_newO, if_pos rfl, fr_newO, if_pos rfl, fi_newO, if_pos rfl]
    have hne : q ≠ G.2.2.1.2.1 := fun z => by
      have h13 : G.2.2.1.1 ≤ q := hq
      omega
    refine kk q H1 hk hne (Rel.push h1 hk hP1 hD1 (by rw [kd_newO, if_pos rfl]; omega) (fun z hz => by rw [kd_newO, if_neg hz]) ?_ (fun z hz => newO_o hz)) hS1
    rw [cell_obj hx7 (by rw [kd_newO, if_pos rfl]), hfl]
theorem st_newarr {t : ArrayType} {n : Int32} (hM : Mach G M ini d P PX p l e R s m args below meth c Q) (hR : Rel G h H) (hS : va_S (AA G) s.heap H locs) (hdec : decode M.2.1 pc = .ok (.newarray t, 2)) (ht : t = .int ∨ t = .boolean) (hn : ¬ n < 0) (hN : n.toNatClampNeg ≤ 5000)
    (hc : cells + 1 ≤ R.cells) (hs : slots + n.toNatClampNeg ≤ R.slots)
    (kk : ∀ (a : Nat) (H1 : Heap), kd h a = 0 → a ≠ G.2.2.1.2.1 → Rel G (newA h a (if t = .int then 21 else if t = .boolean then 22 else 23) n.toNatClampNeg) H1 → va_S (AA G) s.heap H1 locs → W p l e R s m args below meth c H1 locs (cells + 1) (slots + n.toNatClampNeg) Q (F0 m (pc + 2) la (.ref a :: rest))) : W p l e R s m args below meth c H locs cells slots Q (F0 m pc la (.int n :: rest)) := by
  have hA : ∀ q, s.heap.size ≤ q → AA G q := fun q hq => hM.A hq
  obtain ⟨hx, hb, hml, hown, hts, hg, h7, h8, h9, h10, h11, h12, -⟩ := hM
  obtain ⟨L, h1, h2, h3⟩ := hR
  have fin : ∀ (kn : Nat) (cA : ClassId) (a0 : vp_A) (q : Nat) (H1 : Heap), kn ≠ 0 → (cellOf G (newA h q kn n.toNatClampNeg) q = .inl (cA, a0)) → va_P G.1 vwCl (([] ++ va_pl L (cellOf G h)) ++ [(q, .inl (cA, a0))]) H1 → va_D (AA G) (([] ++ va_pl L (cellOf G h)) ++ [(q, .inl (cA, a0))]) → kd h q = 0 ∧ q ≠ G.2.2.1.2.1 ∧ Rel G (newA h q kn n.toNatClampNeg) H1 := by
    intro kn cA a0 q H1 hkn hcell hP1 hD1
    have hk := fresh_of h1 hD1
    have hq : G.2.2.1.1 ≤ q := AA_of hD1
    exact ⟨hk, fun z => by omega, Rel.push h1 hk hP1 hD1 (by rw [kd_newA, if_pos rfl]; exact hkn) (fun z hz => by rw [kd_newA, if_neg hz]) hcell (fun z hz => newA_o hz)⟩
  rcases ht with rfl | rfl
  · refine va_newa (atype := .int) (a0 := (n.toNatClampNeg, .inl (fun _ => 0))) hx hb (hts _ arr_words.1) rfl hg.1 h2 h3 hS hA (fun cA => rfl) hn rfl (by show _ * 4 ≤ _; omega) hc hs hdec (fun q cA H1 hK1 hP1 hD1 hS1 => ?_)
    have e1 : cA = G.2.1.1 := fcls_inj (hK1.2 5 _ rfl).2 (hg.1.2 0 _ rfl).2
    subst e1
    obtain ⟨f1, f2, f3⟩ := fin 21 _ _ q H1 (by omega) (by rw [cell_I (by rw [kd_newA, if_pos rfl]), ln_newA, if_pos rfl, ia_new0]) hP1 hD1
    exact kk q H1 f1 f2 f3 hS1
  · refine va_newa (atype := .boolean) (a0 := (n.toNatClampNeg, .inl (fun _ => 0))) hx hb (hts _ arr_words.2) rfl hg.1 h2 h3 hS hA (fun cA => rfl) hn rfl (by show _ * 1 ≤ _; omega) hc hs hdec (fun q cA H1 hK1 hP1 hD1 hS1 => ?_)
    have e1 : cA = G.2.1.2.1 := fcls_inj (hK1.2 5 _ rfl).2 (hg.1.2 1 _ rfl).2
    subst e1
    obtain ⟨f1, f2, f3⟩ := fin 22 _ _ q H1 (by omega) (by rw [cell_Z (by rw [kd_newA, if_pos rfl]), ln_newA, if_pos rfl, ia_new0]) hP1 hD1
    exact kk q H1 f1 f2 f3 hS1
theorem st_anew {idx x y : Nat} {v : Int32} {tg : List Nat} {n : Int32} (hM : Mach G M ini d P PX p l e R s m args below meth c Q) (hR : Rel G h H) (hS : va_S (AA G) s.heap H locs) (hdec : decode M.2.1 pc = .ok (.anewarray idx, 3)) (hr : rsOf M.1 pc (.anewarray idx) = (x, y, v, tg)) (hx61 : x = 61) (hn : ¬ n < 0) (hN : n.toNatClampNeg ≤ 5000)
    (hc : cells + 1 ≤ R.cells) (hs : slots + n.toNatClampNeg ≤ R.slots)
    (kk : ∀ (a : Nat) (H1 : Heap), kd h a = 0 → a ≠ G.2.2.1.2.1 → Rel G (newA h a 24 n.toNatClampNeg) H1 → va_S (AA G) s.heap H1 locs → W p l e R s m args below meth c H1 locs (cells + 1) (slots + n.toNatClampNeg) Q (F0 m (pc + 3) la (.ref a :: rest))) : W p l e R s m args below meth c H locs cells slots Q (F0 m pc la (.int n :: rest)) := by
  have hA : ∀ q, s.heap.size ≤ q → AA G q := fun q hq => hM.A hq
  obtain ⟨hx, hb, hml, hown, hts, hg, h7, h8, h9, h10, h11, h12, -⟩ := hM
  obtain ⟨L, h1, h2, h3⟩ := hR
  have hcl := cls_link (rs_anew hr (by omega))
  subst hx61
  refine va_newq hx hb hown (hts _ hcl) hg.2.2.2.2.2.2.2.2.2.1 hg.1 h2 h3 hS hA hn rfl (by omega) hc hs hdec (fun q cA H1 hK1 hP1 hD1 hS1 => ?_)
  have e1 : cA = G.2.1.2.2.2.1 := by
    obtain ⟨_, _, _, _, _, q4⟩ := (hK1.2 5 _ rfl).2
    obtain ⟨_, _, _, _, _, r4⟩ := (hg.1.2 3 _ rfl).2
    exact fcls_inj q4 r4
  subst e1
  have hk := fresh_of h1 hD1
  have hq : G.2.2.1.1 ≤ q := AA_of hD1
  refine kk q H1 hk (fun z => by omega) (Rel.push h1 hk hP1 hD1 (by rw [kd_newA, if_pos rfl]; omega) (fun z hz => by rw [kd_newA, if_neg hz]) ?_ (fun z hz => newA_o hz)) hS1
  rw [cell_O (by rw [kd_newA, if_pos rfl]), ln_newA, if_pos rfl, ra_new0]
theorem st_anewM {idx x y : Nat} {v : Int32} {tg : List Nat} {n : Int32} (hM : Mach G M ini d P PX p l e R s m args below meth c Q) (hR : Rel G h H) (hS : va_S (AA G) s.heap H locs) (hdec : decode M.2.1 pc = .ok (.anewarray idx, 3)) (hr : rsOf M.1 pc (.anewarray idx) = (x, y, v, tg)) (hx62 : x = 62) (hn : ¬ n < 0) (hN : n.toNatClampNeg ≤ 5000)
    (hc : cells + 1 ≤ R.cells) (hs : slots + n.toNatClampNeg ≤ R.slots)
    (kk : ∀ (a : Nat) (H1 : Heap), kd h a = 0 → a ≠ G.2.2.1.2.1 → Rel G (newA h a 25 n.toNatClampNeg) H1 → va_S (AA G) s.heap H1 locs → W p l e R s m args below meth c H1 locs (cells + 1) (slots + n.toNatClampNeg) Q (F0 m (pc + 3) la (.ref a :: rest))) : W p l e R s m args below meth c H locs cells slots Q (F0 m pc la (.int n :: rest)) := by
  have hA : ∀ q, s.heap.size ≤ q → AA G q := fun q hq => hM.A hq
  obtain ⟨hx, hb, hml, hown, hts, hg, h7, h8, h9, h10, h11, h12, -⟩ := hM
  obtain ⟨L, h1, h2, h3⟩ := hR
  have hcl := cls_link (rs_anew hr (by omega))
  subst hx62
  have hcl2 : (Cond.classLink M.1 idx (FieldType.array .int).toString).before args s = true := by
    have e : (FieldType.array .int).toString = nmOf 62 := by decide +kernel
    rw [e]
    exact hts _ hcl
  refine W.anewA hx hb hown hcl2 (va_AOA.use hg.2.2.2.2.2.2.2.2.2.2.2.2) rfl hdec rfl hn (by omega) hc hs fun cA kA comp f1 f2 f3 f4 => ?_
  have eA : cA = G.2.1.2.2.2.2 := Option.some.inj (f1.symm.trans (hg.1.2 4 _ rfl).2)
  subst eA
  generalize hH1 : H.push ({ cls := G.2.1.2.2.2.2, slots := Array.replicate n.toNatClampNeg .null, vm := .none } : Cell) = H1
  have z1 : H1.size = H.size + 1 := by rw [← hH1, Array.size_push]
  have e1 : H1[H.size]? = some (arrV G.2.1.2.2.2.2 n.toNatClampNeg (fun _ => .null)) := by rw [← hH1, Array.getElem?_push_size, ← arrV_new]
  have o1 : ∀ q : Nat, q < H.size → H1[q]? = H[q]? := fun q hq => by rw [← hH1, Array.getElem?_push, if_neg (Nat.ne_of_lt hq)]
  have hP1 : va_P G.1 vwCl (([] ++ va_pl L (cellOf G h)) ++ [(H.size, .inl (G.2.1.2.2.2.2, n.toNatClampNeg, .inr (.inr (.inr (.inr (fun _ => none))))))]) H1 := (h2.kept (fun k x hx => o1 x.1 ((h2 k x hx).lt))).app (fun k x hx => by
    have hz : k < 1 := (List.getElem?_eq_some_iff.mp hx).1
    rw [show k = 0 by omega] at hx
    cases hx
    show H1[H.size]? = some (vp_cell _ _)
    rw [vp_cell_q]
    exact e1)
  have hD1 := h3.push (e := .inl (G.2.1.2.2.2.2, n.toNatClampNeg, .inr (.inr (.inr (.inr (fun _ => none)))))) h2 rfl (hA _ hS.1)
  have hk := fresh_of h1 hD1
  have hq : G.2.2.1.1 ≤ H.size := AA_of hD1
  refine kk H.size H1 hk (fun z => by omega) (Rel.push h1 hk hP1 hD1 (by rw [kd_newA, if_pos rfl]; omega) (fun z hz => by rw [kd_newA, if_neg hz]) ?_ (fun z hz => newA_o hz)) ⟨Nat.le_trans hS.1 (by omega), fun x q1 q2 => (o1 x (Nat.lt_of_lt_of_le q1 hS.1)).trans (hS.2.1 x q1 q2), hS.2.2⟩
  rw [cell_M (by rw [kd_newA, if_pos rfl]), ln_newA, if_pos rfl, ra_new0]
/-! what a row of rows is, once made -/
theorem newM_f {h : Hp} {a m n : Nat} {B : Nat → Nat} (hB : ∀ i, i < n → B i ≠ a) (hI : ∀ i j, i < n → j < n → B i = B j → i = j) : ∀ i, i ≤ n →
    (∀ q, kd (newM h a B m n i) q = if q = a then 25 else if ∃ j, j < i ∧ q = B j then 21 else kd h q) ∧ (ln (newM h a B m n i) a = n) ∧ (∀ j, j < i → ln (newM h a B m n i) (B j) = m) ∧ (∀ j, ra (newM h a B m n i) a j = if j < i then some (B j) else none) ∧ (∀ j k, j < i → ia (newM h a B m n i) (B j) k = 0) ∧
    (∀ c k q, fi (newM h a B m n i) c k q = fi h c k q) ∧ (∀ c k q, fr (newM h a B m n i) c k q = fr h c k q) ∧ ∀ q, q ≠ a → (∀ j, j < i → q ≠ B j) → ln (newM h a B m n i) q = ln h q ∧ (∀ k, ia (newM h a B m n i) q k = ia h q k) ∧ (∀ k, ja (newM h a B m n i) q k = ja h q k) ∧ ∀ k, ra (newM h a B m n i) q k = ra h q k := by
  intro i
  induction i with
  | zero =>
    intro _
    refine ⟨fun q => ?_, ?_, fun j hj => absurd hj (Nat.not_lt_zero j), fun j => ?_, fun j k hj => absurd hj (Nat.not_lt_zero j), fun _ _ _ => rfl, fun _ _ _ => rfl, fun q hq _ => ?_⟩
    · show kd (newA h a 25 n) q = _
      rw [kd_newA]
      by_cases e : q = a
      · rw [if_pos e, if_pos e]
      · rw [if_neg e, if_neg e, if_neg (fun z => by obtain ⟨j, hj, -⟩ := z; omega)]
    · show ln (newA h a 25 n) a = n
      rw [ln_newA, if_pos rfl]
    · show ra (newA h a 25 n) a j = _
      rw [ra_newA, if_pos rfl, if_neg (Nat.not_lt_zero j)]
    · show ln (newA h a 25 n) q = _ ∧ (∀ k, ia (newA h a 25 n) q k = _) ∧ (∀ k, ja (newA h a 25 n) q k = _) ∧ ∀ k, ra (newA h a 25 n) q k = _
      simp only [ln_newA, ia_newA, ja_newA, ra_newA, hq, if_false]
      simp
  | succ i ih =>
    intro hi
    obtain ⟨h1, h2, h3, h4, h5, h6, h7, h8⟩ := ih (by omega)
    have hBi := hB i (by omega)
    refine ⟨fun q => ?_, ?_, fun j hj => ?_, fun j => ?_, fun j k hj => ?_, fun c k q => ?_, fun c k q => ?_, fun q hq hq2 => ?_⟩
    · show kd (setRA (newA (newM h a B m n i) (B i) 21 m) a i (some (B i))) q = _
      rw [kd_setRA, kd_newA, h1]
      by_cases e : q = a
      · rw [if_neg (fun z => hBi (z.symm.trans e)), if_pos e, if_pos e]
      · rw [if_neg e, if_neg e]
        by_cases e2 : q = B i
        · rw [if_pos e2, if_pos ⟨i, by omega, e2⟩]
        · rw [if_neg e2]
          by_cases e3 : ∃ j, j < i ∧ q = B j
          · rw [if_pos e3, if_pos (by obtain ⟨j, hj, hq⟩ := e3; exact ⟨j, by omega, hq⟩)]
          · rw [if_neg e3, if_neg (fun z => by
              obtain ⟨j, hj, hq⟩ := z
              by_cases e4 : j = i
              · exact e2 (e4 ▸ hq)
              · exact e3 ⟨j, by omega, hq⟩)]
    · show ln (setRA (newA (newM h a B m n i) (B i) 21 m) a i (some (B i))) a = n
      rw [ln_setRA, ln_newA, if_neg (fun z => hBi z.symm), h2]
    · show ln (setRA (newA (newM h a B m n i) (B i) 21 m) a i (some (B i))) (B j) = m
      rw [ln_setRA, ln_newA]
      by_cases e : j = i
      · rw [e, if_pos rfl]
      · rw [if_neg (fun z => e (hI j i (by omega) (by omega) z)), h3 j (by omega)]
    · show ra (setRA (newA (newM h a B m n i) (B i) 21 m) a i (some (B i))) a j = _
      rw [ra_setRA]
      by_cases e : j = i
      · rw [if_pos ⟨rfl, e⟩, if_pos (by omega), e]
      · rw [if_neg (fun z => e z.2), ra_newA, if_neg (fun z => hBi z.symm), h4]
        by_cases e2 : j < i
        · rw [if_pos e2, if_pos (by omega)]
        · rw [if_neg e2, if_neg (by omega)]
    · show ia (setRA (newA (newM h a B m n i) (B i) 21 m) a i (some (B i))) (B j) k = 0
      rw [ia_setRA, ia_newA]
      by_cases e : j = i
      · rw [e, if_pos rfl]
      · rw [if_neg (fun z => e (hI j i (by omega) (by omega) z)), h5 j k (by omega)]
    · exact h6 c k q
    · exact h7 c k q
    · have e2 := hq2 i (by omega)
      obtain ⟨g1, g2, g3, g4⟩ := h8 q hq (fun j hj => hq2 j (by omega))
      show ln (setRA (newA (newM h a B m n i) (B i) 21 m) a i (some (B i))) q = _ ∧ (∀ k, ia (setRA (newA (newM h a B m n i) (B i) 21 m) a i (some (B i))) q k = _) ∧ (∀ k, ja (setRA (newA (newM h a B m n i) (B i) 21 m) a i (some (B i))) q k = _) ∧ ∀ k, ra (setRA (newA (newM h a B m n i) (B i) 21 m) a i (some (B i))) q k = _
      simp only [ln_setRA, ia_setRA, ja_setRA, ra_setRA, ln_newA, ia_newA, ja_newA, ra_newA, e2, hq, if_false, false_and]
      exact ⟨g1, g2, g3, g4⟩
theorem st_mna {idx x y : Nat} {v : Int32} {tg : List Nat} {n k : Int32} (hM : Mach G M ini d P PX p l e R s m args below meth c Q) (hR : Rel G h H) (hS : va_S (AA G) s.heap H locs) (hdec : decode M.2.1 pc = .ok (.multianewarray idx 2, 4)) (hr : rsOf M.1 pc (.multianewarray idx 2) = (x, y, v, tg)) (hx63 : x = 63) (hn : ¬ n < 0) (hk : ¬ k < 0) (hN : n.toNatClampNeg ≤ 100) (hK : k.toNatClampNeg ≤ 5000)
    (hc : cells + (1 + n.toNatClampNeg) ≤ R.cells) (hs : slots + (n.toNatClampNeg + n.toNatClampNeg * k.toNatClampNeg) ≤ R.slots)
    (kk : ∀ (a : Nat) (B : Nat → Nat) (H1 : Heap), kd h a = 0 → a ≠ G.2.2.1.2.1 → (∀ i, i < n.toNatClampNeg → kd h (B i) = 0 ∧ B i ≠ a ∧ B i ≠ G.2.2.1.2.1) → (∀ i j, i < n.toNatClampNeg → j < n.toNatClampNeg → B i = B j → i = j) → Rel G (newM h a B k.toNatClampNeg n.toNatClampNeg n.toNatClampNeg) H1 → va_S (AA G) s.heap H1 locs →
      W p l e R s m args below meth c H1 locs (cells + 1 + n.toNatClampNeg) (slots + n.toNatClampNeg + n.toNatClampNeg * k.toNatClampNeg) Q (F0 m (pc + 4) la (.ref a :: rest))) : W p l e R s m args below meth c H locs cells slots Q (F0 m pc la (.int k :: .int n :: rest)) := by
  have hA : ∀ q, s.heap.size ≤ q → AA G q := fun q hq => hM.A hq
  obtain ⟨hx, hb, hml, hown, hts, hg, h7, h8, h9, h10, h11, h12, -⟩ := hM
  obtain ⟨L, h1, h2, h3⟩ := hR
  have hcl := cls_link (rs_mna hr (by omega))
  subst hx63
  have hcl2 : (Cond.classLink M.1 idx ("[" ++ (FieldType.array .int).toString)).before args s = true := by
    have e : "[" ++ (FieldType.array .int).toString = nmOf 63 := by decide +kernel
    rw [e]
    exact hts _ hcl
  have hcy : s.vm.findClass (FieldType.array .int).toString = some G.2.1.1 := (hg.1.2 0 _ rfl).2
  generalize hNN : n.toNatClampNeg = N at hN hc hs kk
  generalize hMM : k.toNatClampNeg = K at hK hc hs kk
  refine va_mna (z := (K, .inl (fun _ => 0))) hx hb hown hcl2 hg.2.2.2.2.2.2.2.2.2.2.2.2 (hts _ arr_words.1) hcy hg.1 h2 h3 hS hA hn hk hNN hMM (by omega) (by show _ * 4 ≤ _; omega) (by omega) rfl rfl hc hs (fun c => ?_) hdec (fun q r cA H1 rI rL hK1 hP1 hD1 hS1 => ?_)
  · show ({ cls := c, slots := Array.replicate _ _, vm := .none } : Cell) = vp_cell _ _
    rw [vp_cell_i, arrV_new]
    rfl
  have eA : cA = G.2.1.2.2.2.2 := Option.some.inj ((hK1.2 5 _ rfl).2.symm.trans (hg.1.2 4 _ rfl).2)
  subst eA
  generalize hE0 : (.inl (G.2.1.2.2.2.2, N, .inr (.inr (.inr (.inr (fun i => if i < N then some (r i) else none))))) : va_E) = E0 at hP1 hD1
  generalize hF : vr_up (cellOf G h) ((List.range N).map r) (.inl (G.2.1.1, (K, .inl (fun _ => 0)))) = F at hP1 hD1
  have hP2 : va_P G.1 vwCl ((q, E0) :: va_pl (L ++ (List.range N).map r) F) H1 := hP1
  have hD2 : va_D (AA G) ((q, E0) :: va_pl (L ++ (List.range N).map r) F) := hD1
  have hqL : ∀ a, a ∈ L ++ (List.range N).map r → a ≠ q := fun a ha e => by
    obtain ⟨j, hj⟩ := List.getElem?_of_mem (show (a, F a) ∈ va_pl (L ++ (List.range N).map r) F from List.mem_map.mpr ⟨a, ha, rfl⟩)
    have := hD2.1 0 (j + 1) (q, E0) (a, F a) rfl hj e.symm
    omega
  have hAA : ∀ a, a ∈ L ++ (List.range N).map r → G.2.2.1.1 ≤ a := fun a ha => by
    obtain ⟨j, hj⟩ := List.getElem?_of_mem (show (a, F a) ∈ va_pl (L ++ (List.range N).map r) F from List.mem_map.mpr ⟨a, ha, rfl⟩)
    exact hD2.2 (j + 1) _ hj
  have hAq : G.2.2.1.1 ≤ q := hD2.2 0 _ rfl
  have hrm : ∀ i, i < N → r i ∈ L ++ (List.range N).map r := fun i hi => List.mem_append_right _ (List.mem_map.mpr ⟨i, List.mem_range.mpr hi, rfl⟩)
  have kq : kd h q = 0 := by
    rcases Nat.eq_zero_or_pos (kd h q) with z | z
    · exact z
    · exact absurd rfl (hqL q (List.mem_append_left _ ((h1 q).mp (by omega))))
  have kr : ∀ i, i < N → kd h (r i) = 0 := fun i hi => by
    rcases Nat.eq_zero_or_pos (kd h (r i)) with z | z
    · exact z
    · exact absurd ((h1 (r i)).mp (by omega)) (rL i hi)
  have hrq : ∀ i, i < N → r i ≠ q := fun i hi => hqL _ (hrm i hi)
  obtain ⟨f1, f2, f3, f4, f5, f6, f7, f8⟩ := newM_f (h := h) (m := K) hrq rI N (Nat.le_refl N)
  have hR1 : Rel G (newM h q r K N N) H1 := by
    refine ⟨q :: (L ++ (List.range N).map r), fun a => ?_, ?_⟩
    · rw [f1, List.mem_cons, List.mem_append]
      by_cases e : a = q
      · rw [if_pos e]; simp [e]
      · rw [if_neg e]
        by_cases e2 : ∃ j, j < N ∧ a = r j
        · rw [if_pos e2]
          obtain ⟨j, hj, rfl⟩ := e2
          refine ⟨fun _ => Or.inr (Or.inr (List.mem_map.mpr ⟨j, List.mem_range.mpr hj, rfl⟩)), fun _ => by omega⟩
        · rw [if_neg e2, h1]
          refine ⟨fun z => Or.inr (Or.inl z), fun z => ?_⟩
          rcases z with z | z | z
          · exact absurd z e
          · exact z
          · obtain ⟨j, hj, rfl⟩ := List.mem_map.mp z
            exact absurd ⟨j, List.mem_range.mp hj, rfl⟩ e2
    · have hl : ([] ++ va_pl (q :: (L ++ (List.range N).map r)) (cellOf G (newM h q r K N N))) = (q, E0) :: va_pl (L ++ (List.range N).map r) F := by
        rw [List.nil_append]
        unfold va_pl
        rw [List.map_cons]
        congr 1
        · rw [cell_M (by rw [f1, if_pos rfl]), f2, ← hE0]
          have e : ra (newM h q r K N N) q = fun i => if i < N then some (r i) else none := funext f4
          rw [e]
        · apply List.map_congr_left
          intro a ha
          have hne := hqL a ha
          rw [← hF]
          by_cases e : a ∈ (List.range N).map r
          · rw [vr_up_in e]
            obtain ⟨j, hj, rfl⟩ := List.mem_map.mp e
            have hj := List.mem_range.mp hj
            rw [cell_I (by rw [f1, if_neg hne, if_pos ⟨j, hj, rfl⟩]), f3 j hj]
            have e2 : ia (newM h q r K N N) (r j) = fun _ => 0 := funext (fun k9 => f5 j k9 hj)
            rw [e2]
          · rw [vr_up_ne e]
            have e2 : ∀ j, j < N → a ≠ r j := fun j hj z => e (z ▸ List.mem_map.mpr ⟨j, List.mem_range.mpr hj, rfl⟩)
            obtain ⟨g1, g2, g3, g4⟩ := f8 a hne e2
            have e3 : cellOf G (newM h q r K N N) a = cellOf G h a := cell_ne (by rw [f1, if_neg hne, if_neg (fun z => by obtain ⟨j, hj, hz⟩ := z; exact e2 j hj hz)]) g1 (funext g2) (funext g3) (funext g4) (fun _ _ => f6 _ _ _) (fun _ _ => f7 _ _ _)
            rw [e3]
      rw [hl]
      exact ⟨hP2, hD2⟩
  exact kk q r H1 kq (by omega) (fun i hi => ⟨kr i hi, hrq i hi, by have := hAA _ (hrm i hi); omega⟩) rI hR1 hS1
/-! calls -/
theorem g_call {Qv : Option Value → Hp → Prop} {QX : String → Hp → Prop} {mc ms : Nat} {a : Array Value} {st0 : List Value} (hr : vx_Run p l e R s m args below meth c H locs cells slots mc ms (F0 m pc la st0) rest (QcG G Qv a) (XcG G QX) (AA G)) (hS : va_S (AA G) s.heap H locs)
    (kk : ∀ (v : Option Value) (u : Hp) (H1 : Heap) (locs1 : List Loc), Qv v u → Rel G u H1 → va_S (AA G) s.heap H1 locs1 → W p l e R s m args below meth c H1 locs1 (cells + mc) (slots + ms) Q (F0 m (pc + 3) la (v.toList ++ rest)))
    (kx : ∀ (E : String) (ce : Cell) (q : Addr) (u : Hp) (H1 : Heap) (locs1 : List Loc), QX E u → Rel G u H1 → va_S (AA G) s.heap H1 locs1 → H1[q]? = some ce → ce.vm = .none → s.vm.findClass E = some ce.cls → vx_W p l e R s m args below meth c H1 locs1 (cells + mc) (slots + ms) Q (F0 m pc la rest) q) : W p l e R s m args below meth c H locs cells slots Q (F0 m pc la st0) := by
  intro T hT X
  rcases hr T hT X with ⟨v, st₀, t, T', L, h0, X', hL, e1, e2, ⟨⟨v', u, hv, hq, hRu⟩, hF⟩, st⟩ | ⟨q, st₀, t, T', L, E, ce, h0, X', hL, e1, e2, ⟨u, -, ⟨hq, hRu⟩, hF⟩, hce, hcv, hcl, st⟩
  · cases hv
    obtain ⟨-, -, k3⟩ := vx_keep h0 e1 hS (fun _ _ h => h) (fun _ h => h) hL hF
    obtain ⟨t2, a1, b1⟩ := kk v u T'.heap (locs ++ L) hq (by rw [e1]; exact hRu) k3 T' rfl X'
    exact ⟨t2, st t2 a1, b1⟩
  · obtain ⟨-, -, k3⟩ := vx_keep h0 e1 hS (fun _ _ h => h) (fun _ h => h) hL hF
    obtain ⟨t2, a1, b1⟩ := kx E ce q u T'.heap (locs ++ L) hq (by rw [e1]; exact hRu) k3 (by rw [e1]; exact hce) hcv hcl T' rfl X'
    exact ⟨t2, st.trans a1, b1⟩
theorem hndl_e {own : String} {E : String} : ∀ (hh : List (Nat × Nat × Nat × Nat)) (t : Nat), hndl own pc E hh = some t → ∃ pre r suf, hh = pre ++ r :: suf ∧ r.2.2.1 = t ∧ (r.1 ≤ pc ∧ pc < r.2.1) ∧ (clss.lookup (own, r.2.2.2)).map nmOf = some E ∧ ∀ z ∈ pre, ¬ (z.1 ≤ pc ∧ pc < z.2.1) ∨ (clss.lookup (own, z.2.2.2)).map nmOf ≠ some E
  | [], t, h => by cases h
  | (a, b, u, k) :: r, t, h => by
    unfold hndl at h
    split at h
    · rename_i hc
      cases h
      exact ⟨[], _, r, rfl, rfl, ⟨hc.1, hc.2.1⟩, hc.2.2, fun z hz => by cases hz⟩
    · rename_i hc
      obtain ⟨pre, x, suf, e1, e2, e3, e4, e5⟩ := hndl_e r t h
      refine ⟨(a, b, u, k) :: pre, x, suf, by rw [e1]; rfl, e2, e3, e4, fun z hz => ?_⟩
      rcases List.mem_cons.mp hz with rfl | hz
      · by_cases h1 : a ≤ pc ∧ pc < b
        · exact Or.inr (fun q => hc ⟨h1.1, h1.2, q⟩)
        · exact Or.inl h1
      · exact e5 z hz
theorem ex_in {x : Nat} (h1 : 50 ≤ x) (h2 : x ≤ 52) : nmOf x ∈ exN := by
  rcases (show x = 50 ∨ x = 51 ∨ x = 52 by omega) with rfl | rfl | rfl <;> decide
theorem ex_cast {x : Nat} (h1 : 50 ≤ x) (h2 : x ≤ 52) : Cond.castable (nmOf x) (nmOf x) ∈ bw := by
  rcases (show x = 50 ∨ x = 51 ∨ x = 52 by omega) with rfl | rfl | rfl <;> decide +kernel
theorem st_catch {E : String} {ce : Cell} {q : Addr} {t : Nat} (hM : Mach G M ini d P PX p l e R s m args below meth c Q) (hH : hhOK (mow M) (mhh M)) (ht : hndl (mow M) pc E (mhh M) = some t) (hce : H[q]? = some ce) (hcv : ce.vm = .none) (hcl : s.vm.findClass E = some ce.cls)
    (kk : W p l e R s m args below meth c H locs cells slots Q (F0 m t la [.ref q])) : vx_W p l e R s m args below meth c H locs cells slots Q (F0 m pc la rest) q := by
  obtain ⟨pre, r, suf, e1, e2, e3, e4, e5⟩ := hndl_e _ _ ht
  exact (hH r (by rw [e1]; simp)).elim
end STPB
end
section
/-! ===== BEGIN a constructor that throws (launches without stack traces) ===== -/
section VXIA
variable {p : Program} {l : Launch} {e : Env} {R : Room} {s : State} {m : MethodId} {args : Array Value} {below : List Frame} {meth : Method} {c : Code} {T : State} {locs : List Loc} {cells slots : Nat}
theorem vx_callI (X : Stand p l e R s m args below meth c T locs cells slots) (hexec : p.tables.exec = Jvm.exec) {own : String} {index : Nat} {y : MethodName} {bytes : ByteArray} {maxL : Nat}
    (hown : s.vm.findClass own = some m.cls) (hy1 : y.name = "<init>") (hlink : (Cond.methodLink own index y).before args s = true) (hinst : (Cond.instanceMethod y).before args s = true)
    (hcode : (Cond.code y bytes maxL none).before args s = true) (hy : y.cls ≠ "java/lang/invoke/MethodHandle" ∧ y.cls ≠ "java/lang/invoke/VarHandle")
    {W9 : Nat} {Pre : Pt → Array Value → Prop} {Post : Pt → Array Value → Option Value → Pt → Prop} {PostX : Pt → Array Value → Addr → Pt → Prop} (hK : vx_Back l R p e below s args y 3 W9 Pre Post PostX)
    {g : JFrame} (hg : g.method = m) (hsize : g.locals.size = c.maxLocals) {a : Addr} {argsL rest : List Value} (hlen : ∀ sig, parseMethodDescriptor y.desc = some sig → argsL.length = sig.parameters.length)
    (hstack : g.stack = argsL.reverse ++ .ref a :: rest) (hW : 2 * g.monitorRoom + (rest.map fun v => v.category).sum ≤ W9) (hdg : decode c.code g.pc = .ok (.invokespecial index, 3))
    (hpre : ∀ vm₁, s.WarmedH vm₁ → Pre ⟨T.setVm vm₁, locs, cells, slots⟩ (Value.ref a :: argsL).toArray) :
    (∃ (v : Option Value) (vm₁ : Vm) (B : Pt), s.WarmedH vm₁ ∧ Stand p l e R s m args below meth c B.U B.locs B.cells B.slots ∧ Post ⟨T.setVm vm₁, locs, cells, slots⟩ (Value.ref a :: argsL).toArray v B ∧
      ∀ target, Steps p.tables e below (B.U.setTop { g with pc := g.pc + 3, stack := v.toList ++ rest }) target → Steps p.tables e below (T.setTop g) target) ∨
    (∃ (q : Addr) (vm₁ : Vm) (B : Pt), s.WarmedH vm₁ ∧ Stand p l e R s m args below meth c B.U B.locs B.cells B.slots ∧ PostX ⟨T.setVm vm₁, locs, cells, slots⟩ (Value.ref a :: argsL).toArray q B ∧
      Steps p.tables e below (T.setTop g) ((B.U.setTop { g with stack := rest }).pushFrame (.throwing q))) := by
  subst hg
  have hpl : e.platform.magicAccessors = ({} : Platform).magicAccessors := by rw [X.admits.platform]
  obtain ⟨mk, methM, cM, kP, vm₁, hnamed, hmethM, hcodeM, -, hlocalsM, -, hkP, -, hW₁, hstep₁⟩ := Steps.initColdArgs (e := e) X.here hexec X.warmed hpl hown hy1 hy hlink hinst hcode (f := g) rfl hlen hstack hdg
  have X₁ := X.noted hW₁
  rcases hK g.method meth c ⟨T.setVm vm₁, locs, cells, slots⟩ { g with stack := rest } (.invokespecial index) mk (Value.ref a :: argsL).toArray X₁ rfl hsize hdg hW (X₁.named hnamed) (hpre vm₁ X₁.warmed) with ⟨v, B, X', hpost, hsteps⟩ | ⟨q, B, X', hpost, hsteps⟩
  · exact Or.inl ⟨v, vm₁, B, X₁.warmed, X', hpost, fun target h => hstep₁ _ fun acts => by rw [doInvoke_state]; exact hsteps.trans h⟩
  · exact Or.inr ⟨q, vm₁, B, X₁.warmed, X', hpost, hstep₁ _ fun acts => by rw [doInvoke_state]; exact hsteps⟩
end VXIA
section VXIB
variable {p : Program} {l : Launch} {e : Env} {R : Room} {s : State} {m : MethodId} {args : Array Value} {below : List Frame} {meth : Method} {c : Code} {H : Heap} {locs : List Loc} {cells slots : Nat}
variable {y : MethodName} {bytes cc : ByteArray} {maxL nL mc ms n index : Nat} {ret : Option FieldType} {ws : List Cond} {rm : Room} {Pc : Array Value → State → Prop} {Qc : Array Value → State → Outcome → State → Prop} {XC : String → State → State → Prop} {free : Addr → Prop} {Ts : List Cond} {own C : String} {b : Addr} {As rest : List Value} {g : JFrame}
theorem vx_runI (S : CallFix p m c cc nL s args Ts own) (hM : vx_Met l y ws rm Pc Qc XC mc ms free) (cw : CallB R s args own index y bytes maxL none ws rm mc ms n ∧ y.name = "<init>" ∧ (Cond.instanceMethod y).before args s = true) (hp : PreS s H Pc (.ref b :: As))
    (hg : g.method = m) (hn : As.length = n) (hsize : g.locals.size = nL) (hstack : g.stack = As.reverse ++ .ref b :: rest) (hW : 2 * g.monitorRoom + (rest.map fun v => v.category).sum ≤ 8) (hdg : decode cc g.pc = .ok (.invokespecial index, 3)) (hf : cells + mc ≤ R.cells ∧ slots + ms ≤ R.slots) :
    vx_Run p l e R s m args below meth c H locs cells slots mc ms g rest (Qc (Value.ref b :: As).toArray) XC free := by
  have hK : vx_Back l R p e below s args y 3 8 (PreOf R mc ms Pc) (PostOf Qc mc ms free) (vx_Post XC mc ms free) := vx_callBack cw.1 hM hp.1
  obtain ⟨⟨-, -, -, -, -, -, hcode, -, hy, hlen, hl⟩, hy1, hin⟩ := cw
  obtain ⟨hx, hb, hml, ho, -⟩ := S
  have hPc := hp.2
  intro T hT X
  rcases vx_callI X hx (bytes := bytes) (maxL := maxL) ho hy1 hl hin hcode hy hK hg (hsize.trans hml.symm) (a := b) (argsL := As) (rest := rest) (fun sig h => hn.trans (hlen sig h)) hstack hW (by rw [hb]; exact hdg)
    (fun vm₁ hW₁ => ⟨hf.1, hf.2, hPc (T.setVm vm₁) hT hW₁⟩) with ⟨v, vm₁, ⟨U', l2, c2, s2⟩, hW₁, X', ⟨g', mk, t, L, e1, e2, hq, h1, hL, h2, h3⟩, st⟩ | ⟨q, vm₁, ⟨U', l2, c2, s2⟩, hW₁, X', ⟨g', mk, t, L, E, ce, e1, e2, hq, hce, hcv, hcl, h1, hL, h2, h3⟩, st⟩
  · dsimp only [Pt.U, Pt.locs, Pt.cells, Pt.slots] at X' e1 e2 h1 h2 h3 st
    subst h1; subst h2; subst h3
    exact Or.inl ⟨v, (T.setVm vm₁).calling g' mk (Value.ref b :: As).toArray, t, U', L, hT, X', hL, e1, e2, hq, st⟩
  · dsimp only [Pt.U, Pt.locs, Pt.cells, Pt.slots] at X' e1 e2 h1 h2 h3 st hcl
    subst h1; subst h2; subst h3
    exact Or.inr ⟨q, (T.setVm vm₁).calling g' mk (Value.ref b :: As).toArray, t, U', L, E, ce, hT, X', hL, e1, e2, hq, hce, hcv, vx_cls hW₁ hcl, st⟩
end VXIB
/-! ===== END ===== -/
/-! ===== BEGIN a private constructor of a nest mate that throws ===== -/
section VXIC
variable {p : Program} {l : Launch} {e : Env} {R : Room} {s : State} {m : MethodId} {args : Array Value} {below : List Frame} {meth : Method} {c : Code} {T : State} {locs : List Loc} {cells slots : Nat}
theorem vx_callIN (X : Stand p l e R s m args below meth c T locs cells slots) (hexec : p.tables.exec = Jvm.exec) {own : String} {index : Nat} {host : String} {y : MethodName} {bytes : ByteArray} {maxL : Nat}
    (hown : s.vm.findClass own = some m.cls) (hy1 : y.name = "<init>") (hlink : (Cond.methodLinkNest own index y host).before args s = true) (hinst : (Cond.instanceMethod y).before args s = true)
    (hcode : (Cond.code y bytes maxL none).before args s = true) (hy : y.cls ≠ "java/lang/invoke/MethodHandle" ∧ y.cls ≠ "java/lang/invoke/VarHandle")
    {W9 : Nat} {Pre : Pt → Array Value → Prop} {Post : Pt → Array Value → Option Value → Pt → Prop} {PostX : Pt → Array Value → Addr → Pt → Prop} (hK : vx_Back l R p e below s args y 3 W9 Pre Post PostX)
    {g : JFrame} (hg : g.method = m) (hsize : g.locals.size = c.maxLocals) {a : Addr} {argsL rest : List Value} (hlen : ∀ sig, parseMethodDescriptor y.desc = some sig → argsL.length = sig.parameters.length)
    (hstack : g.stack = argsL.reverse ++ .ref a :: rest) (hW : 2 * g.monitorRoom + (rest.map fun v => v.category).sum ≤ W9) (hdg : decode c.code g.pc = .ok (.invokespecial index, 3))
    (hpre : ∀ vm₁, s.WarmedH vm₁ → Pre ⟨T.setVm vm₁, locs, cells, slots⟩ (Value.ref a :: argsL).toArray) :
    (∃ (v : Option Value) (vm₁ : Vm) (B : Pt), s.WarmedH vm₁ ∧ Stand p l e R s m args below meth c B.U B.locs B.cells B.slots ∧ Post ⟨T.setVm vm₁, locs, cells, slots⟩ (Value.ref a :: argsL).toArray v B ∧
      ∀ target, Steps p.tables e below (B.U.setTop { g with pc := g.pc + 3, stack := v.toList ++ rest }) target → Steps p.tables e below (T.setTop g) target) ∨
    (∃ (q : Addr) (vm₁ : Vm) (B : Pt), s.WarmedH vm₁ ∧ Stand p l e R s m args below meth c B.U B.locs B.cells B.slots ∧ PostX ⟨T.setVm vm₁, locs, cells, slots⟩ (Value.ref a :: argsL).toArray q B ∧
      Steps p.tables e below (T.setTop g) ((B.U.setTop { g with stack := rest }).pushFrame (.throwing q))) := by
  subst hg
  have hpl : e.platform.magicAccessors = ({} : Platform).magicAccessors := by rw [X.admits.platform]
  obtain ⟨mk, methM, cM, kP, vm₁, hnamed, hmethM, hcodeM, -, hlocalsM, -, hkP, -, hW₁, hstep₁⟩ := Steps.initColdArgsNest (e := e) X.here hexec X.warmed hpl hown hy1 hy hlink hinst hcode (f := g) rfl hlen hstack hdg
  have X₁ := X.noted hW₁
  rcases hK g.method meth c ⟨T.setVm vm₁, locs, cells, slots⟩ { g with stack := rest } (.invokespecial index) mk (Value.ref a :: argsL).toArray X₁ rfl hsize hdg hW (X₁.named hnamed) (hpre vm₁ X₁.warmed) with ⟨v, B, X', hpost, hsteps⟩ | ⟨q, B, X', hpost, hsteps⟩
  · exact Or.inl ⟨v, vm₁, B, X₁.warmed, X', hpost, fun target h => hstep₁ _ fun acts => by rw [doInvoke_state]; exact hsteps.trans h⟩
  · exact Or.inr ⟨q, vm₁, B, X₁.warmed, X', hpost, hstep₁ _ fun acts => by rw [doInvoke_state]; exact hsteps⟩
end VXIC
section VXID
variable {p : Program} {l : Launch} {e : Env} {R : Room} {s : State} {m : MethodId} {args : Array Value} {below : List Frame} {meth : Method} {c : Code} {H : Heap} {locs : List Loc} {cells slots : Nat}
theorem vx_runIN {y : MethodName} {bytes cc : ByteArray} {maxL nL mc ms n index : Nat} {ws : List Cond} {rm : Room} {Pc : Array Value → State → Prop} {Qc : Array Value → State → Outcome → State → Prop} {XC : String → State → State → Prop} {free : Addr → Prop} {Ts : List Cond} {own host : String} {b : Addr} {As rest : List Value} {g : JFrame}
    (S : CallFix p m c cc nL s args Ts own) (hM : vx_Met l y ws rm Pc Qc XC mc ms free) (cw : va_CN R s args own index y host bytes maxL none ws rm mc ms n ∧ y.name = "<init>" ∧ (Cond.instanceMethod y).before args s = true) (hp : PreS s H Pc (.ref b :: As))
    (hg : g.method = m) (hn : As.length = n) (hsize : g.locals.size = nL) (hstack : g.stack = As.reverse ++ .ref b :: rest) (hW : 2 * g.monitorRoom + (rest.map fun v => v.category).sum ≤ 8) (hdg : decode cc g.pc = .ok (.invokespecial index, 3)) (hf : cells + mc ≤ R.cells ∧ slots + ms ≤ R.slots) :
    vx_Run p l e R s m args below meth c H locs cells slots mc ms g rest (Qc (Value.ref b :: As).toArray) XC free := by
  obtain ⟨⟨⟨hrc, hrs, hfr, hlo, hws, hcw⟩, hcode, hini, hy, hlen, hl⟩, hx1, hx2⟩ := cw
  have hK : vx_Back l R p e below s args y 3 8 (PreOf R mc ms Pc) (PostOf Qc mc ms free) (vx_Post XC mc ms free) := vx_back (bytes := bytes) (maxL := maxL) (ret := none) hM hp.1 hrc hrs hfr hlo hws hcw (fun a' U hW => word_at hW (Or.inl (by first | rfl | simp [Cond.onTables, Cond.keeps, Cond.steady])) hini)
  obtain ⟨hx, hb, hml, ho, -⟩ := S
  have hPc := hp.2
  intro T hT X
  rcases vx_callIN X hx (bytes := bytes) (maxL := maxL) ho hx1 hl hx2 hcode hy hK hg (hsize.trans hml.symm) (a := b) (argsL := As) (rest := rest) (fun sig h => hn.trans (hlen sig h)) hstack hW (by rw [hb]; exact hdg)
    (fun vm₁ hW₁ => ⟨hf.1, hf.2, hPc (T.setVm vm₁) hT hW₁⟩) with ⟨v, vm₁, ⟨U', l2, c2, s2⟩, hW₁, X', ⟨g', mk, t, L, e1, e2, hq, h1, hL, h2, h3⟩, st⟩ | ⟨q, vm₁, ⟨U', l2, c2, s2⟩, hW₁, X', ⟨g', mk, t, L, E, ce, e1, e2, hq, hce, hcv, hcl, h1, hL, h2, h3⟩, st⟩
  · dsimp only [Pt.U, Pt.locs, Pt.cells, Pt.slots] at X' e1 e2 h1 h2 h3 st
    subst h1; subst h2; subst h3
    exact Or.inl ⟨v, (T.setVm vm₁).calling g' mk (Value.ref b :: As).toArray, t, U', L, hT, X', hL, e1, e2, hq, st⟩
  · dsimp only [Pt.U, Pt.locs, Pt.cells, Pt.slots] at X' e1 e2 h1 h2 h3 st hcl
    subst h1; subst h2; subst h3
    exact Or.inr ⟨q, (T.setVm vm₁).calling g' mk (Value.ref b :: As).toArray, t, U', L, E, ce, hT, X', hL, e1, e2, hq, hce, hcv, vx_cls hW₁ hcl, st⟩
end VXID
/-! ===== END ===== -/
section STPC
variable {G : GT} {M : MI} {ini : Bool} {d : Nat} {P : Option Value → Hp → Prop} {PX : String → Hp → Prop}
variable {p : Program} {l : Launch} {e : Env} {R : Room} {s : State} {m : MethodId} {args : Array Value} {below : List Frame} {meth : Method} {c : Code} {Q : State → Prop} {H : Heap} {locs : List Loc} {cells slots : Nat} {la : Array Slot}
variable {pc : Nat} {ls : Ls} {st rest : List Value} {h : Hp} {b : Nat × Nat}
theorem gw_in {ws : List Cond} (hw : ∀ w ∈ ws, w ∈ gw) : GoodIn gw ws := fun w h => ⟨hw w h, good_of_word (gw_good (hw w h))⟩
theorem gw_wsV {own : String} {j : Nat} {C : String} {y : MethodName} {w0 : Cond} (hC : C = y.cls) (h : ∀ w ∈ [Cond.methodLink own j y, .instanceMethod y, .selects y.cls y y, .initialized y.cls, w0], w ∈ gw) : GoodIn gw (wsV own j C y (w0 :: gw)) := by
  subst hC
  refine gw_in fun w hw => ?_
  unfold wsV at hw
  rcases List.mem_append.mp hw with hw | hw
  · exact h w (by simp only [List.mem_cons, List.not_mem_nil, or_false] at hw ⊢; rcases hw with e | e | e | e <;> simp [e])
  · rcases List.mem_cons.mp hw with e | e
    · exact h w (by simp [e])
    · exact e
theorem gw_wsS {own : String} {j : Nat} {y : MethodName} {w0 : Cond} (h : ∀ w ∈ [Cond.methodLink own j y, .static y, .initialized y.cls, w0], w ∈ gw) : GoodIn gw (va_wsS own j y (w0 :: gw)) := by
  refine gw_in fun w hw => ?_
  unfold va_wsS at hw
  rcases List.mem_append.mp hw with hw | hw
  · exact h w (by simp only [List.mem_cons, List.not_mem_nil, or_false] at hw ⊢; rcases hw with e | e | e <;> simp [e])
  · rcases List.mem_cons.mp hw with e | e
    · exact h w (by simp [e])
    · exact e
theorem pre_at {As : List Value} (hM : Mach G M ini d P PX p l e R s m args below meth c Q) (hR : Rel G h H) (hS : va_S (AA G) s.heap H locs) : ∀ U : State, U.heap = H → s.WarmedH U.vm → PcG G As h As.toArray U := fun U hU hW => ⟨rfl, by rw [hU]; exact hR, hM.2.2.2.2.2.1.at hS hU hW, by rw [hU]; exact Nat.le_trans hM.2.2.2.2.2.2.2.2.2.2.1 hS.1, hM.2.2.2.2.2.2.2.2.2.2.2.1⟩
theorem rm_fit {d d' mL mc ms R1 R2 : Nat} (hd : d' + 1 ≤ d) (hL : mL ≤ 20) (h1 : d ≤ R1) (h2 : 39 * d ≤ R2) : (rmD d' mc ms).frames + 1 ≤ R1 ∧ 8 + (mL + 11) + (rmD d' mc ms).locals ≤ R2 := by
  unfold rmD
  refine ⟨by show d' + 1 ≤ R1; omega, by show 8 + (mL + 11) + 39 * d' ≤ R2; omega⟩
/-- behind a call -/
theorem st_back {ce : CE} {a : Array Value} {st0 : List Value} {K : Nat → Ls → List Value → Hp → Nat × Nat → Prop} (hM : Mach G M ini d P PX p l e R s m args below meth c Q) (hH : hhOK (mow M) (mhh M)) (hS : va_S (AA G) s.heap H locs) (hl : LsR M.2.2.1 ls la)
    (hc : cells + b.1 ≤ R.cells) (hs : slots + b.2 ≤ R.slots) (hmc : ce.2.2.2.2.2.1 ≤ b.1) (hms : ce.2.2.2.2.2.2.1 ≤ b.2) (hK : ∀ pc ls st h b, K pc ls st h b → Wp G M ini d P PX pc ls st h b)
    (hr : vx_Run p l e R s m args below meth c H locs cells slots ce.2.2.2.2.2.1 ce.2.2.2.2.2.2.1 (F0 m pc la st0) rest (QcG G (cQ K pc ls rest (b.1 - ce.2.2.2.2.2.1, b.2 - ce.2.2.2.2.2.2.1)) a) (XcG G (cX M PX K pc ls (b.1 - ce.2.2.2.2.2.1, b.2 - ce.2.2.2.2.2.2.1))) (AA G)) : W p l e R s m args below meth c H locs cells slots Q (F0 m pc la st0) := by
  refine g_call hr hS (fun v u H1 locs1 hq hRu hS1 => ?_) (fun E ce1 q u H1 locs1 hq hRu hS1 hce hcv hcl => ?_)
  · exact hK _ _ _ _ _ hq hM hRu hS1 (by dsimp only; omega) (by dsimp only; omega) hl
  · unfold cX at hq
    cases hh : mhh M with
    | nil =>
      rw [hh] at hq
      exact hM.2.2.2.2.2.2.2.2.2.2.2.2.2.2.2 E ce1 q u H1 locs1 _ _ pc la rest hh hq hRu hS1 (by omega) (by omega) hce hcv hcl
    | cons r0 rs =>
      rw [hh] at hq
      dsimp only at hq
      split at hq
      · rename_i t ht
        exact st_catch hM hH (by rw [hh]; exact ht) hce hcv hcl (hK _ _ _ _ _ (hq q) hM hRu hS1 (by dsimp only; omega) (by dsimp only; omega) hl)
      · exact hq.elim
theorem cwd_nil {y : MethodName} {M : MI} (h : M.2.2.2.2 = []) : cwd y M = .code y M.2.1 M.2.2.1 M.2.2.2.1 := by
  unfold cwd; rw [h]
theorem cwd_cons {y : MethodName} {M : MI} (h : M.2.2.2.2 ≠ []) : cwd y M = .codeWith y M.2.1 M.2.2.1 M.2.2.2.1 M.2.2.2.2 := by
  unfold cwd
  cases hh : M.2.2.2.2 with
  | nil => exact absurd hh h
  | cons r t => rfl
theorem st_callV {ce : CE} {j a : Nat} {As : List Value} {K : Nat → Ls → List Value → Hp → Nat × Nat → Prop} (hM : Mach G M ini d P PX p l e R s m args below meth c Q) (hH : hhOK (mow M) (mhh M)) (hR : Rel G h H) (hS : va_S (AA G) s.heap H locs) (hl : LsR M.2.2.1 ls la)
    (hc : cells + b.1 ≤ R.cells) (hs : slots + b.2 ≤ R.slots) (hK : ∀ pc ls st h b, K pc ls st h b → Wp G M ini d P PX pc ls st h b) (hdec : decode M.2.1 pc = .ok (.invokevirtual j, 3)) (hce : ceOK G (mow M) (j, ce)) (h0 : ce.1 = 0) (hn : As.length = ce.2.2.2.1) (hk : kd h a ≠ 0) (hk2 : kd h a < 21) (hcl : nmOf (kd h a - 1) = ce.2.1.cls) (h7 : kd h a - 1 < 7)
    (hst : callK M d PX pc ls h b K ce (.ref a :: As) rest) : W p l e R s m args below meth c H locs cells slots Q (F0 m pc la (As.reverse ++ .ref a :: rest)) := by
  obtain ⟨c1, c2, c3, c4, c5⟩ := hst
  obtain ⟨w1, w2, w3, w4, w5⟩ := hce
  obtain ⟨w6, w7, w8⟩ := w2 (by show ce.1 < 4; omega)
  have w5 : ce.2.2.1.2.2.2.2 = [] := w5 h0
  refine st_back (rest := rest) (ce := ce) hM hH hS hl hc hs c2 c3 hK (a := (Value.ref a :: As).toArray) ?_
  have hmet := w8 l hM.2.2.2.2.2.2.2.2.2.2.2.2.1 _ _ _ _ c5
  unfold ceW at w1
  rw [show ((j, ce) : Nat × CE).2.1 = 0 from h0] at w1
  rw [cwd_nil w5] at w1 hmet
  exact vx_runV (C := ce.2.1.cls) ⟨hM.1, hM.2.1, hM.2.2.1, hM.2.2.2.1, hM.2.2.2.2.1⟩ hmet (cwV (ws' := gw) ce.2.2.2.1 hM.2.2.2.2.1 (gw_wsV rfl w1) rfl rfl rfl ⟨rfl, w6⟩ (rm_fit c1 w7 hM.2.2.2.2.2.2.1 hM.2.2.2.2.2.2.2.1)) ⟨PcG.blind, by rw [← hcl]; exact Rel.recv hM hR hk h7, pre_at hM hR hS⟩ rfl hn hl.2.1 rfl (lv_room (by rw [catS_e]; exact c4)) hdec ⟨by omega, by omega⟩
theorem st_callS {ce : CE} {j : Nat} {As : List Value} {K : Nat → Ls → List Value → Hp → Nat × Nat → Prop} (hM : Mach G M ini d P PX p l e R s m args below meth c Q) (hH : hhOK (mow M) (mhh M)) (hR : Rel G h H) (hS : va_S (AA G) s.heap H locs) (hl : LsR M.2.2.1 ls la)
    (hc : cells + b.1 ≤ R.cells) (hs : slots + b.2 ≤ R.slots) (hK : ∀ pc ls st h b, K pc ls st h b → Wp G M ini d P PX pc ls st h b) (hdec : decode M.2.1 pc = .ok (.invokestatic j, 3)) (hce : ceOK G (mow M) (j, ce)) (h0 : ce.1 = 1) (hn : As.length = ce.2.2.2.1)
    (hst : callK M d PX pc ls h b K ce As rest) : W p l e R s m args below meth c H locs cells slots Q (F0 m pc la (As.reverse ++ rest)) := by
  obtain ⟨c1, c2, c3, c4, c5⟩ := hst
  obtain ⟨w1, w2, w3, w4, w5⟩ := hce
  obtain ⟨w6, w7, w8⟩ := w2 (by show ce.1 < 4; omega)
  refine st_back (rest := rest) (ce := ce) hM hH hS hl hc hs c2 c3 hK (a := As.toArray) ?_
  have hmet := w8 l hM.2.2.2.2.2.2.2.2.2.2.2.2.1 _ _ _ _ c5
  unfold ceW at w1
  rw [show ((j, ce) : Nat × CE).2.1 = 1 from h0] at w1
  by_cases hh : ce.2.2.1.2.2.2.2 = []
  · rw [cwd_nil hh] at w1 hmet
    exact vx_runS ⟨hM.1, hM.2.1, hM.2.2.1, hM.2.2.2.1, hM.2.2.2.2.1⟩ hmet (va_cwS (ws' := gw) ce.2.2.2.1 hM.2.2.2.2.1 (gw_wsS w1) rfl rfl rfl w6 (rm_fit c1 w7 hM.2.2.2.2.2.2.1 hM.2.2.2.2.2.2.2.1)) ⟨PcG.blind, pre_at hM hR hS⟩ rfl hn hl.2.1 rfl (lv_room (by rw [catS_e]; exact c4)) hdec ⟨by omega, by omega⟩
  · rw [cwd_cons hh] at w1 hmet
    exact vx_runSX ⟨hM.1, hM.2.1, hM.2.2.1, hM.2.2.2.1, hM.2.2.2.2.1⟩ hmet (vx_cwSW (ws' := gw) ce.2.2.2.1 hM.2.2.2.2.1 (gw_wsS w1) rfl rfl rfl w6 (rm_fit c1 w7 hM.2.2.2.2.2.2.1 hM.2.2.2.2.2.2.2.1)) ⟨PcG.blind, pre_at hM hR hS⟩ rfl hn hl.2.1 rfl (lv_room (by rw [catS_e]; exact c4)) hdec ⟨by omega, by omega⟩
theorem st_callI {ce : CE} {j a : Nat} {As : List Value} {K : Nat → Ls → List Value → Hp → Nat × Nat → Prop} (hM : Mach G M ini d P PX p l e R s m args below meth c Q) (hH : hhOK (mow M) (mhh M)) (hR : Rel G h H) (hS : va_S (AA G) s.heap H locs) (hl : LsR M.2.2.1 ls la)
    (hc : cells + b.1 ≤ R.cells) (hs : slots + b.2 ≤ R.slots) (hK : ∀ pc ls st h b, K pc ls st h b → Wp G M ini d P PX pc ls st h b) (hdec : decode M.2.1 pc = .ok (.invokespecial j, 3)) (hce : ceOK G (mow M) (j, ce)) (h0 : ce.1 = 2 ∨ ce.1 = 3) (hn : As.length = ce.2.2.2.1)
    (hst : callK M d PX pc ls h b K ce (.ref a :: As) rest) : W p l e R s m args below meth c H locs cells slots Q (F0 m pc la (As.reverse ++ .ref a :: rest)) := by
  obtain ⟨c1, c2, c3, c4, c5⟩ := hst
  obtain ⟨w1, w2, w3, w4, w5⟩ := hce
  obtain ⟨w6, w7, w8⟩ := w2 (by show ce.1 < 4; omega)
  refine st_back (rest := rest) (ce := ce) hM hH hS hl hc hs c2 c3 hK (a := (Value.ref a :: As).toArray) ?_
  have hmet := w8 l hM.2.2.2.2.2.2.2.2.2.2.2.2.1 _ _ _ _ c5
  unfold ceW at w1
  rcases h0 with h0 | h0
  · obtain ⟨n1, n2⟩ := w3 h0
    have hret : ce.2.2.1.2.2.2.1 = none := congrArg Prod.fst n2
    have hhh : ce.2.2.1.2.2.2.2 = [] := congrArg Prod.snd n2
    rw [show ((j, ce) : Nat × CE).2.1 = 2 from h0] at w1
    rw [cwd_nil hhh, hret] at w1 hmet
    have hg : GoodIn gw (Cond.code ce.2.1 ce.2.2.1.2.1 ce.2.2.1.2.2.1 none :: gw) := gw_in fun w hw => by
      rcases List.mem_cons.mp hw with q | q
      · rw [q]; exact w1 _ (by simp)
      · exact q
    exact vx_runI ⟨hM.1, hM.2.1, hM.2.2.1, hM.2.2.2.1, hM.2.2.2.2.1⟩ hmet (cwI (ws' := gw) ce.2.2.2.1 hM.2.2.2.2.1 hg rfl rfl rfl (hM.2.2.2.2.1 _ (w1 _ (by simp))) (own := mow M) (hM.2.2.2.2.1 _ (w1 _ (by simp))) (hM.2.2.2.2.1 _ (w1 _ (by simp))) n1 w6 (rm_fit c1 w7 hM.2.2.2.2.2.2.1 hM.2.2.2.2.2.2.2.1)) ⟨PcG.blind, pre_at hM hR hS⟩ rfl hn hl.2.1 rfl (lv_room (by rw [catS_e]; exact c4)) hdec ⟨by omega, by omega⟩
  · obtain ⟨n0, nj, n1, n2⟩ := w4 h0
    have hret : ce.2.2.1.2.2.2.1 = none := congrArg Prod.fst n2
    have hhh : ce.2.2.1.2.2.2.2 = [] := congrArg Prod.snd n2
    rw [show ((j, ce) : Nat × CE).2.1 = 3 from h0] at w1
    rw [cwd_nil hhh, hret] at w1 hmet
    have hg : GoodIn gw (Cond.code ce.2.1 ce.2.2.1.2.1 ce.2.2.1.2.2.1 none :: gw) := gw_in fun w hw => by
      rcases List.mem_cons.mp hw with q | q
      · rw [q]; exact w1 _ (by simp)
      · exact q
    have hnest : va_Nw (.methodLinkNest (mow M) j ce.2.1 "ShadowLeases") s := by
      rw [n0, show j = 11 from nj, show ce.2.1 = yX3_init from n1]
      exact hM.2.2.2.2.2.1.2.2.2.2.1 _ (by decide +kernel)
    exact vx_runIN (host := "ShadowLeases") ⟨hM.1, hM.2.1, hM.2.2.1, hM.2.2.2.1, hM.2.2.2.2.1⟩ hmet ⟨va_cnB (ws' := gw) ce.2.2.2.1 hM.2.2.2.2.1 hg rfl rfl rfl hnest (hM.2.2.2.2.1 _ (w1 _ (by simp))) w6 (rm_fit c1 w7 hM.2.2.2.2.2.2.1 hM.2.2.2.2.2.2.2.1), by rw [show ce.2.1 = yX3_init from n1]; rfl, hM.2.2.2.2.1 _ (w1 _ (by simp))⟩ ⟨PcG.blind, pre_at hM hR hS⟩ rfl hn hl.2.1 rfl (lv_room (by rw [catS_e]; exact c4)) hdec ⟨by omega, by omega⟩
end STPC
end
section
/-! ===== one step ===== -/
section STPD
variable {G : GT} {M : MI} {ini : Bool} {d : Nat} {P : Option Value → Hp → Prop} {PX : String → Hp → Prop} {cs : List (Nat × CE)}
theorem tg_of {pc x : Nat} {o : Int} (h : tgN pc o = x) (hx : 0 < x) : (pc : Int) + o = (x : Int) := by
  unfold tgN at h
  omega
theorem lkp_mem {l : List (Nat × CE)} {i : Nat} {ce : CE} (h : lkp l i = some ce) : (i, ce) ∈ l := by
  induction l with
  | nil => cases h
  | cons q r ih =>
    obtain ⟨j, e⟩ := q
    unfold lkp at h
    split at h
    · rename_i hj; cases h; rw [hj]; exact List.mem_cons_self
    · exact List.mem_cons_of_mem _ (ih h)
theorem swP_e {x : Int32} {f : Nat → Prop} : ∀ (tg : List Nat) (v : Int), swP x v tg f → ∀ (k t : Nat), tg[k]? = some t → x.toInt = v + k → 0 < t ∧ f t
  | [], _, _, k, t, hk, _ => by cases k <;> cases hk
  | t0 :: r, v, h, 0, t, hk, hx => by cases hk; exact h.1 (by omega)
  | t0 :: r, v, h, k + 1, t, hk, hx => swP_e r (v + 1) h.2 k t hk (by omega)
theorem gs_word : Cond.fieldLink RJx4a65c 39 "java/util/ArrayList" "DEFAULTCAPACITY_EMPTY_ELEMENTDATA" "[Ljava/lang/Object;" ∈ gw := by decide +kernel
theorem nm_far {x : Nat} (h7 : 7 ≤ x) (h20 : x < 20) (hw : Cond.initialized (nmOf x) ∈ gw) : False := by
  have e : nmOf x = "java/lang/Object" := by
    unfold nmOf
    split <;> first | omega | rfl
  rw [e] at hw
  exact absurd hw (by decide +kernel)
variable {p : Program} {l : Launch} {e : Env} {R : Room} {s : State} {m : MethodId} {args : Array Value} {below : List Frame} {meth : Method} {c : Code} {Q : State → Prop} {H : Heap} {locs : List Loc} {cells slots : Nat} {la : Array Slot}
variable {pc : Nat} {ls : Ls} {st rest : List Value} {h : Hp} {b : Nat × Nat}
theorem st_copy {j a a0 k : Nat} {sp dp n : Int32} (hM : Mach G M ini d P PX p l e R s m args below meth c Q) (hR : Rel G h H) (hS : va_S (AA G) s.heap H locs) (hlink : (Cond.methodLink M.1 j arraycopyName).before args s = true) (hnat : (Cond.native arraycopyName).before args s = true) (hstat : (Cond.static arraycopyName).before args s = true) (hini : (Cond.initialized "java/lang/System").before args s = true)
    (hml : c.maxLocals = la.size) (hdec : decode M.2.1 pc = .ok (.invokestatic j, 3)) (k1 : kd h a0 = 24) (k2 : kd h a = 24) (k3 : ¬ sp < 0) (k4 : ¬ dp < 0) (k5 : ¬ n < 0) (k6 : sp.toNatClampNeg + n.toNatClampNeg ≤ ln h a0) (k7 : dp.toNatClampNeg + n.toNatClampNeg ≤ ln h a)
    (kk : k = 2 ∨ k = 3 ∨ k = 4) (kel : ∀ i w, i < n.toNatClampNeg → ra h a0 (sp.toNatClampNeg + i) = some w → kd h w = k) (hfr : 1 ≤ R.frames) (hlo : (rest.map fun v => v.category).sum + (nativeFrameWords "java/lang/System" "arraycopy" 5 + 11) ≤ R.locals)
    (kt : ∀ (H1 : Heap) (locs1 : List Loc), Rel G (cpRA h a0 a sp.toNatClampNeg dp.toNatClampNeg n.toNatClampNeg) H1 → va_S (AA G) s.heap H1 locs1 → W p l e R s m args below meth c H1 locs1 cells slots Q (F0 m (pc + 3) la rest)) : W p l e R s m args below meth c H locs cells slots Q (F0 m pc la (.int n :: .int dp :: .ref a :: .int sp :: .ref a0 :: rest)) := by
  have hg := hM.2.2.2.2.2.1
  have hR0 := hR
  obtain ⟨L, h1, h2, h3⟩ := hR
  obtain ⟨i0, hi0⟩ := va_pl_get (X := []) (f := cellOf G h) ((h1 a0).mp (by omega))
  obtain ⟨i1, hi1⟩ := va_pl_get (X := []) (f := cellOf G h) ((h1 a).mp (by omega))
  have hj0 := hi0
  have hj1 := hi1
  rw [cell_O k1] at hi0
  rw [cell_O k2] at hi1
  have hcl : nmOf (k - 1) = nmOf (k - 1) := rfl
  refine va_copyq (C := nmOf (k - 1)) (E0 := "java/lang/Object") (E1 := "java/lang/Object") hM.1 hM.2.1 hml hM.2.2.2.1 hlink hnat hstat hini hg.1 h2 h3 hS i0 i1 3 3 hi0 hi1 rfl rfl k3 k4 k5 k6 k7 (fun i hi y hy => ?_) (fun comp c0 q1 q2 => ?_) hfr hlo hdec (fun H1 locs1 hP1 hD1 hS1 => kt H1 locs1 ?_ hS1)
  · have hky := kel i y hi hy
    have := Rel.recv hM hR0 (a := y) (by omega) (by omega)
    rw [hky] at this
    exact this
  · have hb : va_Nw (.castable (nmOf (k - 1)) "java/lang/Object") s := by
      refine hg.2.2.2.2.1 _ ?_
      rcases kk with q | q | q <;> rw [q] <;> decide +kernel
    exact vb_asgC hb comp c0 q1 q2
  · refine Rel.set h1 h3 (by omega) hj1 hP1 hD1 (fun _ => rfl) ?_ (fun q hq => cpRA_o hq)
    have he : ra (cpRA h a0 a sp.toNatClampNeg dp.toNatClampNeg n.toNatClampNeg) a = va_cpy (ra h a0) (ra h a) sp.toNatClampNeg dp.toNatClampNeg n.toNatClampNeg := by
      funext i'
      rw [ra_cpRA]
      unfold va_cpy
      simp
    rw [cell_O (show kd (cpRA h a0 a sp.toNatClampNeg dp.toNatClampNeg n.toNatClampNeg) a = 24 from k2), he]
    rfl
theorem st_copyI {j a a0 : Nat} {sp dp n : Int32} (hM : Mach G M ini d P PX p l e R s m args below meth c Q) (hR : Rel G h H) (hS : va_S (AA G) s.heap H locs) (hlink : (Cond.methodLink M.1 j arraycopyName).before args s = true) (hnat : (Cond.native arraycopyName).before args s = true) (hstat : (Cond.static arraycopyName).before args s = true) (hini : (Cond.initialized "java/lang/System").before args s = true)
    (hml : c.maxLocals = la.size) (hdec : decode M.2.1 pc = .ok (.invokestatic j, 3)) (k1 : kd h a0 = 21) (k2 : kd h a = 21) (k3 : ¬ sp < 0) (k4 : ¬ dp < 0) (k5 : ¬ n < 0) (k6 : sp.toNatClampNeg + n.toNatClampNeg ≤ ln h a0) (k7 : dp.toNatClampNeg + n.toNatClampNeg ≤ ln h a)
    (hfr : 1 ≤ R.frames) (hlo : (rest.map fun v => v.category).sum + (nativeFrameWords "java/lang/System" "arraycopy" 5 + 11) ≤ R.locals)
    (kt : ∀ (H1 : Heap) (locs1 : List Loc), Rel G (cpIA h a0 a sp.toNatClampNeg dp.toNatClampNeg n.toNatClampNeg) H1 → va_S (AA G) s.heap H1 locs1 → W p l e R s m args below meth c H1 locs1 cells slots Q (F0 m (pc + 3) la rest)) : W p l e R s m args below meth c H locs cells slots Q (F0 m pc la (.int n :: .int dp :: .ref a :: .int sp :: .ref a0 :: rest)) := by
  have hg := hM.2.2.2.2.2.1
  obtain ⟨L, h1, h2, h3⟩ := hR
  obtain ⟨i0, hi0⟩ := va_pl_get (X := []) (f := cellOf G h) ((h1 a0).mp (by omega))
  obtain ⟨i1, hi1⟩ := va_pl_get (X := []) (f := cellOf G h) ((h1 a).mp (by omega))
  have hj1 := hi1
  rw [cell_I k1] at hi0
  rw [cell_I k2] at hi1
  refine va_copyi hM.1 hM.2.1 hml hM.2.2.2.1 hlink hnat hstat hini hg.1 h2 h3 hS i0 i1 0 0 hi0 hi1 rfl rfl rfl k3 k4 k5 k6 k7 (fun _ _ => rfl) hfr hlo hdec (fun H1 locs1 hP1 hD1 hS1 => kt H1 locs1 ?_ hS1)
  refine Rel.set h1 h3 (by omega) hj1 hP1 hD1 (fun _ => rfl) ?_ (fun q hq => cpIA_o hq)
  have he : ia (cpIA h a0 a sp.toNatClampNeg dp.toNatClampNeg n.toNatClampNeg) a = va_cpy (ia h a0) (ia h a) sp.toNatClampNeg dp.toNatClampNeg n.toNatClampNeg := by
    funext i'
    rw [ia_cpIA]
    unfold va_cpy
    simp
  rw [cell_I (show kd (cpIA h a0 a sp.toNatClampNeg dp.toNatClampNeg n.toNatClampNeg) a = 21 from k2), he]
  rfl
theorem st_switch {dd lo hi : Int} {offs : Array Int} {len x y : Nat} {v : Int32} {tg : List Nat} {K : Nat → Ls → List Value → Hp → Nat × Nat → Prop} (hM : Mach G M ini d P PX p l e R s m args below meth c Q) (hR : Rel G h H) (hS : va_S (AA G) s.heap H locs) (hc : cells + b.1 ≤ R.cells) (hs : slots + b.2 ≤ R.slots) (hl : LsR M.2.2.1 ls la)
    (hdec : decode M.2.1 pc = .ok (.tableswitch dd lo hi offs, len)) (hr : rsOf M.1 pc (.tableswitch dd lo hi offs) = (x, y, v, tg)) (hK : ∀ pc ls st h b, K pc ls st h b → Wp G M ini d P PX pc ls st h b) (hst : stepI G M ini d cs P PX (.tableswitch dd lo hi offs) x y v tg pc ls st h b K) : W p l e R s m args below meth c H locs cells slots Q (F0 m pc la st) := by
  simp only [stepI] at hst
  obtain ⟨h0, hlo, hhi, hst⟩ := hst
  obtain ⟨w, r, rfl, h1, h2⟩ := sI_e hst
  have e1 : tgN pc dd = x := congrArg (fun q => q.1) hr
  have e2 : Int32.ofInt lo = v := congrArg (fun q => q.2.2.1) hr
  have e3 : offs.toList.map (tgN pc) = tg := congrArg (fun q => q.2.2.2) hr
  rw [← e2] at h1 h2
  rw [hlo] at h1 h2
  have hx := hM.1
  have hb := hM.2.1
  by_cases hin : w.toInt < lo ∨ hi < w.toInt
  · exact lv_tableOut hx hb hdec hin (tg_of e1 h0) (hK _ _ _ _ _ (h2 (by omega)) hM hR hS hc hs hl)
  · have hk : (w.toInt - lo).toNat < tg.length := by omega
    obtain ⟨t0, hkt⟩ : ∃ t0, tg[(w.toInt - lo).toNat]? = some t0 := ⟨_, List.getElem?_eq_getElem hk⟩
    obtain ⟨q1, q2⟩ := swP_e tg lo h1 _ _ hkt (by omega)
    rw [← e3, List.getElem?_map] at hkt
    obtain ⟨o, ho, ho2⟩ := Option.map_eq_some_iff.mp hkt
    rw [Array.getElem?_toList] at ho
    exact lv_tableIn hx hb hdec (by omega) (by omega) ho (tg_of ho2 q1) (hK _ _ _ _ _ q2 hM hR hS hc hs hl)
set_option maxHeartbeats 4000000 in
theorem stepI_sound {i : Instr} {len x y : Nat} {v : Int32} {tg : List Nat} {pc : Nat} {ls : Ls} {st : List Value} {h : Hp} {b : Nat × Nat} {K : Nat → Ls → List Value → Hp → Nat × Nat → Prop}
    (hH : hhOK (mow M) (mhh M)) (hcs : ∀ q ∈ cs, ceOK G (mow M) q) (hdec : decode M.2.1 pc = .ok (i, len)) (hlen : lenI i = len ∨ lenI i = 0) (hr : rsOf M.1 pc i = (x, y, v, tg))
    (hK : ∀ pc ls st h b, K pc ls st h b → Wp G M ini d P PX pc ls st h b) (hst : stepI G M ini d cs P PX i x y v tg pc ls st h b K) : Wp G M ini d P PX pc ls st h b := by
  intro p l e R s m args below meth c Q H locs cells slots la hM hR hS hc hs hl
  have hx := hM.1
  have hb := hM.2.1
  have hown := hM.2.2.2.1
  have hts := hM.2.2.2.2.1
  have hg := hM.2.2.2.2.2.1
  have hml : c.maxLocals = la.size := by rw [hM.2.2.1, hl.2.1]
  cases i <;> first | exact hst.elim | skip
  case iconst n =>
    simp only [stepI] at hst
    obtain rfl : 1 = len := by simpa [lenI] using hlen
    obtain rfl : Int32.ofInt n = v := congrArg (fun q => q.2.2.1) hr
    exact lv_iconst hx hb hdec rfl (hK _ _ _ _ _ hst hM hR hS hc hs hl)
  case bipush n =>
    simp only [stepI] at hst
    obtain rfl : 2 = len := by simpa [lenI] using hlen
    obtain rfl : (Int8.ofInt n).toInt32 = v := congrArg (fun q => q.2.2.1) hr
    exact lv_bipush hx hb hdec rfl (hK _ _ _ _ _ hst hM hR hS hc hs hl)
  case sipush n =>
    simp only [stepI] at hst
    obtain rfl : 3 = len := by simpa [lenI] using hlen
    obtain rfl : (Int16.ofInt n).toInt32 = v := congrArg (fun q => q.2.2.1) hr
    exact lv_sipush hx hb hdec rfl (hK _ _ _ _ _ hst hM hR hS hc hs hl)
  case aconst_null =>
    simp only [stepI] at hst
    obtain rfl : 1 = len := by simpa [lenI] using hlen
    exact lv_null hx hb hdec (hK _ _ _ _ _ hst hM hR hS hc hs hl)
  case dconst n =>
    simp only [stepI] at hst
    obtain rfl : 1 = len := by simpa [lenI] using hlen
    split at hst
    · rename_i hn; subst hn; exact lv_dconst0 hx hb hdec (hK _ _ _ _ _ hst hM hR hS hc hs hl)
    · obtain ⟨hn, hst1⟩ := hst; subst hn; exact lv_dconst1 hx hb hdec (hK _ _ _ _ _ hst1 hM hR hS hc hs hl)
  case ldc2_w j =>
    simp only [stepI] at hst
    obtain rfl : 3 = len := by simpa [lenI] using hlen
    obtain ⟨rfl, hst1⟩ := hst
    exact lv_ldc2 hx hb hown (hts _ (lcn_link (rs_ldc2 hr))) hdec (hK _ _ _ _ _ hst1 hM hR hS hc hs hl)
  case ldc j =>
    simp only [stepI] at hst
    obtain rfl : 2 = len := by simpa [lenI] using hlen
    split at hst
    · rename_i h98
      subst h98
      exact lv_ldc hx hb hown (hts _ (icn_link (rs_ldci hr))) hdec (hK _ _ _ _ _ hst hM hR hS hc hs hl)
    split at hst
    · rename_i hxx
      subst hxx
      obtain ⟨ho, hst⟩ := hst
      exact va_ldcM hx hb hown (hts _ (cls_link (rs_ldc hr (by omega) (by omega)))) hg.2.2.2.2.2.2.2.2.1 hdec (hK _ _ _ _ _ hst hM hR hS hc hs hl)
    · obtain ⟨ho, rfl, hst⟩ := hst
      exact lv_ldc hx hb (show s.vm.findClass RJ8 = some m.cls by rw [← ho]; exact hown) (hts _ ldc_word) hdec (hK _ _ _ _ _ hst hM hR hS hc hs hl)
  case getstatic j =>
    simp only [stepI] at hst
    obtain rfl : 3 = len := by simpa [lenI] using hlen
    obtain ⟨ho, rfl, hst⟩ := hst
    exact va_gets (C := "java/util/ArrayList") hx hb hg.2.2.2.2.2.2.1 hS (show s.vm.findClass RJx4a65c = some m.cls by rw [← ho]; exact hown) (ref := "java/util/ArrayList") (hts _ gs_word) (fun z hz => hz) hdec (hK _ _ _ _ _ hst hM hR hS hc hs hl)
  case iload j =>
    simp only [stepI] at hst
    obtain rfl : 2 = len := by simpa [lenI] using hlen
    replace hst := gI_e hst; obtain ⟨w, hw, hst⟩ := hst
    exact lv_iload hx hb hdec (hl.2.2.2 _ _ hw) (hK _ _ _ _ _ hst hM hR hS hc hs hl)
  case lload j =>
    simp only [stepI] at hst
    obtain rfl : 2 = len := by simpa [lenI] using hlen
    replace hst := gL_e hst; obtain ⟨w, hw, hst⟩ := hst
    exact lv_lload hx hb hdec (hl.2.2.2 _ _ hw) (hK _ _ _ _ _ hst hM hR hS hc hs hl)
  case dload j =>
    simp only [stepI] at hst
    obtain rfl : 2 = len := by simpa [lenI] using hlen
    replace hst := gD_e hst; obtain ⟨w, hw, hst⟩ := hst
    exact lv_dload hx hb hdec (hl.2.2.2 _ _ hw) (hK _ _ _ _ _ hst hM hR hS hc hs hl)
  case aload j =>
    simp only [stepI] at hst
    obtain rfl : 2 = len := by simpa [lenI] using hlen
    replace hst := gR_e hst; obtain ⟨w, hw, hst⟩ := hst
    exact lv_aload hx hb hdec (hl.2.2.2 _ _ hw) (hK _ _ _ _ _ hst hM hR hS hc hs hl)
  case iload_n j =>
    simp only [stepI] at hst
    obtain rfl : 1 = len := by simpa [lenI] using hlen
    obtain rfl : (j : Nat) = x := congrArg (fun q => q.1) hr
    replace hst := gI_e hst; obtain ⟨w, hw, hst⟩ := hst
    exact lv_iload_n hx hb hdec rfl (hl.2.2.2 _ _ hw) (hK _ _ _ _ _ hst hM hR hS hc hs hl)
  case lload_n j =>
    simp only [stepI] at hst
    obtain rfl : 1 = len := by simpa [lenI] using hlen
    obtain rfl : (j : Nat) = x := congrArg (fun q => q.1) hr
    replace hst := gL_e hst; obtain ⟨w, hw, hst⟩ := hst
    exact lv_lload_n hx hb hdec rfl (hl.2.2.2 _ _ hw) (hK _ _ _ _ _ hst hM hR hS hc hs hl)
  case aload_n j =>
    simp only [stepI] at hst
    obtain rfl : 1 = len := by simpa [lenI] using hlen
    obtain rfl : (j : Nat) = x := congrArg (fun q => q.1) hr
    replace hst := gR_e hst; obtain ⟨w, hw, hst⟩ := hst
    exact lv_aload_n hx hb hdec rfl (hl.2.2.2 _ _ hw) (hK _ _ _ _ _ hst hM hR hS hc hs hl)
  case istore j =>
    simp only [stepI] at hst
    obtain rfl : 2 = len := by simpa [lenI] using hlen
    replace hst := sI_e hst; obtain ⟨w, r, rfl, hj, hst⟩ := hst
    exact lv_istore hx hb hdec hl.has (by rw [← hl.1]; exact hj) rfl (fun la' h' => hK _ _ _ _ _ hst hM hR hS hc hs (hl.put h'))
  case istore_n j =>
    simp only [stepI] at hst
    obtain rfl : 1 = len := by simpa [lenI] using hlen
    obtain rfl : (j : Nat) = x := congrArg (fun q => q.1) hr
    replace hst := sI_e hst; obtain ⟨w, r, rfl, hj, hst⟩ := hst
    exact lv_istore_n hx hb hdec rfl hl.has (by rw [← hl.1]; exact hj) rfl (fun la' h' => hK _ _ _ _ _ hst hM hR hS hc hs (hl.put h'))
  case astore j =>
    simp only [stepI] at hst
    obtain rfl : 2 = len := by simpa [lenI] using hlen
    replace hst := sR_e hst; obtain ⟨w, r, rfl, hj, hst⟩ := hst
    exact lv_astore hx hb hdec hl.has (by rw [← hl.1]; exact hj) rfl (fun la' h' => hK _ _ _ _ _ hst hM hR hS hc hs (hl.put h'))
  case astore_n j =>
    simp only [stepI] at hst
    obtain rfl : 1 = len := by simpa [lenI] using hlen
    obtain rfl : (j : Nat) = x := congrArg (fun q => q.1) hr
    replace hst := sR_e hst; obtain ⟨w, r, rfl, hj, hst⟩ := hst
    exact lv_astore_n hx hb hdec rfl hl.has (by rw [← hl.1]; exact hj) rfl (fun la' h' => hK _ _ _ _ _ hst hM hR hS hc hs (hl.put h'))
  case lstore j =>
    simp only [stepI] at hst
    obtain rfl : 2 = len := by simpa [lenI] using hlen
    replace hst := sL_e hst; obtain ⟨w, r, rfl, hj, hst⟩ := hst
    exact lv_lstore hx hb hdec hl.has (by rw [← hl.1]; exact hj) rfl (fun la' h' => hK _ _ _ _ _ hst hM hR hS hc hs (hl.putW h'))
  case dstore j =>
    simp only [stepI] at hst
    obtain rfl : 2 = len := by simpa [lenI] using hlen
    replace hst := sD_e hst; obtain ⟨w, r, rfl, hj, hst⟩ := hst
    exact lv_dstore hx hb hdec hl.has (by rw [← hl.1]; exact hj) rfl (fun la' h' => hK _ _ _ _ _ hst hM hR hS hc hs (hl.putW h'))
  case lstore_n j =>
    simp only [stepI] at hst
    obtain rfl : 1 = len := by simpa [lenI] using hlen
    obtain rfl : (j : Nat) = x := congrArg (fun q => q.1) hr
    replace hst := sL_e hst; obtain ⟨w, r, rfl, hj, hst⟩ := hst
    exact lv_lstore_n hx hb hdec rfl hl.has (by rw [← hl.1]; exact hj) rfl (fun la' h' => hK _ _ _ _ _ hst hM hR hS hc hs (hl.putW h'))
  case iinc j n =>
    simp only [stepI] at hst
    obtain rfl : 3 = len := by simpa [lenI] using hlen
    obtain rfl : Int32.ofInt n = v := congrArg (fun q => q.2.2.1) hr
    replace hst := gI_e hst; obtain ⟨w, hw, hj, hst⟩ := hst
    obtain ⟨k, hk⟩ := List.getElem?_of_mem (mem_asL.mpr hw)
    exact lv_iinc hx hb hdec hl.has hk rfl (by rw [← hl.1]; exact hj) rfl (fun la' h' => hK _ _ _ _ _ hst hM hR hS hc hs (hl.put h'))
  case iadd =>
    simp only [stepI] at hst
    obtain rfl : 1 = len := by simpa [lenI] using hlen
    replace hst := sI_e hst; obtain ⟨q, r, rfl, hst⟩ := hst
    replace hst := sI_e hst; obtain ⟨w, r, rfl, hst⟩ := hst
    exact lv_iadd hx hb hdec (hK _ _ _ _ _ hst hM hR hS hc hs hl)
  case isub =>
    simp only [stepI] at hst
    obtain rfl : 1 = len := by simpa [lenI] using hlen
    replace hst := sI_e hst; obtain ⟨q, r, rfl, hst⟩ := hst
    replace hst := sI_e hst; obtain ⟨w, r, rfl, hst⟩ := hst
    exact lv_isub hx hb hdec (hK _ _ _ _ _ hst hM hR hS hc hs hl)
  case imul =>
    simp only [stepI] at hst
    obtain rfl : 1 = len := by simpa [lenI] using hlen
    replace hst := sI_e hst; obtain ⟨q, r, rfl, hst⟩ := hst
    replace hst := sI_e hst; obtain ⟨w, r, rfl, hst⟩ := hst
    exact lv_imul hx hb hdec (hK _ _ _ _ _ hst hM hR hS hc hs hl)
  case iand =>
    simp only [stepI] at hst
    obtain rfl : 1 = len := by simpa [lenI] using hlen
    replace hst := sI_e hst; obtain ⟨q, r, rfl, hst⟩ := hst
    replace hst := sI_e hst; obtain ⟨w, r, rfl, hst⟩ := hst
    exact lv_iand hx hb hdec (hK _ _ _ _ _ hst hM hR hS hc hs hl)
  case ishr =>
    simp only [stepI] at hst
    obtain rfl : 1 = len := by simpa [lenI] using hlen
    replace hst := sI_e hst; obtain ⟨q, r, rfl, hst⟩ := hst
    replace hst := sI_e hst; obtain ⟨w, r, rfl, hst⟩ := hst
    exact lv_ishr hx hb hdec (hK _ _ _ _ _ hst hM hR hS hc hs hl)
  case idiv =>
    simp only [stepI] at hst
    obtain rfl : 1 = len := by simpa [lenI] using hlen
    replace hst := sI_e hst; obtain ⟨q, r, rfl, hst⟩ := hst
    replace hst := sI_e hst; obtain ⟨w, r, rfl, hq, hst⟩ := hst
    exact lv_idiv hx hb hdec hq (hK _ _ _ _ _ hst hM hR hS hc hs hl)
  case irem =>
    simp only [stepI] at hst
    obtain rfl : 1 = len := by simpa [lenI] using hlen
    replace hst := sI_e hst; obtain ⟨q, r, rfl, hst⟩ := hst
    replace hst := sI_e hst; obtain ⟨w, r, rfl, hq, hst⟩ := hst
    exact lv_irem hx hb hdec hq (hK _ _ _ _ _ hst hM hR hS hc hs hl)
  case ladd =>
    simp only [stepI] at hst
    obtain rfl : 1 = len := by simpa [lenI] using hlen
    replace hst := sL_e hst; obtain ⟨q, r, rfl, hst⟩ := hst
    replace hst := sL_e hst; obtain ⟨w, r, rfl, hst⟩ := hst
    exact lv_ladd hx hb hdec (hK _ _ _ _ _ hst hM hR hS hc hs hl)
  case lmul =>
    simp only [stepI] at hst
    obtain rfl : 1 = len := by simpa [lenI] using hlen
    replace hst := sL_e hst; obtain ⟨q, r, rfl, hst⟩ := hst
    replace hst := sL_e hst; obtain ⟨w, r, rfl, hst⟩ := hst
    exact lv_lmul hx hb hdec (hK _ _ _ _ _ hst hM hR hS hc hs hl)
  case lcmp =>
    simp only [stepI] at hst
    obtain rfl : 1 = len := by simpa [lenI] using hlen
    replace hst := sL_e hst; obtain ⟨q, r, rfl, hst⟩ := hst
    replace hst := sL_e hst; obtain ⟨w, r, rfl, hst⟩ := hst
    exact W.lcmp hx hb hdec (hK _ _ _ _ _ hst hM hR hS hc hs hl)
  case i2l =>
    simp only [stepI] at hst
    obtain rfl : 1 = len := by simpa [lenI] using hlen
    replace hst := sI_e hst; obtain ⟨q, r, rfl, hst⟩ := hst
    exact lv_i2l hx hb hdec rfl (hK _ _ _ _ _ hst hM hR hS hc hs hl)
  case i2d =>
    simp only [stepI] at hst
    obtain rfl : 1 = len := by simpa [lenI] using hlen
    replace hst := sI_e hst; obtain ⟨q, r, rfl, hst⟩ := hst
    exact lv_i2d hx hb hdec (hK _ _ _ _ _ hst hM hR hS hc hs hl)
  case ddiv =>
    simp only [stepI] at hst
    obtain rfl : 1 = len := by simpa [lenI] using hlen
    replace hst := sD_e hst; obtain ⟨q, r, rfl, hst⟩ := hst
    replace hst := sD_e hst; obtain ⟨w, r, rfl, hq, hst⟩ := hst
    exact lv_ddiv hx hb hdec hq (hK _ _ _ _ _ hst hM hR hS hc hs hl)
  case dcmp o =>
    simp only [stepI] at hst
    obtain rfl : 1 = len := by simpa [lenI] using hlen
    replace hst := sD_e hst; obtain ⟨q, r, rfl, hst⟩ := hst
    replace hst := sD_e hst; obtain ⟨w, r, rfl, hst⟩ := hst
    exact lv_dcmp hx hb hdec (hK _ _ _ _ _ hst hM hR hS hc hs hl)
  case dup =>
    simp only [stepI] at hst
    obtain rfl : 1 = len := by simpa [lenI] using hlen
    replace hst := s1_e hst; obtain ⟨q, r, rfl, hq, hst⟩ := hst
    exact lv_dup hx hb hdec hq (hK _ _ _ _ _ hst hM hR hS hc hs hl)
  case dup2 =>
    simp only [stepI] at hst
    obtain rfl : 1 = len := by simpa [lenI] using hlen
    replace hst := s1_e hst; obtain ⟨q, r, rfl, hq, hst⟩ := hst
    replace hst := s1_e hst; obtain ⟨w, r, rfl, hw, hst⟩ := hst
    exact lv_dup2_11 hx hb hdec hq hw (hK _ _ _ _ _ hst hM hR hS hc hs hl)
  case dup_x1 =>
    simp only [stepI] at hst
    obtain rfl : 1 = len := by simpa [lenI] using hlen
    replace hst := s1_e hst; obtain ⟨q, r, rfl, hq, hst⟩ := hst
    replace hst := s1_e hst; obtain ⟨w, r, rfl, hw, hst⟩ := hst
    exact lv_dup_x1 hx hb hdec hq hw (hK _ _ _ _ _ hst hM hR hS hc hs hl)
  case pop =>
    simp only [stepI] at hst
    obtain rfl : 1 = len := by simpa [lenI] using hlen
    replace hst := s1_e hst; obtain ⟨q, r, rfl, hq, hst⟩ := hst
    exact lv_pop hx hb hdec hq (hK _ _ _ _ _ hst hM hR hS hc hs hl)
  case goto o =>
    simp only [stepI] at hst
    obtain rfl : 3 = len := by simpa [lenI] using hlen
    obtain ⟨h0, hst⟩ := hst
    exact lv_goto hx hb hdec (tg_of (congrArg (fun q => q.1) hr) h0) (hK _ _ _ _ _ hst hM hR hS hc hs hl)
  case ifCond cc o =>
    obtain rfl : 3 = len := by simpa [lenI] using hlen
    have ht := congrArg (fun q => q.1) hr
    cases cc
    case eq =>
      simp only [stepI] at hst
      obtain ⟨h0, hst⟩ := hst
      replace hst := sI_e hst; obtain ⟨q, r, rfl, h1, h2⟩ := hst
      exact lv_if_eq hx hb hdec (tg_of ht h0) (fun z => hK _ _ _ _ _ (h1 z) hM hR hS hc hs hl) (fun z => hK _ _ _ _ _ (h2 z) hM hR hS hc hs hl)
    case ne =>
      simp only [stepI] at hst
      obtain ⟨h0, hst⟩ := hst
      replace hst := sI_e hst; obtain ⟨q, r, rfl, h1, h2⟩ := hst
      exact lv_if_ne hx hb hdec (tg_of ht h0) (fun z => hK _ _ _ _ _ (h1 z) hM hR hS hc hs hl) (fun z => hK _ _ _ _ _ (h2 z) hM hR hS hc hs hl)
    case lt =>
      simp only [stepI] at hst
      obtain ⟨h0, hst⟩ := hst
      replace hst := sI_e hst; obtain ⟨q, r, rfl, h1, h2⟩ := hst
      exact lv_if_lt hx hb hdec (tg_of ht h0) (fun z => hK _ _ _ _ _ (h1 z) hM hR hS hc hs hl) (fun z => hK _ _ _ _ _ (h2 z) hM hR hS hc hs hl)
    case ge =>
      simp only [stepI] at hst
      obtain ⟨h0, hst⟩ := hst
      replace hst := sI_e hst; obtain ⟨q, r, rfl, h1, h2⟩ := hst
      exact lv_if_ge hx hb hdec (tg_of ht h0) (fun z => hK _ _ _ _ _ (h1 z) hM hR hS hc hs hl) (fun z => hK _ _ _ _ _ (h2 z) hM hR hS hc hs hl)
    case gt =>
      simp only [stepI] at hst
      obtain ⟨h0, hst⟩ := hst
      replace hst := sI_e hst; obtain ⟨q, r, rfl, h1, h2⟩ := hst
      exact lv_if_gt hx hb hdec (tg_of ht h0) (fun z => hK _ _ _ _ _ (h1 z) hM hR hS hc hs hl) (fun z => hK _ _ _ _ _ (h2 z) hM hR hS hc hs hl)
    case le =>
      simp only [stepI] at hst
      obtain ⟨h0, hst⟩ := hst
      replace hst := sI_e hst; obtain ⟨q, r, rfl, h1, h2⟩ := hst
      exact lv_if_le hx hb hdec (tg_of ht h0) (fun z => hK _ _ _ _ _ (h1 z) hM hR hS hc hs hl) (fun z => hK _ _ _ _ _ (h2 z) hM hR hS hc hs hl)
  case if_icmp cc o =>
    obtain rfl : 3 = len := by simpa [lenI] using hlen
    have ht := congrArg (fun q => q.1) hr
    cases cc
    case eq =>
      simp only [stepI] at hst
      obtain ⟨h0, hst⟩ := hst
      replace hst := sI_e hst; obtain ⟨q, r, rfl, hst⟩ := hst
      replace hst := sI_e hst; obtain ⟨w, r, rfl, h1, h2⟩ := hst
      exact lv_icmp_eq hx hb hdec (tg_of ht h0) (fun z => hK _ _ _ _ _ (h1 z) hM hR hS hc hs hl) (fun z => hK _ _ _ _ _ (h2 z) hM hR hS hc hs hl)
    case ne =>
      simp only [stepI] at hst
      obtain ⟨h0, hst⟩ := hst
      replace hst := sI_e hst; obtain ⟨q, r, rfl, hst⟩ := hst
      replace hst := sI_e hst; obtain ⟨w, r, rfl, h1, h2⟩ := hst
      exact lv_icmp_ne hx hb hdec (tg_of ht h0) (fun z => hK _ _ _ _ _ (h1 z) hM hR hS hc hs hl) (fun z => hK _ _ _ _ _ (h2 z) hM hR hS hc hs hl)
    case lt =>
      simp only [stepI] at hst
      obtain ⟨h0, hst⟩ := hst
      replace hst := sI_e hst; obtain ⟨q, r, rfl, hst⟩ := hst
      replace hst := sI_e hst; obtain ⟨w, r, rfl, h1, h2⟩ := hst
      exact lv_icmp_lt hx hb hdec (tg_of ht h0) (fun z => hK _ _ _ _ _ (h1 z) hM hR hS hc hs hl) (fun z => hK _ _ _ _ _ (h2 z) hM hR hS hc hs hl)
    case ge =>
      simp only [stepI] at hst
      obtain ⟨h0, hst⟩ := hst
      replace hst := sI_e hst; obtain ⟨q, r, rfl, hst⟩ := hst
      replace hst := sI_e hst; obtain ⟨w, r, rfl, h1, h2⟩ := hst
      exact lv_icmp_ge hx hb hdec (tg_of ht h0) (fun z => hK _ _ _ _ _ (h1 z) hM hR hS hc hs hl) (fun z => hK _ _ _ _ _ (h2 z) hM hR hS hc hs hl)
    case gt =>
      simp only [stepI] at hst
      obtain ⟨h0, hst⟩ := hst
      replace hst := sI_e hst; obtain ⟨q, r, rfl, hst⟩ := hst
      replace hst := sI_e hst; obtain ⟨w, r, rfl, h1, h2⟩ := hst
      exact lv_icmp_gt hx hb hdec (tg_of ht h0) (fun z => hK _ _ _ _ _ (h1 z) hM hR hS hc hs hl) (fun z => hK _ _ _ _ _ (h2 z) hM hR hS hc hs hl)
    case le =>
      simp only [stepI] at hst
      obtain ⟨h0, hst⟩ := hst
      replace hst := sI_e hst; obtain ⟨q, r, rfl, hst⟩ := hst
      replace hst := sI_e hst; obtain ⟨w, r, rfl, h1, h2⟩ := hst
      exact lv_icmp_le hx hb hdec (tg_of ht h0) (fun z => hK _ _ _ _ _ (h1 z) hM hR hS hc hs hl) (fun z => hK _ _ _ _ _ (h2 z) hM hR hS hc hs hl)
  case if_acmp cc o =>
    obtain rfl : 3 = len := by simpa [lenI] using hlen
    have ht := congrArg (fun q => q.1) hr
    cases cc
    case eq =>
      simp only [stepI] at hst
      obtain ⟨h0, hst⟩ := hst
      replace hst := sR_e hst; obtain ⟨q, r, rfl, hst⟩ := hst
      replace hst := sR_e hst; obtain ⟨w, r, rfl, h1, h2⟩ := hst
      exact lv_acmp_eq (rx := some w) (ry := some q) hx hb hdec (tg_of ht h0) (fun z => hK _ _ _ _ _ (h1 (Option.some.inj z)) hM hR hS hc hs hl) (fun z => hK _ _ _ _ _ (h2 (fun e => z (congrArg some e))) hM hR hS hc hs hl)
    case ne =>
      simp only [stepI] at hst
      obtain ⟨h0, hst⟩ := hst
      replace hst := sR_e hst; obtain ⟨q, r, rfl, hst⟩ := hst
      replace hst := sR_e hst; obtain ⟨w, r, rfl, h1, h2⟩ := hst
      exact lv_acmp_ne (rx := some w) (ry := some q) hx hb hdec (tg_of ht h0) (fun z => hK _ _ _ _ _ (h1 (fun e => z (congrArg some e))) hM hR hS hc hs hl) (fun z => hK _ _ _ _ _ (h2 (Option.some.inj z)) hM hR hS hc hs hl)
  case getfield j =>
    simp only [stepI] at hst
    obtain rfl : 3 = len := by simpa [lenI] using hlen
    replace hst := sR_e hst; obtain ⟨a, r, rfl, hk, hy, hst⟩ := hst
    refine st_getfield hM hR hdec hr hk hy ?_
    unfold fvV
    split at hst
    · rename_i hrf
      rw [if_pos hrf]
      exact hK _ _ _ _ _ (oR_e hst) hM hR hS hc hs hl
    · rename_i hrf
      rw [if_neg hrf]
      exact hK _ _ _ _ _ hst hM hR hS hc hs hl
  case putfield j =>
    simp only [stepI] at hst
    obtain rfl : 3 = len := by simpa [lenI] using hlen
    split at hst
    · rename_i hrf
      replace hst := vR_e hst; obtain ⟨q, r, rfl, hst⟩ := hst
      replace hst := sR_e hst; obtain ⟨a, r, rfl, hk, hy, hfin, hst⟩ := hst
      have hty := cl_ref x (nF_lt hy) y hy hrf
      refine st_putfield (h' := setR h x y a q) hM hR hS hdec hr hk hy hfin ?_ ?_ (fun _ => rfl) ?_ ?_ (fun z hz => setR_o hz) (fun H1 locs1 hR1 hS1 => hK _ _ _ _ _ hst hM hR1 hS1 hc hs hl)
      · cases q <;> (generalize clY x y = ty at hty; cases ty <;> first | rfl | cases hty)
      · cases q <;> (generalize clY x y = ty at hty; cases ty <;> first | rfl | cases hty)
      · unfold fvV; rw [if_pos hrf, fr_setR, if_pos (show x = x ∧ y = y ∧ a = a from ⟨rfl, rfl, rfl⟩)]
      · intro z hz
        unfold fvV
        rw [fr_setR, if_neg (show ¬ (x = x ∧ z = y ∧ a = a) from fun w => hz w.2.1)]
        rfl
    · rename_i hrf
      replace hst := sI_e hst; obtain ⟨w, r, rfl, hst⟩ := hst
      replace hst := sR_e hst; obtain ⟨a, r, rfl, hk, hy, hfin, hbo, hst⟩ := hst
      have hrf : refF x y = false := by cases hq : refF x y <;> simp_all
      have hty := cl_int x (nF_lt hy) y hy hrf
      refine st_putfield (h' := setI h x y a w) hM hR hS hdec hr hk hy hfin ?_ ?_ (fun _ => rfl) ?_ ?_ (fun z hz => setI_o hz) (fun H1 locs1 hR1 hS1 => hK _ _ _ _ _ hst hM hR1 hS1 hc hs hl)
      · generalize clY x y = ty at hty
        cases ty <;> first | rfl | cases hty | (rcases hbo hty with rfl | rfl <;> rfl)
      · generalize clY x y = ty at hty
        cases ty <;> first | rfl | cases hty | (rcases hbo hty with rfl | rfl <;> rfl)
      · unfold fvV; rw [hrf, fi_setI, if_pos (show x = x ∧ y = y ∧ a = a from ⟨rfl, rfl, rfl⟩)]; rfl
      · intro z hz
        unfold fvV
        rw [fi_setI, if_neg (show ¬ (x = x ∧ z = y ∧ a = a) from fun w => hz w.2.1)]
        rfl
  case iaload =>
    simp only [stepI] at hst
    obtain rfl : 1 = len := by simpa [lenI] using hlen
    replace hst := sI_e hst; obtain ⟨j, r, rfl, hst⟩ := hst
    replace hst := sR_e hst; obtain ⟨a, r, rfl, hk, hj, hst⟩ := hst
    exact st_iald hM hR hdec hk hj (hK _ _ _ _ _ hst hM hR hS hc hs hl)
  case baload =>
    simp only [stepI] at hst
    obtain rfl : 1 = len := by simpa [lenI] using hlen
    replace hst := sI_e hst; obtain ⟨j, r, rfl, hst⟩ := hst
    replace hst := sR_e hst; obtain ⟨a, r, rfl, hk, hj, hst⟩ := hst
    exact st_zald hM hR hdec hk hj (hK _ _ _ _ _ hst hM hR hS hc hs hl)
  case aaload =>
    simp only [stepI] at hst
    obtain rfl : 1 = len := by simpa [lenI] using hlen
    split at hst
    · replace hst := sI_e hst; obtain ⟨j, r, rfl, hst⟩ := hst
      replace hst := sR_e hst; obtain ⟨a, r, rfl, hk, hj, hst⟩ := hst
      exact st_mald hM hR hdec hk hj (hK _ _ _ _ _ (oR_e hst) hM hR hS hc hs hl)
    replace hst := sI_e hst; obtain ⟨j, r, rfl, hst⟩ := hst
    replace hst := sR_e hst; obtain ⟨a, r, rfl, hk, hj, hst⟩ := hst
    exact st_aald hM hR hdec hk hj (hK _ _ _ _ _ (oR_e hst) hM hR hS hc hs hl)
  case iastore =>
    simp only [stepI] at hst
    obtain rfl : 1 = len := by simpa [lenI] using hlen
    replace hst := sI_e hst; obtain ⟨w, r, rfl, hst⟩ := hst
    replace hst := sI_e hst; obtain ⟨j, r, rfl, hst⟩ := hst
    replace hst := sR_e hst; obtain ⟨a, r, rfl, hk, hj, hst⟩ := hst
    exact st_iast hM hR hS hdec hk hj (fun H1 locs1 hR1 hS1 => hK _ _ _ _ _ hst hM hR1 hS1 hc hs hl)
  case bastore =>
    simp only [stepI] at hst
    obtain rfl : 1 = len := by simpa [lenI] using hlen
    replace hst := sI_e hst; obtain ⟨w, r, rfl, hst⟩ := hst
    replace hst := sI_e hst; obtain ⟨j, r, rfl, hst⟩ := hst
    replace hst := sR_e hst; obtain ⟨a, r, rfl, hk, hj, hw, hst⟩ := hst
    exact st_zast hM hR hS hdec hk hj hw (fun H1 locs1 hR1 hS1 => hK _ _ _ _ _ hst hM hR1 hS1 hc hs hl)
  case aastore =>
    simp only [stepI] at hst
    obtain rfl : 1 = len := by simpa [lenI] using hlen
    split at hst
    · replace hst := sR_e hst; obtain ⟨w, r, rfl, hst⟩ := hst
      replace hst := sI_e hst; obtain ⟨j, r, rfl, hst⟩ := hst
      replace hst := sR_e hst; obtain ⟨a, r, rfl, hk, hj, hw, hst⟩ := hst
      exact st_mast hM hR hS hdec hk hj hw (fun H1 locs1 hR1 hS1 => hK _ _ _ _ _ hst hM hR1 hS1 hc hs hl)
    replace hst := sR_e hst; obtain ⟨w, r, rfl, hst⟩ := hst
    replace hst := sI_e hst; obtain ⟨j, r, rfl, hst⟩ := hst
    replace hst := sR_e hst; obtain ⟨a, r, rfl, hk, hj, hw, hst⟩ := hst
    exact st_aast hM hR hS hdec hk hj hw (fun H1 locs1 hR1 hS1 => hK _ _ _ _ _ hst hM hR1 hS1 hc hs hl)
  case arraylength =>
    simp only [stepI] at hst
    obtain rfl : 1 = len := by simpa [lenI] using hlen
    split at hst
    · replace hst := sR_e hst; obtain ⟨a, r, rfl, hk, hst⟩ := hst
      exact st_mlen hM hR hdec hk (hK _ _ _ _ _ hst hM hR hS hc hs hl)
    replace hst := sR_e hst; obtain ⟨a, r, rfl, h0, h1⟩ := hst
    by_cases hk : kd h a = 0
    · obtain ⟨rfl, hst⟩ := h0 hk
      exact va_tlen hx hb hg.2.2.2.2.2.2.2.1 hS rfl hdec (hK _ _ _ _ _ hst hM hR hS hc hs hl)
    · obtain ⟨k1, k2, hst⟩ := h1 hk
      exact st_alen hM hR hdec ⟨k1, k2⟩ (hK _ _ _ _ _ hst hM hR hS hc hs hl)
  case newarray t =>
    simp only [stepI] at hst
    obtain rfl : 2 = len := by simpa [lenI] using hlen
    replace hst := sI_e hst; obtain ⟨n, r, rfl, ht, hn, hN, h1, h2, hst⟩ := hst
    exact st_newarr hM hR hS hdec ht hn hN (by omega) (by omega) (fun a H1 k1 k2 hR1 hS1 => hK _ _ _ _ _ (hst a k1 k2) hM hR1 hS1 (by dsimp only; omega) (by dsimp only; omega) hl)
  case anewarray j =>
    simp only [stepI] at hst
    obtain rfl : 3 = len := by simpa [lenI] using hlen
    split at hst
    · rename_i h62
      replace hst := sI_e hst; obtain ⟨n, r, rfl, hn, hN, h1, h2, hst⟩ := hst
      exact st_anewM hM hR hS hdec hr h62 hn hN (by omega) (by omega) (fun a H1 k1 k2 hR1 hS1 => hK _ _ _ _ _ (hst a k1 k2) hM hR1 hS1 (by dsimp only; omega) (by dsimp only; omega) hl)
    replace hst := sI_e hst; obtain ⟨n, r, rfl, hx61, hn, hN, h1, h2, hst⟩ := hst
    exact st_anew hM hR hS hdec hr hx61 hn hN (by omega) (by omega) (fun a H1 k1 k2 hR1 hS1 => hK _ _ _ _ _ (hst a k1 k2) hM hR1 hS1 (by dsimp only; omega) (by dsimp only; omega) hl)
  case multianewarray j dm =>
    simp only [stepI] at hst
    obtain rfl : 4 = len := by simpa [lenI] using hlen
    obtain ⟨h63, rfl, hst⟩ := hst
    replace hst := sI_e hst; obtain ⟨k, r, rfl, hst⟩ := hst
    replace hst := sI_e hst; obtain ⟨n, r, rfl, hn, hk, hN, hK0, h1, h2, hst⟩ := hst
    exact st_mna hM hR hS hdec hr h63 hn hk hN hK0 (by omega) (by omega) (fun a B H1 k1 k2 k3 k4 hR1 hS1 => hK _ _ _ _ _ (hst a B k1 k2 k3 k4) hM hR1 hS1 (by dsimp only; omega) (by dsimp only; omega) hl)
  case new j =>
    simp only [stepI] at hst
    obtain rfl : 3 = len := by simpa [lenI] using hlen
    split at hst
    · rename_i h7
      obtain ⟨h1, h2, hst⟩ := hst
      exact st_new hM hR hS hdec hr h7 (by omega) (by omega) (fun a H1 k1 k2 hR1 hS1 => hK _ _ _ _ _ (hst a k1 k2) hM hR1 hS1 (by dsimp only; omega) (by dsimp only; omega) hl)
    · obtain ⟨h1, h2, h3, h4, h5, h6, h7, h8, h9, h10⟩ := hst
      exact hM.2.2.2.2.2.2.2.2.2.2.2.2.2.2.1 x h H locs cells slots pc la st h1 h2 h3 h4 h5 h6 h9 hl.2.1 h10 hR hS (by omega) (by omega)
  case checkcast j =>
    simp only [stepI] at hst
    obtain rfl : 3 = len := by simpa [lenI] using hlen
    replace hst := sR_e hst; obtain ⟨a, r, rfl, h1, hst⟩ := hst
    split at h1
    · rename_i h60
      subst h60
      obtain ⟨L, k, q1, q2, q3, q4⟩ := hR.at (a := a) (by omega)
      rw [cell_O h1] at q4
      obtain ⟨_, _, _, _, _, f4⟩ := (hg.1.2 3 _ rfl).2
      exact va_castA hx hb hown (hts _ (cls_link (rs_cast hr (by omega)))) q2 k q4 f4 hdec (hK _ _ _ _ _ hst hM hR hS hc hs hl)
    · obtain ⟨h1, h2⟩ := h1
      have hx7 : x < 7 := by omega
      have hrec := Rel.recv hM hR (a := a) (by omega) (by omega)
      rw [h1, Nat.add_sub_cancel] at hrec
      exact va_castS hx hb hown (hts _ (cls_link (rs_cast hr (by omega)))) (hg.1.1 x _ (cl_at x hx7)).2 hrec hdec (hK _ _ _ _ _ hst hM hR hS hc hs hl)
  case invokevirtual j =>
    simp only [stepI] at hst
    obtain rfl : 3 = len := by simpa [lenI] using hlen
    replace hst := lkC_e hst
    obtain ⟨ce, hce, hst⟩ := hst
    have hok := hcs _ (lkp_mem hce)
    split at hst
    · rename_i h0
      replace hst := sP_e hst; obtain ⟨As, r, hn, rfl, hst⟩ := hst
      replace hst := sR_e hst; obtain ⟨a, r, rfl, k1, k2, k3, hst⟩ := hst
      have k7 : kd h a - 1 < 7 := by
        rcases Nat.lt_or_ge (kd h a - 1) 7 with q | q
        · exact q
        · exfalso
          refine nm_far (x := kd h a - 1) q (by omega) ?_
          rw [k3]
          have := hok.1 (.initialized ce.2.1.cls) (by unfold ceW; rw [show ((j, ce) : Nat × CE).2.1 = 0 from h0]; simp)
          exact this
      exact st_callV hM hH hR hS hl hc hs hK hdec hok h0 hn k1 k2 k3 k7 hst
    · obtain ⟨h5, hst⟩ := hst
      replace hst := sR_e hst; obtain ⟨a, r, rfl, hk, hd2, h8, hst⟩ := hst
      obtain ⟨w1, -⟩ := hok
      unfold ceW at w1
      rw [show ((j, ce) : Nat × CE).2.1 = 5 from h5] at w1
      have hwd : (Cond.declares ⟨"java/lang/Object", "getClass", "()Ljava/lang/Class;"⟩).before args s = true := va_Nw.use rfl (hg.2.2.2.2.1 _ (by decide +kernel))
      obtain ⟨L, k, q1, q2, q3, q4⟩ := hR.at (a := a) (by omega)
      rw [cell_O hk] at q4
      obtain ⟨_, _, _, _, _, f4⟩ := (hg.1.2 3 _ rfl).2
      exact va_getC (C := "[Ljava/lang/Object;") hx hb hml hown (hts _ (w1 _ (by simp [mow]))) hwd (hts _ (w1 _ (by simp))) (hts _ (w1 _ (by simp))) (hts _ (w1 _ (by simp))) hg.2.2.2.2.2.2.2.2.1 ⟨_, q2 k _ q4, rfl, f4⟩ (by have := hM.2.2.2.2.2.2.1; omega) (by rw [catS_e]; have := hM.2.2.2.2.2.2.2.1; omega) hdec (hK _ _ _ _ _ hst hM hR hS hc hs hl)
  case invokestatic j =>
    simp only [stepI] at hst
    obtain rfl : 3 = len := by simpa [lenI] using hlen
    replace hst := lkC_e hst
    obtain ⟨ce, hce, hst⟩ := hst
    have hok := hcs _ (lkp_mem hce)
    split at hst
    · rename_i h0
      replace hst := sP_e hst; obtain ⟨As, r, hn, rfl, hst⟩ := hst
      exact st_callS hM hH hR hS hl hc hs hK hdec hok h0 hn hst
    · split at hst
      · rename_i h7'
        replace hst := sI_e hst; obtain ⟨n, r, rfl, hst⟩ := hst
        replace hst := sI_e hst; obtain ⟨dp, r, rfl, hst⟩ := hst
        replace hst := sR_e hst; obtain ⟨a, r, rfl, hst⟩ := hst
        replace hst := sI_e hst; obtain ⟨sp, r, rfl, hst⟩ := hst
        replace hst := sR_e hst; obtain ⟨a0, r, rfl, k1, k2, k3, k4, k5, k6, k7, hd2, h8, hst⟩ := hst
        obtain ⟨w1, -⟩ := hok
        have h7' : ((j, ce) : Nat × CE).2.1 = 7 := h7'
        unfold ceW at w1
        rw [h7'] at w1
        exact st_copyI hM hR hS (hts _ (w1 _ (by simp [mow]))) (hts _ (w1 _ (by simp))) (hts _ (w1 _ (by simp))) (hts _ (w1 _ (by simp))) hml hdec k1 k2 k3 k4 k5 k6 k7 (by have := hM.2.2.2.2.2.2.1; omega) (by rw [catS_e]; have := hM.2.2.2.2.2.2.2.1; have e : nativeFrameWords "java/lang/System" "arraycopy" 5 ≤ 20 := (by decide); omega) (fun H1 locs1 hR1 hS1 => hK _ _ _ _ _ hst hM hR1 hS1 hc hs hl)
      split at hst
      · rename_i h8'
        replace hst := sI_e hst; obtain ⟨q, r, rfl, hst⟩ := hst
        replace hst := sI_e hst; obtain ⟨w, r, rfl, hd2, h8, hst⟩ := hst
        obtain ⟨w1, -⟩ := hok
        have h8' : ((j, ce) : Nat × CE).2.1 = 8 := h8'
        unfold ceW at w1
        rw [h8'] at w1
        exact va_mmax hx hb hml hown (hts _ (w1 _ (by simp [mow]))) (hts _ (w1 _ (by simp))) (hts _ (w1 _ (by simp))) (hts _ (w1 _ (by simp))) (by have := hM.2.2.2.2.2.2.1; omega) (by rw [catS_e]; have := hM.2.2.2.2.2.2.2.1; omega) (by omega) (by omega) hdec (hK _ _ _ _ _ hst hM hR hS hc hs hl)
      split at hst
      · rename_i h8'
        replace hst := sI_e hst; obtain ⟨q, r, rfl, hst⟩ := hst
        replace hst := sI_e hst; obtain ⟨w, r, rfl, hd2, h8, hst⟩ := hst
        obtain ⟨w1, -⟩ := hok
        have h8' : ((j, ce) : Nat × CE).2.1 = 9 := h8'
        unfold ceW at w1
        rw [h8'] at w1
        exact va_mmin hx hb hml hown (hts _ (w1 _ (by simp [mow]))) (hts _ (w1 _ (by simp))) (hts _ (w1 _ (by simp))) (hts _ (w1 _ (by simp))) (by have := hM.2.2.2.2.2.2.1; omega) (by rw [catS_e]; have := hM.2.2.2.2.2.2.2.1; omega) (by omega) (by omega) hdec (hK _ _ _ _ _ hst hM hR hS hc hs hl)
      obtain ⟨h6, hst⟩ := hst
      replace hst := sI_e hst; obtain ⟨n, r, rfl, hst⟩ := hst
      replace hst := sI_e hst; obtain ⟨dp, r, rfl, hst⟩ := hst
      replace hst := sR_e hst; obtain ⟨a, r, rfl, hst⟩ := hst
      replace hst := sI_e hst; obtain ⟨sp, r, rfl, hst⟩ := hst
      replace hst := sR_e hst; obtain ⟨a0, r, rfl, k1, k2, k3, k4, k5, k6, k7, ⟨k, kk, kel⟩, hd2, h8, hst⟩ := hst
      obtain ⟨w1, -⟩ := hok
      have h6 : ((j, ce) : Nat × CE).2.1 = 6 := h6
      unfold ceW at w1
      rw [h6] at w1
      exact st_copy hM hR hS (hts _ (w1 _ (by simp [mow]))) (hts _ (w1 _ (by simp))) (hts _ (w1 _ (by simp))) (hts _ (w1 _ (by simp))) hml hdec k1 k2 k3 k4 k5 k6 k7 kk kel (by have := hM.2.2.2.2.2.2.1; omega) (by rw [catS_e]; have := hM.2.2.2.2.2.2.2.1; have e : nativeFrameWords "java/lang/System" "arraycopy" 5 ≤ 20 := (by decide); omega) (fun H1 locs1 hR1 hS1 => hK _ _ _ _ _ hst hM hR1 hS1 hc hs hl)
  case invokespecial j =>
    simp only [stepI] at hst
    obtain rfl : 3 = len := by simpa [lenI] using hlen
    replace hst := lkC_e hst
    obtain ⟨ce, hce, hst⟩ := hst
    have hok := hcs _ (lkp_mem hce)
    split at hst
    · rename_i h0
      replace hst := sP_e hst; obtain ⟨As, r, hn, rfl, hst⟩ := hst
      replace hst := sR_e hst; obtain ⟨a, r, rfl, k1, k2, hst⟩ := hst
      exact st_callI hM hH hR hS hl hc hs hK hdec hok h0 hn hst
    · obtain ⟨h4, hst⟩ := hst
      replace hst := sR_e hst; obtain ⟨a, r, rfl, hd1, h8, hst⟩ := hst
      obtain ⟨w1, -⟩ := hok
      unfold ceW at w1
      rw [show ((j, ce) : Nat × CE).2.1 = 4 from h4] at w1
      refine W.objInit hx hb hown (hts _ (w1 (.methodLink M.1 j Lib.objectInit) (by simp [mow]))) (hts _ (w1 _ (by simp))) (hts _ (w1 _ (by simp))) rfl (by rw [hml]) rfl hdec (by have := hM.2.2.2.2.2.2.1; omega) ?_ (hK _ _ _ _ _ hst hM hR hS hc hs hl)
      show 2 * 0 + _ + 12 ≤ R.locals
      rw [catS_e]
      have := hM.2.2.2.2.2.2.2.1
      omega
  case ireturn =>
    simp only [stepI] at hst
    obtain rfl : 1 = len := by simpa [lenI] using hlen
    replace hst := sI_e hst; obtain ⟨w, r, rfl, hst⟩ := hst
    replace hst := s0_e hst; obtain ⟨rfl, hst⟩ := hst
    refine hM.2.2.2.2.2.2.2.2.2.2.2.2.2.1 (some (.int w)) h H locs cells slots pc la ⟨hdec, ?_⟩ ?_ hR hS (by omega) (by omega)
    · split at hst
      · rename_i e1; exact ⟨_, e1, rfl⟩
      · rename_i e1; refine ⟨_, e1, ?_⟩; rcases hst.1 with rfl | rfl <;> rfl
      · exact hst.elim
    · split at hst
      · exact hst
      · exact hst.2
      · exact hst.elim
  case lreturn =>
    simp only [stepI] at hst
    obtain rfl : 1 = len := by simpa [lenI] using hlen
    replace hst := sL_e hst; obtain ⟨w, r, rfl, hst⟩ := hst
    replace hst := s0_e hst; obtain ⟨rfl, e1, hst⟩ := hst
    exact hM.2.2.2.2.2.2.2.2.2.2.2.2.2.1 (some (.long w)) h H locs cells slots pc la ⟨hdec, e1⟩ hst hR hS (by omega) (by omega)
  case dreturn =>
    simp only [stepI] at hst
    obtain rfl : 1 = len := by simpa [lenI] using hlen
    replace hst := sD_e hst; obtain ⟨w, r, rfl, hst⟩ := hst
    replace hst := s0_e hst; obtain ⟨rfl, e1, hst⟩ := hst
    exact hM.2.2.2.2.2.2.2.2.2.2.2.2.2.1 (some (.double w)) h H locs cells slots pc la ⟨hdec, e1⟩ hst hR hS (by omega) (by omega)
  case areturn =>
    simp only [stepI] at hst
    obtain rfl : 1 = len := by simpa [lenI] using hlen
    replace hst := sR_e hst; obtain ⟨w, r, rfl, hst⟩ := hst
    replace hst := s0_e hst; obtain ⟨rfl, e1, hst⟩ := hst
    refine hM.2.2.2.2.2.2.2.2.2.2.2.2.2.1 (some (.ref w)) h H locs cells slots pc la ⟨hdec, ?_⟩ hst hR hS (by omega) (by omega)
    split at e1
    · rename_i e2; exact ⟨_, e2, Or.inl ⟨_, rfl⟩⟩
    · rename_i e2; exact ⟨_, e2, Or.inr ⟨_, rfl⟩⟩
    · exact e1.elim
  case return_ =>
    simp only [stepI] at hst
    obtain rfl : 1 = len := by simpa [lenI] using hlen
    replace hst := s0_e hst; obtain ⟨rfl, e1, hst⟩ := hst
    exact hM.2.2.2.2.2.2.2.2.2.2.2.2.2.1 none h H locs cells slots pc la ⟨hdec, e1⟩ hst hR hS (by omega) (by omega)
  case tableswitch dd lo hi offs =>
    exact st_switch hM hR hS hc hs hl hdec hr hK hst
end STPD
end
section
/-! ===== many steps; a method's contract out of its walk ===== -/
def EnvOK (G : GT) (M : MI) (cs : List (Nat × CE)) : Prop := hhOK (mow M) (mhh M) ∧ ∀ q ∈ cs, ceOK G (mow M) q
section RUN
variable {G : GT} {M : MI} {ini : Bool} {d : Nat} {P : Option Value → Hp → Prop} {PX : String → Hp → Prop} {cs : List (Nat × CE)}
theorem step_sound (hE : EnvOK G M cs) {pc : Nat} {ls : Ls} {st : List Value} {h : Hp} {b : Nat × Nat} {K : Nat → Ls → List Value → Hp → Nat × Nat → Prop}
    (hK : ∀ pc ls st h b, K pc ls st h b → Wp G M ini d P PX pc ls st h b) (hst : step G M ini d cs P PX pc ls st h b K) : Wp G M ini d P PX pc ls st h b := by
  unfold step stC at hst
  split at hst
  · rename_i q hrs
    obtain ⟨i, len, x, y, v, tg⟩ := q
    obtain ⟨hl, hst⟩ := hst
    unfold rs at hrs
    split at hrs
    · rename_i i' len' hd
      have e1 : i' = i := congrArg (fun q => q.1) (Option.some.inj hrs)
      have e2 : len' = len := congrArg (fun q => q.2.1) (Option.some.inj hrs)
      have e3 : rsOf M.1 pc i' = (x, y, v, tg) := congrArg (fun q => q.2.2) (Option.some.inj hrs)
      subst e1; subst e2
      exact stepI_sound hE.1 hE.2 hd hl e3 hK hst
    · cases hrs
  · exact hst.elim
theorem wpN_sound (hE : EnvOK G M cs) {stop : List Nat} {Z : Nat → Ls → List Value → Hp → Nat × Nat → Prop} (hZ : ∀ pc ls st h b, Z pc ls st h b → Wp G M ini d P PX pc ls st h b) :
    ∀ (n pc : Nat) (ls : Ls) (st : List Value) (h : Hp) (b : Nat × Nat), wpN G M ini d cs P PX stop Z n pc ls st h b → Wp G M ini d P PX pc ls st h b := by
  intro n
  induction n with
  | zero => intro pc ls st h b hw; exact hw.elim
  | succ n ih =>
    intro pc ls st h b hw
    refine step_sound hE (fun pc' ls' st' h' b' hk => ?_) hw
    unfold kN at hk
    split at hk
    · exact hZ _ _ _ _ _ hk
    · exact ih _ _ _ _ _ hk
/-- the usual form: the stops are walks of their own -/
theorem wpW (hE : EnvOK G M cs) {stop : List Nat} {n pc : Nat} {ls : Ls} {st : List Value} {h : Hp} {b : Nat × Nat} (hw : wpN G M ini d cs P PX stop (Wp G M ini d P PX) n pc ls st h b) : Wp G M ini d P PX pc ls st h b := wpN_sound hE (fun _ _ _ _ _ h => h) n pc ls st h b hw
theorem Wp.less {pc : Nat} {ls ls' : Ls} {st : List Value} {h : Hp} {b b' : Nat × Nat} (hl : ls.length = ls'.length) (hls : ∀ i v, getL ls' i = some v → getL ls i = some v) (h1 : b'.1 ≤ b.1) (h2 : b'.2 ≤ b.2) (hw : Wp G M ini d P PX pc ls' st h b') : Wp G M ini d P PX pc ls st h b := by
  intro p l e R s m args below meth c Q H locs cells slots la hM hR hS hc hs hL
  exact hw hM hR hS (by omega) (by omega) ⟨by rw [← hl]; exact hL.1, hL.2.1, hL.2.2.1, fun i v hv => hL.2.2.2 i v (hls i v hv)⟩
end RUN
/-! the entry -/
def entL : List Value → Ls
  | [] => []
  | v :: r => if catN v = 2 then some v :: none :: entL r else some v :: entL r
def ent (n : Nat) (As : List Value) : Ls := entL As ++ List.replicate (n - (entL As).length) none
theorem catN_c (v : Value) : v.category = catN v := by cases v <;> rfl
theorem entL_sl (As : List Value) : (entL As).length = (lg_sl As).length := by
  induction As with
  | nil => rfl
  | cons v r ih =>
    unfold entL lg_sl
    rw [List.flatMap_cons, List.length_append, catN_c]
    split
    · simp only [List.length_cons, ih]; unfold lg_sl; simp; omega
    · simp only [List.length_cons, ih]; unfold lg_sl; simp; omega
theorem getL_app : ∀ (a : Ls) (n i : Nat) (v : Value), getL (a ++ List.replicate n none) i = some v → getL a i = some v
  | [], n, i, v, h => by
    exfalso
    induction n generalizing i with
    | zero => cases i <;> cases h
    | succ n ih => cases i with
      | zero => cases h
      | succ i => exact ih i h
  | o :: t, n, 0, v, h => h
  | o :: t, n, i + 1, v, h => getL_app t n i v h
theorem entL_args : ∀ (As : List Value) (k i : Nat) (v : Value), getL (entL As) i = some v → (k + i, v) ∈ lv_args k As
  | [], k, i, v, h => by cases i <;> cases h
  | w :: r, k, i, v, h => by
    unfold entL at h
    unfold lv_args
    rw [catN_c]
    split at h
    · rename_i hc
      rw [if_pos hc]
      match i, h with
      | 0, h => cases h; exact List.mem_cons_self
      | 1, h => cases h
      | i + 2, h =>
        have := entL_args r (k + 2) i v h
        exact List.mem_cons_of_mem _ (by rw [show k + (i + 2) = k + 2 + i by omega]; exact this)
    · rename_i hc
      rw [if_neg hc]
      match i, h with
      | 0, h => cases h; exact List.mem_cons_self
      | i + 1, h =>
        have := entL_args r (k + 1) i v h
        exact List.mem_cons_of_mem _ (by rw [show k + (i + 1) = k + 1 + i by omega]; exact this)
theorem ent_LsR {n : Nat} {As : List Value} (hn : (entL As).length ≤ n) : LsR n (ent n As) ((lg_sl As ++ List.replicate (n - (lg_sl As).length) Slot.unset).toArray) := by
  have hl := lv_entry As (n := n) (by rw [← entL_sl]; exact hn)
  refine ⟨by unfold ent; simp; omega, hl.1, hl.2.1, fun i v hv => ?_⟩
  have h1 := entL_args As 0 i v (getL_app _ _ _ _ hv)
  rw [Nat.zero_add] at h1
  exact hl.2.2 (i, v) h1
theorem ex_good : ∀ x, 50 ≤ x → x ≤ 52 → (∀ w ∈ Cond.classLink RX4 (exI x).1 (nmOf x) :: Cond.initialized (nmOf x) :: vx_atS RX4 (exI x).2 (nmOf x) ["java/lang/RuntimeException", "java/lang/Exception"], vx_ot w = true) ∧ (Cond.classLink RX4 (exI x).1 (nmOf x) ∈ gw) ∧ (Cond.initialized (nmOf x) ∈ gw) ∧ (∀ w ∈ (vx_atS RX4 (exI x).2 (nmOf x) ["java/lang/RuntimeException", "java/lang/Exception"]).filter goodWord, w ∈ gw) ∧ (∀ w ∈ (vx_atS RX4 (exI x).2 (nmOf x) ["java/lang/RuntimeException", "java/lang/Exception"]).filter (fun w => !goodWord w), w ∈ bw) ∧ Bundle.fit (nmOf x) = true := by
  intro x h1 h2
  rcases (show x = 50 ∨ x = 51 ∨ x = 52 by omega) with rfl | rfl | rfl <;> exact ⟨by decide +kernel, by decide +kernel, by decide +kernel, by decide +kernel, by decide +kernel, by decide +kernel⟩
set_option maxHeartbeats 1000000 in
/-- what a method's body owes the machine, out of its start -/
theorem mach_of {G : GT} {M : MI} {ini : Bool} {d mc ms : Nat} {Q : Option Value → Hp → Prop} {QX : String → Hp → Prop} {p : Program} {l : Launch} {e : Env} {s s₁ : State} {m : MethodId} {args : Array Value} {below : List Frame} {meth : Method} {c : Code} {y : MethodName} {ws : List Cond} (hl : l.stackTraces = false)
    (B : BodyLoose p l y (headSpec ws (rmD d mc ms)) M.2.1 M.2.2.1 M.2.2.2.1 e s m args below meth c s₁) (hml : c.maxLocals = M.2.2.1) (hts : ∀ w ∈ gw, w.before args s = true) (hg : Glob G s s.heap) (htab : c.exceptionTable.toList = tableOf M.2.2.2.2) (hown : M.1 = y.cls) (hini : ini = true → y.name = "<init>") (hsz : G.2.2.1.1 ≤ s.heap.size) (hze : G.2.2.1.2.1 < G.2.2.1.1) :
    Mach G M ini d Q QX p l e (headSpec ws (rmD d mc ms)).room s m args below meth c (vx_MQ below (QcG G Q) (XcG G QX) args s mc ms (AA G)) := by
  have hx := B.exec
  have hb : c.code = M.2.1 := B.bytes
  have hr : meth.sig.returnType = M.2.2.2.1 := B.returns
  have hlocks := B.notSynchronized
  have hnm : s.vm.findClass M.1 = some m.cls := by rw [hown]; exact findClass_of_methodNamed B.named
  have hrc : (headSpec ws (rmD d mc ms)).room.cells = mc := rfl
  have hrs : (headSpec ws (rmD d mc ms)).room.slots = ms := rfl
  refine ⟨hx, hb, hml, hnm, hts, hg, Nat.le_refl d, Nat.le_refl (39 * d), htab, fun q => ?_, hsz, hze, hl, ?_, ?_, ?_⟩
  · rw [(name_of_methodNamed B.named B.method).1]; exact hini q
  · intro v h H locs cells slots pc la hI hP hR hS hc hs
    rw [hrc] at hc
    rw [hrs] at hs
    refine W.widen hc hs (vx_ret ?_)
    have hq : ∀ t : State, t.heap = H → s.WarmedH t.vm → QcG G Q args s (.returned v) t := fun t ht hW => ⟨⟨v, h, rfl, hP, by rw [ht]; exact hR⟩, hS.F ht⟩
    match v, hI with
    | none, hI => exact W.vret hx hb (hr.trans hI.2) hq hS.2.2 hI.1 hlocks
    | some (.int w), hI =>
      obtain ⟨h1, ty, h2, h3⟩ := hI
      exact W.zret hx hb (hr.trans h2) h3 hq hS.2.2 h1 hlocks
    | some (.long w), hI => exact W.lret hx hb (hr.trans hI.2) hq hS.2.2 hI.1 hlocks
    | some (.double w), hI => exact W.dret hx hb (hr.trans hI.2) hq hS.2.2 hI.1 hlocks
    | some (.ref w), hI =>
      obtain ⟨h1, rt, h2, h3⟩ := hI
      exact W.aret hx hb (hr.trans h2) h3 (Or.inr ⟨w, rfl⟩) hq hS.2.2 h1 hlocks
  · intro x h H locs cells slots pc la rest h50 h52 hM1 hhh hthr hd7 hcat hsize hPX hR hS hc hs
    rw [hrc] at hc
    rw [hrs] at hs
    obtain ⟨t1, t2, tt, ⟨q, hq1, hq2⟩⟩ := hthr
    obtain ⟨g1, g2, g3, g4, g5, g6⟩ := ex_good x h50 h52
    have hown4 : s.vm.findClass RX4 = some m.cls := by rw [← hM1]; exact hnm
    have hstr := hg.2.2.2.1 q hq1
    rw [hq2] at hstr
    rcases tt with ⟨t3, t4, t5⟩ | ⟨t3, t4, t5⟩
    · refine vx_throwS (names := ["java/lang/RuntimeException", "java/lang/Exception"]) hx hb hl hown4 g6 (by decide) (hts _ g2) (hts _ g3) hstr (vx_hat (fun w hw => hts _ (g4 w hw)) g5 (fun w hw => va_Nw.use (bw_on (List.mem_filter.mp hw).2) (hg.2.2.2.2.1 w hw))) g1 hg.2.1 hg.2.2.1 hS (hsize.trans hml.symm) t1 t2 t3 t4 t5 ?_ ?_ ?_ (by rw [hrc]; exact hc) (by rw [hrs]; exact hs) hlocks ?_ hS.2.2 hc hs
      · intro z hz
        rw [htab, show M.2.2.2.2 = [] from hhh] at hz
        cases hz
      · show 2 + 3 < d
        omega
      · rw [catS_e]
        show catS rest + (13 * 3 + 43) ≤ 39 * d
        omega
      · intro t _ h1 h2
        exact ⟨h, trivial, ⟨hPX, hR.kept h2⟩, ⟨Nat.le_trans hS.1 h1, fun z hz1 hz2 => by rw [h2 z (Nat.lt_of_lt_of_le hz1 hS.1)]; exact hS.2.1 z hz1 hz2⟩⟩
    · refine vx_throwSW (names := ["java/lang/RuntimeException", "java/lang/Exception"]) hx hb hl hown4 g6 (by decide) (hts _ g2) (hts _ g3) hstr (vx_hat (fun w hw => hts _ (g4 w hw)) g5 (fun w hw => va_Nw.use (bw_on (List.mem_filter.mp hw).2) (hg.2.2.2.2.1 w hw))) g1 hg.2.1 hg.2.2.1 hS (hsize.trans hml.symm) t1 t2 t3 t4 t5 ?_ ?_ ?_ (by rw [hrc]; exact hc) (by rw [hrs]; exact hs) hlocks ?_ hS.2.2 hc hs
      · intro z hz
        rw [htab, show M.2.2.2.2 = [] from hhh] at hz
        cases hz
      · show 2 + 3 < d
        omega
      · rw [catS_e]
        show catS rest + (13 * 3 + 43) ≤ 39 * d
        omega
      · intro t _ h1 h2
        exact ⟨h, trivial, ⟨hPX, hR.kept h2⟩, ⟨Nat.le_trans hS.1 h1, fun z hz1 hz2 => by rw [h2 z (Nat.lt_of_lt_of_le hz1 hS.1)]; exact hS.2.1 z hz1 hz2⟩⟩
  · intro E ce q h H locs cells slots pc la rest hhh hPX hR hS hc hs hce hcv hcl
    refine vx_out (fun z hz => ?_) hlocks hce hcv hcl (fun t ht _ => ⟨h, trivial, ⟨hPX, by rw [ht]; exact hR⟩, hS.F ht⟩) hS.2.2 hc hs
    rw [htab, show M.2.2.2.2 = [] from hhh] at hz
    cases hz
/-- a method's contract, out of its walk -/
theorem mkOK {G : GT} {y : MethodName} {M : MI} {ini : Bool} {d mc ms : Nat} {ct : Ct} (hy : plainName y.cls = true) (hown : M.1 = y.cls) (hini : ini = true → y.name = "<init>")
    (hb : ∀ (As : List Value) (h : Hp) (Q : Option Value → Hp → Prop) (QX : String → Hp → Prop), ct As h Q QX → (entL As).length ≤ M.2.2.1 ∧ Wp G M ini d Q QX 0 (ent M.2.2.1 As) [] h (mc, ms)) : OKm G y M d mc ms ct := by
  intro l hl As h Q QX hct
  obtain ⟨hn, hW⟩ := hb As h Q QX hct
  by_cases hh : M.2.2.2.2 = []
  · refine vx_ofW (cc := M.2.1) (maxL := M.2.2.1) (ret := M.2.2.2.1) (ws' := gw) hy (by rw [cwd_nil hh]) ?_
    intro p e s m args below meth c s₁ B hml htab hv
    obtain ⟨rfl, hR, hg, hsz, hze⟩ := hv
    have hts := atoms_spec (ws := cwd y M :: gw) B.pre
    have hMa := mach_of (Q := Q) (QX := QX) hl B hml (fun w hw => hts w (List.mem_cons_of_mem _ hw)) hg (by
      rw [hh]
      cases hc : c.exceptionTable.toList with
      | nil => rfl
      | cons x r => exact (htab x (by rw [hc]; exact List.mem_cons_self)).elim) hown hini hsz hze
    rw [lg_entry_eq]
    exact hW hMa hR va_S.rf (Nat.le_of_eq (Nat.zero_add mc)) (Nat.le_of_eq (Nat.zero_add ms)) (ent_LsR hn)
  · refine vx_ofWH (cc := M.2.1) (maxL := M.2.2.1) (ret := M.2.2.2.1) (hh := M.2.2.2.2) (ws' := gw) hy (by rw [cwd_cons hh]) ?_
    intro p e s m args below meth c s₁ B hml hv
    obtain ⟨rfl, hR, hg, hsz, hze⟩ := hv
    have hts := atoms_spec (ws := cwd y M :: gw) B.pre
    have hcw := hts _ List.mem_cons_self
    rw [cwd_cons hh] at hcw
    have hMa := mach_of (Q := Q) (QX := QX) hl B hml (fun w hw => hts w (List.mem_cons_of_mem _ hw)) hg (vx_table (x := y) B hcw) hown hini hsz hze
    rw [lg_entry_eq]
    exact hW hMa hR va_S.rf (Nat.le_of_eq (Nat.zero_add mc)) (Nat.le_of_eq (Nat.zero_add ms)) (ent_LsR hn)
end
