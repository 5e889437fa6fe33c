/-! ===== the abstract heap: kinds, int fields, reference fields, lengths, rows of ints (booleans), longs, references ===== -/
abbrev Hp : Type := (Nat → Nat) × (Nat → Nat → Nat → Int32) × (Nat → Nat → Nat → Option Nat) × (Nat → Nat) × (Nat → Nat → Int32) × (Nat → Nat → Int64) × (Nat → Nat → Option Nat)
def kd (h : Hp) (a : Nat) : Nat := h.1 a
def fi (h : Hp) (c k a : Nat) : Int32 := h.2.1 c k a
def fr (h : Hp) (c k a : Nat) : Option Nat := h.2.2.1 c k a
def ln (h : Hp) (a : Nat) : Nat := h.2.2.2.1 a
def ia (h : Hp) (a i : Nat) : Int32 := h.2.2.2.2.1 a i
def ja (h : Hp) (a i : Nat) : Int64 := h.2.2.2.2.2.1 a i
def ra (h : Hp) (a i : Nat) : Option Nat := h.2.2.2.2.2.2 a i
def setI (h : Hp) (c k a : Nat) (v : Int32) : Hp := (h.1, fun c' k' a' => if c' = c ∧ k' = k ∧ a' = a then v else h.2.1 c' k' a', h.2.2)
def setR (h : Hp) (c k a : Nat) (v : Option Nat) : Hp := (h.1, h.2.1, fun c' k' a' => if c' = c ∧ k' = k ∧ a' = a then v else h.2.2.1 c' k' a', h.2.2.2)
def setIA (h : Hp) (a i : Nat) (v : Int32) : Hp := (h.1, h.2.1, h.2.2.1, h.2.2.2.1, fun a' i' => if a' = a ∧ i' = i then v else h.2.2.2.2.1 a' i', h.2.2.2.2.2)
def setLA (h : Hp) (a i : Nat) (v : Int64) : Hp := (h.1, h.2.1, h.2.2.1, h.2.2.2.1, h.2.2.2.2.1, fun a' i' => if a' = a ∧ i' = i then v else h.2.2.2.2.2.1 a' i', h.2.2.2.2.2.2)
def setRA (h : Hp) (a i : Nat) (v : Option Nat) : Hp := (h.1, h.2.1, h.2.2.1, h.2.2.2.1, h.2.2.2.2.1, h.2.2.2.2.2.1, fun a' i' => if a' = a ∧ i' = i then v else h.2.2.2.2.2.2 a' i')
/-- n references of a0 from sp on, laid into a from dp on -/
def cpRA (h : Hp) (a0 a sp dp n : Nat) : Hp := (h.1, h.2.1, h.2.2.1, h.2.2.2.1, h.2.2.2.2.1, h.2.2.2.2.2.1, fun a' i' => if a' = a ∧ dp ≤ i' ∧ i' < dp + n then h.2.2.2.2.2.2 a0 (sp + (i' - dp)) else h.2.2.2.2.2.2 a' i')
def cpIA (h : Hp) (a0 a sp dp n : Nat) : Hp := (h.1, h.2.1, h.2.2.1, h.2.2.2.1, fun a' i' => if a' = a ∧ dp ≤ i' ∧ i' < dp + n then h.2.2.2.2.1 a0 (sp + (i' - dp)) else h.2.2.2.2.1 a' i', h.2.2.2.2.2)
/-- a new object, a new row -/
def newO (h : Hp) (a c : Nat) : Hp := (fun a' => if a' = a then c + 1 else h.1 a', fun c' k' a' => if a' = a then 0 else h.2.1 c' k' a', fun c' k' a' => if a' = a then none else h.2.2.1 c' k' a', h.2.2.2)
def newA (h : Hp) (a t n : Nat) : Hp := (fun a' => if a' = a then t else h.1 a', h.2.1, h.2.2.1, fun a' => if a' = a then n else h.2.2.2.1 a', fun a' i' => if a' = a then 0 else h.2.2.2.2.1 a' i', fun a' i' => if a' = a then 0 else h.2.2.2.2.2.1 a' i', fun a' i' => if a' = a then none else h.2.2.2.2.2.2 a' i')
theorem kd_setI (h : Hp) (c k a : Nat) (v : Int32) (a1 : Nat) : kd (setI h c k a v) a1 = kd h a1 := rfl
theorem fi_setI (h : Hp) (c k a : Nat) (v : Int32) (c1 k1 a1 : Nat) : fi (setI h c k a v) c1 k1 a1 = if c1 = c ∧ k1 = k ∧ a1 = a then v else fi h c1 k1 a1 := rfl
theorem fr_setI (h : Hp) (c k a : Nat) (v : Int32) (c1 k1 a1 : Nat) : fr (setI h c k a v) c1 k1 a1 = fr h c1 k1 a1 := rfl
theorem ln_setI (h : Hp) (c k a : Nat) (v : Int32) (a1 : Nat) : ln (setI h c k a v) a1 = ln h a1 := rfl
theorem ia_setI (h : Hp) (c k a : Nat) (v : Int32) (a1 i1 : Nat) : ia (setI h c k a v) a1 i1 = ia h a1 i1 := rfl
theorem ja_setI (h : Hp) (c k a : Nat) (v : Int32) (a1 i1 : Nat) : ja (setI h c k a v) a1 i1 = ja h a1 i1 := rfl
theorem ra_setI (h : Hp) (c k a : Nat) (v : Int32) (a1 i1 : Nat) : ra (setI h c k a v) a1 i1 = ra h a1 i1 := rfl
theorem kd_setR (h : Hp) (c k a : Nat) (v : Option Nat) (a1 : Nat) : kd (setR h c k a v) a1 = kd h a1 := rfl
theorem fi_setR (h : Hp) (c k a : Nat) (v : Option Nat) (c1 k1 a1 : Nat) : fi (setR h c k a v) c1 k1 a1 = fi h c1 k1 a1 := rfl
theorem fr_setR (h : Hp) (c k a : Nat) (v : Option Nat) (c1 k1 a1 : Nat) : fr (setR h c k a v) c1 k1 a1 = if c1 = c ∧ k1 = k ∧ a1 = a then v else fr h c1 k1 a1 := rfl
theorem ln_setR (h : Hp) (c k a : Nat) (v : Option Nat) (a1 : Nat) : ln (setR h c k a v) a1 = ln h a1 := rfl
theorem ia_setR (h : Hp) (c k a : Nat) (v : Option Nat) (a1 i1 : Nat) : ia (setR h c k a v) a1 i1 = ia h a1 i1 := rfl
theorem ja_setR (h : Hp) (c k a : Nat) (v : Option Nat) (a1 i1 : Nat) : ja (setR h c k a v) a1 i1 = ja h a1 i1 := rfl
theorem ra_setR (h : Hp) (c k a : Nat) (v : Option Nat) (a1 i1 : Nat) : ra (setR h c k a v) a1 i1 = ra h a1 i1 := rfl
theorem kd_setIA (h : Hp) (a i : Nat) (v : Int32) (a1 : Nat) : kd (setIA h a i v) a1 = kd h a1 := rfl
theorem fi_setIA (h : Hp) (a i : Nat) (v : Int32) (c1 k1 a1 : Nat) : fi (setIA h a i v) c1 k1 a1 = fi h c1 k1 a1 := rfl
theorem fr_setIA (h : Hp) (a i : Nat) (v : Int32) (c1 k1 a1 : Nat) : fr (setIA h a i v) c1 k1 a1 = fr h c1 k1 a1 := rfl
theorem ln_setIA (h : Hp) (a i : Nat) (v : Int32) (a1 : Nat) : ln (setIA h a i v) a1 = ln h a1 := rfl
theorem ia_setIA (h : Hp) (a i : Nat) (v : Int32) (a1 i1 : Nat) : ia (setIA h a i v) a1 i1 = if a1 = a ∧ i1 = i then v else ia h a1 i1 := rfl
theorem ja_setIA (h : Hp) (a i : Nat) (v : Int32) (a1 i1 : Nat) : ja (setIA h a i v) a1 i1 = ja h a1 i1 := rfl
theorem ra_setIA (h : Hp) (a i : Nat) (v : Int32) (a1 i1 : Nat) : ra (setIA h a i v) a1 i1 = ra h a1 i1 := rfl
theorem kd_setLA (h : Hp) (a i : Nat) (v : Int64) (a1 : Nat) : kd (setLA h a i v) a1 = kd h a1 := rfl
theorem fi_setLA (h : Hp) (a i : Nat) (v : Int64) (c1 k1 a1 : Nat) : fi (setLA h a i v) c1 k1 a1 = fi h c1 k1 a1 := rfl
theorem fr_setLA (h : Hp) (a i : Nat) (v : Int64) (c1 k1 a1 : Nat) : fr (setLA h a i v) c1 k1 a1 = fr h c1 k1 a1 := rfl
theorem ln_setLA (h : Hp) (a i : Nat) (v : Int64) (a1 : Nat) : ln (setLA h a i v) a1 = ln h a1 := rfl
theorem ia_setLA (h : Hp) (a i : Nat) (v : Int64) (a1 i1 : Nat) : ia (setLA h a i v) a1 i1 = ia h a1 i1 := rfl
theorem ja_setLA (h : Hp) (a i : Nat) (v : Int64) (a1 i1 : Nat) : ja (setLA h a i v) a1 i1 = if a1 = a ∧ i1 = i then v else ja h a1 i1 := rfl
theorem ra_setLA (h : Hp) (a i : Nat) (v : Int64) (a1 i1 : Nat) : ra (setLA h a i v) a1 i1 = ra h a1 i1 := rfl
theorem kd_setRA (h : Hp) (a i : Nat) (v : Option Nat) (a1 : Nat) : kd (setRA h a i v) a1 = kd h a1 := rfl
theorem fi_setRA (h : Hp) (a i : Nat) (v : Option Nat) (c1 k1 a1 : Nat) : fi (setRA h a i v) c1 k1 a1 = fi h c1 k1 a1 := rfl
theorem fr_setRA (h : Hp) (a i : Nat) (v : Option Nat) (c1 k1 a1 : Nat) : fr (setRA h a i v) c1 k1 a1 = fr h c1 k1 a1 := rfl
theorem ln_setRA (h : Hp) (a i : Nat) (v : Option Nat) (a1 : Nat) : ln (setRA h a i v) a1 = ln h a1 := rfl
theorem ia_setRA (h : Hp) (a i : Nat) (v : Option Nat) (a1 i1 : Nat) : ia (setRA h a i v) a1 i1 = ia h a1 i1 := rfl
theorem ja_setRA (h : Hp) (a i : Nat) (v : Option Nat) (a1 i1 : Nat) : ja (setRA h a i v) a1 i1 = ja h a1 i1 := rfl
theorem ra_setRA (h : Hp) (a i : Nat) (v : Option Nat) (a1 i1 : Nat) : ra (setRA h a i v) a1 i1 = if a1 = a ∧ i1 = i then v else ra h a1 i1 := rfl
theorem kd_cpRA (h : Hp) (a0 a sp dp n : Nat) (a1 : Nat) : kd (cpRA h a0 a sp dp n) a1 = kd h a1 := rfl
theorem fi_cpRA (h : Hp) (a0 a sp dp n : Nat) (c1 k1 a1 : Nat) : fi (cpRA h a0 a sp dp n) c1 k1 a1 = fi h c1 k1 a1 := rfl
theorem fr_cpRA (h : Hp) (a0 a sp dp n : Nat) (c1 k1 a1 : Nat) : fr (cpRA h a0 a sp dp n) c1 k1 a1 = fr h c1 k1 a1 := rfl
theorem ln_cpRA (h : Hp) (a0 a sp dp n : Nat) (a1 : Nat) : ln (cpRA h a0 a sp dp n) a1 = ln h a1 := rfl
theorem ia_cpRA (h : Hp) (a0 a sp dp n : Nat) (a1 i1 : Nat) : ia (cpRA h a0 a sp dp n) a1 i1 = ia h a1 i1 := rfl
theorem ja_cpRA (h : Hp) (a0 a sp dp n : Nat) (a1 i1 : Nat) : ja (cpRA h a0 a sp dp n) a1 i1 = ja h a1 i1 := rfl
theorem ra_cpRA (h : Hp) (a0 a sp dp n : Nat) (a1 i1 : Nat) : ra (cpRA h a0 a sp dp n) a1 i1 = if a1 = a ∧ dp ≤ i1 ∧ i1 < dp + n then ra h a0 (sp + (i1 - dp)) else ra h a1 i1 := rfl
theorem kd_cpIA (h : Hp) (a0 a sp dp n : Nat) (a1 : Nat) : kd (cpIA h a0 a sp dp n) a1 = kd h a1 := rfl
theorem fi_cpIA (h : Hp) (a0 a sp dp n : Nat) (c1 k1 a1 : Nat) : fi (cpIA h a0 a sp dp n) c1 k1 a1 = fi h c1 k1 a1 := rfl
theorem fr_cpIA (h : Hp) (a0 a sp dp n : Nat) (c1 k1 a1 : Nat) : fr (cpIA h a0 a sp dp n) c1 k1 a1 = fr h c1 k1 a1 := rfl
theorem ln_cpIA (h : Hp) (a0 a sp dp n : Nat) (a1 : Nat) : ln (cpIA h a0 a sp dp n) a1 = ln h a1 := rfl
theorem ia_cpIA (h : Hp) (a0 a sp dp n : Nat) (a1 i1 : Nat) : ia (cpIA h a0 a sp dp n) a1 i1 = if a1 = a ∧ dp ≤ i1 ∧ i1 < dp + n then ia h a0 (sp + (i1 - dp)) else ia h a1 i1 := rfl
theorem ja_cpIA (h : Hp) (a0 a sp dp n : Nat) (a1 i1 : Nat) : ja (cpIA h a0 a sp dp n) a1 i1 = ja h a1 i1 := rfl
theorem ra_cpIA (h : Hp) (a0 a sp dp n : Nat) (a1 i1 : Nat) : ra (cpIA h a0 a sp dp n) a1 i1 = ra h a1 i1 := rfl
theorem kd_newO (h : Hp) (a c : Nat) (a1 : Nat) : kd (newO h a c) a1 = if a1 = a then c + 1 else kd h a1 := rfl
theorem fi_newO (h : Hp) (a c : Nat) (c1 k1 a1 : Nat) : fi (newO h a c) c1 k1 a1 = if a1 = a then 0 else fi h c1 k1 a1 := rfl
theorem fr_newO (h : Hp) (a c : Nat) (c1 k1 a1 : Nat) : fr (newO h a c) c1 k1 a1 = if a1 = a then none else fr h c1 k1 a1 := rfl
theorem ln_newO (h : Hp) (a c : Nat) (a1 : Nat) : ln (newO h a c) a1 = ln h a1 := rfl
theorem ia_newO (h : Hp) (a c : Nat) (a1 i1 : Nat) : ia (newO h a c) a1 i1 = ia h a1 i1 := rfl
theorem ja_newO (h : Hp) (a c : Nat) (a1 i1 : Nat) : ja (newO h a c) a1 i1 = ja h a1 i1 := rfl
theorem ra_newO (h : Hp) (a c : Nat) (a1 i1 : Nat) : ra (newO h a c) a1 i1 = ra h a1 i1 := rfl
theorem kd_newA (h : Hp) (a t n : Nat) (a1 : Nat) : kd (newA h a t n) a1 = if a1 = a then t else kd h a1 := rfl
theorem fi_newA (h : Hp) (a t n : Nat) (c1 k1 a1 : Nat) : fi (newA h a t n) c1 k1 a1 = fi h c1 k1 a1 := rfl
theorem fr_newA (h : Hp) (a t n : Nat) (c1 k1 a1 : Nat) : fr (newA h a t n) c1 k1 a1 = fr h c1 k1 a1 := rfl
theorem ln_newA (h : Hp) (a t n : Nat) (a1 : Nat) : ln (newA h a t n) a1 = if a1 = a then n else ln h a1 := rfl
theorem ia_newA (h : Hp) (a t n : Nat) (a1 i1 : Nat) : ia (newA h a t n) a1 i1 = if a1 = a then 0 else ia h a1 i1 := rfl
theorem ja_newA (h : Hp) (a t n : Nat) (a1 i1 : Nat) : ja (newA h a t n) a1 i1 = if a1 = a then 0 else ja h a1 i1 := rfl
theorem ra_newA (h : Hp) (a t n : Nat) (a1 i1 : Nat) : ra (newA h a t n) a1 i1 = if a1 = a then none else ra h a1 i1 := rfl
/-! which fields are references, how many there are, which are booleans -/
def refF : Nat → Nat → Bool
  | 0, 1 => true
  | 2, 5 => true
  | 2, 6 => true
  | 2, 7 => true
  | 2, 8 => true
  | 2, 12 => true
  | 4, _ => true
  | 5, 0 => true
  | 5, 1 => true
  | 5, 2 => true
  | 5, 3 => true
  | 5, 4 => true
  | 6, 0 => false
  | 6, 1 => false
  | 6, _ => true
  | _, _ => false
def booF : Nat → Nat → Bool
  | 1, 7 => true
  | 2, 4 => true
  | 2, 11 => true
  | 3, 7 => true
  | _, _ => false
def finF : Nat → Nat → Bool
  | 1, 6 => false
  | 1, 7 => false
  | 1, _ => true
  | 2, 0 => true
  | 2, 5 => true
  | 2, 6 => true
  | 2, 7 => true
  | 2, 8 => true
  | 2, 12 => true
  | 3, 0 => true
  | 3, 1 => true
  | 3, 2 => true
  | 3, 3 => true
  | 3, 4 => true
  | 3, 5 => true
  | 4, _ => true
  | 5, 0 => true
  | 5, 1 => true
  | 5, 2 => true
  | 5, 3 => true
  | 5, 4 => true
  | _, _ => false
def nF : Nat → Nat
  | 0 => 3
  | 1 => 8
  | 2 => 15
  | 3 => 10
  | 4 => 2
  | 5 => 7
  | 6 => 9
  | _ => 0
/-- the classes, the arrays' classes, (start of our cells, the empty row of ArrayList, the class object of Object[]), the texts' addresses -/
abbrev GT : Type := va_G × (ClassId × ClassId × ClassId × ClassId × ClassId) × (Nat × Nat × Nat) × (String → Nat → Nat)
def AA (G : GT) : Nat → Prop := fun q => G.2.2.1.1 ≤ q
def fvV (h : Hp) (c a k : Nat) : Value := if refF c k = true then va_rf (fr h c k a) else .int (fi h c k a)
def flL (h : Hp) (c a : Nat) : List Value := (List.range (nF c)).map (fvV h c a)
def cellOf (G : GT) (h : Hp) (a : Nat) : va_E :=
  if kd h a = 21 then .inl (G.2.1.1, ln h a, .inl (ia h a))
  else if kd h a = 22 then .inl (G.2.1.2.1, ln h a, .inl (ia h a))
  else if kd h a = 23 then .inl (G.2.1.1, ln h a, .inl (ia h a))
  else if kd h a = 24 then .inl (G.2.1.2.2.2.1, ln h a, .inr (.inr (.inr (.inr (ra h a)))))
  else if kd h a = 25 then .inl (G.2.1.2.2.2.2, ln h a, .inr (.inr (.inr (.inr (ra h a)))))
  else .inr (kd h a - 1, flL h (kd h a - 1) a)
def tysG (G : GT) : List (ClassId × FieldType) := [(G.2.1.1, .int), (G.2.1.2.1, .boolean), (G.2.1.1, .int), (G.2.1.2.2.2.1, .object "java/lang/Object"), (G.2.1.2.2.2.2, .array .int)]
def Rel (G : GT) (h : Hp) (H : Heap) : Prop := ∃ L : List Nat, (∀ a, kd h a ≠ 0 ↔ a ∈ L) ∧ va_P G.1 vwCl ([] ++ va_pl L (cellOf G h)) H ∧ va_D (AA G) ([] ++ va_pl L (cellOf G h))
/-! the words, the words that are no steady ones, the texts -/
def gw : List Cond := lw_tbl.filter goodWord
theorem gw_good {w : Cond} (h : w ∈ gw) : goodWord w = true := (List.mem_filter.mp h).2
theorem gw_tbl {w : Cond} (h : w ∈ gw) : w ∈ lw_tbl := (List.mem_filter.mp h).1
def nmOf : Nat → String
  | 0 => RJx4a65c
  | 1 => RX0
  | 2 => RX1
  | 3 => RX2
  | 4 => RX3
  | 5 => RX4
  | 6 => RX5
  | 50 => "java/lang/IllegalStateException"
  | 51 => "java/lang/IllegalArgumentException"
  | 52 => "java/lang/IndexOutOfBoundsException"
  | 60 => "[Ljava/lang/Object;"
  | 62 => "[I"
  | 63 => "[[I"
  | _ => "java/lang/Object"
def exN : List String := ["java/lang/IllegalStateException", "java/lang/IllegalArgumentException", "java/lang/IndexOutOfBoundsException"]
/-- the words that are no steady ones, but stand in the tables alone -/
def bwk : Cond → Bool
  | .castable _ _ => true
  | .declares _ => true
  | .methodLinkNest _ _ _ _ => true
  | _ => false
def bw : List Cond := lw_tbl.filter bwk
theorem bw_on {w : Cond} (h : bwk w = true) : w.onTables = true := by
  cases w <;> first | rfl | (simp [bwk] at h)
theorem bw_warm {w : Cond} (h : bwk w = true) {s U : State} (hW : s.WarmedH U.vm) (hZ : va_Nw w s) : va_Nw w U := by
  cases w <;> first | exact hZ.warmC hW | exact hZ.warmD hW | exact hZ.warmM hW | (simp [bwk] at h)
def strs : List (Nat × String) := [(64, "there is no room for this building"), (112, "the sun has no direction"), (167, "there is no room for this lease"), (224, "the days do not go so far"), (287, "there is no such number"), (289, "a value is out of its bounds"), (291, "the building is torn down")]
/-- the law's script lies below our cells: its place, its length, its ints -/
def scB (G : GT) : Nat := G.2.2.2 "script" 0
def scL (G : GT) : Nat := G.2.2.2 "script" 1
def scX (G : GT) (j : Nat) : Int32 := Int32.ofNat (G.2.2.2 "script" (j + 2))
def Glob (G : GT) (U : State) (H : Heap) : Prop :=
  va_K G.1 vwCl (tysG G) U ∧ vx_Zq Bundle.tN "UNASSIGNED_STACK" Bundle.steD (AA G) U H ∧ vx_Zq Bundle.tN "SUPPRESSED_SENTINEL" Bundle.listD (AA G) U H ∧
  (∀ q ∈ strs, vk_R RX4 q.1 q.2 (G.2.2.2 RX4 q.1) U) ∧ (∀ w ∈ bw, va_Nw w U) ∧ True ∧
  va_Z "java/util/ArrayList" "DEFAULTCAPACITY_EMPTY_ELEMENTDATA" "[Ljava/lang/Object;" (.ref G.2.2.1.2.1) (AA G) U H ∧ va_T (.object "java/lang/Object") G.2.2.1.2.1 0 (fun _ => .null) (AA G) U H ∧
  va_Mi "[Ljava/lang/Object;" G.2.2.1.2.2 U ∧ va_AO "java/lang/Object" U ∧ va_X (scB G) (scL G) (scX G) U H ∧ ¬ AA G (scB G) ∧ va_AOA .int U
theorem Glob.moved {G : GT} {u U : State} {H H1 : Heap} (hW : u.WarmedH U.vm) (hq : ∀ a : Nat, a < H.size → ¬ AA G a → H1[a]? = H[a]?) (h : Glob G u H) : Glob G U H1 := by
  obtain ⟨h1, h2, h3, h4, h5, h6, h7, h8, h9, h10, h11, h12, h13⟩ := h
  have hb : scB G < H.size := by
    obtain ⟨scr, hcb, -⟩ := h11
    exact (Array.getElem?_eq_some_iff.mp hcb).1
  exact ⟨h1.moved hW.alike, (h2.moved hW.alike).kept hq, (h3.moved hW.alike).kept hq, fun q m => (h4 q m).warm hW, fun w m => bw_warm (List.mem_filter.mp m).2 hW (h5 w m), trivial, (h7.moved hW.alike).kept hq, (h8.moved hW.alike).kept hq, h9.moved hW.alike, h10.moved hW.alike, (h11.moved hW.alike).kept (hq _ hb h12), h12, h13.moved hW.alike⟩
