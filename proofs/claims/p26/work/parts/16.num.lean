/-! ===== ints as images of whole numbers ===== -/
def i32 (v : Int) : Int32 := Int32.ofInt v
abbrev inB (v : Int) : Prop := -2147483648 ≤ v ∧ v < 2147483648
theorem i32_lit (n : Nat) : (OfNat.ofNat n : Int32) = i32 (OfNat.ofNat n : Int) := rfl
theorem i32_0 : (0 : Int32) = i32 0 := rfl
theorem i32_1 : (1 : Int32) = i32 1 := rfl
theorem i32_add (a b : Int) : i32 a + i32 b = i32 (a + b) := (Int32.ofInt_add a b).symm
theorem i32_mul (a b : Int) : i32 a * i32 b = i32 (a * b) := (Int32.ofInt_mul a b).symm
theorem i32_sub (a b : Int) : i32 a - i32 b = i32 (a - b) := (Int32.ofInt_sub a b).symm
theorem i32_neg (a : Int) : -(i32 a) = i32 (-a) := (Int32.ofInt_neg a).symm
theorem i32_nI (n : Nat) : nI n = i32 n := by
  show (⟨⟨BitVec.ofNat 32 n⟩⟩ : Int32) = ⟨⟨BitVec.ofInt 32 n⟩⟩
  rw [BitVec.ofInt_natCast]
theorem i32_toInt {v : Int} (h : inB v) : (i32 v).toInt = v := by
  exact Int32.toInt_ofInt_of_le (by omega) (by omega)
theorem i32_lt {a b : Int} (ha : inB a) (hb : inB b) : (i32 a < i32 b) = (a < b) := by
  rw [Int32.lt_iff_toInt_lt, i32_toInt ha, i32_toInt hb]
theorem i32_le {a b : Int} (ha : inB a) (hb : inB b) : (i32 a ≤ i32 b) = (a ≤ b) := by
  rw [Int32.le_iff_toInt_le, i32_toInt ha, i32_toInt hb]
theorem i32_eq {a b : Int} (ha : inB a) (hb : inB b) : (i32 a = i32 b) = (a = b) := by
  apply propext
  constructor
  · intro h
    have := congrArg Int32.toInt h
    rwa [i32_toInt ha, i32_toInt hb] at this
  · intro h; rw [h]
theorem i32_clamp {v : Int} (h0 : 0 ≤ v) (h : v < 2147483648) : (i32 v).toNatClampNeg = v.toNat := by
  unfold Int32.toNatClampNeg
  rw [i32_toInt ⟨by omega, h⟩]
theorem inR_i {v : Int} {n : Nat} (hv : inB v) : inR (i32 v) n ↔ 0 ≤ v ∧ v < n := by
  unfold inR
  rw [vp_in_iff, i32_toInt hv]
theorem i32_div {a b : Int} (ha : 0 ≤ a) (ha2 : a < 2147483648) (hb : 0 < b) (hb2 : b < 2147483648) : i32 a / i32 b = i32 (a / b) := by
  apply Int32.toInt_inj.mp
  have h3 : 0 ≤ a / b := Int.ediv_nonneg ha (by omega)
  have h4 : a / b ≤ a := Int.ediv_le_self b ha
  rw [Int32.toInt_div, i32_toInt ⟨by omega, ha2⟩, i32_toInt ⟨by omega, hb2⟩, i32_toInt ⟨by omega, by omega⟩, Int.tdiv_eq_ediv_of_nonneg ha]
  exact Int.bmod_eq_of_le (by omega) (by omega)
theorem i32_all (x : Int32) : ∃ v, inB v ∧ x = i32 v := by
  refine ⟨x.toInt, ⟨Int32.le_toInt x, Int32.toInt_lt x⟩, ?_⟩
  unfold i32
  rw [Int32.ofInt_toInt]
/-- 1 or 0 -/
def b2i (c : Prop) [Decidable c] : Int32 := if c then 1 else 0
theorem b2i_0 {c : Prop} [Decidable c] : (b2i c = i32 0) = ¬ c := by
  unfold b2i
  by_cases h : c <;> simp [h] <;> decide
theorem b2i_1 {c : Prop} [Decidable c] : (b2i c = i32 1) = c := by
  unfold b2i
  by_cases h : c <;> simp [h] <;> decide
theorem b2i_01 {c : Prop} [Decidable c] : b2i c = i32 0 ∨ b2i c = i32 1 := by
  unfold b2i
  by_cases h : c <;> simp [h] <;> decide
theorem b2i_t {c : Prop} [Decidable c] (h : c) : b2i c = i32 1 := by unfold b2i; rw [if_pos h]; rfl
theorem b2i_f {c : Prop} [Decidable c] (h : ¬ c) : b2i c = i32 0 := by unfold b2i; rw [if_neg h]; rfl
theorem b2i_c {c c' : Prop} [Decidable c] [Decidable c'] (h : c ↔ c') : b2i c = b2i c' := by
  by_cases q : c
  · rw [b2i_t q, b2i_t (h.mp q)]
  · rw [b2i_f q, b2i_f (fun z => q (h.mpr z))]
def tn (b : Int32) : Nat := b.toInt.toNat
theorem tn_i {v : Int} (h : inB v) : tn (i32 v) = v.toNat := by unfold tn; rw [i32_toInt h]
theorem em_t {c : Prop} : (¬ c ∨ c) = True := eq_true (Or.comm.mp (Classical.em c))
theorem Qb0 {Q : Option Value → Hp → Prop} {h : Hp} {c : Prop} [Decidable c] (hq : Q (some (.int (b2i c))) h) (hn : ¬ c) : Q (some (.int (i32 0))) h := by rw [b2i_f hn] at hq; exact hq
theorem Qb1 {Q : Option Value → Hp → Prop} {h : Hp} {c : Prop} [Decidable c] (hq : Q (some (.int (b2i c))) h) (hn : c) : Q (some (.int (i32 1))) h := by rw [b2i_t hn] at hq; exact hq
/-- fewer locals known -/
def lsub : Ls → Ls → Prop
  | [], [] => True
  | none :: t, _ :: u => lsub t u
  | some v :: t, o :: u => o = some v ∧ lsub t u
  | _, _ => False
theorem lsub_e : ∀ (a b : Ls), lsub a b → b.length = a.length ∧ ∀ i v, getL a i = some v → getL b i = some v
  | [], [], _ => ⟨rfl, fun i v h => by cases i <;> cases h⟩
  | none :: t, o :: u, h => by
    obtain ⟨h1, h2⟩ := lsub_e t u h
    refine ⟨by simp [h1], fun i v hv => ?_⟩
    cases i with
    | zero => cases hv
    | succ i => exact h2 i v hv
  | some w :: t, o :: u, h => by
    obtain ⟨rfl, h⟩ := h
    obtain ⟨h1, h2⟩ := lsub_e t u h
    refine ⟨by simp [h1], fun i v hv => ?_⟩
    cases i with
    | zero => exact hv
    | succ i => exact h2 i v hv
  | [], _ :: _, h => by cases h
  | some _ :: _, [], h => by cases h
  | none :: _, [], h => by cases h
theorem Wp.sub {G : GT} {M : MI} {ini : Bool} {d : Nat} {P : Option Value → Hp → Prop} {PX : String → Hp → Prop} {pc : Nat} {ls ls' : Ls} {st : List Value} {h : Hp} {b : Nat × Nat} (hw : Wp G M ini d P PX pc ls' st h b) (hl : lsub ls' ls) : Wp G M ini d P PX pc ls st h b := by
  obtain ⟨h1, h2⟩ := lsub_e _ _ hl
  exact Wp.less h1 h2 (Nat.le_refl _) (Nat.le_refl _) hw
theorem i32_max {a b : Int} (ha : inB a) (hb : inB b) : (if i32 a < i32 b then i32 b else i32 a) = i32 (max a b) := by
  simp only [i32_lt ha hb]
  split
  · rw [show max a b = b by omega]
  · rw [show max a b = a by omega]
theorem i32_min {a b : Int} (ha : inB a) (hb : inB b) : (if i32 b < i32 a then i32 b else i32 a) = i32 (min a b) := by
  simp only [i32_lt hb ha]
  split
  · rw [show min a b = b by omega]
  · rw [show min a b = a by omega]
theorem ite_max {a b : Int} : (if a < b then i32 b else i32 a) = i32 (max a b) := by
  split
  · rw [show max a b = b by omega]
  · rw [show max a b = a by omega]
theorem ite_min {a b : Int} : (if b < a then i32 b else i32 a) = i32 (min a b) := by
  split
  · rw [show min a b = b by omega]
  · rw [show min a b = a by omega]

