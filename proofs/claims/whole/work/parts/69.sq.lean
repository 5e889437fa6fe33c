/-! ===== the class: isFree, setCovered ===== -/
/-- a building's place, as its fields say -/
def BP (h : Hp) (a : Nat) (x y w d : Int) : Prop := kd h a = 2 ∧ fi h 1 1 a = i32 x ∧ fi h 1 2 a = i32 y ∧ fi h 1 3 a = i32 w ∧ fi h 1 4 a = i32 d ∧ (0 ≤ x ∧ 1 ≤ w ∧ w ≤ 6 ∧ x + w ≤ 16) ∧ (0 ≤ y ∧ 1 ≤ d ∧ d ≤ 6 ∧ y + d ≤ 16)
/-- cell c lies there -/
abbrev inP (x y w d : Int) (c : Nat) : Prop := x ≤ xC c ∧ xC c < x + w ∧ y ≤ yC c ∧ yC c < y + d
def ct_X3_setCovered : Ct := fun As h Q _ => sR As fun q r => sR r fun a r => sI r fun v r => s0 r (∃ cv x y w d, kd h q = 5 ∧ fr h 4 1 q = some cv ∧ kd h cv = 22 ∧ ln h cv = 256 ∧ BP h a x y w d ∧ (v = i32 0 ∨ v = i32 1) ∧ ∀ h', Fr h h' (fun b => b = cv) → (∀ b, kd h' b = kd h b) → (∀ c, c < 256 → ia h' cv c = if inP x y w d c then v else ia h cv c) → Q none h')
def ce_X3_setCovered (G : GT) (D : WD) (S : SS) : CE := (0, yX3_setCovered, MX3_setCovered, 2, 0, 0, 0, ct_X3_setCovered G D S)
