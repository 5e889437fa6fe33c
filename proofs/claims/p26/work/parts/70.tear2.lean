/-! ===== the class: tearDown ===== -/
theorem anyN_cg {p q : Nat → Bool} : ∀ n, (∀ i, i < n → p i = q i) → anyN p n = anyN q n
  | 0, _ => rfl
  | n + 1, h => by
    show (anyN p n || p n) = (anyN q n || q n)
    rw [anyN_cg n (fun i hi => h i (by omega)), h n (by omega)]
theorem SF.fr {h h' : Hp} {cv : Nat} {W : Nat → Prop} (f : SF h h' cv) (hw : W cv) : Fr h h' W := fun a _ => by
  obtain ⟨g1, g2, g3, g4, g5, g6, g7⟩ := f
  exact ⟨⟨g1 a, g4 a⟩, fun q => ⟨fun c k => g2 c k a, fun c k => g3 c k a, fun i => g5 a i (fun z => q (z ▸ hw)), fun i => g6 a i, fun i => g7 a i⟩⟩
