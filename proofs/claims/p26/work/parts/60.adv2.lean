/-! ===== the class: advise ===== -/
theorem sumN_upd {f g : Nat → Int} {q : Nat} : ∀ n, q < n → (∀ i, i < n → i ≠ q → f i = g i) → sumN f n = sumN g n + (f q - g q)
  | 0, h, _ => by omega
  | n + 1, h, he => by
    simp only [sumN]
    by_cases e : q = n
    · subst e
      rw [sumN_congr q (fun i hi => he i (by omega) (by omega))]
      omega
    · rw [sumN_upd n (by omega) (fun i hi => he i (by omega)), he n (by omega) (fun z => e z.symm)]
      omega
