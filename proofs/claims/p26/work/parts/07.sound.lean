/-! ===== soundness of the steps ===== -/
theorem sI_e {st : List Value} {f : Int32 → List Value → Prop} (h : sI st f) : ∃ x r, st = .int x :: r ∧ f x r := by
  unfold sI at h; split at h
  · exact ⟨_, _, rfl, h⟩
  · exact h.elim
theorem sL_e {st : List Value} {f : Int64 → List Value → Prop} (h : sL st f) : ∃ x r, st = .long x :: r ∧ f x r := by
  unfold sL at h; split at h
  · exact ⟨_, _, rfl, h⟩
  · exact h.elim
theorem sD_e {st : List Value} {f : UInt64 → List Value → Prop} (h : sD st f) : ∃ x r, st = .double x :: r ∧ f x r := by
  unfold sD at h; split at h
  · exact ⟨_, _, rfl, h⟩
  · exact h.elim
theorem sR_e {st : List Value} {f : Nat → List Value → Prop} (h : sR st f) : ∃ x r, st = .ref x :: r ∧ f x r := by
  unfold sR at h; split at h
  · exact ⟨_, _, rfl, h⟩
  · exact h.elim
theorem s0_e {st : List Value} {f : Prop} (h : s0 st f) : st = [] ∧ f := by
  unfold s0 at h; split at h
  · exact ⟨rfl, h⟩
  · exact h.elim
theorem s1_e {st : List Value} {f : Value → List Value → Prop} (h : s1 st f) : ∃ x r, st = x :: r ∧ x.category = 1 ∧ f x r := by
  unfold s1 at h; split at h
  · exact ⟨_, _, rfl, rfl, h⟩
  · exact ⟨_, _, rfl, rfl, h⟩
  · exact h.elim
theorem vR_e {st : List Value} {f : Option Nat → List Value → Prop} (h : vR st f) : ∃ x r, st = va_rf x :: r ∧ f x r := by
  unfold vR at h; split at h
  · exact ⟨some _, _, rfl, h⟩
  · exact ⟨none, _, rfl, h⟩
  · exact h.elim
theorem gI_e {ls : Ls} {i : Nat} {f : Int32 → Prop} (h : gI ls i f) : ∃ x, getL ls i = some (.int x) ∧ f x := by
  unfold gI at h; split at h
  · exact ⟨_, by assumption, h⟩
  · exact h.elim
theorem gL_e {ls : Ls} {i : Nat} {f : Int64 → Prop} (h : gL ls i f) : ∃ x, getL ls i = some (.long x) ∧ f x := by
  unfold gL at h; split at h
  · exact ⟨_, by assumption, h⟩
  · exact h.elim
theorem gD_e {ls : Ls} {i : Nat} {f : UInt64 → Prop} (h : gD ls i f) : ∃ x, getL ls i = some (.double x) ∧ f x := by
  unfold gD at h; split at h
  · exact ⟨_, by assumption, h⟩
  · exact h.elim
theorem gR_e {ls : Ls} {i : Nat} {f : Nat → Prop} (h : gR ls i f) : ∃ x, getL ls i = some (.ref x) ∧ f x := by
  unfold gR at h; split at h
  · exact ⟨_, by assumption, h⟩
  · exact h.elim
theorem oR_e {r : Option Nat} {f : Value → Prop} (h : oR r f) : f (va_rf r) := by
  obtain ⟨a, rfl, h⟩ := h
  exact h
theorem sPa_e {f : List Value → List Value → Prop} : ∀ (n : Nat) (st acc : List Value), sPa n st acc f → ∃ b r, b.length = n ∧ st = b.reverse ++ r ∧ f (b ++ acc) r := by
  intro n
  induction n with
  | zero => intro st acc h; exact ⟨[], st, rfl, rfl, h⟩
  | succ n ih =>
    intro st acc h
    cases st with
    | nil => exact h.elim
    | cons v st =>
      obtain ⟨b, r, e1, e2, e3⟩ := ih st (v :: acc) h
      exact ⟨b ++ [v], r, by simp [e1], by simp [e2], by simpa using e3⟩
theorem sP_e {n : Nat} {st : List Value} {f : List Value → List Value → Prop} (h : sP n st f) : ∃ a r, a.length = n ∧ st = a.reverse ++ r ∧ f a r := by
  obtain ⟨b, r, e1, e2, e3⟩ := sPa_e n st [] h
  rw [List.append_nil] at e3
  exact ⟨b, r, e1, e2, e3⟩
theorem lkC_e {cs : List (Nat × CE)} {j : Nat} {f : CE → Prop} (h : lkC cs j f) : ∃ ce, lkp cs j = some ce ∧ f ce := by
  unfold lkC at h
  split at h
  · exact ⟨_, by assumption, h⟩
  · exact h.elim
theorem catS_e (st : List Value) : (st.map fun v => v.category).sum = catS st := by
  induction st with
  | nil => rfl
  | cons v r ih => simp only [List.map_cons, List.sum_cons, catS, ih]; cases v <;> rfl
/-! locals -/
def LsR (n : Nat) (ls : Ls) (la : Array Slot) : Prop := ls.length = n ∧ la.size = n ∧ lv_wf la ∧ ∀ (i : Nat) (v : Value), getL ls i = some v → la[i]? = some (.val v)
def asL (ls : Ls) : List (Nat × Value) := (List.range ls.length).filterMap fun i => (getL ls i).map fun v => (i, v)
theorem getL_lt : ∀ (ls : Ls) (i : Nat) (v : Value), getL ls i = some v → i < ls.length
  | [], _, _, h => by cases h
  | _ :: _, 0, _, _ => by simp
  | _ :: t, i + 1, v, h => by have := getL_lt t i v h; simp; omega
theorem mem_asL {ls : Ls} {i : Nat} {v : Value} : (i, v) ∈ asL ls ↔ getL ls i = some v := by
  unfold asL
  rw [List.mem_filterMap]
  constructor
  · rintro ⟨j, -, hj⟩
    rw [Option.map_eq_some_iff] at hj
    obtain ⟨w, h1, h2⟩ := hj
    cases h2
    exact h1
  · intro h
    exact ⟨i, List.mem_range.mpr (getL_lt _ _ _ h), by rw [h]; rfl⟩
theorem LsR.has {n : Nat} {ls : Ls} {la : Array Slot} (h : LsR n ls la) : lv_has la n (asL ls) := ⟨h.2.1, h.2.2.1, fun q hq => h.2.2.2 q.1 q.2 (mem_asL.mp hq)⟩
theorem putL_len : ∀ (ls : Ls) (i : Nat) (v : Value), (putL ls i v).length = ls.length
  | [], i, v => by cases i <;> rfl
  | o :: t, 0, v => rfl
  | o :: t, 1, v => by simp [putL, putL_len t 0 v]
  | o :: t, n + 2, v => by simp [putL, putL_len t (n + 1) v]
theorem kil_e {o : Option Value} {w : Value} (h : kil o = some w) : o = some w ∧ w.category = 1 := by
  unfold kil at h; split at h
  · cases h
  · cases h
  · subst h; refine ⟨rfl, ?_⟩; cases w <;> simp_all [Value.category]
theorem putL_e : ∀ (ls : Ls) (i j : Nat) (v w : Value), getL (putL ls i v) j = some w → (j = i ∧ w = v) ∨ (j ≠ i ∧ getL ls j = some w ∧ ¬ (j + 1 = i ∧ w.category = 2))
  | [], i, j, v, w, h => by cases i <;> cases h
  | o :: t, 0, 0, v, w, h => by cases h; exact Or.inl ⟨rfl, rfl⟩
  | o :: t, 0, j + 1, v, w, h => Or.inr ⟨by omega, h, by omega⟩
  | o :: t, 1, 0, v, w, h => by
    obtain ⟨h1, h2⟩ := kil_e (show kil o = some w from h)
    exact Or.inr ⟨by omega, h1, fun q => by omega⟩
  | o :: t, 1, j + 1, v, w, h => by
    rcases putL_e t 0 j v w h with ⟨e1, e2⟩ | ⟨e1, e2, e3⟩
    · exact Or.inl ⟨by omega, e2⟩
    · exact Or.inr ⟨by omega, e2, by omega⟩
  | o :: t, n + 2, 0, v, w, h => Or.inr ⟨by omega, h, by omega⟩
  | o :: t, n + 2, j + 1, v, w, h => by
    rcases putL_e t (n + 1) j v w h with ⟨e1, e2⟩ | ⟨e1, e2, e3⟩
    · exact Or.inl ⟨by omega, e2⟩
    · exact Or.inr ⟨by omega, e2, fun q => e3 ⟨by omega, q.2⟩⟩
theorem clr_len (t : Ls) : (clr t).length = t.length := by cases t <;> rfl
theorem putW_len : ∀ (ls : Ls) (i : Nat) (v : Value), (putW ls i v).length = ls.length
  | [], i, v => by cases i <;> rfl
  | _ :: t, 0, v => by simp [putW, clr_len]
  | o :: t, 1, v => by simp [putW, putW_len t 0 v]
  | o :: t, n + 2, v => by simp [putW, putW_len t (n + 1) v]
theorem clr_e : ∀ (t : Ls) (j : Nat) (w : Value), getL (clr t) j = some w → j ≠ 0 ∧ getL t j = some w
  | [], _, _, h => by cases h
  | _ :: _, 0, _, h => by cases h
  | _ :: _, _ + 1, _, h => ⟨by omega, h⟩
theorem putW_e : ∀ (ls : Ls) (i j : Nat) (v w : Value), getL (putW ls i v) j = some w → (j = i ∧ w = v) ∨ (j ≠ i ∧ j ≠ i + 1 ∧ getL ls j = some w ∧ ¬ (j + 1 = i ∧ w.category = 2))
  | [], i, j, v, w, h => by cases i <;> cases h
  | _ :: t, 0, 0, v, w, h => by cases h; exact Or.inl ⟨rfl, rfl⟩
  | _ :: t, 0, j + 1, v, w, h => by
    obtain ⟨h1, h2⟩ := clr_e t j w h
    exact Or.inr ⟨by omega, by omega, h2, by omega⟩
  | o :: t, 1, 0, v, w, h => by
    obtain ⟨h1, h2⟩ := kil_e (show kil o = some w from h)
    exact Or.inr ⟨by omega, by omega, h1, fun q => by omega⟩
  | o :: t, 1, j + 1, v, w, h => by
    rcases putW_e t 0 j v w h with ⟨e1, e2⟩ | ⟨e1, e2, e3, e4⟩
    · exact Or.inl ⟨by omega, e2⟩
    · exact Or.inr ⟨by omega, by omega, e3, by omega⟩
  | o :: t, n + 2, 0, v, w, h => Or.inr ⟨by omega, by omega, h, by omega⟩
  | o :: t, n + 2, j + 1, v, w, h => by
    rcases putW_e t (n + 1) j v w h with ⟨e1, e2⟩ | ⟨e1, e2, e3, e4⟩
    · exact Or.inl ⟨by omega, e2⟩
    · exact Or.inr ⟨by omega, by omega, e3, fun q => e4 ⟨by omega, q.2⟩⟩
theorem LsR.put {n i : Nat} {ls : Ls} {la la' : Array Slot} {v : Value} (h : LsR n ls la) (h' : lv_has la' n ((i, v) :: (asL ls).filter (fun q => !(q.1 == i) && !(q.1 + 1 == i && q.2.category == 2)))) : LsR n (putL ls i v) la' := by
  refine ⟨by rw [putL_len]; exact h.1, h'.1, h'.2.1, fun j w hj => ?_⟩
  rcases putL_e _ _ _ _ _ hj with ⟨e1, e2⟩ | ⟨e1, e2, e3⟩
  · subst e1; subst e2; exact h'.2.2 _ List.mem_cons_self
  · refine h'.2.2 (j, w) (List.mem_cons_of_mem _ (List.mem_filter.mpr ⟨mem_asL.mpr e2, ?_⟩))
    simp only [Bool.and_eq_true, Bool.not_eq_true', beq_eq_false_iff_ne, ne_eq]
    refine ⟨e1, ?_⟩
    cases hb : (j + 1 == i && w.category == 2)
    · rfl
    · simp only [Bool.and_eq_true, beq_iff_eq] at hb; exact absurd hb e3
theorem LsR.putW {n i : Nat} {ls : Ls} {la la' : Array Slot} {v : Value} (h : LsR n ls la) (h' : lv_has la' n ((i, v) :: (asL ls).filter (fun q => !(q.1 == i) && (!(q.1 == i + 1) && !(q.1 + 1 == i && q.2.category == 2))))) : LsR n (putW ls i v) la' := by
  refine ⟨by rw [putW_len]; exact h.1, h'.1, h'.2.1, fun j w hj => ?_⟩
  rcases putW_e _ _ _ _ _ hj with ⟨e1, e2⟩ | ⟨e1, e2, e3, e4⟩
  · subst e1; subst e2; exact h'.2.2 _ List.mem_cons_self
  · refine h'.2.2 (j, w) (List.mem_cons_of_mem _ (List.mem_filter.mpr ⟨mem_asL.mpr e3, ?_⟩))
    simp only [Bool.and_eq_true, Bool.not_eq_true', beq_eq_false_iff_ne, ne_eq]
    refine ⟨e1, e2, ?_⟩
    cases hb : (j + 1 == i && w.category == 2)
    · rfl
    · simp only [Bool.and_eq_true, beq_iff_eq] at hb; exact absurd hb e4
/-! the classes' tables, by number -/
def clT : Nat → u_T
  | 0 => TJx4a65c
  | 1 => TX0
  | 2 => TX1
  | 3 => TX2
  | 4 => TX3
  | 5 => TX4
  | _ => TX5
def clY : Nat → Nat → FieldType
  | 0 => tyJx4a65c
  | 1 => tyX0
  | 2 => tyX1
  | 3 => tyX2
  | 4 => tyX3
  | 5 => tyX4
  | _ => tyX5
theorem lt7 {P : Nat → Prop} (h0 : P 0) (h1 : P 1) (h2 : P 2) (h3 : P 3) (h4 : P 4) (h5 : P 5) (h6 : P 6) : ∀ x, x < 7 → P x := by
  intro x hx
  match x, hx with
  | 0, _ => exact h0
  | 1, _ => exact h1
  | 2, _ => exact h2
  | 3, _ => exact h3
  | 4, _ => exact h4
  | 5, _ => exact h5
  | 6, _ => exact h6
theorem cl_at : ∀ x, x < 7 → vwCl[x]? = some (nmOf x, clT x, nF x) := lt7 rfl rfl rfl rfl rfl rfl rfl
theorem cl_in : ∀ x, x < 7 → ∀ w ∈ u_ws (nmOf x) (clT x) (nF x), w ∈ gw := lt7 (by decide +kernel) (by decide +kernel) (by decide +kernel) (by decide +kernel) (by decide +kernel) (by decide +kernel) (by decide +kernel)
theorem cl_ty : ∀ x, x < 7 → ∀ k, k < nF x → parseFieldDescriptor (clT x k).2.2.1 = some (clY x k) := lt7 (by decide +kernel) (by decide +kernel) (by decide +kernel) (by decide +kernel) (by decide +kernel) (by decide +kernel) (by decide +kernel)
theorem cl_nm : ∀ x, x < 7 → ∀ a, a < nF x → ∀ b, b < nF x → a ≠ b → (clT x a).2.1 ≠ (clT x b).2.1 := lt7 (by decide +kernel) (by decide +kernel) (by decide +kernel) (by decide +kernel) (by decide +kernel) (by decide +kernel) (by decide +kernel)
theorem cl_fin : ∀ x, x < 7 → ∀ k, k < nF x → (clT x k).2.2.2 = finF x k ∧ (finF x k = true → (clT x k).1 = nmOf x) := lt7 (by decide +kernel) (by decide +kernel) (by decide +kernel) (by decide +kernel) (by decide +kernel) (by decide +kernel) (by decide +kernel)
/-- a reference's type keeps any reference; an int's any int; a boolean's 0 and 1 -/
theorem cl_ref : ∀ x, x < 7 → ∀ k, k < nF x → refF x k = true → (match clY x k with | .object _ => true | .array _ => true | _ => false) = true := lt7 (by decide +kernel) (by decide +kernel) (by decide +kernel) (by decide +kernel) (by decide +kernel) (by decide +kernel) (by decide +kernel)
theorem cl_int : ∀ x, x < 7 → ∀ k, k < nF x → refF x k = false → (match clY x k with | .int => !booF x k | .boolean => booF x k | _ => false) = true := lt7 (by decide +kernel) (by decide +kernel) (by decide +kernel) (by decide +kernel) (by decide +kernel) (by decide +kernel) (by decide +kernel)
theorem lk_mem {α β : Type} [BEq α] [LawfulBEq α] {k : α} {v : β} : ∀ (l : List (α × β)), l.lookup k = some v → (k, v) ∈ l
  | [], h => by cases h
  | (a, b) :: t, h => by
    rw [List.lookup_cons] at h
    split at h
    · rename_i hb; cases h; rw [eq_of_beq hb]; exact List.mem_cons_self
    · exact List.mem_cons_of_mem _ (lk_mem t h)

