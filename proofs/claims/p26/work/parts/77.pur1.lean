/-! ===== pure facts: shades, sums ===== -/
theorem cst_iff {S : SS} {r : Nat} {x y : Int} : ∀ n : Nat, (0 ≤ (cst S r x y n).1 ↔ 0 < (cst S r x y n).2.1)
  | 0 => by simp [cst]
  | n + 1 => by
    have h := cst_iff (S := S) (r := r) (x := x) (y := y) n
    have hb := cst_b (S := S) (r := r) (x := x) (y := y) n
    unfold cst
    split
    · exact h
    · split
      · dsimp only; omega
      · dsimp only; omega
theorem bel_shd (S : SS) (r c : Nat) : 0 ≤ bel S r c ↔ 0 < shd S r c := by
  have h := cst_iff (S := S) (r := r) (x := (c % 16 : Nat)) (y := (c / 16 : Nat)) S.nb
  unfold bel shd
  split <;> omega
theorem bel_cov (S : SS) (r c : Nat) : bel S r c = -2 ↔ isCov S (c % 16 : Nat) (c / 16 : Nat) = true := by
  have h := cst_b (S := S) (r := r) (x := (c % 16 : Nat)) (y := (c / 16 : Nat)) S.nb
  unfold bel
  split
  · next q => exact ⟨fun _ => q, fun _ => rfl⟩
  · next q => exact ⟨fun z => by omega, fun z => absurd z q⟩
theorem cov_n (S : SS) (r n : Nat) : sumN (fun c => if bel S r c = -2 then 1 else 0) n = sumN (fun c => if bel S 0 c = -2 then 1 else 0) n :=
  sumN_congr n (fun c _ => by
    have h1 := bel_cov S r c
    have h2 := bel_cov S 0 c
    by_cases q : isCov S (c % 16 : Nat) (c / 16 : Nat) = true
    · rw [if_pos (h1.mpr q), if_pos (h2.mpr q)]
    · rw [if_neg (fun z => q (h1.mp z)), if_neg (fun z => q (h2.mp z))])
theorem sumN_ad {f g : Nat → Int} : ∀ n, sumN (fun i => f i + g i) n = sumN f n + sumN g n
  | 0 => rfl
  | n + 1 => by simp only [sumN, sumN_ad n]; omega
theorem sumN_sw {f : Nat → Nat → Int} {m : Nat} : ∀ n, sumN (fun i => sumN (fun j => f i j) m) n = sumN (fun j => sumN (fun i => f i j) n) m
  | 0 => (sumN_0 m (fun _ _ => rfl)).symm
  | n + 1 => by
    simp only [sumN]
    rw [sumN_sw n, ← sumN_ad]
/-- one of n places -/
theorem sumN_one {v x : Int} : ∀ n : Nat, sumN (fun k => if v = (k : Int) then x else 0) n = if 0 ≤ v ∧ v < n then x else 0
  | 0 => by rw [if_neg (by omega)]; rfl
  | n + 1 => by
    simp only [sumN]
    rw [sumN_one n]
    by_cases q : v = (n : Int)
    · rw [if_pos q, if_neg (by omega), if_pos (by omega)]; omega
    · rw [if_neg q]
      by_cases p : 0 ≤ v ∧ v < n
      · rw [if_pos p, if_pos (by omega)]; omega
      · rw [if_neg p, if_neg (by omega)]; omega
/-- each thing lies at one of n places: summed by places -/
theorem sumN_by {v x : Nat → Int} {m : Nat} (n : Nat) (h : ∀ i, i < m → 0 ≤ v i ∧ v i < n) : sumN (fun k => sumN (fun i => if v i = (k : Int) then x i else 0) m) n = sumN x m := by
  rw [sumN_sw]
  exact sumN_congr m (fun i hi => by rw [sumN_one, if_pos (h i hi)])
theorem area_sum (S : SS) (r : Nat) : sumN (fun k => area S k r) S.nb = hrT S r 0 := by
  show sumN (fun k => sumN (fun c => if bel S r c = ((k : Nat) : Int) then 1 else 0) 256) S.nb = sumN (fun c => if 0 ≤ bel S r c then 1 else 0) 256
  rw [sumN_sw]
  refine sumN_congr 256 (fun c _ => ?_)
  rw [sumN_one]
  have h := bel_b S r c
  by_cases q : 0 ≤ bel S r c
  · rw [if_pos q, if_pos ⟨q, h.2⟩]
  · rw [if_neg q, if_neg (fun z => q z.1)]
theorem sumN_at {f g : Nat → Int} {l : Nat} : ∀ n, l < n → (∀ i, i < n → i ≠ l → g i = f i) → sumN g n = sumN f n + (g l - f l)
  | 0, h, _ => by omega
  | n + 1, h, hq => by
    simp only [sumN]
    by_cases e : l = n
    · subst e
      rw [sumN_congr l (fun i hi => hq i (by omega) (by omega))]
      omega
    · rw [sumN_at n (by omega) (fun i hi => hq i (by omega)), hq n (by omega) (fun z => e z.symm)]
      omega
theorem sumN_le2 {f g : Nat → Int} : ∀ n, (∀ i, i < n → f i ≤ g i) → sumN f n ≤ sumN g n
  | 0, _ => Int.le_refl _
  | n + 1, h => by
    have h1 := sumN_le2 n (fun i hi => h i (by omega))
    have h2 := h n (by omega)
    simp only [sumN]
    omega
/-- a sum that is more, by x at least, at l -/
theorem sumN_more {f g : Nat → Int} {l n : Nat} {x : Int} (hl : l < n) (h : ∀ i, i < n → f i ≤ g i) (hx : f l + x ≤ g l) : sumN f n + x ≤ sumN g n := by
  have h1 := sumN_at (f := f) (g := fun i => if i = l then f l + x else f i) n hl (fun i _ ne => if_neg ne)
  rw [show (if l = l then f l + x else f l) = f l + x from if_pos rfl] at h1
  have h2 := sumN_le2 (f := fun i => if i = l then f l + x else f i) (g := g) n (fun i hi => by
    by_cases e : i = l
    · rw [if_pos e, e]; exact hx
    · rw [if_neg e]; exact h i hi)
  omega
/-! ===== pure facts: who gets how much ===== -/
theorem al_sum {n : Nat} {c g key : Nat → Int} {sel : Nat → Bool} {A : Int} (hA : 0 ≤ A) (hc : ∀ l, l < n → 0 ≤ c l) (hk : ∀ l, l < n → 0 ≤ key l) (inj : ∀ l l', l < n → l' < n → key l = key l' → l = l')
    (hg : ∀ l, l < n → sel l = true → g l = min (c l) (max 0 (A - sumN (fun i => if sel i = true ∧ key i < key l then c i else 0) n))) :
    ∀ t : Nat, sumN (fun i => if sel i = true ∧ key i < t then g i else 0) n = min A (sumN (fun i => if sel i = true ∧ key i < t then c i else 0) n) := by
  intro t
  induction t with
  | zero =>
    rw [sumN_0 n (fun i hi => if_neg (fun z => by have := hk i hi; have := z.2; omega)), sumN_0 n (fun i hi => if_neg (fun z => by have := hk i hi; have := z.2; omega))]
    omega
  | succ t ih =>
    by_cases q : ∃ l, l < n ∧ sel l = true ∧ key l = t
    · obtain ⟨l, hl, hs, he⟩ := q
      have hne : ∀ i, i < n → i ≠ l → ¬ key i = t := fun i hi ne z => ne (inj i l hi hl (z.trans he.symm))
      have e1 := sumN_at (f := fun i => if sel i = true ∧ key i < t then g i else 0) (g := fun i => if sel i = true ∧ key i < (t + 1 : Nat) then g i else 0) n hl (fun i hi ne => by
        have := hne i hi ne
        by_cases p : sel i = true ∧ key i < t
        · rw [if_pos p, if_pos ⟨p.1, by have := p.2; omega⟩]
        · rw [if_neg p, if_neg (fun z => p ⟨z.1, by have := z.2; omega⟩)])
      have e2 := sumN_at (f := fun i => if sel i = true ∧ key i < t then c i else 0) (g := fun i => if sel i = true ∧ key i < (t + 1 : Nat) then c i else 0) n hl (fun i hi ne => by
        have := hne i hi ne
        by_cases p : sel i = true ∧ key i < t
        · rw [if_pos p, if_pos ⟨p.1, by have := p.2; omega⟩]
        · rw [if_neg p, if_neg (fun z => p ⟨z.1, by have := z.2; omega⟩)])
      rw [if_pos ⟨hs, by omega⟩, if_neg (fun z => by have := z.2; omega)] at e1 e2
      have h3 := hg l hl hs
      rw [he] at h3
      have h4 := hc l hl
      omega
    · have hne : ∀ i, i < n → sel i = true → ¬ key i = t := fun i hi hs z => q ⟨i, hi, hs, z⟩
      have e : ∀ x : Nat → Int, sumN (fun i => if sel i = true ∧ key i < (t + 1 : Nat) then x i else 0) n = sumN (fun i => if sel i = true ∧ key i < t then x i else 0) n := fun x => sumN_congr n (fun i hi => by
        by_cases p : sel i = true ∧ key i < t
        · rw [if_pos p, if_pos ⟨p.1, by have := p.2; omega⟩]
        · rw [if_neg p, if_neg (fun z => p ⟨z.1, by have := hne i hi z.1; have := z.2; omega⟩)])
      rw [e, e, ih]
section GTS
variable {S : SS} (hW : WF S)
def keyL (S : SS) (l : Nat) : Int := (99 - S.lf l 5) * 40 + l
def selL (S : SS) (k : Int) (r l : Nat) : Bool := decide (S.lf l 0 = k) && hasH S l r
theorem selL_e {k : Int} {r l : Nat} : selL S k r l = true ↔ S.lf l 0 = k ∧ hasH S l r = true := by
  unfold selL
  rw [Bool.and_eq_true, decide_eq_true_eq]
theorem wnt_key {k : Int} {r l : Nat} (hW : WF S) (hl : l < S.nl) : wnt S k r (S.lf l 5) l = sumN (fun i => if selL S k r i = true ∧ keyL S i < keyL S l then S.lf i 4 else 0) S.nl := by
  unfold wnt
  refine sumN_congr _ (fun i hi => ?_)
  have hn := hW.2.1
  have e : (selL S k r i = true ∧ keyL S i < keyL S l) ↔ (S.lf i 0 = k ∧ hasH S i r = true ∧ (S.lf i 5 > S.lf l 5 ∨ S.lf i 5 = S.lf l 5 ∧ (i : Int) < l)) := by
    rw [selL_e]
    unfold keyL
    constructor
    · rintro ⟨⟨a, b⟩, c⟩
      exact ⟨a, b, by omega⟩
    · rintro ⟨a, b, c⟩
      exact ⟨⟨a, b⟩, by omega⟩
  by_cases q : selL S k r i = true ∧ keyL S i < keyL S l
  · rw [if_pos q, if_pos (e.mp q)]
  · rw [if_neg q, if_neg (fun z => q (e.mpr z))]
theorem gts_n {l r : Nat} (h : hasH S l r = false) : gts S l r = 0 := by
  unfold gts
  rw [if_neg (by rw [h]; decide)]
theorem gts_y {l r : Nat} (h : hasH S l r = true) : gts S l r = min (S.lf l 4) (free S (S.lf l 0) r (S.lf l 5) l) := by
  unfold gts
  rw [if_pos h]
theorem gts_le {l r : Nat} (hW : WF S) (hl : l < S.nl) : gts S l r ≤ if hasH S l r = true then S.lf l 4 else 0 := by
  by_cases q : hasH S l r = true
  · rw [if_pos q, gts_y q]; omega
  · rw [if_neg q, gts_n (by simpa using q)]; omega
theorem keyL_b {l : Nat} (hW : WF S) (hl : l < S.nl) : 0 ≤ keyL S l ∧ keyL S l < 4000 := by
  have h1 := hW.2.1
  have h2 := hW.2.2.2.1 l hl
  unfold keyL
  omega
/-- the cells that the leases of k get together -/
theorem gts_sum {k : Int} {r : Nat} (hW : WF S) : sumN (fun l => if S.lf l 0 = k then gts S l r else 0) S.nl = min (area S k r) (sumN (fun l => if selL S k r l = true then S.lf l 4 else 0) S.nl) := by
  have h := al_sum (n := S.nl) (c := fun l => S.lf l 4) (g := fun l => gts S l r) (key := keyL S) (sel := selL S k r) (A := area S k r) (area_b S k r).1 (fun l hl => by have := hW.2.2.2.1 l hl; omega) (fun l hl => (keyL_b hW hl).1) (fun l l' hl hl' z => by
    have h1 := hW.2.1
    unfold keyL at z
    omega) (fun l hl hs => by
    obtain ⟨e1, e2⟩ := selL_e.mp hs
    rw [gts_y e2, e1]
    unfold free
    rw [wnt_key hW hl]) 4000
  have e : ∀ x : Nat → Int, sumN (fun i => if selL S k r i = true ∧ keyL S i < ((4000 : Nat) : Int) then x i else 0) S.nl = sumN (fun i => if selL S k r i = true then x i else 0) S.nl := fun x => sumN_congr _ (fun i hi => by
    have h1 := (keyL_b hW hi).2
    by_cases p : selL S k r i = true
    · rw [if_pos p, if_pos ⟨p, by omega⟩]
    · rw [if_neg p, if_neg (fun z => p z.1)])
  rw [e, e] at h
  rw [← h]
  refine sumN_congr _ (fun l hl => ?_)
  by_cases p : S.lf l 0 = k
  · rw [if_pos p]
    by_cases q : hasH S l r = true
    · rw [if_pos (selL_e.mpr ⟨p, q⟩)]
    · rw [if_neg (fun z => q (selL_e.mp z).2), gts_n (by simpa using q)]
  · rw [if_neg p, if_neg (fun z => p (selL_e.mp z).1)]
theorem gts_le_area {k : Int} {r : Nat} (hW : WF S) : sumN (fun l => if S.lf l 0 = k then gts S l r else 0) S.nl ≤ area S k r := by
  rw [gts_sum hW]; omega
/-- a short lease: the shade is used up -/
theorem isSh_w {l r : Nat} (hW : WF S) (hl : l < S.nl) (h : isSh S l r = true) : hasH S l r = true ∧ area S (S.lf l 0) r < wnt S (S.lf l 0) r (S.lf l 5) l + S.lf l 4 := by
  unfold isSh at h
  rw [decide_eq_true_eq] at h
  obtain ⟨h1, h2⟩ := h
  rw [gts_y h1] at h2
  unfold free at h2
  exact ⟨h1, by omega⟩
theorem gts_short {l r : Nat} (hW : WF S) (hl : l < S.nl) (h : isSh S l r = true) : sumN (fun i => if S.lf i 0 = S.lf l 0 then gts S i r else 0) S.nl = area S (S.lf l 0) r := by
  obtain ⟨h1, h2⟩ := isSh_w hW hl h
  rw [gts_sum hW]
  rw [wnt_key hW hl] at h2
  have h3 := sumN_more (f := fun i => if selL S (S.lf l 0) r i = true ∧ keyL S i < keyL S l then S.lf i 4 else 0) (g := fun i => if selL S (S.lf l 0) r i = true then S.lf i 4 else 0) (x := S.lf l 4) hl (fun i hi => by
    have := hW.2.2.2.1 i hi
    by_cases p : selL S (S.lf l 0) r i = true
    · rw [if_pos p]; split <;> omega
    · rw [if_neg p, if_neg (fun z => p z.1)]; omega) (by
    rw [if_neg (fun z => by have := z.2; omega), if_pos (selL_e.mpr ⟨rfl, h1⟩)]; omega)
  omega
/-- nothing goes to one that pays less -/
theorem gts_less {l o r : Nat} (hW : WF S) (hl : l < S.nl) (ho : o < S.nl) (h : isSh S l r = true) (e : S.lf o 0 = S.lf l 0) (hp : S.lf o 5 < S.lf l 5) : gts S o r = 0 := by
  obtain ⟨h1, h2⟩ := isSh_w hW hl h
  by_cases q : hasH S o r = true
  · have h3 : wnt S (S.lf l 0) r (S.lf l 5) l + S.lf l 4 ≤ wnt S (S.lf l 0) r (S.lf o 5) o := by
      unfold wnt
      refine sumN_more hl (fun i hi => ?_) ?_
      · have := hW.2.2.2.1 i hi
        by_cases p : S.lf i 0 = S.lf l 0 ∧ hasH S i r = true ∧ (S.lf i 5 > S.lf l 5 ∨ S.lf i 5 = S.lf l 5 ∧ (i : Int) < l)
        · rw [if_pos p, if_pos ⟨p.1, p.2.1, by have := p.2.2; omega⟩]; omega
        · rw [if_neg p]; split <;> omega
      · rw [if_neg (fun z => by have := z.2.2; omega), if_pos ⟨rfl, h1, by omega⟩]; omega
    have h4 := hW.2.2.2.1 o ho
    rw [gts_y q, e]
    unfold free
    omega
  · exact gts_n (by simpa using q)
theorem hr2_sum (hW : WF S) (r : Nat) : sumN (fun k => sumN (fun l => if S.lf l 0 = ((k : Nat) : Int) then gts S l r else 0) S.nl) S.nb = hrT S r 2 :=
  sumN_by S.nb (fun l hl => by have := hW.2.2.2.1 l hl; omega)
theorem hr3_sum (hW : WF S) (r : Nat) : sumN (fun k => sumN (fun l => if S.lf l 0 = ((k : Nat) : Int) then (if isSh S l r = true then 1 else 0) else 0) S.nl) S.nb = hrT S r 3 :=
  sumN_by S.nb (fun l hl => by have := hW.2.2.2.1 l hl; omega)
theorem inc_sum (hW : WF S) : sumN (fun r => sumN (fun k => sumN (fun l => if S.lf l 0 = ((k : Nat) : Int) then gts S l r * S.lf l 5 else 0) S.nl) S.nb) 12 = sumN (fun l => earn S l) S.nl := by
  have h : ∀ r, sumN (fun k => sumN (fun l => if S.lf l 0 = ((k : Nat) : Int) then gts S l r * S.lf l 5 else 0) S.nl) S.nb = sumN (fun l => gts S l r * S.lf l 5) S.nl := fun r => sumN_by S.nb (fun l hl => by have := hW.2.2.2.1 l hl; omega)
  rw [sumN_congr 12 (fun r _ => h r), sumN_sw]
  rfl
end GTS
