/-! ===== what the document says, in whole numbers: the state ===== -/
/-- buildings, leases: how many; a building's, a lease's, an hour's numbers; got, paid; day; evicted -/
abbrev SS : Type := Nat × Nat × (Nat → Nat → Int) × (Nat → Nat → Int) × (Nat → Nat → Int) × (Nat → Int) × (Nat → Int) × Int × Int
def SS.nb (S : SS) : Nat := S.1
def SS.nl (S : SS) : Nat := S.2.1
def SS.bf (S : SS) (b k : Nat) : Int := S.2.2.1 b k
def SS.lf (S : SS) (l k : Nat) : Int := S.2.2.2.1 l k
def SS.sn (S : SS) (r k : Nat) : Int := S.2.2.2.2.1 r k
def SS.gt (S : SS) (o : Nat) : Int := S.2.2.2.2.2.1 o
def SS.pd (S : SS) (t : Nat) : Int := S.2.2.2.2.2.2.1 t
def SS.dy (S : SS) : Int := S.2.2.2.2.2.2.2.1
def SS.ev (S : SS) : Int := S.2.2.2.2.2.2.2.2
/-! loops -/
def anyN (p : Nat → Bool) : Nat → Bool
  | 0 => false
  | n + 1 => anyN p n || p n
def sumN (f : Nat → Int) : Nat → Int
  | 0 => 0
  | n + 1 => sumN f n + f n
/-- the first k from s on, among n, with p; 0 if there is none -/
def fstK (p : Nat → Bool) : Nat → Nat → Nat
  | _, 0 => 0
  | s, n + 1 => if p s = true then s else fstK p (s + 1) n
/-! shade -/
def cov (S : SS) (b : Nat) (x y : Int) : Bool := decide (S.bf b 6 = 1 ∧ S.bf b 0 ≤ x ∧ x ≤ S.bf b 0 + S.bf b 2 - 1 ∧ S.bf b 1 ≤ y ∧ y ≤ S.bf b 1 + S.bf b 3 - 1)
def isCov (S : SS) (x y : Int) : Bool := anyN (fun b => cov S b x y) S.nb
def reach (S : SS) (b r : Nat) : Nat := (S.sn r 2 * S.bf b 4 / 2).toNat
def stp (S : SS) (b r : Nat) (x y : Int) : Nat := fstK (fun k => cov S b (x - k * S.sn r 0) (y - k * S.sn r 1)) 1 (reach S b r)
/-- after the first n buildings: to whose shade the cell belongs, in how many it lies, the least number of steps -/
def cst (S : SS) (r : Nat) (x y : Int) : Nat → Int × Nat × Nat
  | 0 => (-1, 0, 0)
  | n + 1 => if stp S n r x y = 0 then cst S r x y n else if (cst S r x y n).1 ≠ -1 ∧ (cst S r x y n).2.2 ≤ stp S n r x y then ((cst S r x y n).1, (cst S r x y n).2.1 + 1, (cst S r x y n).2.2) else ((n : Int), (cst S r x y n).2.1 + 1, stp S n r x y)
def bel (S : SS) (r c : Nat) : Int := if isCov S (c % 16 : Nat) (c / 16 : Nat) = true then -2 else (cst S r (c % 16 : Nat) (c / 16 : Nat) S.nb).1
def shd (S : SS) (r c : Nat) : Int := if isCov S (c % 16 : Nat) (c / 16 : Nat) = true then 0 else ((cst S r (c % 16 : Nat) (c / 16 : Nat) S.nb).2.1 : Int)
def area (S : SS) (b : Int) (r : Nat) : Int := sumN (fun c => if bel S r c = b then 1 else 0) 256
/-! leases -/
def hasH (S : SS) (l r : Nat) : Bool := decide (S.lf l 6 = 1 ∧ S.lf l 2 ≤ r ∧ (r : Int) ≤ S.lf l 3)
def wnt (S : SS) (b : Int) (r : Nat) (price number : Int) : Int := sumN (fun l => if S.lf l 0 = b ∧ hasH S l r = true ∧ (S.lf l 5 > price ∨ S.lf l 5 = price ∧ (l : Int) < number) then S.lf l 4 else 0) S.nl
def free (S : SS) (b : Int) (r : Nat) (price number : Int) : Int := max 0 (area S b r - wnt S b r price number)
def gts (S : SS) (l r : Nat) : Int := if hasH S l r = true then min (S.lf l 4) (free S (S.lf l 0) r (S.lf l 5) l) else 0
def isSh (S : SS) (l r : Nat) : Bool := decide (hasH S l r = true ∧ gts S l r < S.lf l 4)
def shH (S : SS) (l : Nat) : Int := sumN (fun r => if isSh S l r = true then 1 else 0) 12
def lsOf (S : SS) (b : Int) : Int := sumN (fun l => if S.lf l 0 = b then S.lf l 6 else 0) S.nl
def hrT (S : SS) (r : Nat) : Nat → Int
  | 0 => sumN (fun c => if 0 ≤ bel S r c then 1 else 0) 256
  | 1 => sumN (fun c => if 1 < shd S r c then 1 else 0) 256
  | 2 => sumN (fun l => gts S l r) S.nl
  | _ => sumN (fun l => if isSh S l r = true then 1 else 0) S.nl
def buT (S : SS) (b : Nat) (w : Nat) : Int := if w < 7 then S.bf b w else lsOf S b
def leT (S : SS) (l : Nat) (w : Nat) : Int := if w < 9 then S.lf l w else shH S l
def coT (S : SS) : Nat → Int
  | 0 => S.dy
  | 1 => sumN (fun b => S.bf b 6) S.nb
  | 2 => sumN (fun l => S.lf l 6) S.nl
  | 3 => S.ev
  | 4 => sumN S.pd 16
  | _ => sumN (fun c => if bel S 0 c = -2 then 1 else 0) 256
/-- what stands of a state always -/
def WB (S : SS) : Prop := ∀ b, b < S.nb → 0 ≤ S.bf b 0 ∧ 1 ≤ S.bf b 2 ∧ S.bf b 2 ≤ 6 ∧ S.bf b 0 + S.bf b 2 ≤ 16 ∧ 0 ≤ S.bf b 1 ∧ 1 ≤ S.bf b 3 ∧ S.bf b 3 ≤ 6 ∧ S.bf b 1 + S.bf b 3 ≤ 16 ∧ 1 ≤ S.bf b 4 ∧ S.bf b 4 ≤ 9 ∧ 0 ≤ S.bf b 5 ∧ S.bf b 5 ≤ 7 ∧ (S.bf b 6 = 0 ∨ S.bf b 6 = 1)
def WL (S : SS) : Prop := ∀ l, l < S.nl → 0 ≤ S.lf l 0 ∧ S.lf l 0 < S.nb ∧ 0 ≤ S.lf l 1 ∧ S.lf l 1 ≤ 15 ∧ 0 ≤ S.lf l 2 ∧ S.lf l 2 ≤ S.lf l 3 ∧ S.lf l 3 ≤ 11 ∧ 1 ≤ S.lf l 4 ∧ S.lf l 4 ≤ 60 ∧ 1 ≤ S.lf l 5 ∧ S.lf l 5 ≤ 99 ∧ (S.lf l 6 = 0 ∨ S.lf l 6 = 1) ∧ 0 ≤ S.lf l 7 ∧ S.lf l 7 ≤ 2
def WN (S : SS) : Prop := ∀ r, r < 12 → -1 ≤ S.sn r 0 ∧ S.sn r 0 ≤ 1 ∧ -1 ≤ S.sn r 1 ∧ S.sn r 1 ≤ 1 ∧ 0 ≤ S.sn r 2 ∧ 0 ≤ S.sn r 2 ∧ S.sn r 2 ≤ 6
def WF (S : SS) : Prop := S.nb ≤ 12 ∧ S.nl ≤ 40 ∧ WB S ∧ WL S ∧ WN S ∧ 0 ≤ S.dy ∧ S.dy ≤ 1000 ∧ (∀ b1 b2 x y, b1 < S.nb → b2 < S.nb → cov S b1 x y = true → cov S b2 x y = true → b1 = b2)
/-! bounds -/
theorem sumN_le {f : Nat → Int} {m : Int} : ∀ n : Nat, (∀ i, i < n → f i ≤ m) → sumN f n ≤ n * m
  | 0, _ => by simp [sumN]
  | n + 1, h => by
    have h1 := sumN_le (f := f) (m := m) n (fun i hi => h i (by omega))
    have h2 := h n (by omega)
    simp only [sumN]
    rw [show ((n + 1 : Nat) : Int) * m = n * m + m by rw [Int.natCast_add, Int.add_mul]; simp]
    omega
theorem sumN_ge {f : Nat → Int} {m : Int} : ∀ n : Nat, (∀ i, i < n → m ≤ f i) → n * m ≤ sumN f n
  | 0, _ => by simp [sumN]
  | n + 1, h => by
    have h1 := sumN_ge (f := f) (m := m) n (fun i hi => h i (by omega))
    have h2 := h n (by omega)
    simp only [sumN]
    rw [show ((n + 1 : Nat) : Int) * m = n * m + m by rw [Int.natCast_add, Int.add_mul]; simp]
    omega
theorem sumN_congr {f g : Nat → Int} : ∀ n : Nat, (∀ i, i < n → f i = g i) → sumN f n = sumN g n
  | 0, _ => rfl
  | n + 1, h => by
    simp only [sumN]
    rw [sumN_congr n (fun i hi => h i (by omega)), h n (by omega)]
theorem fstK_le (p : Nat → Bool) : ∀ n s : Nat, fstK p s n ≤ s + n
  | 0, s => by simp [fstK]
  | n + 1, s => by
    unfold fstK
    split
    · omega
    · have := fstK_le p n (s + 1); omega
theorem reach_le {S : SS} {b r : Nat} (h : WF S) (hb : b < S.nb) (hr : r < 12) : reach S b r ≤ 27 := by
  obtain ⟨-, -, h1, -, h2, -⟩ := h
  have e1 := h1 b hb
  have e2 := h2 r hr
  unfold reach
  have e3 : S.sn r 2 * S.bf b 4 ≤ 6 * 9 := Int.mul_le_mul e2.2.2.2.2.2.2 e1.2.2.2.2.2.2.2.2.2.1 (by omega) (by omega)
  omega
theorem stp_le {S : SS} {b r : Nat} {x y : Int} (h : WF S) (hb : b < S.nb) (hr : r < 12) : stp S b r x y ≤ 28 := by
  have := fstK_le (fun k => cov S b (x - k * S.sn r 0) (y - k * S.sn r 1)) (reach S b r) 1
  have := reach_le h hb hr
  unfold stp
  omega
theorem cst_b {S : SS} {r : Nat} {x y : Int} : ∀ n : Nat, -1 ≤ (cst S r x y n).1 ∧ (cst S r x y n).1 < n ∧ (cst S r x y n).2.1 ≤ n
  | 0 => by simp [cst]
  | n + 1 => by
    have h := cst_b (S := S) (r := r) (x := x) (y := y) n
    unfold cst
    split
    · omega
    · split <;> (dsimp only; omega)
theorem bel_b (S : SS) (r c : Nat) : -2 ≤ bel S r c ∧ bel S r c < S.nb := by
  have h := cst_b (S := S) (r := r) (x := (c % 16 : Nat)) (y := (c / 16 : Nat)) S.nb
  unfold bel
  split <;> omega
theorem shd_b (S : SS) (r c : Nat) : 0 ≤ shd S r c ∧ shd S r c ≤ S.nb := by
  have h := cst_b (S := S) (r := r) (x := (c % 16 : Nat)) (y := (c / 16 : Nat)) S.nb
  unfold shd
  split <;> omega
theorem cnt_b (p : Nat → Prop) (hp : DecidablePred p) (n : Nat) : 0 ≤ sumN (fun c => if p c then 1 else 0) n ∧ sumN (fun c => if p c then 1 else 0) n ≤ n := by
  have h1 := sumN_le (f := fun c => if p c then 1 else 0) (m := 1) n (fun i _ => by split <;> omega)
  have h2 := sumN_ge (f := fun c => if p c then 1 else 0) (m := 0) n (fun i _ => by split <;> omega)
  omega
theorem area_b (S : SS) (b : Int) (r : Nat) : 0 ≤ area S b r ∧ area S b r ≤ 256 := cnt_b _ _ 256
theorem wnt_b {S : SS} (h : WF S) (b : Int) (r : Nat) (p q : Int) (n : Nat) (hn : n ≤ S.nl) : 0 ≤ sumN (fun l => if S.lf l 0 = b ∧ hasH S l r = true ∧ (S.lf l 5 > p ∨ S.lf l 5 = p ∧ (l : Int) < q) then S.lf l 4 else 0) n ∧ sumN (fun l => if S.lf l 0 = b ∧ hasH S l r = true ∧ (S.lf l 5 > p ∨ S.lf l 5 = p ∧ (l : Int) < q) then S.lf l 4 else 0) n ≤ 2400 := by
  obtain ⟨-, h0, -, h1, -⟩ := h
  have h2 := sumN_le (f := fun l => if S.lf l 0 = b ∧ hasH S l r = true ∧ (S.lf l 5 > p ∨ S.lf l 5 = p ∧ (l : Int) < q) then S.lf l 4 else 0) (m := 60) n (fun i hi => by
    have := h1 i (by omega)
    split <;> omega)
  have h3 := sumN_ge (f := fun l => if S.lf l 0 = b ∧ hasH S l r = true ∧ (S.lf l 5 > p ∨ S.lf l 5 = p ∧ (l : Int) < q) then S.lf l 4 else 0) (m := 0) n (fun i hi => by
    have := h1 i (by omega)
    split <;> omega)
  omega
theorem free_b {S : SS} (b : Int) (r : Nat) (p q : Int) (h : WF S) : 0 ≤ free S b r p q ∧ free S b r p q ≤ 256 := by
  have h1 := area_b S b r
  have h2 := wnt_b h b r p q S.nl (Nat.le_refl _)
  unfold free wnt
  omega
theorem gts_b {S : SS} {l r : Nat} (h : WF S) (hl : l < S.nl) : 0 ≤ gts S l r ∧ gts S l r ≤ 60 := by
  have h1 := free_b (S.lf l 0) r (S.lf l 5) l h
  have h2 := h.2.2.2.1 l hl
  unfold gts
  split <;> omega

