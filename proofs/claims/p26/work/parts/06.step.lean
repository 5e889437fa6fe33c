/-! ===== locals, stack patterns, contracts, the step ===== -/
abbrev Ls : Type := List (Option Value)
abbrev Ct : Type := List Value → Hp → (Option Value → Hp → Prop) → (String → Hp → Prop) → Prop
def getL : Ls → Nat → Option Value
  | [], _ => none
  | o :: _, 0 => o
  | _ :: t, n + 1 => getL t n
def kil : Option Value → Option Value
  | some (.long _) => none
  | some (.double _) => none
  | o => o
def putL : Ls → Nat → Value → Ls
  | [], _, _ => []
  | _ :: t, 0, v => some v :: t
  | o :: t, 1, v => kil o :: putL t 0 v
  | o :: t, n + 2, v => o :: putL t (n + 1) v
def clr : Ls → Ls
  | [] => []
  | _ :: t => none :: t
def putW : Ls → Nat → Value → Ls
  | [], _, _ => []
  | _ :: t, 0, v => some v :: clr t
  | o :: t, 1, v => kil o :: putW t 0 v
  | o :: t, n + 2, v => o :: putW t (n + 1) v
def sI (st : List Value) (f : Int32 → List Value → Prop) : Prop := match st with | .int x :: r => f x r | _ => False
def sL (st : List Value) (f : Int64 → List Value → Prop) : Prop := match st with | .long x :: r => f x r | _ => False
def sD (st : List Value) (f : UInt64 → List Value → Prop) : Prop := match st with | .double x :: r => f x r | _ => False
def sR (st : List Value) (f : Nat → List Value → Prop) : Prop := match st with | .ref x :: r => f x r | _ => False
def s1 (st : List Value) (f : Value → List Value → Prop) : Prop := match st with | .ref x :: r => f (.ref x) r | .int x :: r => f (.int x) r | _ => False
def s0 (st : List Value) (f : Prop) : Prop := match st with | [] => f | _ => False
def gI (ls : Ls) (i : Nat) (f : Int32 → Prop) : Prop := match getL ls i with | some (.int x) => f x | _ => False
def gL (ls : Ls) (i : Nat) (f : Int64 → Prop) : Prop := match getL ls i with | some (.long x) => f x | _ => False
def gD (ls : Ls) (i : Nat) (f : UInt64 → Prop) : Prop := match getL ls i with | some (.double x) => f x | _ => False
def gR (ls : Ls) (i : Nat) (f : Nat → Prop) : Prop := match getL ls i with | some (.ref x) => f x | _ => False
def oR (r : Option Nat) (f : Value → Prop) : Prop := ∃ a, r = some a ∧ f (.ref a)
def vR (st : List Value) (f : Option Nat → List Value → Prop) : Prop := match st with | .ref x :: r => f (some x) r | .null :: r => f none r | _ => False
def sPa : Nat → List Value → List Value → (List Value → List Value → Prop) → Prop
  | 0, st, acc, f => f acc st
  | _ + 1, [], _, _ => False
  | n + 1, v :: st, acc, f => sPa n st (v :: acc) f
def sP (n : Nat) (st : List Value) (f : List Value → List Value → Prop) : Prop := sPa n st [] f
def catN : Value → Nat
  | .long _ => 2
  | .double _ => 2
  | _ => 1
def catS : List Value → Nat
  | [] => 0
  | v :: r => catN v + catS r
/-- an index within -/
def inR (i : Int32) (n : Nat) : Prop := vp_in i n
/-- kind of the call, method, its code, arguments, depth, cells, slots, contract; kinds: 0 virtual, 1 static, 2 constructor, 3 a nest mate's constructor, 4 Object.<init>, 5 getClass, 6 arraycopy -/
abbrev CE : Type := Nat × MethodName × MI × Nat × Nat × Nat × Nat × Ct
def lkp : List (Nat × CE) → Nat → Option CE
  | [], _ => none
  | (j, e) :: r, i => if i = j then some e else lkp r i
def lkC (cs : List (Nat × CE)) (j : Nat) (f : CE → Prop) : Prop := match lkp cs j with
  | some ce => f ce
  | none => False
def mrt (M : MI) : Option FieldType := M.2.2.2.1
def mhh (M : MI) : List (Nat × Nat × Nat × Nat) := M.2.2.2.2
def mow (M : MI) : String := M.1
/-- the handler that takes E at pc: the first row of the table that covers pc and names E -/
def hndl (own : String) (pc : Nat) (E : String) : List (Nat × Nat × Nat × Nat) → Option Nat
  | [] => none
  | (a, b, t, k) :: r => if a ≤ pc ∧ pc < b ∧ (clss.lookup (own, k)).map nmOf = some E then some t else hndl own pc E r
def lenI : Instr → Nat
  | .bipush _ => 2
  | .sipush _ => 3
  | .iload _ => 2
  | .lload _ => 2
  | .dload _ => 2
  | .aload _ => 2
  | .istore _ => 2
  | .lstore _ => 2
  | .dstore _ => 2
  | .astore _ => 2
  | .iinc _ _ => 3
  | .goto _ => 3
  | .ifCond _ _ => 3
  | .if_icmp _ _ => 3
  | .if_acmp _ _ => 3
  | .getfield _ => 3
  | .putfield _ => 3
  | .getstatic _ => 3
  | .new _ => 3
  | .newarray _ => 2
  | .anewarray _ => 3
  | .multianewarray _ _ => 4
  | .checkcast _ => 3
  | .invokevirtual _ => 3
  | .invokestatic _ => 3
  | .invokespecial _ => 3
  | .ldc _ => 2
  | .ldc2_w _ => 3
  | .tableswitch _ _ _ _ => 0
  | _ => 1
def isS : List Nat → Nat → Bool
  | [], _ => false
  | a :: r, p => if p = a then true else isS r p
def swP (x : Int32) : Int → List Nat → (Nat → Prop) → Prop
  | _, [], _ => True
  | v, t :: r, f => (x.toInt = v → 0 < t ∧ f t) ∧ swP x (v + 1) r f
/-- 'throw new E("text")' stands at pc: new, dup, ldc, invokespecial, athrow; x: which class -/
def exI : Nat → Nat × Nat
  | 50 => (62, 66)
  | 51 => (110, 114)
  | _ => (208, 212)
def thrS (M : MI) (pc : Nat) : Nat := match decode M.2.1 (pc + 4) with | .ok (.ldc i, _) => i | .ok (.ldc_w i, _) => i | _ => 0
def thrOK (M : MI) (pc x : Nat) : Prop := decode M.2.1 pc = .ok (.new (exI x).1, 3) ∧ decode M.2.1 (pc + 3) = .ok (.dup, 1) ∧ ((decode M.2.1 (pc + 4) = .ok (.ldc (thrS M pc), 2) ∧ decode M.2.1 (pc + 6) = .ok (.invokespecial (exI x).2, 3) ∧ decode M.2.1 (pc + 9) = .ok (.athrow, 1)) ∨ (decode M.2.1 (pc + 4) = .ok (.ldc_w (thrS M pc), 3) ∧ decode M.2.1 (pc + 7) = .ok (.invokespecial (exI x).2, 3) ∧ decode M.2.1 (pc + 10) = .ok (.athrow, 1))) ∧ ∃ q ∈ strs, q.1 = thrS M pc
/-- a row of n rows of m ints; i of them are laid -/
def newM (h : Hp) (a : Nat) (B : Nat → Nat) (m n : Nat) : Nat → Hp
  | 0 => newA h a 25 n
  | i + 1 => setRA (newA (newM h a B m n i) (B i) 21 m) a i (some (B i))
section STEP
variable (G : GT) (M : MI) (ini : Bool) (d : Nat) (cs : List (Nat × CE)) (P : Option Value → Hp → Prop) (PX : String → Hp → Prop)
/-- behind a call; where its exceptions go -/
def cQ (K : Nat → Ls → List Value → Hp → Nat × Nat → Prop) (pc : Nat) (ls : Ls) (rest : List Value) (b : Nat × Nat) (v : Option Value) (h : Hp) : Prop := K (pc + 3) ls (v.toList ++ rest) h b
def cX (K : Nat → Ls → List Value → Hp → Nat × Nat → Prop) (pc : Nat) (ls : Ls) (b : Nat × Nat) (E : String) (h : Hp) : Prop := match mhh M with
  | [] => PX E h
  | hh => match hndl (mow M) pc E hh with
    | some t => ∀ a, K t ls [.ref a] h b
    | none => False
def callK (pc : Nat) (ls : Ls) (h : Hp) (b : Nat × Nat) (K : Nat → Ls → List Value → Hp → Nat × Nat → Prop) (ce : CE) (As rest : List Value) : Prop :=
  ce.2.2.2.2.1 + 1 ≤ d ∧ ce.2.2.2.2.2.1 ≤ b.1 ∧ ce.2.2.2.2.2.2.1 ≤ b.2 ∧ catS rest ≤ 8 ∧
  ce.2.2.2.2.2.2.2 As h (cQ K pc ls rest (b.1 - ce.2.2.2.2.2.1, b.2 - ce.2.2.2.2.2.2.1)) (cX M PX K pc ls (b.1 - ce.2.2.2.2.2.1, b.2 - ce.2.2.2.2.2.2.1))
def stepI (i : Instr) (x y : Nat) (v : Int32) (tg : List Nat) (pc : Nat) (ls : Ls) (st : List Value) (h : Hp) (b : Nat × Nat) (K : Nat → Ls → List Value → Hp → Nat × Nat → Prop) : Prop :=
  match i with
  | .iconst _ => K (pc + 1) ls (.int v :: st) h b
  | .bipush _ => K (pc + 2) ls (.int v :: st) h b
  | .sipush _ => K (pc + 3) ls (.int v :: st) h b
  | .aconst_null => K (pc + 1) ls (.null :: st) h b
  | .dconst n => if n = 0 then K (pc + 1) ls (.double 0 :: st) h b else n = 1 ∧ K (pc + 1) ls (.double 0x3ff0000000000000 :: st) h b
  | .ldc2_w _ => y = 1 ∧ K (pc + 3) ls (.long (Int64.ofNat x) :: st) h b
  | .ldc j => if x = 98 then K (pc + 2) ls (.int v :: st) h b else if x = 60 then mow M = RJ7 ∧ K (pc + 2) ls (.ref G.2.2.1.2.2 :: st) h b else mow M = RJ8 ∧ j = 200 ∧ K (pc + 2) ls (.int 2147483639 :: st) h b
  | .getstatic j => mow M = RJx4a65c ∧ j = 39 ∧ K (pc + 3) ls (.ref G.2.2.1.2.1 :: st) h b
  | .iload i => gI ls i fun w => K (pc + 2) ls (.int w :: st) h b
  | .iload_n _ => gI ls x fun w => K (pc + 1) ls (.int w :: st) h b
  | .lload i => gL ls i fun w => K (pc + 2) ls (.long w :: st) h b
  | .lload_n _ => gL ls x fun w => K (pc + 1) ls (.long w :: st) h b
  | .dload i => gD ls i fun w => K (pc + 2) ls (.double w :: st) h b
  | .aload i => gR ls i fun w => K (pc + 2) ls (.ref w :: st) h b
  | .aload_n _ => gR ls x fun w => K (pc + 1) ls (.ref w :: st) h b
  | .istore i => sI st fun w r => i < ls.length ∧ K (pc + 2) (putL ls i (.int w)) r h b
  | .istore_n _ => sI st fun w r => x < ls.length ∧ K (pc + 1) (putL ls x (.int w)) r h b
  | .lstore i => sL st fun w r => i + 1 < ls.length ∧ K (pc + 2) (putW ls i (.long w)) r h b
  | .lstore_n _ => sL st fun w r => x + 1 < ls.length ∧ K (pc + 1) (putW ls x (.long w)) r h b
  | .dstore i => sD st fun w r => i + 1 < ls.length ∧ K (pc + 2) (putW ls i (.double w)) r h b
  | .astore i => sR st fun w r => i < ls.length ∧ K (pc + 2) (putL ls i (.ref w)) r h b
  | .astore_n _ => sR st fun w r => x < ls.length ∧ K (pc + 1) (putL ls x (.ref w)) r h b
  | .iinc i _ => gI ls i fun w => i < ls.length ∧ K (pc + 3) (putL ls i (.int (w + v))) st h b
  | .iadd => sI st fun q r => sI r fun p r => K (pc + 1) ls (.int (p + q) :: r) h b
  | .isub => sI st fun q r => sI r fun p r => K (pc + 1) ls (.int (p - q) :: r) h b
  | .imul => sI st fun q r => sI r fun p r => K (pc + 1) ls (.int (p * q) :: r) h b
  | .idiv => sI st fun q r => sI r fun p r => ¬ q = 0 ∧ K (pc + 1) ls (.int (p / q) :: r) h b
  | .irem => sI st fun q r => sI r fun p r => ¬ q = 0 ∧ K (pc + 1) ls (.int (p - p / q * q) :: r) h b
  | .iand => sI st fun q r => sI r fun p r => K (pc + 1) ls (.int (p &&& q) :: r) h b
  | .ishr => sI st fun q r => sI r fun p r => K (pc + 1) ls (.int (p >>> (q &&& 31)) :: r) h b
  | .ladd => sL st fun q r => sL r fun p r => K (pc + 1) ls (.long (p + q) :: r) h b
  | .lmul => sL st fun q r => sL r fun p r => K (pc + 1) ls (.long (p * q) :: r) h b
  | .lcmp => sL st fun q r => sL r fun p r => K (pc + 1) ls (.int (lg_cmp p q) :: r) h b
  | .i2l => sI st fun p r => K (pc + 1) ls (.long p.toInt64 :: r) h b
  | .i2d => sI st fun p r => K (pc + 1) ls (.double (FP.i2d p) :: r) h b
  | .ddiv => sD st fun q r => sD r fun p r => vf_n64 (FP.ddiv p q) ∧ K (pc + 1) ls (.double (FP.ddiv p q) :: r) h b
  | .dcmp o => sD st fun q r => sD r fun p r => K (pc + 1) ls (.int (Op.cmpValue (FP.dcmp p q) o) :: r) h b
  | .dup => s1 st fun p r => K (pc + 1) ls (p :: p :: r) h b
  | .dup2 => s1 st fun p r => s1 r fun q r => K (pc + 1) ls (p :: q :: p :: q :: r) h b
  | .dup_x1 => s1 st fun p r => s1 r fun q r => K (pc + 1) ls (p :: q :: p :: r) h b
  | .pop => s1 st fun _ r => K (pc + 1) ls r h b
  | .goto _ => 0 < x ∧ K x ls st h b
  | .ifCond .eq _ => 0 < x ∧ sI st fun p r => (p = 0 → K x ls r h b) ∧ (¬ p = 0 → K (pc + 3) ls r h b)
  | .ifCond .ne _ => 0 < x ∧ sI st fun p r => (¬ p = 0 → K x ls r h b) ∧ (p = 0 → K (pc + 3) ls r h b)
  | .ifCond .lt _ => 0 < x ∧ sI st fun p r => (p < 0 → K x ls r h b) ∧ (¬ p < 0 → K (pc + 3) ls r h b)
  | .ifCond .ge _ => 0 < x ∧ sI st fun p r => (0 ≤ p → K x ls r h b) ∧ (¬ 0 ≤ p → K (pc + 3) ls r h b)
  | .ifCond .gt _ => 0 < x ∧ sI st fun p r => (0 < p → K x ls r h b) ∧ (¬ 0 < p → K (pc + 3) ls r h b)
  | .ifCond .le _ => 0 < x ∧ sI st fun p r => (p ≤ 0 → K x ls r h b) ∧ (¬ p ≤ 0 → K (pc + 3) ls r h b)
  | .if_icmp .eq _ => 0 < x ∧ sI st fun q r => sI r fun p r => (p = q → K x ls r h b) ∧ (¬ p = q → K (pc + 3) ls r h b)
  | .if_icmp .ne _ => 0 < x ∧ sI st fun q r => sI r fun p r => (¬ p = q → K x ls r h b) ∧ (p = q → K (pc + 3) ls r h b)
  | .if_icmp .lt _ => 0 < x ∧ sI st fun q r => sI r fun p r => (p < q → K x ls r h b) ∧ (¬ p < q → K (pc + 3) ls r h b)
  | .if_icmp .ge _ => 0 < x ∧ sI st fun q r => sI r fun p r => (q ≤ p → K x ls r h b) ∧ (¬ q ≤ p → K (pc + 3) ls r h b)
  | .if_icmp .gt _ => 0 < x ∧ sI st fun q r => sI r fun p r => (q < p → K x ls r h b) ∧ (¬ q < p → K (pc + 3) ls r h b)
  | .if_icmp .le _ => 0 < x ∧ sI st fun q r => sI r fun p r => (p ≤ q → K x ls r h b) ∧ (¬ p ≤ q → K (pc + 3) ls r h b)
  | .if_acmp .eq _ => 0 < x ∧ sR st fun q r => sR r fun p r => (p = q → K x ls r h b) ∧ (¬ p = q → K (pc + 3) ls r h b)
  | .if_acmp .ne _ => 0 < x ∧ sR st fun q r => sR r fun p r => (¬ p = q → K x ls r h b) ∧ (p = q → K (pc + 3) ls r h b)
  | .tableswitch dd lo hi offs => 0 < x ∧ (Int32.ofInt lo).toInt = lo ∧ lo + tg.length = hi + 1 ∧ sI st fun p r => swP p v.toInt tg (fun t => K t ls r h b) ∧ ((p.toInt < v.toInt ∨ v.toInt + tg.length ≤ p.toInt) → K x ls r h b)
  | .getfield _ => sR st fun a r => kd h a = x + 1 ∧ y < nF x ∧ (if refF x y = true then oR (fr h x y a) fun w => K (pc + 3) ls (w :: r) h b else K (pc + 3) ls (.int (fi h x y a) :: r) h b)
  | .putfield _ => if refF x y = true then vR st fun q r => sR r fun a r => kd h a = x + 1 ∧ y < nF x ∧ (finF x y = true → ini = true ∧ mow M = nmOf x) ∧ K (pc + 3) ls r (setR h x y a q) b
      else sI st fun w r => sR r fun a r => kd h a = x + 1 ∧ y < nF x ∧ (finF x y = true → ini = true ∧ mow M = nmOf x) ∧ (booF x y = true → w = 0 ∨ w = 1) ∧ K (pc + 3) ls r (setI h x y a w) b
  | .iaload => sI st fun j r => sR r fun a r => kd h a = 21 ∧ inR j (ln h a) ∧ K (pc + 1) ls (.int (ia h a j.toNatClampNeg) :: r) h b
  | .baload => sI st fun j r => sR r fun a r => kd h a = 22 ∧ inR j (ln h a) ∧ K (pc + 1) ls (.int (ia h a j.toNatClampNeg) :: r) h b
  | .aaload => if x = 25 then sI st fun j r => sR r fun a r => kd h a = 25 ∧ inR j (ln h a) ∧ oR (ra h a j.toNatClampNeg) fun w => K (pc + 1) ls (w :: r) h b else sI st fun j r => sR r fun a r => kd h a = 24 ∧ inR j (ln h a) ∧ oR (ra h a j.toNatClampNeg) fun w => K (pc + 1) ls (w :: r) h b
  | .iastore => sI st fun w r => sI r fun j r => sR r fun a r => kd h a = 21 ∧ inR j (ln h a) ∧ K (pc + 1) ls r (setIA h a j.toNatClampNeg w) b
  | .bastore => sI st fun w r => sI r fun j r => sR r fun a r => kd h a = 22 ∧ inR j (ln h a) ∧ (w = 0 ∨ w = 1) ∧ K (pc + 1) ls r (setIA h a j.toNatClampNeg w) b
  | .aastore => if x = 25 then sR st fun w r => sI r fun j r => sR r fun a r => kd h a = 25 ∧ inR j (ln h a) ∧ kd h w = 21 ∧ K (pc + 1) ls r (setRA h a j.toNatClampNeg (some w)) b else sR st fun w r => sI r fun j r => sR r fun a r => kd h a = 24 ∧ inR j (ln h a) ∧ (kd h w = 2 ∨ kd h w = 3 ∨ kd h w = 4) ∧ K (pc + 1) ls r (setRA h a j.toNatClampNeg (some w)) b
  | .arraylength => if x = 25 then sR st fun a r => kd h a = 25 ∧ K (pc + 1) ls (.int (nI (ln h a)) :: r) h b else sR st fun a r => (kd h a = 0 → a = G.2.2.1.2.1 ∧ K (pc + 1) ls (.int 0 :: r) h b) ∧ (¬ kd h a = 0 → 21 ≤ kd h a ∧ kd h a ≤ 24 ∧ K (pc + 1) ls (.int (nI (ln h a)) :: r) h b)
  | .newarray t => sI st fun n r => (t = .int ∨ t = .boolean) ∧ ¬ n < 0 ∧ n.toNatClampNeg ≤ 5000 ∧ 1 ≤ b.1 ∧ n.toNatClampNeg ≤ b.2 ∧
      ∀ a, kd h a = 0 → a ≠ G.2.2.1.2.1 → K (pc + 2) ls (.ref a :: r) (newA h a (if t = .int then 21 else if t = .boolean then 22 else 23) n.toNatClampNeg) (b.1 - 1, b.2 - n.toNatClampNeg)
  | .multianewarray _ dm => x = 63 ∧ dm = 2 ∧ sI st fun q r => sI r fun n r => ¬ n < 0 ∧ ¬ q < 0 ∧ n.toNatClampNeg ≤ 100 ∧ q.toNatClampNeg ≤ 5000 ∧ 1 + n.toNatClampNeg ≤ b.1 ∧ n.toNatClampNeg + n.toNatClampNeg * q.toNatClampNeg ≤ b.2 ∧
      ∀ (a : Nat) (B : Nat → Nat), kd h a = 0 → a ≠ G.2.2.1.2.1 → (∀ i, i < n.toNatClampNeg → kd h (B i) = 0 ∧ B i ≠ a ∧ B i ≠ G.2.2.1.2.1) → (∀ i j, i < n.toNatClampNeg → j < n.toNatClampNeg → B i = B j → i = j) →
      K (pc + 4) ls (.ref a :: r) (newM h a B q.toNatClampNeg n.toNatClampNeg n.toNatClampNeg) (b.1 - (1 + n.toNatClampNeg), b.2 - (n.toNatClampNeg + n.toNatClampNeg * q.toNatClampNeg))
  | .anewarray _ => if x = 62 then sI st fun n r => ¬ n < 0 ∧ n.toNatClampNeg ≤ 5000 ∧ 1 ≤ b.1 ∧ n.toNatClampNeg ≤ b.2 ∧
      ∀ a, kd h a = 0 → a ≠ G.2.2.1.2.1 → K (pc + 3) ls (.ref a :: r) (newA h a 25 n.toNatClampNeg) (b.1 - 1, b.2 - n.toNatClampNeg) else sI st fun n r => x = 61 ∧ ¬ n < 0 ∧ n.toNatClampNeg ≤ 5000 ∧ 1 ≤ b.1 ∧ n.toNatClampNeg ≤ b.2 ∧
      ∀ a, kd h a = 0 → a ≠ G.2.2.1.2.1 → K (pc + 3) ls (.ref a :: r) (newA h a 24 n.toNatClampNeg) (b.1 - 1, b.2 - n.toNatClampNeg)
  | .new _ => if x < 7 then 1 ≤ b.1 ∧ nF x ≤ b.2 ∧ ∀ a, kd h a = 0 → a ≠ G.2.2.1.2.1 → K (pc + 3) ls (.ref a :: st) (newO h a x) (b.1 - 1, b.2 - nF x)
      else 50 ≤ x ∧ x ≤ 52 ∧ mow M = RX4 ∧ mhh M = [] ∧ thrOK M pc x ∧ 7 ≤ d ∧ 1 ≤ b.1 ∧ 6 ≤ b.2 ∧ catS st ≤ 8 ∧ PX (nmOf x) h
  | .checkcast _ => sR st fun a r => (if x = 60 then kd h a = 24 else kd h a = x + 1 ∧ (x = 1 ∨ x = 2 ∨ x = 3)) ∧ K (pc + 3) ls (.ref a :: r) h b
  | .invokevirtual j => lkC cs j fun ce => if ce.1 = 0 then sP ce.2.2.2.1 st fun As r => sR r fun a r => kd h a ≠ 0 ∧ kd h a < 21 ∧ nmOf (kd h a - 1) = ce.2.1.cls ∧ callK M d PX pc ls h b K ce (.ref a :: As) r
        else ce.1 = 5 ∧ sR st fun a r => kd h a = 24 ∧ 2 ≤ d ∧ catS r ≤ 8 ∧ K (pc + 3) ls (.ref G.2.2.1.2.2 :: r) h b
  | .invokestatic j => lkC cs j fun ce => if ce.1 = 1 then sP ce.2.2.2.1 st fun As r => callK M d PX pc ls h b K ce As r
        else if ce.1 = 7 then sI st fun n r => sI r fun dp r => sR r fun a r => sI r fun sp r => sR r fun a0 r => kd h a0 = 21 ∧ kd h a = 21 ∧ ¬ sp < 0 ∧ ¬ dp < 0 ∧ ¬ n < 0 ∧ sp.toNatClampNeg + n.toNatClampNeg ≤ ln h a0 ∧ dp.toNatClampNeg + n.toNatClampNeg ≤ ln h a ∧
          2 ≤ d ∧ catS r ≤ 8 ∧ K (pc + 3) ls r (cpIA h a0 a sp.toNatClampNeg dp.toNatClampNeg n.toNatClampNeg) b
        else if ce.1 = 8 then sI st fun q r => sI r fun p r => 2 ≤ d ∧ catS r ≤ 8 ∧ K (pc + 3) ls (.int (if p < q then q else p) :: r) h b
        else if ce.1 = 9 then sI st fun q r => sI r fun p r => 2 ≤ d ∧ catS r ≤ 8 ∧ K (pc + 3) ls (.int (if q < p then q else p) :: r) h b
        else ce.1 = 6 ∧ sI st fun n r => sI r fun dp r => sR r fun a r => sI r fun sp r => sR r fun a0 r => kd h a0 = 24 ∧ kd h a = 24 ∧ ¬ sp < 0 ∧ ¬ dp < 0 ∧ ¬ n < 0 ∧ sp.toNatClampNeg + n.toNatClampNeg ≤ ln h a0 ∧ dp.toNatClampNeg + n.toNatClampNeg ≤ ln h a ∧
          (∃ k, (k = 2 ∨ k = 3 ∨ k = 4) ∧ ∀ i w, i < n.toNatClampNeg → ra h a0 (sp.toNatClampNeg + i) = some w → kd h w = k) ∧ 2 ≤ d ∧ catS r ≤ 8 ∧ K (pc + 3) ls r (cpRA h a0 a sp.toNatClampNeg dp.toNatClampNeg n.toNatClampNeg) b
  | .invokespecial j => lkC cs j fun ce => if ce.1 = 2 ∨ ce.1 = 3 then sP ce.2.2.2.1 st fun As r => sR r fun a r => kd h a ≠ 0 ∧ kd h a < 21 ∧ callK M d PX pc ls h b K ce (.ref a :: As) r
        else ce.1 = 4 ∧ sR st fun _ r => 1 ≤ d ∧ catS r ≤ 8 ∧ K (pc + 3) ls r h b
  | .ireturn => sI st fun w r => s0 r (match mrt M with | some .int => P (some (.int w)) h | some .boolean => (w = 0 ∨ w = 1) ∧ P (some (.int w)) h | _ => False)
  | .lreturn => sL st fun w r => s0 r (mrt M = some .long ∧ P (some (.long w)) h)
  | .dreturn => sD st fun w r => s0 r (mrt M = some .double ∧ P (some (.double w)) h)
  | .areturn => sR st fun w r => s0 r ((match mrt M with | some (.object _) => True | some (.array _) => True | _ => False) ∧ P (some (.ref w)) h)
  | .return_ => s0 st (mrt M = none ∧ P none h)
  | _ => False
def stF (pc : Nat) (ls : Ls) (st : List Value) (h : Hp) (b : Nat × Nat) (K : Nat → Ls → List Value → Hp → Nat × Nat → Prop) (q : RI) : Prop :=
  (lenI q.1 = q.2.1 ∨ lenI q.1 = 0) ∧ stepI G M ini d cs P PX q.1 q.2.2.1 q.2.2.2.1 q.2.2.2.2.1 q.2.2.2.2.2 pc ls st h b K
def stC (r : Option RI) (f : RI → Prop) : Prop := match r with
  | some q => f q
  | none => False
def step (pc : Nat) (ls : Ls) (st : List Value) (h : Hp) (b : Nat × Nat) (K : Nat → Ls → List Value → Hp → Nat × Nat → Prop) : Prop := stC (rs M pc) (stF G M ini d cs P PX pc ls st h b K)
def kN (stop : List Nat) (Z W : Nat → Ls → List Value → Hp → Nat × Nat → Prop) (pc : Nat) (ls : Ls) (st : List Value) (h : Hp) (b : Nat × Nat) : Prop := if isS stop pc = true then Z pc ls st h b else W pc ls st h b
/-- up to n steps, to the places in 'stop', where Z must hold -/
def wpN (stop : List Nat) (Z : Nat → Ls → List Value → Hp → Nat × Nat → Prop) : Nat → Nat → Ls → List Value → Hp → Nat × Nat → Prop
  | 0, _, _, _, _, _ => False
  | n + 1, pc, ls, st, h, b => step G M ini d cs P PX pc ls st h b (kN stop Z (wpN stop Z n))
end STEP
