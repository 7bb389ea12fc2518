/-! ===== the layout of the cells, and the pure semantics of the ops ===== -/
/-- a negative number -/
def mI (a : Nat) : Int32 := Int32.ofInt (-(a : Int))
def mL (a : Nat) : Int64 := Int64.ofInt (-(a : Int))
def cI : Nat → Nat → Int32
  | a, 0 => nI a
  | a, _ + 1 => mI a
def cL : Nat → Nat → Int64
  | a, 0 => lN a
  | a, _ + 1 => mL a
def gF (w : Wd) (k j : Nat) : Int32 := w.1 k j
def gG (w : Wd) (k j : Nat) : Int64 := w.2.1 k j
def gI (w : Wd) (a i : Nat) : Int32 := w.2.2.1 a i
def gJ (w : Wd) (a i : Nat) : Int64 := w.2.2.2.1 a i
def gP (w : Wd) (j : Nat) : Nat := w.2.2.2.2 j
def shlI (x y : Int32) : Int32 := x <<< (y &&& 31)
def shrI (x y : Int32) : Int32 := x >>> (y &&& 31)
def ushI (x y : Int32) : Int32 := (x.toUInt32 >>> (y.toUInt32 &&& Int32.toUInt32 31)).toInt32
def divI (x y : Int32) : Int32 := x / y
def remI (x y : Int32) : Int32 := x - x / y * y
/-- Math.floorMod -/
def fmI (x y : Int32) : Int32 := if (x ^^^ y) < 0 then (if remI x y = 0 then remI x y else remI x y + y) else remI x y
def divL (x y : Int64) : Int64 := x / y
def remL (x y : Int64) : Int64 := x - x / y * y
def i2lI (x : Int32) : Int64 := x.toInt64
def l2iL (x : Int64) : Int32 := x.toInt32
def i2bI (x : Int32) : Int32 := x.toInt8.toInt32
def i2sI (x : Int32) : Int32 := x.toInt16.toInt32
def i2cI (x : Int32) : Int32 := (x.toUInt32 % 65536).toInt32
def iX (i : Int32) : Nat := i.toNatClampNeg
def inB (i : Int32) (n : Nat) : Bool := !(decide (i < 0)) && decide (iX i < n)
def inC (i m : Int32) (n : Nat) : Bool := !(decide (i < 0)) && (!(decide (m < 0)) && decide (iX i + iX m ≤ n))
def nth : List Value → Nat → Value
  | [], _ => jk
  | v :: _, 0 => v
  | _ :: r, n + 1 => nth r n
def stL : List Value → Nat → Value → List Value
  | [], _, _ => []
  | _ :: r, 0, v => v :: r
  | u :: r, n + 1, v => u :: stL r n v
def nlg : Value → Bool
  | .long _ => false
  | .double _ => false
  | _ => true
def okL : List Value → Nat → Bool
  | _, 0 => true
  | [], _ + 1 => true
  | v :: _, 1 => nlg v
  | _ :: r, n + 2 => okL r (n + 1)
def ctv : Value → Nat
  | .long _ => 2
  | .double _ => 2
  | _ => 1
def ct : List Value → Nat
  | [] => 0
  | v :: r => ctv v + ct r
def pu : Option Value → List Value → List Value
  | none, r => r
  | some v, r => v :: r
/-- an answer that fits its type: int, boolean, byte, char -/
def bz : Int32 → Nat → Bool
  | _, 0 => true
  | x, 1 => x == nI 0 || x == nI 1
  | x, 2 => i2bI x == x
  | x, _ => i2cI x == x
/-- a cell's kind -/
def kd (k : Nat) : Nat ⊕ (Nat × Nat) :=
  if k < 45 then (if k % 9 = 0 then .inl 2 else .inr (0, 14)) else
  match k with
  | 45 => .inl 5
  | 46 => .inr (2, 1600)
  | 47 => .inr (5, 3)
  | 48 => .inr (3, 3)
  | 49 => .inl 1
  | 50 => .inl 4
  | 51 => .inr (4, 4)
  | 52 => .inr (1, 60)
  | 53 => .inr (1, 60)
  | 54 => .inr (1, 60)
  | 55 => .inr (1, 60)
  | 56 => .inr (0, 4)
  | 57 => .inr (0, 4)
  | 58 => .inl 3
  | 59 => .inr (0, 16384)
  | 60 => .inr (0, 16384)
  | 61 => .inr (0, 16384)
  | 62 => .inr (0, 16384)
  | 63 => .inl 0
  | 64 => .inr (1, 65)
  | 65 => .inr (4, 201)
  | 267 => .inl 6
  | 268 => .inr (0, 4)
  | 269 => .inr (0, 4)
  | 270 => .inr (1, 240)
  | 271 => .inr (1, 60)
  | 272 => .inr (2, 1600)
  | 273 => .inr (0, 6)
  | 274 => .inr (0, 6)
  | 275 => .inr (0, 24)
  | 276 => .inr (0, 252)
  | 277 => .inr (0, 84)
  | 278 => .inr (3, 3)
  | 279 => .inr (0, 14)
  | 280 => .inr (0, 14)
  | 281 => .inr (0, 16384)
  | 282 => .inr (0, 16384)
  | 283 => .inr (1, 16384)
  | 284 => .inr (0, 16384)
  | 285 => .inr (0, 16384)
  | 286 => .inr (1, 1365)
  | 287 => .inr (1, 3015)
  | 288 => .inr (0, 3015)
  | 289 => .inr (3, 16384)
  | _ => .inr (1, 15)
/-- a cell's references -/
def rf (P : Nat → Nat) (k j : Nat) : Nat :=
  if k < 45 then k + (j - 5) else
  match k with
  | 45 => (match j with | 0 => 46 | 4 => 49 | 5 => 0 | 6 => 9 | 7 => 47 | 8 => 48 | 9 => 50 | 10 => 58 | _ => 63)
  | 47 => 18 + 9 * j
  | 49 => 46
  | 50 => (match j with | 0 => 51 | 1 => 56 | _ => 57)
  | 51 => 52 + j
  | 58 => (match j with | 3 => P 3 | 4 => P 4 | 7 => P 7 | 8 => P 8 | _ => 0)
  | 63 => (match j with | 0 => 65 | _ => 64)
  | 65 => 66 + j
  | 267 => (match j with | 1 => 268 | 2 => 269 | 3 => 270 | 4 => 271 | 5 => 272 | 16 => 273 | 17 => 274 | 18 => 275 | 19 => 276 | 20 => 277 | 21 => 278 | 22 => 279 | 23 => 280 | 24 => 281 | 25 => 282 | 27 => 283 | 29 => 284 | 30 => 285 | 31 => 286 | 32 => 287 | 33 => 288 | _ => 289)
  | _ => 0
abbrev ΛZ : Ly := (290, kd, rf)
def isOb (k ci : Nat) : Bool := decide (k < 290) && (match kd k with | .inl c => c == ci | .inr _ => false)
/-- a row's length, if it is one of this sort -/
def lnA (a t : Nat) : Option Nat := if a < 290 then (match kd a with | .inl _ => none | .inr (t', n) => if t' == t then some n else none) else none
/-- what an op leads to: an end, a place of this method, a call -/
abbrev Nx : Type := Option (Option Value × Wd) ⊕ (Nat × List Value × List Value × Wd) ⊕ (Nat × List Value × Nat × List Value × List Value × Wd)
def xF : Nx := .inl none
def xR (r : Option Value) (w : Wd) : Nx := .inl (some (r, w))
def xK (pc : Nat) (L st : List Value) (w : Wd) : Nx := .inr (.inl (pc, L, st, w))
def xC (m : Nat) (As : List Value) (pc : Nat) (L rest : List Value) (w : Wd) : Nx := .inr (.inr (m, As, pc, L, rest, w))
def swK (x : Int32) (L st : List Value) (w : Wd) (df : Nat) : List Nat → Nx
  | k :: t :: r => if x = nI k then xK t L st w else swK x L st w df r
  | _ => xK df L st w
def tkC : Nat → List Value → List Value → Option (List Value × List Value)
  | 0, acc, st => some (acc, st)
  | n + 1, acc, v :: r => tkC n (v :: acc) r
  | _ + 1, _, [] => none
def arC (a b : Nat) (sp dp n : Int32) (pc : Nat) (L r : List Value) (w : Wd) : Nx :=
  match lnA a 0, lnA b 0 with
  | some n0, some n1 => if inC sp n n0 && inC dp n n1 then xK pc L r (sR w b (va_cpy (gI w a) (gI w b) (iX sp) (iX dp) (iX n))) else xF
  | _, _ => match lnA a 1, lnA b 1 with
    | some n0, some n1 => if inC sp n n0 && inC dp n n1 then xK pc L r (sL w b (va_cpy (gJ w a) (gJ w b) (iX sp) (iX dp) (iX n))) else xF
    | _, _ => xF
def zst (ins : Instr) (a b c : Nat) (l : List Nat) (pc : Nat) (L st : List Value) (w : Wd) : Nx :=
  match ins with
  | .iconst _ => xK (pc + 1) L (.int (cI a b) :: st) w
  | .bipush _ => xK (pc + 2) L (.int (cI a b) :: st) w
  | .sipush _ => xK (pc + 3) L (.int (cI a b) :: st) w
  | .ldc _ => (match c with | 0 => xK (pc + 2) L (.int (cI a b) :: st) w | _ => xK (pc + 2) L (.ref (1000 + a) :: st) w)
  | .ldc_w _ => xK (pc + 3) L (.int (cI a b) :: st) w
  | .lconst _ => xK (pc + 1) L (.long (cL a b) :: st) w
  | .ldc2_w _ => xK (pc + 3) L (.long (cL a b) :: st) w
  | .iload_n _ => (match nth L a with | .int x => xK (pc + 1) L (.int x :: st) w | _ => xF)
  | .iload _ => (match nth L a with | .int x => xK (pc + 2) L (.int x :: st) w | _ => xF)
  | .lload_n _ => (match nth L a with | .long x => xK (pc + 1) L (.long x :: st) w | _ => xF)
  | .lload _ => (match nth L a with | .long x => xK (pc + 2) L (.long x :: st) w | _ => xF)
  | .aload_n _ => (match nth L a with | .ref x => xK (pc + 1) L (.ref x :: st) w | _ => xF)
  | .aload _ => (match nth L a with | .ref x => xK (pc + 2) L (.ref x :: st) w | _ => xF)
  | .istore_n _ => (match st with | .int x :: r => (if okL L a then xK (pc + 1) (stL L a (.int x)) r w else xF) | _ => xF)
  | .istore _ => (match st with | .int x :: r => (if okL L a then xK (pc + 2) (stL L a (.int x)) r w else xF) | _ => xF)
  | .astore_n _ => (match st with | .ref x :: r => (if okL L a then xK (pc + 1) (stL L a (.ref x)) r w else xF) | _ => xF)
  | .astore _ => (match st with | .ref x :: r => (if okL L a then xK (pc + 2) (stL L a (.ref x)) r w else xF) | _ => xF)
  | .lstore_n _ => (match st with | .long x :: r => (if okL L a then xK (pc + 1) (stL (stL L a (.long x)) (a + 1) jk) r w else xF) | _ => xF)
  | .lstore _ => (match st with | .long x :: r => (if okL L a then xK (pc + 2) (stL (stL L a (.long x)) (a + 1) jk) r w else xF) | _ => xF)
  | .iinc _ _ => (match nth L a with | .int x => (if okL L a then xK (pc + 3) (stL L a (.int (x + cI b c))) st w else xF) | _ => xF)
  | .iadd => (match st with | .int y :: .int x :: r => xK (pc + 1) L (.int (x + y) :: r) w | _ => xF)
  | .isub => (match st with | .int y :: .int x :: r => xK (pc + 1) L (.int (x - y) :: r) w | _ => xF)
  | .imul => (match st with | .int y :: .int x :: r => xK (pc + 1) L (.int (x * y) :: r) w | _ => xF)
  | .iand => (match st with | .int y :: .int x :: r => xK (pc + 1) L (.int (x &&& y) :: r) w | _ => xF)
  | .ior => (match st with | .int y :: .int x :: r => xK (pc + 1) L (.int (x ||| y) :: r) w | _ => xF)
  | .ixor => (match st with | .int y :: .int x :: r => xK (pc + 1) L (.int (x ^^^ y) :: r) w | _ => xF)
  | .ishl => (match st with | .int y :: .int x :: r => xK (pc + 1) L (.int (shlI x y) :: r) w | _ => xF)
  | .ishr => (match st with | .int y :: .int x :: r => xK (pc + 1) L (.int (shrI x y) :: r) w | _ => xF)
  | .iushr => (match st with | .int y :: .int x :: r => xK (pc + 1) L (.int (ushI x y) :: r) w | _ => xF)
  | .idiv => (match st with | .int y :: .int x :: r => (if y = 0 then xF else xK (pc + 1) L (.int (divI x y) :: r) w) | _ => xF)
  | .irem => (match st with | .int y :: .int x :: r => (if y = 0 then xF else xK (pc + 1) L (.int (remI x y) :: r) w) | _ => xF)
  | .ladd => (match st with | .long y :: .long x :: r => xK (pc + 1) L (.long (x + y) :: r) w | _ => xF)
  | .lsub => (match st with | .long y :: .long x :: r => xK (pc + 1) L (.long (x - y) :: r) w | _ => xF)
  | .lmul => (match st with | .long y :: .long x :: r => xK (pc + 1) L (.long (x * y) :: r) w | _ => xF)
  | .ldiv => (match st with | .long y :: .long x :: r => (if y = 0 then xF else xK (pc + 1) L (.long (divL x y) :: r) w) | _ => xF)
  | .lrem => (match st with | .long y :: .long x :: r => (if y = 0 then xF else xK (pc + 1) L (.long (remL x y) :: r) w) | _ => xF)
  | .lcmp => (match st with | .long y :: .long x :: r => xK (pc + 1) L (.int (lg_cmp x y) :: r) w | _ => xF)
  | .i2l => (match st with | .int x :: r => xK (pc + 1) L (.long (i2lI x) :: r) w | _ => xF)
  | .l2i => (match st with | .long x :: r => xK (pc + 1) L (.int (l2iL x) :: r) w | _ => xF)
  | .i2b => (match st with | .int x :: r => xK (pc + 1) L (.int (i2bI x) :: r) w | _ => xF)
  | .i2s => (match st with | .int x :: r => xK (pc + 1) L (.int (i2sI x) :: r) w | _ => xF)
  | .dup => (match st with | .int x :: r => xK (pc + 1) L (.int x :: .int x :: r) w | .ref x :: r => xK (pc + 1) L (.ref x :: .ref x :: r) w | _ => xF)
  | .dup2 => (match st with | .int i :: .ref x :: r => xK (pc + 1) L (.int i :: .ref x :: .int i :: .ref x :: r) w | .long x :: r => xK (pc + 1) L (.long x :: .long x :: r) w | _ => xF)
  | .pop => (match st with | .int _ :: r => xK (pc + 1) L r w | _ => xF)
  | .goto _ => xK a L st w
  | .ifCond cd _ => (match st with
    | .int x :: r => (match cd with
      | .eq => (if x = nI 0 then xK a L r w else xK (pc + 3) L r w)
      | .ne => (if x = nI 0 then xK (pc + 3) L r w else xK a L r w)
      | .lt => (if x < nI 0 then xK a L r w else xK (pc + 3) L r w)
      | .ge => (if x < nI 0 then xK (pc + 3) L r w else xK a L r w)
      | .gt => (if nI 0 < x then xK a L r w else xK (pc + 3) L r w)
      | .le => (if nI 0 < x then xK (pc + 3) L r w else xK a L r w))
    | _ => xF)
  | .if_icmp cd _ => (match st with
    | .int y :: .int x :: r => (match cd with
      | .eq => (if x = y then xK a L r w else xK (pc + 3) L r w)
      | .ne => (if x = y then xK (pc + 3) L r w else xK a L r w)
      | .lt => (if x < y then xK a L r w else xK (pc + 3) L r w)
      | .ge => (if x < y then xK (pc + 3) L r w else xK a L r w)
      | .gt => (if y < x then xK a L r w else xK (pc + 3) L r w)
      | .le => (if y < x then xK (pc + 3) L r w else xK a L r w))
    | _ => xF)
  | .tableswitch _ _ _ _ => (match st with | .int x :: r => swK x L r w a l | _ => xF)
  | .lookupswitch _ _ => (match st with | .int x :: r => swK x L r w a l | _ => xF)
  | .getfield _ => (match st with
    | .ref k :: r => (if isOb k a then (match c with
      | 0 => xK (pc + 3) L (.int (gF w k b) :: r) w
      | 1 => xK (pc + 3) L (.long (gG w k b) :: r) w
      | _ => xK (pc + 3) L (.ref (rf (gP w) k b) :: r) w) else xF)
    | _ => xF)
  | .putfield _ => (match c with
    | 0 => (match st with | .int x :: .ref k :: r => (if isOb k a then xK (pc + 3) L r (sF w k b x) else xF) | _ => xF)
    | 1 => (match st with | .long x :: .ref k :: r => (if isOb k a then xK (pc + 3) L r (sG w k b x) else xF) | _ => xF)
    | _ => (match st with | .ref x :: .ref k :: r => (if isOb k a && (k == 58 && (b == 3 || (b == 4 || (b == 7 || b == 8)))) then xK (pc + 3) L r (sP w b x) else xF) | _ => xF))
  | .iaload => (match st with | .int i :: .ref k :: r => (match lnA k 0 with | some n => (if inB i n then xK (pc + 1) L (.int (gI w k (iX i)) :: r) w else xF) | none => xF) | _ => xF)
  | .laload => (match st with | .int i :: .ref k :: r => (match lnA k 1 with | some n => (if inB i n then xK (pc + 1) L (.long (gJ w k (iX i)) :: r) w else xF) | none => xF) | _ => xF)
  | .baload => (match st with | .int i :: .ref k :: r => (match lnA k 2 with | some n => (if inB i n then xK (pc + 1) L (.int (gI w k (iX i)) :: r) w else xF) | none => (match lnA k 3 with | some n => (if inB i n then xK (pc + 1) L (.int (gI w k (iX i)) :: r) w else xF) | none => xF)) | _ => xF)
  | .aaload => (match st with | .int i :: .ref k :: r => (match lnA k 4 with | some n => (if inB i n then xK (pc + 1) L (.ref (rf (gP w) k (iX i)) :: r) w else xF) | none => (match lnA k 5 with | some n => (if inB i n then xK (pc + 1) L (.ref (rf (gP w) k (iX i)) :: r) w else xF) | none => xF)) | _ => xF)
  | .iastore => (match st with | .int x :: .int i :: .ref k :: r => (match lnA k 0 with | some n => (if inB i n then xK (pc + 1) L r (sI w k (iX i) x) else xF) | none => xF) | _ => xF)
  | .lastore => (match st with | .long x :: .int i :: .ref k :: r => (match lnA k 1 with | some n => (if inB i n then xK (pc + 1) L r (sJ w k (iX i) x) else xF) | none => xF) | _ => xF)
  | .bastore => (match st with | .int x :: .int i :: .ref k :: r => (match lnA k 2 with | some n => (if inB i n then xK (pc + 1) L r (sI w k (iX i) (i2bI x)) else xF) | none => (match lnA k 3 with | some n => (if inB i n && bz x 1 then xK (pc + 1) L r (sI w k (iX i) x) else xF) | none => xF)) | _ => xF)
  | .arraylength => (match st with | .ref k :: r => (match lnA k 0 with | some n => xK (pc + 1) L (.int (nI n) :: r) w | none => (match lnA k 1 with | some n => xK (pc + 1) L (.int (nI n) :: r) w | none => (match lnA k 2 with | some n => xK (pc + 1) L (.int (nI n) :: r) w | none => xF))) | _ => xF)
  | .invokevirtual _ => (match c with
    | 100 => (match st with | .ref k :: r => (if decide (1000 ≤ k) && (decide (k < 1008) && decide (ct r ≤ 8)) then xK (pc + 3) L (.int (nI (skN.getD (k - 1000) 0)) :: r) w else xF) | _ => xF)
    | 101 => (match st with | .int i :: .ref k :: r => (if decide (1000 ≤ k) && (decide (k < 1008) && (inB i (skN.getD (k - 1000) 0) && decide (ct r ≤ 8))) then xK (pc + 3) L (.int ((skB.getD (k - 1000) []).getD (iX i) 0) :: r) w else xF) | _ => xF)
    | _ => (match tkC b [] st with
      | some (.ref k :: As, r) => (if isOb k c && (decide (ct r ≤ 8) && decide (1 + ct As ≤ l.headD 0)) then xC a (.ref k :: As) (pc + 3) L r w else xF)
      | _ => xF))
  | .invokestatic _ => (match c with
    | 2 => (match st with | .int y :: .int x :: r => (if ct r ≤ 8 then xK (pc + 3) L (.int (if x < y then y else x) :: r) w else xF) | _ => xF)
    | 3 => (match st with | .int y :: .int x :: r => (if ct r ≤ 8 then xK (pc + 3) L (.int (if x < y then x else y) :: r) w else xF) | _ => xF)
    | 5 => (match st with | .int y :: .int x :: r => (if decide (y = 0) || !(decide (ct r ≤ 8)) then xF else xK (pc + 3) L (.int (fmI x y) :: r) w) | _ => xF)
    | 4 => (match st with | .int n :: .int dp :: .ref k2 :: .int sp :: .ref k1 :: r => (if ct r ≤ 8 then arC k1 k2 sp dp n (pc + 3) L r w else xF) | _ => xF)
    | _ => (match tkC b [] st with
      | some (As, r) => (if decide (ct r ≤ 8) && decide (ct As ≤ l.headD 0) then xC a As (pc + 3) L r w else xF)
      | _ => xF))
  | .ireturn => (match st with | [.int x] => (if bz x c then xR (some (.int x)) w else xF) | _ => xF)
  | .lreturn => (match st with | [.long x] => xR (some (.long x)) w | _ => xF)
  | .return_ => (match st with | [] => xR none w | _ => xF)
  | _ => xF
def zop (o : Op) (pc : Nat) (L st : List Value) (w : Wd) : Nx := zst o.1 o.2.1 o.2.2.1 o.2.2.2.1 o.2.2.2.2 pc L st w
def pad : Nat → List Value → List Value
  | 0, _ => []
  | n + 1, [] => jk :: pad n []
  | n + 1, v :: r => v :: pad n r
def iniL (m : Nat) (As : List Value) : List Value := pad (mxL m) (eL As)
def zrun : Nat → Nat → Nat → List Value → List Value → Wd → Option (Option Value × Wd)
  | 0 => fun _ _ _ _ _ => none
  | f + 1 => fun m pc L st w => match zop (TT m pc) pc L st w with
    | .inl r => r
    | .inr (.inl (pc', L', st', w')) => zrun f m pc' L' st' w'
    | .inr (.inr (m', As, pc', L', rest, w')) => match zrun f m' 0 (iniL m' As) [] w' with
      | some (r, w2) => zrun f m pc' L' (pu r rest) w2
      | none => none
theorem zrun_mono : ∀ (f m pc : Nat) (L st : List Value) (w : Wd) (x : Option Value × Wd), zrun f m pc L st w = some x → zrun (f + 1) m pc L st w = some x := by
  intro f
  induction f with
  | zero => intro m pc L st w x h; cases h
  | succ f ih =>
    intro m pc L st w x h
    rw [zrun] at h ⊢
    cases hz : zop (TT m pc) pc L st w with
    | inl r => simp only [hz] at h ⊢; exact h
    | inr q =>
      cases q with
      | inl q =>
        obtain ⟨pc', L', st', w'⟩ := q
        simp only [hz] at h ⊢
        exact ih _ _ _ _ _ _ h
      | inr q =>
        obtain ⟨m', As, pc', L', rest, w'⟩ := q
        simp only [hz] at h ⊢
        cases hc : zrun f m' 0 (iniL m' As) [] w' with
        | none => simp [hc] at h
        | some y =>
          rw [ih _ _ _ _ _ _ hc]
          simp only [hc] at h
          exact ih _ _ _ _ _ _ h
theorem zrun_le {f g m pc : Nat} {L st : List Value} {w : Wd} {x : Option Value × Wd} (hfg : f ≤ g) (h : zrun f m pc L st w = some x) : zrun g m pc L st w = some x := by
  induction hfg with
  | refl => exact h
  | step _ ih => exact zrun_mono _ _ _ _ _ _ _ ih
theorem zrun_one {f g m pc : Nat} {L st : List Value} {w : Wd} {x y : Option Value × Wd} (h1 : zrun f m pc L st w = some x) (h2 : zrun g m pc L st w = some y) : x = y := by
  have a := zrun_le (Nat.le_max_left f g) h1
  have b := zrun_le (Nat.le_max_right f g) h2
  rw [a] at b
  exact Option.some.inj b
/-- the limit: what the method comes to, if it ends -/
noncomputable def zR (m pc : Nat) (L st : List Value) (w : Wd) : Option (Option Value × Wd) :=
  haveI := Classical.propDecidable (∃ x : Option Value × Wd, ∃ f : Nat, zrun f m pc L st w = some x)
  if h : ∃ x : Option Value × Wd, ∃ f : Nat, zrun f m pc L st w = some x then some (Classical.choose h) else none
theorem zR_iff {m pc : Nat} {L st : List Value} {w : Wd} {x : Option Value × Wd} : zR m pc L st w = some x ↔ ∃ f : Nat, zrun f m pc L st w = some x := by
  unfold zR
  by_cases h : ∃ x : Option Value × Wd, ∃ f : Nat, zrun f m pc L st w = some x
  · rw [dif_pos h]
    obtain ⟨f, hf⟩ := Classical.choose_spec h
    constructor
    · intro e
      cases Option.some.inj e
      exact ⟨f, hf⟩
    · rintro ⟨g, hg⟩
      rw [zrun_one hf hg]
  · rw [dif_neg h]
    constructor
    · intro e; cases e
    · rintro ⟨g, hg⟩
      exact absurd ⟨x, g, hg⟩ h
theorem zR_none {m pc : Nat} {L st : List Value} {w : Wd} (h : ∀ f : Nat, zrun f m pc L st w = none) : zR m pc L st w = none := by
  cases hz : zR m pc L st w with
  | none => rfl
  | some x =>
    obtain ⟨f, hf⟩ := zR_iff.mp hz
    rw [h f] at hf
    cases hf
theorem zR_ext {m pc m2 pc2 : Nat} {L st L2 st2 : List Value} {w w2 : Wd} (h : ∀ x : Option Value × Wd, (∃ f, zrun f m pc L st w = some x) ↔ ∃ f, zrun f m2 pc2 L2 st2 w2 = some x) : zR m pc L st w = zR m2 pc2 L2 st2 w2 := by
  cases h1 : zR m pc L st w with
  | some x => exact (zR_iff.mpr ((h x).mp (zR_iff.mp h1))).symm
  | none =>
    cases h2 : zR m2 pc2 L2 st2 w2 with
    | none => rfl
    | some y =>
      rw [zR_iff.mpr ((h y).mpr (zR_iff.mp h2))] at h1
      cases h1
/-- a call -/
noncomputable def zE (m : Nat) (As : List Value) (w : Wd) : Option (Option Value × Wd) := zR m 0 (iniL m As) [] w
noncomputable def zB (m pc : Nat) (L rest : List Value) : Option (Option Value × Wd) → Option (Option Value × Wd)
  | some (r, w2) => zR m pc L (pu r rest) w2
  | none => none
noncomputable def fo (m : Nat) : Nx → Option (Option Value × Wd)
  | .inl r => r
  | .inr (.inl (pc, L, st, w)) => zR m pc L st w
  | .inr (.inr (m', As, pc, L, rest, w)) => zB m pc L rest (zE m' As w)
theorem zR_eq (m pc : Nat) (L st : List Value) (w : Wd) : zR m pc L st w = fo m (zop (TT m pc) pc L st w) := by
  cases hz : zop (TT m pc) pc L st w with
  | inl r =>
    cases r with
    | none =>
      refine zR_none (fun f => ?_)
      cases f with
      | zero => rfl
      | succ f => simp only [zrun, hz]
    | some x =>
      refine zR_iff.mpr ⟨1, ?_⟩
      simp only [zrun, hz]
  | inr q =>
    cases q with
    | inl q =>
      obtain ⟨pc', L', st', w'⟩ := q
      show zR m pc L st w = zR m pc' L' st' w'
      refine zR_ext (fun x => ⟨?_, ?_⟩)
      · rintro ⟨f, hf⟩
        cases f with
        | zero => cases hf
        | succ f =>
          simp only [zrun, hz] at hf
          exact ⟨f, hf⟩
      · rintro ⟨f, hf⟩
        refine ⟨f + 1, ?_⟩
        simp only [zrun, hz]
        exact hf
    | inr q =>
      obtain ⟨m', As, pc', L', rest, w'⟩ := q
      show zR m pc L st w = zB m pc' L' rest (zE m' As w')
      cases he : zE m' As w' with
      | none =>
        refine zR_none (fun f => ?_)
        cases f with
        | zero => rfl
        | succ f =>
          simp only [zrun, hz]
          cases hc : zrun f m' 0 (iniL m' As) [] w' with
          | none => rfl
          | some y =>
            have : zE m' As w' = some y := zR_iff.mpr ⟨f, hc⟩
            rw [he] at this
            cases this
      | some y =>
        obtain ⟨r, w2⟩ := y
        obtain ⟨g, hg⟩ := zR_iff.mp (show zR m' 0 (iniL m' As) [] w' = _ from he)
        show zR m pc L st w = zR m pc' L' (pu r rest) w2
        refine zR_ext (fun x => ⟨?_, ?_⟩)
        · rintro ⟨f, hf⟩
          cases f with
          | zero => cases hf
          | succ f =>
            simp only [zrun, hz] at hf
            cases hc : zrun f m' 0 (iniL m' As) [] w' with
            | none => simp [hc] at hf
            | some y =>
              have := zrun_one hc hg
              subst this
              simp only [hc] at hf
              exact ⟨f, hf⟩
        · rintro ⟨f, hf⟩
          refine ⟨max f g + 1, ?_⟩
          simp only [zrun, hz]
          have h1 := zrun_le (Nat.le_max_right f g) hg
          have h2 := zrun_le (Nat.le_max_left f g) hf
          simp only [h1]
          exact h2
