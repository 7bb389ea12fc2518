/-! ===== what the tables must say of an op ===== -/
def wdIs (i : Nat) (c : Cond) : Bool := (match lw_tbl[i]? with | some w => decide (w = c) | none => false) && goodWord c
theorem wdIs_in {i : Nat} {c : Cond} (h : wdIs i c = true) : c ∈ GG := by
  unfold wdIs at h
  rw [Bool.and_eq_true] at h
  cases hw : lw_tbl[i]? with
  | none => rw [hw] at h; cases h.1
  | some w =>
    rw [hw] at h
    have e : w = c := of_decide_eq_true h.1
    subst e
    exact GGi i hw h.2
def wi1 (l : List Nat) : Nat := l.getD 1 0
/-- a method that is called: its words -/
def chkB (m : Nat) : Bool := wdIs (wdM m).1 (Cond.code (MT m).1 (MT m).2.1 (MT m).2.2.1 (MT m).2.2.2) && (wdIs (wdM m).2.1 (Cond.initialized (MT m).1.cls) && (decide ((MT m).1.cls ≠ "java/lang/invoke/MethodHandle") && (decide ((MT m).1.cls ≠ "java/lang/invoke/VarHandle") && (decide ((parseMethodDescriptor (MT m).1.desc).map (fun d => d.parameters.length) = some (wdM m).2.2.2.2) && (decide ((MT m).2.2.1 ≤ 21) && (decide (mxL m = (MT m).2.2.1) && plainName (MT m).1.cls))))))
def chkV (m : Nat) : Bool := chkB m && (wdIs (wdM m).2.2.1 (Cond.instanceMethod (MT m).1) && wdIs ((wdM m).2.2.2.1 - 1) (Cond.selects (MT m).1.cls (MT m).1 (MT m).1))
def chkS (m : Nat) : Bool := chkB m && wdIs (wdM m).2.2.1 (Cond.static (MT m).1)
/-- a method that is called on an object, a static one -/
def isV (m : Nat) : Bool := decide (m < nM) && !(decide ((wdM m).2.2.2.1 = 0))
def isS (m : Nat) : Bool := decide (m < nM) && decide ((wdM m).2.2.2.1 = 0)
def chkM (m : Nat) : Bool := if (wdM m).2.2.2.1 = 0 then chkS m else chkV m
def nmLen : MethodName := ⟨"java/lang/String", "length", "()I"⟩
def nmChr : MethodName := ⟨"java/lang/String", "charAt", "(I)C"⟩
def nst (i : Nat) : Option (MethodName) := if i = 312 then some yX0_powerMoves else if i = 315 then some yX0_powerSlates else none
def evens : List Nat → List Nat
  | k :: _ :: r => k :: evens r
  | _ => []
def odds : List Nat → List Nat
  | _ :: t :: r => t :: odds r
  | _ => []
def chk2 (M : MI) (d pc n : Nat) (ins : Instr) (a b c : Nat) (l : List Nat) : Bool :=
  match ins with
  | .iconst v => decide (n = 1) && decide (Int32.ofInt v = cI a b)
  | .bipush v => decide (n = 2) && decide ((Int8.ofInt v).toInt32 = cI a b)
  | .sipush v => decide (n = 3) && decide ((Int16.ofInt v).toInt32 = cI a b)
  | .ldc i => decide (n = 2) && (match c with | 0 => wdIs (l.headD 0) (Cond.constant M.1.cls i (cI a b)) | _ => decide (a < 8) && (decide (skI.getD a 0 = i) && decide (M.1.cls = RX1)))
  | .ldc_w i => decide (n = 3) && wdIs (l.headD 0) (Cond.constant M.1.cls i (cI a b))
  | .lconst v => decide (n = 1) && decide (Int64.ofNat (v : Nat) = cL a b)
  | .ldc2_w i => decide (n = 3) && wdIs (l.headD 0) (Cond.constantLong M.1.cls i (cL a b))
  | .iload_n j => decide (n = 1) && decide (a = (j : Nat))
  | .lload_n j => decide (n = 1) && decide (a = (j : Nat))
  | .aload_n j => decide (n = 1) && decide (a = (j : Nat))
  | .iload j => decide (n = 2) && decide (a = j)
  | .lload j => decide (n = 2) && decide (a = j)
  | .aload j => decide (n = 2) && decide (a = j)
  | .istore_n j => decide (n = 1) && (decide (a = (j : Nat)) && decide (a < M.2.2.1))
  | .astore_n j => decide (n = 1) && (decide (a = (j : Nat)) && decide (a < M.2.2.1))
  | .lstore_n j => decide (n = 1) && (decide (a = (j : Nat)) && decide (a + 1 < M.2.2.1))
  | .istore j => decide (n = 2) && (decide (a = j) && decide (a < M.2.2.1))
  | .astore j => decide (n = 2) && (decide (a = j) && decide (a < M.2.2.1))
  | .lstore j => decide (n = 2) && (decide (a = j) && decide (a + 1 < M.2.2.1))
  | .iinc j v => decide (n = 3) && (decide (a = j) && (decide (a < M.2.2.1) && decide (Int32.ofInt v = cI b c)))
  | .goto off => decide (n = 3) && decide ((pc : Int) + off = (a : Int))
  | .ifCond _ off => decide (n = 3) && decide ((pc : Int) + off = (a : Int))
  | .if_icmp _ off => decide (n = 3) && decide ((pc : Int) + off = (a : Int))
  | .tableswitch df lo hi offs => decide ((pc : Int) + df = (a : Int)) && (decide (0 ≤ lo) && (decide (hi < 1000) && (decide (evens l = (List.range offs.size).map (fun i => lo.toNat + i)) && (decide ((odds l).map (fun t => ((t : Nat) : Int)) = offs.toList.map (fun o => (pc : Int) + o)) && decide (lo + (offs.size : Int) = hi + 1)))))
  | .lookupswitch df ps => decide ((pc : Int) + df = (a : Int)) && (decide (l.length ≤ 2000) && ((evens l).all (fun k => decide (k < 1000)) && (decide ((ps.toList.zip (ps.toList.drop 1)).all (fun (a, next) => a.1 < next.1) = true) && (decide ((evens l).map (fun t => ((t : Nat) : Int)) = ps.toList.map (fun q => q.1)) && decide ((odds l).map (fun t => ((t : Nat) : Int)) = ps.toList.map (fun q => (pc : Int) + q.2))))))
  | .getfield i => decide (n = 3) && (decide (a < 7) && (decide (b < nfZ a) && (decide (fkZ a b = c) && wdIs (l.headD 0) (Cond.fieldLink M.1.cls i (Tz a b).1 (Tz a b).2.1 (Tz a b).2.2.1))))
  | .putfield i => decide (n = 3) && (decide (a < 7) && (decide (b < nfZ a) && (decide (fkZ a b = c) && (wdIs (l.headD 0) (Cond.fieldLink M.1.cls i (Tz a b).1 (Tz a b).2.1 (Tz a b).2.2.1) && (decide ((Tz a b).2.2.2 = false) && (decide (c < 2) || decide (tyZ a b = .array .int)))))))
  | .invokevirtual i => decide (n = 3) && (match c with
    | 100 => decide (7 ≤ d) && wdIs (wi1 l) (Cond.methodLink M.1.cls i nmLen)
    | 101 => decide (7 ≤ d) && wdIs (wi1 l) (Cond.methodLink M.1.cls i nmChr)
    | _ => decide (rkM a + 1 ≤ d) && (decide (c < 7) && (decide (Rz c = (MT a).1.cls) && (wdIs (wi1 l) (Cond.methodLink M.1.cls i (MT a).1) && (decide ((wdM a).2.2.2.2 + 1 = b) && (decide (l.headD 0 = mxL a) && isV a))))))
  | .invokestatic i => decide (n = 3) && (match c with
    | 0 => decide (rkM a + 1 ≤ d) && (wdIs (wi1 l) (Cond.methodLink M.1.cls i (MT a).1) && (decide ((wdM a).2.2.2.2 = b) && (decide (l.headD 0 = mxL a) && (isS a))))
    | 1 => decide (rkM a + 1 ≤ d) && (decide (M.1.cls = RX5) && (decide (nst i = some (MT a).1) && (decide ((wdM a).2.2.2.2 = b) && (decide (l.headD 0 = mxL a) && isS a))))
    | 2 => decide (1 ≤ d) && wdIs (wi1 l) (Cond.methodLink M.1.cls i Lib.Math.max.name)
    | 3 => decide (1 ≤ d) && wdIs (wi1 l) (Cond.methodLink M.1.cls i Lib.Math.min.name)
    | 4 => decide (1 ≤ d) && wdIs (wi1 l) (Cond.methodLink M.1.cls i arraycopyName)
    | 5 => decide (1 ≤ d) && wdIs (wi1 l) (Cond.methodLink M.1.cls i yJ9_floorMod_7cf53)
    | _ => false)
  | .ireturn => decide (n = 1) && (match c with | 0 => decide (M.2.2.2 = some .int) | 1 => decide (M.2.2.2 = some .boolean) | 2 => decide (M.2.2.2 = some .byte) | _ => decide (M.2.2.2 = some .char))
  | .lreturn => decide (n = 1) && decide (M.2.2.2 = some .long)
  | .return_ => decide (n = 1) && decide (M.2.2.2 = none)
  | _ => decide (n = 1)
def chk (M : MI) (d pc : Nat) (o : Op) : Bool :=
  decide (o.1 = .nop) || (match decode M.2.1 pc with | .ok (i, n) => decide (i = o.1) && chk2 M d pc n o.1 o.2.1 o.2.2.1 o.2.2.2.1 o.2.2.2.2 | .error _ => false)
def chkA (m : Nat) : Bool := (List.range (lnM m)).all (fun pc => chk (MT m) (rkM m) pc (TT m pc))
