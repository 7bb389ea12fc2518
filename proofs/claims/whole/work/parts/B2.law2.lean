/-! ===== the law: its cases and its loop ===== -/
def cP (k : Nat) : Nat := (lwC k).1
def cK (k : Nat) : List Nat := (lwC k).2.1
def cJ1 (k : Nat) : Nat := (lwC k).2.2.1
def cJ2 (k : Nat) : Nat := (lwC k).2.2.2.1
def cM1 (k : Nat) : Nat := (lwC k).2.2.2.2.1
def cM2 (k : Nat) : Nat := (lwC k).2.2.2.2.2.1
def cW1 (k : Nat) : Nat := (lwC k).2.2.2.2.2.2.1
def cW2 (k : Nat) : Nat := (lwC k).2.2.2.2.2.2.2.1
def cLg (k : Nat) : Bool := (lwC k).2.2.2.2.2.2.2.2
/-- what a call of the law asks of a method -/
def ckM (mq ci ix wi : Nat) (ks : List Nat) (lg : Bool) : Bool := isV mq && (wdIs wi (Cond.methodLink "SlatePlayLaw" ix (MT mq).1) && (decide (1 + akN ks ≤ mxL mq) && (decide (ks.length = (wdM mq).2.2.2.2) && (decide (rkM mq ≤ 100) && (decide (Rz ci = (MT mq).1.cls) && decide (decide ((MT mq).2.2.2 = some .long) = lg))))))
def ckE (q : Nat) (lg : Bool) : Bool := match lg with
  | true => dcd q .lcmp 1 && dcd (q + 1) (.ifCond .eq (2115 - ((q + 1 : Nat) : Int))) 3
  | false => dcd q (.if_icmp .eq (2115 - ((q : Nat) : Int))) 3
def ckC (k : Nat) : Bool := dcd (cP k) (.aload_n 1) 1 && (ckA (cP k + 1) (cK k) && (dcd (cP k + 1 + akS (cK k)) (.invokevirtual (cJ1 k)) 3 && (dcd (cP k + 1 + akS (cK k) + 3) (.aload_n 2) 1 && (ckA (cP k + 1 + akS (cK k) + 3 + 1) (cK k) && (dcd (cP k + 1 + akS (cK k) + 3 + 1 + akS (cK k)) (.invokevirtual (cJ2 k)) 3 && (ckE (cP k + 1 + akS (cK k) + 3 + 1 + akS (cK k) + 3) (cLg k) && (ckM (cM1 k) 5 (cJ1 k) (cW1 k) (cK k) (cLg k) && ckM (cM2 k) 6 (cJ2 k) (cW2 k) (cK k) (cLg k))))))))
