/-! a small machine over the tables: one frame at a time, calls as calls; heap cells by address -/
abbrev pwLL : Type := List (Option Value)
/-- next address, exceptions so far, cells used, slots used -/
abbrev pwG : Type := Nat × Nat × Nat × Nat
abbrev pwW : Type := Nat → va_E
abbrev pwR : Type := Option Value ⊕ Nat
abbrev pwO : Type := pwR × pwG × pwW
abbrev pwS : Type := Nat × pwLL × List Value × pwG × pwW
abbrev pwC : Type := (Nat × pwLL) × Nat × List Value
abbrev pwNX : Type := pwS ⊕ (pwO ⊕ pwC)
abbrev pwFF : Type := Nat → Nat → pwLL → List Value → pwG → pwW → Option pwO
def pwFnd (pc : Nat) : List pwE → Option (Instr × Nat × pwRP)
  | [] => none
  | e :: es => bif Nat.beq pc e.1 then some e.2 else pwFnd pc es
def pwFnC (pc : Nat) : List (Nat × List pwE) → Option (Instr × Nat × pwRP)
  | [] => none
  | c :: cs => bif Nat.blt pc c.1 then pwFnd pc c.2 else pwFnC pc cs
def pwCod (mi pc : Nat) : Option (Instr × Nat × pwRP) := (pwMeth mi).bind fun mt => pwFnC pc mt.2.2.2.2
-- the heap
def pwGet (w : pwW) (a ci k : Nat) : Option Value := match w a with
  | .inr (c, fs) => bif Nat.beq c ci then fs[k]? else none
  | .inl _ => none
def pwPut (w : pwW) (a ci k : Nat) (v : Value) : Option pwW := match w a with
  | .inr (c, fs) => bif Nat.beq c ci && Nat.blt k fs.length then some (va_up w a (.inr (c, fs.set k v))) else none
  | .inl _ => none
def pwIsC (w : pwW) (a ci : Nat) : Bool := match w a with
  | .inr (c, _) => Nat.beq c ci
  | .inl _ => false
def pwLen (w : pwW) (a : Nat) : Option Nat := match w a with
  | .inl (t, n, _) => bif Nat.ble t 4 then some n else none
  | .inr _ => none
def pwLd (w : pwW) (a : Nat) (i : Int32) : Option Int32 := match w a with
  | .inl (t, n, .inl f) => if (t = 0 ∨ t = 4) ∧ 0 ≤ i ∧ i.toNatClampNeg < n then some (f i.toNatClampNeg) else none
  | _ => none
def pwSt0 (w : pwW) (a : Nat) (i x : Int32) : Option pwW := match w a with
  | .inl (t, n, .inl f) => if t = 0 ∧ 0 ≤ i ∧ i.toNatClampNeg < n then some (va_up w a (.inl (t, n, .inl (upd f i.toNatClampNeg x)))) else none
  | _ => none
def pwLdZ (w : pwW) (a : Nat) (i : Int32) : Option Int32 := match w a with
  | .inl (t, n, .inl f) => if t = 2 ∧ 0 ≤ i ∧ i.toNatClampNeg < n then some (f i.toNatClampNeg) else none
  | _ => none
def pwStZ (w : pwW) (a : Nat) (i x : Int32) : Option pwW := match w a with
  | .inl (t, n, .inl f) => if (t = 2 ∧ (x = 0 ∨ x = 1)) ∧ 0 ≤ i ∧ i.toNatClampNeg < n then some (va_up w a (.inl (t, n, .inl (upd f i.toNatClampNeg x)))) else none
  | _ => none
def pwLdJ (w : pwW) (a : Nat) (i : Int32) : Option Int64 := match w a with
  | .inl (t, n, .inr (.inl f)) => if t = 1 ∧ 0 ≤ i ∧ i.toNatClampNeg < n then some (f i.toNatClampNeg) else none
  | _ => none
def pwStJ (w : pwW) (a : Nat) (i : Int32) (x : Int64) : Option pwW := match w a with
  | .inl (t, n, .inr (.inl f)) => if t = 1 ∧ 0 ≤ i ∧ i.toNatClampNeg < n then some (va_up w a (.inl (t, n, .inr (.inl (vp_updL f i.toNatClampNeg x))))) else none
  | _ => none
def pwLdQ (w : pwW) (a : Nat) (i : Int32) : Option Nat := match w a with
  | .inl (t, n, .inr (.inr (.inr (.inr f)))) => if t = 3 ∧ 0 ≤ i ∧ i.toNatClampNeg < n then f i.toNatClampNeg else none
  | _ => none
def pwStQ (w : pwW) (a : Nat) (i : Int32) (x : Nat) : Option pwW := match w a with
  | .inl (t, n, .inr (.inr (.inr (.inr f)))) => if (t = 3 ∧ pwIsC w x 4 = true) ∧ 0 ≤ i ∧ i.toNatClampNeg < n then some (va_up w a (.inl (t, n, .inr (.inr (.inr (.inr (va_up f i.toNatClampNeg (some x)))))))) else none
  | _ => none
def pwCpy (w : pwW) (a : Nat) (sp : Int32) (b : Nat) (dp n : Int32) : Option pwW := match w a, w b with
  | .inl (t, m, .inl f), .inl (t', m', .inl g) => if (t = 0 ∧ t' = 0) ∧ (0 ≤ sp ∧ 0 ≤ dp ∧ 0 ≤ n) ∧ sp.toNatClampNeg + n.toNatClampNeg ≤ m ∧ dp.toNatClampNeg + n.toNatClampNeg ≤ m' then some (va_up w b (.inl (t', m', .inl (va_cpy f g sp.toNatClampNeg dp.toNatClampNeg n.toNatClampNeg)))) else none
  | _, _ => none
-- locals
def pwNl : Option Value → Bool
  | some (.long _) => false
  | some (.double _) => false
  | _ => true
def pwFr (L : pwLL) (i : Nat) : Bool := match i with
  | 0 => true
  | j + 1 => pwNl (L.getD j none)
def pwSwt : List (Int32 × Nat) → Nat → Int32 → Nat
  | [], d, _ => d
  | q :: qs, d, x => if x = q.1 then q.2 else pwSwt qs d x
def pwMkl : List Value → pwLL
  | [] => []
  | .long x :: vs => some (.long x) :: none :: pwMkl vs
  | .double x :: vs => some (.double x) :: none :: pwMkl vs
  | v :: vs => some v :: pwMkl vs
def pwPad (n : Nat) (l : pwLL) : pwLL := l ++ List.replicate (n - l.length) none
def pwGo (pc : Nat) (L : pwLL) (st : List Value) (g : pwG) (w : pwW) : Option pwNX := some (.inl (pc, L, st, g, w))
def pwRet (v : Option Value) (g : pwG) (w : pwW) : Option pwNX := some (.inr (.inl (.inl v, g, w)))
def pwThr (e : Nat) (g : pwG) (w : pwW) : Option pwNX := some (.inr (.inl (.inr e, (g.1, g.2.1 + 1, g.2.2.1 + 1, g.2.2.2 + 6), w)))
def pwOkT (t : FieldType) (v : Value) : Bool := match t, v with
  | .int, .int _ => true
  | .boolean, .int x => x == 0 || x == 1
  | .long, .long _ => true
  | .object _, .ref _ => true
  | .array _, .ref _ => true
  | _, _ => false
def pwOkV (ci k : Nat) (v : Value) : Bool := match pwYs[ci]? with
  | some y => pwOkT (y k) v
  | none => false
def pwCats (st : List Value) : Nat := (st.map fun v => v.category).sum
def pwTag : ArrayType → Option (Nat × vp_A)
  | .int => some (0, 0, .inl (fun _ => 0))
  | .long => some (1, 0, .inr (.inl (fun _ => 0)))
  | .boolean => some (2, 0, .inl (fun _ => 0))
  | _ => none
/-- one instruction -/
def pwAct1 (x : Instr) (len : Nat) (r : pwRP) (mi pc : Nat) (L : pwLL) (st : List Value) (g : pwG) (w : pwW) : Option pwNX := match x with
  | .iconst n => pwGo (pc + len) L (.int (Int32.ofInt n) :: st) g w
  | .bipush n => pwGo (pc + len) L (.int (Int8.ofInt n).toInt32 :: st) g w
  | .sipush n => pwGo (pc + len) L (.int (Int16.ofInt n).toInt32 :: st) g w
  | .lconst n => pwGo (pc + len) L (.long (Int64.ofNat (n : Nat)) :: st) g w
  | .ldc _ => bif Nat.beq r.2.1 0 then pwGo (pc + len) L (.int (Int32.ofInt r.2.2.1) :: st) g w else none
  | .ldc_w _ => bif Nat.beq r.2.1 0 then pwGo (pc + len) L (.int (Int32.ofInt r.2.2.1) :: st) g w else none
  | .ldc2_w _ => pwGo (pc + len) L (.long (Int64.ofInt r.2.2.1) :: st) g w
  | .iload_n i => match L[(i : Nat)]? with
    | some (some (.int v)) => pwGo (pc + len) L (.int v :: st) g w
    | _ => none
  | .iload i => match L[i]? with
    | some (some (.int v)) => pwGo (pc + len) L (.int v :: st) g w
    | _ => none
  | .lload_n i => match L[(i : Nat)]? with
    | some (some (.long v)) => pwGo (pc + len) L (.long v :: st) g w
    | _ => none
  | .lload i => match L[i]? with
    | some (some (.long v)) => pwGo (pc + len) L (.long v :: st) g w
    | _ => none
  | .aload_n i => match L[(i : Nat)]? with
    | some (some (.ref v)) => pwGo (pc + len) L (.ref v :: st) g w
    | _ => none
  | .aload i => match L[i]? with
    | some (some (.ref v)) => pwGo (pc + len) L (.ref v :: st) g w
    | _ => none
  | .istore_n i => match st with
    | .int v :: st' => bif pwFr L i && Nat.blt i L.length then pwGo (pc + len) (L.set i (some (.int v))) st' g w else none
    | _ => none
  | .istore i => match st with
    | .int v :: st' => bif pwFr L i && Nat.blt i L.length then pwGo (pc + len) (L.set i (some (.int v))) st' g w else none
    | _ => none
  | .astore_n i => match st with
    | .ref v :: st' => bif pwFr L i && Nat.blt i L.length then pwGo (pc + len) (L.set i (some (.ref v))) st' g w else none
    | _ => none
  | .astore i => match st with
    | .ref v :: st' => bif pwFr L i && Nat.blt i L.length then pwGo (pc + len) (L.set i (some (.ref v))) st' g w else none
    | _ => none
  | .lstore_n i => match st with
    | .long v :: st' => bif pwFr L i && Nat.blt (i + 1) L.length then pwGo (pc + len) ((L.set i (some (.long v))).set (i + 1) none) st' g w else none
    | _ => none
  | .lstore i => match st with
    | .long v :: st' => bif pwFr L i && Nat.blt (i + 1) L.length then pwGo (pc + len) ((L.set i (some (.long v))).set (i + 1) none) st' g w else none
    | _ => none
  | .iinc i n => match L[i]? with
    | some (some (.int v)) => bif pwFr L i then pwGo (pc + len) (L.set i (some (.int (v + Int32.ofInt n)))) st g w else none
    | _ => none
  | .dup => match st with
    | .int v :: st' => pwGo (pc + len) L (.int v :: .int v :: st') g w
    | .ref v :: st' => pwGo (pc + len) L (.ref v :: .ref v :: st') g w
    | _ => none
  | .dup2 => match st with
    | .int v :: .ref u :: st' => pwGo (pc + len) L (.int v :: .ref u :: .int v :: .ref u :: st') g w
    | _ => none
  | .pop => match st with
    | .int _ :: st' => pwGo (pc + len) L st' g w
    | _ => none
  | .iadd => match st with
    | .int y :: .int x :: st' => pwGo (pc + len) L (.int (x + y) :: st') g w
    | _ => none
  | .isub => match st with
    | .int y :: .int x :: st' => pwGo (pc + len) L (.int (x - y) :: st') g w
    | _ => none
  | .imul => match st with
    | .int y :: .int x :: st' => pwGo (pc + len) L (.int (x * y) :: st') g w
    | _ => none
  | .idiv => match st with
    | .int y :: .int x :: st' => if y = 0 then none else pwGo (pc + len) L (.int (x / y) :: st') g w
    | _ => none
  | .irem => match st with
    | .int y :: .int x :: st' => if y = 0 then none else pwGo (pc + len) L (.int (x - x / y * y) :: st') g w
    | _ => none
  | .iand => match st with
    | .int y :: .int x :: st' => pwGo (pc + len) L (.int (x &&& y) :: st') g w
    | _ => none
  | .ior => match st with
    | .int y :: .int x :: st' => pwGo (pc + len) L (.int (x ||| y) :: st') g w
    | _ => none
  | .ishl => match st with
    | .int y :: .int x :: st' => pwGo (pc + len) L (.int (x <<< (y &&& 31)) :: st') g w
    | _ => none
  | .ishr => match st with
    | .int y :: .int x :: st' => pwGo (pc + len) L (.int (x >>> (y &&& 31)) :: st') g w
    | _ => none
  | .ladd => match st with
    | .long y :: .long x :: st' => pwGo (pc + len) L (.long (x + y) :: st') g w
    | _ => none
  | .lsub => match st with
    | .long y :: .long x :: st' => pwGo (pc + len) L (.long (x - y) :: st') g w
    | _ => none
  | .lmul => match st with
    | .long y :: .long x :: st' => pwGo (pc + len) L (.long (x * y) :: st') g w
    | _ => none
  | .ldiv => match st with
    | .long y :: .long x :: st' => if y = 0 then none else pwGo (pc + len) L (.long (x / y) :: st') g w
    | _ => none
  | .lrem => match st with
    | .long y :: .long x :: st' => if y = 0 then none else pwGo (pc + len) L (.long (x - x / y * y) :: st') g w
    | _ => none
  | .land => match st with
    | .long y :: .long x :: st' => pwGo (pc + len) L (.long (x &&& y) :: st') g w
    | _ => none
  | .lor => match st with
    | .long y :: .long x :: st' => pwGo (pc + len) L (.long (x ||| y) :: st') g w
    | _ => none
  | .lshl => match st with
    | .int y :: .long x :: st' => pwGo (pc + len) L (.long (x <<< (y.toInt64 &&& 63)) :: st') g w
    | _ => none
  | .lshr => match st with
    | .int y :: .long x :: st' => pwGo (pc + len) L (.long (x >>> (y.toInt64 &&& 63)) :: st') g w
    | _ => none
  | .lushr => match st with
    | .int y :: .long x :: st' => pwGo (pc + len) L (.long ((x.toUInt64 >>> (y.toInt64.toUInt64 &&& Int64.toUInt64 63)).toInt64) :: st') g w
    | _ => none
  | .lcmp => match st with
    | .long y :: .long x :: st' => pwGo (pc + len) L (.int (lg_cmp x y) :: st') g w
    | _ => none
  | .lneg => match st with
    | .long x :: st' => pwGo (pc + len) L (.long (-x) :: st') g w
    | _ => none
  | .i2l => match st with
    | .int x :: st' => pwGo (pc + len) L (.long x.toInt64 :: st') g w
    | _ => none
  | .l2i => match st with
    | .long x :: st' => pwGo (pc + len) L (.int x.toInt32 :: st') g w
    | _ => none
  | .goto _ => pwGo r.1 L st g w
  | .ifCond c _ => match st with
    | .int x :: st' => match c with
      | .eq => if x = 0 then pwGo r.1 L st' g w else pwGo (pc + len) L st' g w
      | .ne => if x = 0 then pwGo (pc + len) L st' g w else pwGo r.1 L st' g w
      | .lt => if x < 0 then pwGo r.1 L st' g w else pwGo (pc + len) L st' g w
      | .ge => if 0 ≤ x then pwGo r.1 L st' g w else pwGo (pc + len) L st' g w
      | .gt => if 0 < x then pwGo r.1 L st' g w else pwGo (pc + len) L st' g w
      | .le => if x ≤ 0 then pwGo r.1 L st' g w else pwGo (pc + len) L st' g w
    | _ => none
  | .if_icmp c _ => match st with
    | .int y :: .int x :: st' => match c with
      | .eq => if x = y then pwGo r.1 L st' g w else pwGo (pc + len) L st' g w
      | .ne => if x = y then pwGo (pc + len) L st' g w else pwGo r.1 L st' g w
      | .lt => if x < y then pwGo r.1 L st' g w else pwGo (pc + len) L st' g w
      | .ge => if y ≤ x then pwGo r.1 L st' g w else pwGo (pc + len) L st' g w
      | .gt => if y < x then pwGo r.1 L st' g w else pwGo (pc + len) L st' g w
      | .le => if x ≤ y then pwGo r.1 L st' g w else pwGo (pc + len) L st' g w
    | _ => none
  | .ifnull _ => match st with
    | .ref _ :: st' => pwGo (pc + len) L st' g w
    | _ => none
  | .ifnonnull _ => match st with
    | .ref _ :: st' => pwGo r.1 L st' g w
    | _ => none
  | .tableswitch _ _ _ _ => match st with
    | .int x :: st' => pwGo (pwSwt r.2.2.2 r.1 x) L st' g w
    | _ => none
  | .lookupswitch _ _ => match st with
    | .int x :: st' => pwGo (pwSwt r.2.2.2 r.1 x) L st' g w
    | _ => none
  | .getfield _ => match st with
    | .ref a :: st' => (pwGet w a r.1 r.2.1).bind fun v => pwGo (pc + len) L (v :: st') g w
    | _ => none
  | .putfield _ => match st with
    | v :: .ref a :: st' => bif pwOkV r.1 r.2.1 v then (pwPut w a r.1 r.2.1 v).bind fun w' => pwGo (pc + len) L st' g w' else none
    | _ => none
  | .iaload => match st with
    | .int i :: .ref a :: st' => (pwLd w a i).bind fun v => pwGo (pc + len) L (.int v :: st') g w
    | _ => none
  | .iastore => match st with
    | .int x :: .int i :: .ref a :: st' => (pwSt0 w a i x).bind fun w' => pwGo (pc + len) L st' g w'
    | _ => none
  | .baload => none
  | .bastore => none
  | .laload => none
  | .lastore => none
  | .aaload => match st with
    | .int i :: .ref a :: st' => (pwLdQ w a i).bind fun v => pwGo (pc + len) L (.ref v :: st') g w
    | _ => none
  | .aastore => match st with
    | .ref x :: .int i :: .ref a :: st' => (pwStQ w a i x).bind fun w' => pwGo (pc + len) L st' g w'
    | _ => none
  | .arraylength => match st with
    | .ref a :: st' => (pwLen w a).bind fun n => pwGo (pc + len) L (.int (Int32.ofNat n) :: st') g w
    | _ => none
  | .newarray t => match st with
    | .int n :: st' => (pwTag t).bind fun q => if (0 ≤ n ∧ n.toNatClampNeg ≤ 65536) ∧ g.2.1 = 0 then pwGo (pc + len) L (.ref g.1 :: st') (g.1 + 1, 0, g.2.2.1 + 1, g.2.2.2 + n.toNatClampNeg) (va_up w g.1 (.inl (q.1, n.toNatClampNeg, q.2.2))) else none
    | _ => none
  | .anewarray _ => match st with
    | .int n :: st' => if (0 ≤ n ∧ n.toNatClampNeg ≤ 65536) ∧ g.2.1 = 0 then pwGo (pc + len) L (.ref g.1 :: st') (g.1 + 1, 0, g.2.2.1 + 1, g.2.2.2 + n.toNatClampNeg) (va_up w g.1 (.inl (3, n.toNatClampNeg, .inr (.inr (.inr (.inr (fun _ => none))))))) else none
    | _ => none
  | .new _ => bif Nat.ble 100 r.1 then (bif Nat.beq (pwCats st) 0 then pwThr (r.1 - 100) g w else none) else (pwDef[r.1]?).bind fun fs => if g.2.1 = 0 then pwGo (pc + len) L (.ref g.1 :: st) (g.1 + 1, 0, g.2.2.1 + 1, g.2.2.2 + fs.length) (va_up w g.1 (.inr (r.1, fs))) else none
  | .invokevirtual _ => (pwMeth r.1).bind fun mt => match (st.take mt.2.1.2.2).reverse, st.drop mt.2.1.2.2 with
    | As, .ref b :: rest => bif pwIsC w b mt.2.2.1.2.2 && Nat.beq As.length mt.2.1.2.2 && Nat.ble (pwCats rest) 8 && Nat.ble (pwMkl As).length (mt.2.1.1 - 1) && Nat.blt 0 mt.2.1.1 then some (.inr (.inr ((r.1, pwPad mt.2.1.1 (some (.ref b) :: pwMkl As)), pc + len, rest))) else none
    | _, _ => none
  | .invokespecial _ => bif Nat.beq r.1 1000 then (match st with
      | .ref _ :: rest => bif Nat.ble (pwCats rest) 8 then pwGo (pc + len) L rest g w else none
      | _ => none)
    else (pwMeth r.1).bind fun mt => match (st.take mt.2.1.2.2).reverse, st.drop mt.2.1.2.2 with
    | As, .ref b :: rest => bif pwIsC w b mt.2.2.1.2.2 && Nat.beq As.length mt.2.1.2.2 && Nat.ble (pwCats rest) 8 && Nat.ble (pwMkl As).length (mt.2.1.1 - 1) && Nat.blt 0 mt.2.1.1 then some (.inr (.inr ((r.1, pwPad mt.2.1.1 (some (.ref b) :: pwMkl As)), pc + len, rest))) else none
    | _, _ => none
  | .invokestatic _ => bif Nat.beq r.1 1001 then (match st with
      | .int y :: .int x :: rest => bif Nat.ble (pwCats rest) 8 then pwGo (pc + len) L (.int (if y < x then y else x) :: rest) g w else none
      | _ => none)
    else bif Nat.beq r.1 1002 then (match st with
      | .int y :: .int x :: rest => bif Nat.ble (pwCats rest) 8 then pwGo (pc + len) L (.int (if x < y then y else x) :: rest) g w else none
      | _ => none)
    else bif Nat.beq r.1 1003 then (match st with
      | .int n :: .int dp :: .ref b :: .int sp :: .ref a :: rest => bif Nat.ble (pwCats rest) 8 then (pwCpy w a sp b dp n).bind fun w' => pwGo (pc + len) L rest g w' else none
      | _ => none)
    else (pwMeth r.1).bind fun mt => bif Nat.beq (st.take mt.2.1.2.2).length mt.2.1.2.2 && Nat.ble (pwCats (st.drop mt.2.1.2.2)) 8 && Nat.ble (pwMkl (st.take mt.2.1.2.2).reverse).length mt.2.1.1 then some (.inr (.inr ((r.1, pwPad mt.2.1.1 (pwMkl (st.take mt.2.1.2.2).reverse)), pc + len, st.drop mt.2.1.2.2))) else none
  | .ireturn => match st with
    | [.int v] => (pwMeth mi).bind fun mt => match mt.2.1.2.1 with
      | some .int => pwRet (some (.int v)) g w
      | some .boolean => bif v == 0 || v == 1 then pwRet (some (.int v)) g w else none
      | _ => none
    | _ => none
  | .lreturn => match st with
    | [.long v] => (pwMeth mi).bind fun mt => match mt.2.1.2.1 with
      | some .long => pwRet (some (.long v)) g w
      | _ => none
    | _ => none
  | .areturn => match st with
    | [.ref v] => (pwMeth mi).bind fun mt => match mt.2.1.2.1 with
      | some (.object _) => pwRet (some (.ref v)) g w
      | some (.array _) => pwRet (some (.ref v)) g w
      | _ => none
    | _ => none
  | .return_ => match st with
    | [] => (pwMeth mi).bind fun mt => match mt.2.1.2.1 with
      | none => pwRet none g w
      | _ => none
    | _ => none
  | _ => none
def pwSta (j : Nat) (so : Nat → Nat) : Nat := so j
/-- getstatic wants the addresses of the read-only rows; all else does not -/
def pwAct (so : Nat → Nat) (mi pc : Nat) (L : pwLL) (st : List Value) (g : pwG) (w : pwW) : Option pwNX := (pwCod mi pc).bind fun e => match e.1 with
  | .getstatic _ => pwGo (pc + e.2.1) L (.ref (so e.2.2.1) :: st) g w
  | x => pwAct1 x e.2.1 e.2.2 mi pc L st g w
/-- the handler of a wrapper: by class of exception; the local that takes the exception, and where it goes on -/
def pwHnd (mi pc e : Nat) : Option (Nat × Nat) := (pwMeth mi).bind fun mt => (mt.2.2.2.1.find? fun h => Nat.ble h.1 pc && Nat.blt pc h.2.1 && Nat.beq e (match h.2.2.2 with
    | 15 => 0
    | 19 => 1
    | _ => 2)).bind fun h => (pwCod mi h.2.2.1).bind fun q => match q.1 with
  | .astore_n i => some (h.2.2.1 + q.2.1, i)
  | .astore i => some (h.2.2.1 + q.2.1, i)
  | _ => none
def pwPsh (v : Option Value) (rest : List Value) : List Value := match v with
  | none => rest
  | some v => v :: rest
def pwNoH (mi : Nat) : Bool := match pwMeth mi with
  | some mt => mt.2.2.2.1.isEmpty
  | none => false
/-- behind a call -/
def pwAft (k : pwFF) (mi pc : Nat) (L : pwLL) (c : pwC) : Option pwO → Option pwO
  | none => none
  | some (.inl v, g', w') => k mi c.2.1 L (pwPsh v c.2.2) g' w'
  | some (.inr e, g', w') => match pwHnd mi pc e with
    | none => bif pwNoH mi then some (.inr e, g', w') else none
    | some q => bif pwFr L q.2 && Nat.blt q.2 L.length then k mi q.1 (L.set q.2 none) [] g' w' else none
def pwWrp (k : pwFF) (mi pc : Nat) (L : pwLL) (g : pwG) (w : pwW) : Option pwNX → Option pwO
  | none => none
  | some (.inl s) => k mi s.1 s.2.1 s.2.2.1 s.2.2.2.1 s.2.2.2.2
  | some (.inr (.inl o)) => some o
  | some (.inr (.inr c)) => pwAft k mi pc L c (k c.1.1 0 c.1.2 [] g w)
def pwRun (so : Nat → Nat) : Nat → pwFF
  | 0 => fun _ _ _ _ _ _ => none
  | n + 1 => fun mi pc L st g w => pwWrp (pwRun so n) mi pc L g w (pwAct so mi pc L st g w)
noncomputable def pwX (so : Nat → Nat) (mi pc : Nat) (L : pwLL) (st : List Value) (g : pwG) (w : pwW) : Option pwO :=
  @dite (Option pwO) (∃ o, ∃ n, pwRun so n mi pc L st g w = some o) (Classical.propDecidable _) (fun h => some (Classical.choose h)) (fun _ => none)
theorem pwAft_mono {k k' : pwFF} (hk : ∀ mi pc L st g w o, k mi pc L st g w = some o → k' mi pc L st g w = some o) {mi pc : Nat} {L : pwLL} {c : pwC} {r : Option pwO} {o : pwO} (h : pwAft k mi pc L c r = some o) : pwAft k' mi pc L c r = some o := by
  match r with
  | none => cases h
  | some (.inl v, g', w') => exact hk _ _ _ _ _ _ _ h
  | some (.inr e, g', w') =>
    simp only [pwAft] at h ⊢
    cases hh : pwHnd mi pc e with
    | none => rw [hh] at h; exact h
    | some q =>
      rw [hh] at h
      cases hb : (pwFr L q.2 && Nat.blt q.2 L.length) with
      | false => simp only [hb, cond_false] at h; cases h
      | true => simp only [hb, cond_true] at h ⊢; exact hk _ _ _ _ _ _ _ h
theorem pwWrp_mono {k k' : pwFF} (hk : ∀ mi pc L st g w o, k mi pc L st g w = some o → k' mi pc L st g w = some o) {mi pc : Nat} {L : pwLL} {g : pwG} {w : pwW} {a : Option pwNX} {o : pwO} (h : pwWrp k mi pc L g w a = some o) : pwWrp k' mi pc L g w a = some o := by
  match a with
  | none => cases h
  | some (.inl s) => exact hk _ _ _ _ _ _ _ h
  | some (.inr (.inl o)) => exact h
  | some (.inr (.inr c)) =>
    have h : pwAft k mi pc L c (k c.1.1 0 c.1.2 [] g w) = some o := h
    show pwAft k' mi pc L c (k' c.1.1 0 c.1.2 [] g w) = some o
    cases hc : k c.1.1 0 c.1.2 [] g w with
    | none => rw [hc] at h; cases h
    | some r => rw [hk _ _ _ _ _ _ _ hc]; rw [hc] at h; exact pwAft_mono hk h
theorem pwRun_succ (so : Nat → Nat) : ∀ (n mi pc : Nat) (L : pwLL) (st : List Value) (g : pwG) (w : pwW) (o : pwO), pwRun so n mi pc L st g w = some o → pwRun so (n + 1) mi pc L st g w = some o
  | 0, _, _, _, _, _, _, _, h => by cases h
  | n + 1, _, _, _, _, _, _, _, h => pwWrp_mono (fun mi pc L st g w o h => pwRun_succ so n mi pc L st g w o h) h
theorem pwRun_le (so : Nat → Nat) {n m : Nat} (h : n ≤ m) {mi pc : Nat} {L : pwLL} {st : List Value} {g : pwG} {w : pwW} {o : pwO} (hr : pwRun so n mi pc L st g w = some o) : pwRun so m mi pc L st g w = some o := by
  induction h with
  | refl => exact hr
  | step _ ih => exact pwRun_succ so _ _ _ _ _ _ _ _ ih
theorem pwX_run {so : Nat → Nat} {mi pc : Nat} {L : pwLL} {st : List Value} {g : pwG} {w : pwW} {o : pwO} (h : pwX so mi pc L st g w = some o) : ∃ n, pwRun so n mi pc L st g w = some o := by
  unfold pwX at h
  by_cases hx : ∃ o, ∃ n, pwRun so n mi pc L st g w = some o
  · rw [dif_pos hx] at h
    have := Classical.choose_spec hx
    rw [Option.some.inj h] at this
    exact this
  · rw [dif_neg hx] at h
    cases h
theorem pwX_of {so : Nat → Nat} {mi pc : Nat} {L : pwLL} {st : List Value} {g : pwG} {w : pwW} {o : pwO} {n : Nat} (h : pwRun so n mi pc L st g w = some o) : pwX so mi pc L st g w = some o := by
  have hx : ∃ o, ∃ n, pwRun so n mi pc L st g w = some o := ⟨o, n, h⟩
  unfold pwX
  rw [dif_pos hx]
  obtain ⟨m, hm⟩ := Classical.choose_spec hx
  have a := pwRun_le so (Nat.le_max_left n m) h
  have b := pwRun_le so (Nat.le_max_right n m) hm
  exact b.symm.trans a
theorem pwAft_cont {so : Nat → Nat} {mi pc : Nat} {L : pwLL} {c : pwC} {r : Option pwO} {o : pwO} (h : pwAft (pwX so) mi pc L c r = some o) : ∃ n, pwAft (pwRun so n) mi pc L c r = some o := by
  match r with
  | none => cases h
  | some (.inl v, g', w') => exact pwX_run h
  | some (.inr e, g', w') =>
    simp only [pwAft] at h ⊢
    cases hh : pwHnd mi pc e with
    | none => rw [hh] at h; exact ⟨0, h⟩
    | some q =>
      rw [hh] at h
      cases hb : (pwFr L q.2 && Nat.blt q.2 L.length) with
      | false => simp only [hb, cond_false] at h; cases h
      | true =>
        simp only [hb, cond_true] at h ⊢
        exact pwX_run h
theorem pwWrp_cont {so : Nat → Nat} {mi pc : Nat} {L : pwLL} {g : pwG} {w : pwW} {a : Option pwNX} {o : pwO} (h : pwWrp (pwX so) mi pc L g w a = some o) : ∃ n, pwWrp (pwRun so n) mi pc L g w a = some o := by
  match a with
  | none => cases h
  | some (.inl s) => exact pwX_run h
  | some (.inr (.inl o)) => exact ⟨0, h⟩
  | some (.inr (.inr c)) =>
    have h : pwAft (pwX so) mi pc L c (pwX so c.1.1 0 c.1.2 [] g w) = some o := h
    cases hc : pwX so c.1.1 0 c.1.2 [] g w with
    | none => rw [hc] at h; cases h
    | some r =>
      rw [hc] at h
      obtain ⟨n1, h1⟩ := pwX_run hc
      obtain ⟨n2, h2⟩ := pwAft_cont h
      refine ⟨max n1 n2, ?_⟩
      show pwAft _ mi pc L c (pwRun so (max n1 n2) c.1.1 0 c.1.2 [] g w) = some o
      rw [pwRun_le so (Nat.le_max_left n1 n2) h1]
      exact pwAft_mono (fun mi pc L st g w o h => pwRun_le so (Nat.le_max_right n1 n2) h) h2
/-- the machine's equation -/
theorem pwX_eq (so : Nat → Nat) (mi pc : Nat) (L : pwLL) (st : List Value) (g : pwG) (w : pwW) : pwX so mi pc L st g w = pwWrp (pwX so) mi pc L g w (pwAct so mi pc L st g w) := by
  cases h : pwWrp (pwX so) mi pc L g w (pwAct so mi pc L st g w) with
  | some o =>
    obtain ⟨n, hn⟩ := pwWrp_cont h
    exact pwX_of (n := n + 1) hn
  | none =>
    cases h2 : pwX so mi pc L st g w with
    | none => rfl
    | some o =>
      obtain ⟨n, hn⟩ := pwX_run h2
      cases n with
      | zero => cases hn
      | succ n =>
        have h3 : pwWrp (pwX so) mi pc L g w (pwAct so mi pc L st g w) = some o := pwWrp_mono (fun mi pc L st g w o h => pwX_of h) hn
        rw [h] at h3
        cases h3
