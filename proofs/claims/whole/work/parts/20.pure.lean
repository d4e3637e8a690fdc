/-! ===== THE PURE MACHINE: one step ===== -/
def qup (f : Nat → qC) (a : Nat) (c : qC) : Nat → qC := fun j => if j = a then c else f j
/-- a field is read -/
def qget (h : qH) (a ci k : Nat) : Option Value :=
  if 16 ≤ a ∧ a < h.2.1 ∧ k < qnF ci then
    match h.1 a with
    | .inr (c, F) => if c = ci then some (F k) else none
    | .inl _ => none
  else none
def qfu (F : Nat → Value) (k : Nat) (v : Value) : Nat → Value := fun j => if j = k then v else F j
/-- a field is written -/
def qput (h : qH) (a ci k : Nat) (v : Value) : Option qH :=
  if 16 ≤ a ∧ a < h.2.1 ∧ k < qnF ci then
    match h.1 a with
    | .inr (c, F) => if c = ci then some (qup h.1 a (.inr (c, qfu F k v)), h.2) else none
    | .inl _ => none
  else none
def qout (i : Int32) (n : Nat) : Prop := i < 0 ∨ n ≤ i.toNatClampNeg
/-- ints, longs, references are read and written; address 0 is the script, which is only read -/
def qiald (h : qH) (a : Nat) (i : Int32) : Option Int32 :=
  if a = 0 ∨ (16 ≤ a ∧ a < h.2.1) then
    match h.1 a with
    | .inl (0, n, .inl f) => if i < 0 ∨ n ≤ i.toNatClampNeg then none else some (f i.toNatClampNeg)
    | _ => none
  else none
def qlald (h : qH) (a : Nat) (i : Int32) : Option Int64 :=
  if 16 ≤ a ∧ a < h.2.1 then
    match h.1 a with
    | .inl (1, n, .inr (.inl f)) => if i < 0 ∨ n ≤ i.toNatClampNeg then none else some (f i.toNatClampNeg)
    | _ => none
  else none
def qaald (h : qH) (a : Nat) (i : Int32) : Option (Option Nat) :=
  if 16 ≤ a ∧ a < h.2.1 then
    match h.1 a with
    | .inl (2, n, .inr (.inr f)) => if i < 0 ∨ n ≤ i.toNatClampNeg then none else some (f i.toNatClampNeg)
    | .inl (3, n, .inr (.inr f)) => if i < 0 ∨ n ≤ i.toNatClampNeg then none else some (f i.toNatClampNeg)
    | _ => none
  else none
/-- a reference is written: an object of number 8 into a row of these, a row of ints into a row of rows -/
def qaast (h : qH) (a : Nat) (i : Int32) (b : Nat) : Option qH :=
  if (16 ≤ a ∧ a < h.2.1) ∧ (16 ≤ b ∧ b < h.2.1) then
    match h.1 a, h.1 b with
    | .inl (2, n, .inr (.inr f)), .inr (8, _) => if i < 0 ∨ n ≤ i.toNatClampNeg then none else some (qup h.1 a (.inl (2, n, .inr (.inr (va_up f i.toNatClampNeg (some b))))), h.2)
    | .inl (3, n, .inr (.inr f)), .inl (0, _, .inl _) => if i < 0 ∨ n ≤ i.toNatClampNeg then none else some (qup h.1 a (.inl (3, n, .inr (.inr (va_up f i.toNatClampNeg (some b))))), h.2)
    | _, _ => none
  else none
/-- System.arraycopy of ints, of longs -/
def qcopy (h : qH) (a : Nat) (sp : Int32) (b : Nat) (dp n : Int32) : Option qH :=
  if ((16 ≤ a ∧ a < h.2.1) ∧ (16 ≤ b ∧ b < h.2.1)) ∧ ¬ sp < 0 ∧ ¬ dp < 0 ∧ ¬ n < 0 then
    match h.1 a, h.1 b with
    | .inl (0, n0, .inl f), .inl (0, n1, .inl g) => if sp.toNatClampNeg + n.toNatClampNeg ≤ n0 ∧ dp.toNatClampNeg + n.toNatClampNeg ≤ n1 then some (qup h.1 b (.inl (0, n1, .inl (va_cpy f g sp.toNatClampNeg dp.toNatClampNeg n.toNatClampNeg))), h.2) else none
    | .inl (1, n0, .inr (.inl f)), .inl (1, n1, .inr (.inl g)) => if sp.toNatClampNeg + n.toNatClampNeg ≤ n0 ∧ dp.toNatClampNeg + n.toNatClampNeg ≤ n1 then some (qup h.1 b (.inl (1, n1, .inr (.inl (va_cpy f g sp.toNatClampNeg dp.toNatClampNeg n.toNatClampNeg)))), h.2) else none
    | _, _ => none
  else none
/-- the row of ints at a, for its clone, for a cast -/
def qints (h : qH) (a : Nat) : Option (Nat × (Nat → Int32)) :=
  if 16 ≤ a ∧ a < h.2.1 then
    match h.1 a with
    | .inl (0, n, .inl f) => some (n, f)
    | _ => none
  else none
def qiast (h : qH) (a : Nat) (i x : Int32) : Option qH :=
  if 16 ≤ a ∧ a < h.2.1 then
    match h.1 a with
    | .inl (0, n, .inl f) => if i < 0 ∨ n ≤ i.toNatClampNeg then none else some (qup h.1 a (.inl (0, n, .inl (upd f i.toNatClampNeg x))), h.2)
    | _ => none
  else none
def qlast (h : qH) (a : Nat) (i : Int32) (x : Int64) : Option qH :=
  if 16 ≤ a ∧ a < h.2.1 then
    match h.1 a with
    | .inl (1, n, .inr (.inl f)) => if i < 0 ∨ n ≤ i.toNatClampNeg then none else some (qup h.1 a (.inl (1, n, .inr (.inl (vp_updL f i.toNatClampNeg x)))), h.2)
    | _ => none
  else none
def qalen (h : qH) (a : Nat) : Option Int32 :=
  if a = 0 ∨ (16 ≤ a ∧ a < h.2.1) then
    match h.1 a with
    | .inl (t, n, _) => if t ≤ 3 then some (Int32.ofNat n) else none
    | .inr _ => none
  else none
/-- a new cell -/
def qnew (h : qH) (c : qC) (k : Nat) : qH := (qup h.1 h.2.1 c, h.2.1 + 1, h.2.2 + k)
def qgL (L : qL) (i : Nat) : Option Value := (L[i]?).join
def qlong : Option Value → Bool
  | some v => v.category == 2
  | none => false
/-- a local is stored: a long takes the next place too, and a long that stood across goes -/
def qsL (v : Value) (i : Nat) : Nat → qL → qL
  | _, [] => []
  | j, x :: xs => (if j = i then some v else if j + 1 = i then (if qlong x then none else x) else if j = i + 1 then (if qlong (some v) then none else x) else x) :: qsL v i (j + 1) xs
def qcat (v : Value) : Nat := v.category
def qroom (st : List Value) : Bool := decide ((st.map fun v => v.category).sum ≤ 8)
/-- the places of the arguments at a method's entry -/
def qargs : List Value → qL
  | [] => []
  | v :: vs => if qlong (some v) then some v :: none :: qargs vs else some v :: qargs vs
def qinit (maxL : Nat) (vs : List Value) : Option qL := if (qargs vs).length ≤ maxL then some (qargs vs ++ List.replicate (maxL - (qargs vs).length) none) else none
def qtgt (pc : Nat) (off : Int) : Nat := ((pc : Int) + off).toNat
def qcnd (k : ClassFile.Cond) (x y : Int32) : Bool :=
  match k with
  | .eq => decide (x = y)
  | .ne => decide (¬ x = y)
  | .lt => decide (x < y)
  | .ge => decide (y ≤ x)
  | .gt => decide (y < x)
  | .le => decide (x ≤ y)
/-- does the value suit a field, a result: 0 int, 1 long, 2 a reference, 3 boolean -/
def qfit (t : Int) (v : Value) : Bool :=
  match v with
  | .int x => t == 0 || (t == 3 && (x == 0 || x == 1))
  | .long _ => t == 1
  | .null => t == 2
  | .ref _ => t == 2
  | _ => false
def qnx (pc : Nat) (L : qL) (st : List Value) (h : qH) : Option (qF ⊕ qRes) := some (.inl (pc, L, st, h))
def qld1 (v : Option Value) (t : Int) (pc : Nat) (L : qL) (st : List Value) (h : qH) : Option (qF ⊕ qRes) :=
  match v with
  | some x => if qfit t x then qnx pc L (x :: st) h else none
  | none => none
def qst1 (t : Int) (w i pc : Nat) (L : qL) (st : List Value) (h : qH) : Option (qF ⊕ qRes) :=
  match st with
  | v :: r => if qfit t v ∧ i + w < L.length then qnx pc (qsL v i 0 L) r h else none
  | [] => none
/-- the String constants: cube, cross, corner, round, of, claim, all, faces (addresses 1 to 8) -/
def qSB : List (List Int32) := [[99, 117, 98, 101], [99, 114, 111, 115, 115], [99, 111, 114, 110, 101, 114], [114, 111, 117, 110, 100], [111, 102], [99, 108, 97, 105, 109], [97, 108, 108], [102, 97, 99, 101, 115]]
def qSL : List Nat := [4, 5, 6, 5, 2, 5, 3, 5]
def qsln (a : Nat) : Nat := qSL.getD (a - 1) 0
def qsch (a k : Nat) : Int32 := (qSB.getD (a - 1) []).getD k 0
/-- one instruction -/
def qstep (call : Nat → List Value → qH → Option qRes) (rt : Int) (i : qI) (pc : Nat) (L : qL) (st : List Value) (h : qH) : Option (qF ⊕ qRes) :=
  match i with
  | (.iconst n, ln, _) => qnx (pc + ln) L (.int (Int32.ofInt n) :: st) h
  | (.bipush n, ln, _) => qnx (pc + ln) L (.int ((Int8.ofInt n).toInt32) :: st) h
  | (.sipush n, ln, _) => qnx (pc + ln) L (.int ((Int16.ofInt n).toInt32) :: st) h
  | (.lconst n, ln, _) => qnx (pc + ln) L (.long (Int64.ofNat n) :: st) h
  | (.ldc _, ln, a) => if a.getD 0 1 = 0 then qnx (pc + ln) L (.int (Int32.ofInt (a.getD 1 0)) :: st) h else qnx (pc + ln) L (.ref (qx a 1) :: st) h
  | (.ldc_w _, ln, a) => if a.getD 0 1 = 0 then qnx (pc + ln) L (.int (Int32.ofInt (a.getD 1 0)) :: st) h else none
  | (.ldc2_w _, ln, a) => qnx (pc + ln) L (.long (Int64.ofInt (a.getD 0 0)) :: st) h
  | (.aconst_null, ln, _) => qnx (pc + ln) L (.null :: st) h
  | (.iload k, ln, _) => qld1 (qgL L k) 0 (pc + ln) L st h
  | (.iload_n k, ln, _) => qld1 (qgL L k) 0 (pc + ln) L st h
  | (.lload k, ln, _) => qld1 (qgL L k) 1 (pc + ln) L st h
  | (.lload_n k, ln, _) => qld1 (qgL L k) 1 (pc + ln) L st h
  | (.aload k, ln, _) => qld1 (qgL L k) 2 (pc + ln) L st h
  | (.aload_n k, ln, _) => qld1 (qgL L k) 2 (pc + ln) L st h
  | (.istore k, ln, _) => qst1 0 0 k (pc + ln) L st h
  | (.istore_n k, ln, _) => qst1 0 0 k (pc + ln) L st h
  | (.lstore k, ln, _) => qst1 1 1 k (pc + ln) L st h
  | (.lstore_n k, ln, _) => qst1 1 1 k (pc + ln) L st h
  | (.astore k, ln, _) => qst1 2 0 k (pc + ln) L st h
  | (.astore_n k, ln, _) => qst1 2 0 k (pc + ln) L st h
  | (.iinc k n, ln, _) => match qgL L k with
    | some (.int x) => qnx (pc + ln) (qsL (.int (x + Int32.ofInt n)) k 0 L) st h
    | _ => none
  | (.iadd, ln, _) => match st with | .int y :: .int x :: r => qnx (pc + ln) L (.int (x + y) :: r) h | _ => none
  | (.isub, ln, _) => match st with | .int y :: .int x :: r => qnx (pc + ln) L (.int (x - y) :: r) h | _ => none
  | (.imul, ln, _) => match st with | .int y :: .int x :: r => qnx (pc + ln) L (.int (x * y) :: r) h | _ => none
  | (.iand, ln, _) => match st with | .int y :: .int x :: r => qnx (pc + ln) L (.int (x &&& y) :: r) h | _ => none
  | (.ior, ln, _) => match st with | .int y :: .int x :: r => qnx (pc + ln) L (.int (x ||| y) :: r) h | _ => none
  | (.ixor, ln, _) => match st with | .int y :: .int x :: r => qnx (pc + ln) L (.int (x ^^^ y) :: r) h | _ => none
  | (.ishl, ln, _) => match st with | .int y :: .int x :: r => qnx (pc + ln) L (.int (x <<< (y &&& 31)) :: r) h | _ => none
  | (.ishr, ln, _) => match st with | .int y :: .int x :: r => qnx (pc + ln) L (.int (x >>> (y &&& 31)) :: r) h | _ => none
  | (.iushr, ln, _) => match st with | .int y :: .int x :: r => qnx (pc + ln) L (.int ((x.toUInt32 >>> (y.toUInt32 &&& Int32.toUInt32 31)).toInt32) :: r) h | _ => none
  | (.idiv, ln, _) => match st with | .int y :: .int x :: r => if y = 0 then none else qnx (pc + ln) L (.int (x / y) :: r) h | _ => none
  | (.irem, ln, _) => match st with | .int y :: .int x :: r => if y = 0 then none else qnx (pc + ln) L (.int (x - x / y * y) :: r) h | _ => none
  | (.ineg, ln, _) => match st with | .int x :: r => qnx (pc + ln) L (.int (-x) :: r) h | _ => none
  | (.ladd, ln, _) => match st with | .long y :: .long x :: r => qnx (pc + ln) L (.long (x + y) :: r) h | _ => none
  | (.lsub, ln, _) => match st with | .long y :: .long x :: r => qnx (pc + ln) L (.long (x - y) :: r) h | _ => none
  | (.lmul, ln, _) => match st with | .long y :: .long x :: r => qnx (pc + ln) L (.long (x * y) :: r) h | _ => none
  | (.land, ln, _) => match st with | .long y :: .long x :: r => qnx (pc + ln) L (.long (x &&& y) :: r) h | _ => none
  | (.lor, ln, _) => match st with | .long y :: .long x :: r => qnx (pc + ln) L (.long (x ||| y) :: r) h | _ => none
  | (.lxor, ln, _) => match st with | .long y :: .long x :: r => qnx (pc + ln) L (.long (x ^^^ y) :: r) h | _ => none
  | (.lshl, ln, _) => match st with | .int y :: .long x :: r => qnx (pc + ln) L (.long (x <<< (y.toInt64 &&& 63)) :: r) h | _ => none
  | (.lshr, ln, _) => match st with | .int y :: .long x :: r => qnx (pc + ln) L (.long (x >>> (y.toInt64 &&& 63)) :: r) h | _ => none
  | (.ldiv, ln, _) => match st with | .long y :: .long x :: r => if y = 0 then none else qnx (pc + ln) L (.long (x / y) :: r) h | _ => none
  | (.lrem, ln, _) => match st with | .long y :: .long x :: r => if y = 0 then none else qnx (pc + ln) L (.long (x - x / y * y) :: r) h | _ => none
  | (.lneg, ln, _) => match st with | .long x :: r => qnx (pc + ln) L (.long (-x) :: r) h | _ => none
  | (.lcmp, ln, _) => match st with | .long y :: .long x :: r => qnx (pc + ln) L (.int (lg_cmp x y) :: r) h | _ => none
  | (.i2l, ln, _) => match st with | .int x :: r => qnx (pc + ln) L (.long x.toInt64 :: r) h | _ => none
  | (.l2i, ln, _) => match st with | .long x :: r => qnx (pc + ln) L (.int x.toInt32 :: r) h | _ => none
  | (.dup, ln, _) => match st with | v :: r => if v.category = 1 then qnx (pc + ln) L (v :: v :: r) h else none | _ => none
  | (.dup2, ln, _) => match st with | v :: w :: r => if v.category = 1 ∧ w.category = 1 then qnx (pc + ln) L (v :: w :: v :: w :: r) h else none | _ => none
  | (.pop, ln, _) => match st with | v :: r => if v.category = 1 then qnx (pc + ln) L r h else none | _ => none
  | (.goto off, _, _) => qnx (qtgt pc off) L st h
  | (.ifCond k off, ln, _) => match st with | .int x :: r => if qcnd k x 0 then qnx (qtgt pc off) L r h else qnx (pc + ln) L r h | _ => none
  | (.if_icmp k off, ln, _) => match st with | .int y :: .int x :: r => if qcnd k x y then qnx (qtgt pc off) L r h else qnx (pc + ln) L r h | _ => none
  | (.ifnull off, ln, _) => match st with | .null :: r => qnx (qtgt pc off) L r h | .ref _ :: r => qnx (pc + ln) L r h | _ => none
  | (.ifnonnull off, ln, _) => match st with | .ref _ :: r => qnx (qtgt pc off) L r h | .null :: r => qnx (pc + ln) L r h | _ => none
  | (.tableswitch d lo hi offs, _, _) => match st with
    | .int x :: r => if x.toInt < lo ∨ hi < x.toInt then qnx (qtgt pc d) L r h else match offs[(x.toInt - lo).toNat]? with
      | some off => qnx (qtgt pc off) L r h
      | none => none
    | _ => none
  | (.getfield _, ln, x) => match st with
    | .ref a :: r => match qget h a (qx x 0) (qx x 1) with
      | some v => qnx (pc + ln) L (v :: r) h
      | none => none
    | _ => none
  | (.putfield _, ln, x) => match st with
    | v :: .ref a :: r => if qfit (x.getD 2 9) v then match qput h a (qx x 0) (qx x 1) v with
      | some h1 => qnx (pc + ln) L r h1
      | none => none
      else none
    | _ => none
  | (.iaload, ln, _) => match st with
    | .int i :: .ref a :: r => match qiald h a i with
      | some v => qnx (pc + ln) L (.int v :: r) h
      | none => none
    | _ => none
  | (.laload, ln, _) => match st with
    | .int i :: .ref a :: r => match qlald h a i with
      | some v => qnx (pc + ln) L (.long v :: r) h
      | none => none
    | _ => none
  | (.aaload, ln, _) => match st with
    | .int i :: .ref a :: r => match qaald h a i with
      | some v => qnx (pc + ln) L (va_rf v :: r) h
      | none => none
    | _ => none
  | (.iastore, ln, _) => match st with
    | .int x :: .int i :: .ref a :: r => match qiast h a i x with
      | some h1 => qnx (pc + ln) L r h1
      | none => none
    | _ => none
  | (.lastore, ln, _) => match st with
    | .long x :: .int i :: .ref a :: r => match qlast h a i x with
      | some h1 => qnx (pc + ln) L r h1
      | none => none
    | _ => none
  | (.aastore, ln, _) => match st with
    | .ref b :: .int i :: .ref a :: r => match qaast h a i b with
      | some h1 => qnx (pc + ln) L r h1
      | none => none
    | _ => none
  | (.checkcast _, ln, _) => match st with
    | .ref a :: r => match qints h a with
      | some _ => qnx (pc + ln) L (.ref a :: r) h
      | none => none
    | _ => none
  | (.arraylength, ln, _) => match st with
    | .ref a :: r => match qalen h a with
      | some v => qnx (pc + ln) L (.int v :: r) h
      | none => none
    | _ => none
  | (.newarray .int, ln, _) => match st with
    | .int n :: r => if n < 0 ∨ 1000000 < n.toNatClampNeg then none else qnx (pc + ln) L (.ref h.2.1 :: r) (qnew h (.inl (0, n.toNatClampNeg, .inl (fun _ => 0))) n.toNatClampNeg)
    | _ => none
  | (.newarray .long, ln, _) => match st with
    | .int n :: r => if n < 0 ∨ 1000000 < n.toNatClampNeg then none else qnx (pc + ln) L (.ref h.2.1 :: r) (qnew h (.inl (1, n.toNatClampNeg, .inr (.inl (fun _ => 0)))) n.toNatClampNeg)
    | _ => none
  | (.anewarray _, ln, x) => match st with
    | .int n :: r => if n < 0 ∨ 1000000 < n.toNatClampNeg ∨ ¬ (qx x 0 = 2 ∨ qx x 0 = 3) then none else qnx (pc + ln) L (.ref h.2.1 :: r) (qnew h (.inl (qx x 0, n.toNatClampNeg, .inr (.inr (fun _ => none)))) n.toNatClampNeg)
    | _ => none
  | (.new _, ln, x) => qnx (pc + ln) L (.ref h.2.1 :: st) (qnew h (.inr (qx x 0, qdef (qx x 0))) (qnF (qx x 0)))
  | (.invokestatic _, ln, x) => if (x.getD 0 9 = 0 ∨ x.getD 0 9 = 3) ∧ qx x 2 ≤ st.length ∧ qroom (st.drop (qx x 2)) then
      match call (qx x 1) (st.take (qx x 2)).reverse h with
      | some (v, h1) => qnx (pc + ln) L (v.toList ++ st.drop (qx x 2)) h1
      | none => none
    else if x.getD 0 9 = 6 then
      match st with
      | .int n :: .int dp :: .ref b :: .int sp :: .ref a :: r => if qroom r then
          match qcopy h a sp b dp n with
          | some h1 => qnx (pc + ln) L r h1
          | none => none
        else none
      | _ => none
    else none
  | (.invokevirtual _, ln, x) => if x.getD 0 9 = 1 ∧ qx x 2 ≤ st.length then
      match st.drop (qx x 2) with
      | .ref b :: r => if qroom r ∧ 16 ≤ b ∧ b < h.2.1 then
          match h.1 b with
          | .inr (c, _) => if c = qx x 3 then
              match call (qx x 1) (.ref b :: (st.take (qx x 2)).reverse) h with
              | some (v, h1) => qnx (pc + ln) L (v.toList ++ r) h1
              | none => none
            else none
          | .inl _ => none
        else none
      | _ => none
    else if x.getD 0 9 = 7 then
      match st with
      | .ref a :: r => if qroom r then
          match qints h a with
          | some (n, f) => qnx (pc + ln) L (.ref h.2.1 :: r) (qnew h (.inl (0, n, .inl f)) n)
          | none => none
        else none
      | _ => none
    else if x.getD 0 9 = 8 then
      match st with
      | .ref a :: r => if qroom r ∧ 1 ≤ a ∧ a ≤ 8 then qnx (pc + ln) L (.int (Int32.ofNat (qsln a)) :: r) h else none
      | _ => none
    else if x.getD 0 10 = 9 then
      match st with
      | .int i :: .ref a :: r => if qroom r ∧ (1 ≤ a ∧ a ≤ 8) ∧ ¬ (i < 0 ∨ qsln a ≤ i.toNatClampNeg) then qnx (pc + ln) L (.int (qsch a i.toNatClampNeg) :: r) h else none
      | _ => none
    else none
  | (.invokespecial _, ln, x) => if qx x 2 ≤ st.length then
      match st.drop (qx x 2) with
      | .ref b :: r => if qroom r then
          if x.getD 0 9 = 5 then (if qx x 2 = 0 then qnx (pc + ln) L r h else none)
          else if x.getD 0 9 = 2 ∨ x.getD 0 9 = 4 then
            match call (qx x 1) (.ref b :: (st.take (qx x 2)).reverse) h with
            | some (none, h1) => qnx (pc + ln) L r h1
            | _ => none
          else none
        else none
      | _ => none
    else none
  | (.ireturn, _, _) => match st with | [.int v] => if qfit rt (.int v) then some (.inr (some (.int v), h)) else none | _ => none
  | (.lreturn, _, _) => match st with | [.long v] => if rt = 1 then some (.inr (some (.long v), h)) else none | _ => none
  | (.areturn, _, _) => match st with
    | [.ref v] => if rt = 2 then some (.inr (some (.ref v), h)) else none
    | [.null] => if rt = 2 then some (.inr (some .null, h)) else none
    | _ => none
  | (.return_, _, _) => match st with | [] => if rt = 4 then some (.inr (none, h)) else none | _ => none
  | _ => none
