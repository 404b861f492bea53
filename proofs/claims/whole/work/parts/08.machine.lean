/-! a small machine over lists: the methods' code, linked, over a heap of cells by number (0 the script, the others in the order in which they are made) -/
abbrev AE : Type := (Nat × List Value) ⊕ ((Bool × List Int32) ⊕ (List Int64 ⊕ (Nat × List (Option Nat))))
abbrev Hp : Type := Nat → Option AE
abbrev Zc : Type := Nat × Nat
abbrev Fm : Type := Nat × List (Option Value) × List Value × Zc × Hp
abbrev Rs : Type := Option Value × Zc × Hp
abbrev Xr : Type := Option (Fm ⊕ (Rs ⊕ (Nat × List Value × Fm)))
def hput (h : Hp) (a : Nat) (e : AE) : Hp := fun j => if j = a then some e else h j
-- locals
def lg : Nat → List (Option Value) → Option Value
  | _, [] => none
  | 0, v :: _ => v
  | n + 1, _ :: t => lg n t
def lp : Nat → Option Value → List (Option Value) → List (Option Value)
  | _, _, [] => []
  | 0, v, _ :: t => v :: t
  | n + 1, v, x :: t => x :: lp n v t
def lkill : List Nat → List (Option Value) → List (Option Value)
  | [], l => l
  | k :: ks, l => lkill ks (lp k none l)
def wide : Option Value → Bool
  | some (.long _) => true
  | some (.double _) => true
  | _ => false
/-- the slot ahead of i holds no long -/
def lfree : Nat → List (Option Value) → Bool
  | 0, _ => true
  | j + 1, l => !wide (lg j l)
def lst1 (i : Nat) (v : Value) (ks : List Nat) (l : List (Option Value)) : Option (List (Option Value)) :=
  if (Nat.blt i l.length && lfree i (lkill ks l)) = true then some (lp i (some v) (lkill ks l)) else none
def lst2 (i : Nat) (v : Value) (ks : List Nat) (l : List (Option Value)) : Option (List (Option Value)) :=
  if (Nat.blt (i + 1) l.length && lfree i (lkill ks l)) = true then some (lp i (some v) (lp (i + 1) none (lkill ks l))) else none
-- the heap
def ck (h : Hp) (a ci : Nat) : Bool := match h a with
  | some (.inl (c, _)) => Nat.beq c ci
  | _ => false
def gf (h : Hp) (a ci k : Nat) : Option Value := match h a with
  | some (.inl (c, fs)) => if Nat.beq c ci = true then fs[k]? else none
  | _ => none
/-- a value that a field of that kind can hold: 0 int, 1 boolean, 2 long, 3 a reference -/
def vfit : Nat → Value → Bool
  | 0, .int _ => true
  | 1, .int x => x == 0 || x == 1
  | 2, .long _ => true
  | 3, .null => true
  | 3, .ref _ => true
  | _, _ => false
def pf (h : Hp) (a ci k t : Nat) (v : Value) : Option Hp := match h a with
  | some (.inl (c, fs)) => if (Nat.beq c ci && (Nat.blt k fs.length && vfit t v)) = true then some (hput h a (.inl (ci, fs.set k v))) else none
  | _ => none
def aget {α : Type} (l : List α) (i : Int32) : Option α := if i < 0 then none else l[i.toNatClampNeg]?
def aset {α : Type} (l : List α) (i : Int32) (x : α) : Option (List α) := if i < 0 then none else if i.toNatClampNeg < l.length then some (l.set i.toNatClampNeg x) else none
def iget (h : Hp) (a : Nat) (i : Int32) : Option Int32 := match h a with
  | some (.inr (.inl (z, l))) => if z = true then none else aget l i
  | _ => none
def zget (h : Hp) (a : Nat) (i : Int32) : Option Int32 := match a, h a with
  | _ + 1, some (.inr (.inl (z, l))) => if z = true then aget l i else none
  | _, _ => none
def jget (h : Hp) (a : Nat) (i : Int32) : Option Int64 := match a, h a with
  | _ + 1, some (.inr (.inr (.inl l))) => aget l i
  | _, _ => none
def rget (h : Hp) (a : Nat) (i : Int32) : Option Nat := match a, h a with
  | _ + 1, some (.inr (.inr (.inr (_, l)))) => match aget l i with
    | some (some r) => some r
    | _ => none
  | _, _ => none
def iset (h : Hp) (a : Nat) (i x : Int32) : Option Hp := match a, h a with
  | _ + 1, some (.inr (.inl (z, l))) => if z = true then none else (aset l i x).map (fun l' => hput h a (.inr (.inl (false, l'))))
  | _, _ => none
def zset (h : Hp) (a : Nat) (i x : Int32) : Option Hp := match a, h a with
  | _ + 1, some (.inr (.inl (z, l))) => if (z && (x == 0 || x == 1)) = true then (aset l i x).map (fun l' => hput h a (.inr (.inl (true, l')))) else none
  | _, _ => none
def jset (h : Hp) (a : Nat) (i : Int32) (x : Int64) : Option Hp := match a, h a with
  | _ + 1, some (.inr (.inr (.inl l))) => (aset l i x).map (fun l' => hput h a (.inr (.inr (.inl l'))))
  | _, _ => none
/-- a Wall into an array of Walls -/
def rset (h : Hp) (a : Nat) (i : Int32) (x : Nat) : Option Hp := match a, h a with
  | _ + 1, some (.inr (.inr (.inr (w, l)))) => if (Nat.beq w 0 && ck h x 4) = true then (aset l i (some x)).map (fun l' => hput h a (.inr (.inr (.inr (0, l'))))) else none
  | _, _ => none
def alen (h : Hp) (a : Nat) : Option Int32 := match h a with
  | some (.inr (.inl (_, l))) => some (Int32.ofNat l.length)
  | some (.inr (.inr (.inl l))) => some (Int32.ofNat l.length)
  | some (.inr (.inr (.inr (_, l)))) => some (Int32.ofNat l.length)
  | _ => none
/-- n of xs from place sp on, into ys from dp on -/
def cpy {α : Type} (xs ys : List α) (sp dp n : Nat) : List α := ys.take dp ++ ((xs.drop sp).take n ++ ys.drop (dp + n))
def acpy {α : Type} (xs ys : List α) (sp dp n : Int32) : Option (List α) :=
  if sp < 0 then none else if dp < 0 then none else if n < 0 then none else
  if sp.toNatClampNeg + n.toNatClampNeg ≤ xs.length then (if dp.toNatClampNeg + n.toNatClampNeg ≤ ys.length then some (cpy xs ys sp.toNatClampNeg dp.toNatClampNeg n.toNatClampNeg) else none) else none
def hcpy (h : Hp) (a0 : Nat) (sp : Int32) (a : Nat) (dp n : Int32) : Option Hp := match a0, a with
  | _ + 1, _ + 1 => match h a0, h a with
    | some (.inr (.inl (z0, xs))), some (.inr (.inl (z1, ys))) => if (!z0 && !z1) = true then (acpy xs ys sp dp n).map (fun l => hput h a (.inr (.inl (false, l)))) else none
    | some (.inr (.inr (.inl xs))), some (.inr (.inr (.inl ys))) => (acpy xs ys sp dp n).map (fun l => hput h a (.inr (.inr (.inl l))))
    | _, _ => none
  | _, _ => none
def dflt (d : String) : Value := if d = "I" then .int 0 else if d = "Z" then .int 0 else if d = "J" then .long 0 else .null
def blankE (ci : Nat) : AE := .inl (ci, (cfl ci).map (fun q => dflt q.2.1))
def newE (t : ArrayType) (n : Nat) : Option AE := match t with
  | .int => some (.inr (.inl (false, List.replicate n 0)))
  | .boolean => some (.inr (.inl (true, List.replicate n 0)))
  | .long => some (.inr (.inr (.inl (List.replicate n 0))))
  | _ => none
-- one instruction
def cat (v : Value) : Nat := v.category
def stW (st : List Value) : Nat := (st.map fun v => v.category).sum
def nx (pc : Nat) (L : List (Option Value)) (st : List Value) (z : Zc) (h : Hp) : Xr := some (.inl (pc, L, st, z, h))
def cmpI (c : ClassFile.Cond) (x y : Int32) : Bool := match c with
  | .eq => decide (x = y)
  | .ne => decide (¬ x = y)
  | .lt => decide (x < y)
  | .ge => decide (y ≤ x)
  | .gt => decide (y < x)
  | .le => decide (x ≤ y)
def swt (lo hi : Int) (ts : List Nat) (x : Int32) : Option Nat := if x.toInt < lo then ts[0]? else if hi < x.toInt then ts[0]? else ts[(x.toInt - lo).toNat + 1]?
def exLocals (mi pc : Nat) (li : LI) (L : List (Option Value)) (st : List Value) (z : Zc) (h : Hp) : Xr := match li.1, st with
  | .iload i, st => match lg i L with
    | some (.int x) => nx (pc + 2) L (.int x :: st) z h
    | _ => none
  | .iload_n i, st => match lg i L with
    | some (.int x) => nx (pc + 1) L (.int x :: st) z h
    | _ => none
  | .lload i, st => match lg i L with
    | some (.long x) => nx (pc + 2) L (.long x :: st) z h
    | _ => none
  | .lload_n i, st => match lg i L with
    | some (.long x) => nx (pc + 1) L (.long x :: st) z h
    | _ => none
  | .aload i, st => match lg i L with
    | some (.ref x) => nx (pc + 2) L (.ref x :: st) z h
    | _ => none
  | .aload_n i, st => match lg i L with
    | some (.ref x) => nx (pc + 1) L (.ref x :: st) z h
    | _ => none
  | .istore i, .int x :: st => match lst1 i (.int x) li.2.2.2.2.2 L with
    | some L' => nx (pc + 2) L' st z h
    | none => none
  | .istore_n i, .int x :: st => match lst1 i (.int x) li.2.2.2.2.2 L with
    | some L' => nx (pc + 1) L' st z h
    | none => none
  | .lstore i, .long x :: st => match lst2 i (.long x) li.2.2.2.2.2 L with
    | some L' => nx (pc + 2) L' st z h
    | none => none
  | .lstore_n i, .long x :: st => match lst2 i (.long x) li.2.2.2.2.2 L with
    | some L' => nx (pc + 1) L' st z h
    | none => none
  | .astore i, .ref x :: st => match lst1 i (.ref x) li.2.2.2.2.2 L with
    | some L' => nx (pc + 2) L' st z h
    | none => none
  | .astore_n i, .ref x :: st => match lst1 i (.ref x) li.2.2.2.2.2 L with
    | some L' => nx (pc + 1) L' st z h
    | none => none
  | .iinc i n, st => match lg i L with
    | some (.int x) => match lst1 i (.int (x + Int32.ofInt n)) li.2.2.2.2.2 L with
      | some L' => nx (pc + 3) L' st z h
      | none => none
    | _ => none
  | _, _ => none
def exArith (mi pc : Nat) (li : LI) (L : List (Option Value)) (st : List Value) (z : Zc) (h : Hp) : Xr := match li.1, st with
  | .iconst n, st => nx (pc + 1) L (.int (Int32.ofInt n) :: st) z h
  | .bipush n, st => nx (pc + 2) L (.int ((Int8.ofInt n).toInt32) :: st) z h
  | .sipush n, st => nx (pc + 3) L (.int ((Int16.ofInt n).toInt32) :: st) z h
  | .lconst n, st => nx (pc + 1) L (.long (Int64.ofNat (n : Nat)) :: st) z h
  | .ldc2_w _, st => nx (pc + 3) L (.long (Int64.ofInt li.2.2.2.2.1) :: st) z h
  | .iadd, .int y :: .int x :: st => nx (pc + 1) L (.int (x + y) :: st) z h
  | .isub, .int y :: .int x :: st => nx (pc + 1) L (.int (x - y) :: st) z h
  | .imul, .int y :: .int x :: st => nx (pc + 1) L (.int (x * y) :: st) z h
  | .idiv, .int y :: .int x :: st => if y = 0 then none else nx (pc + 1) L (.int (x / y) :: st) z h
  | .irem, .int y :: .int x :: st => if y = 0 then none else nx (pc + 1) L (.int (x - x / y * y) :: st) z h
  | .iand, .int y :: .int x :: st => nx (pc + 1) L (.int (x &&& y) :: st) z h
  | .ior, .int y :: .int x :: st => nx (pc + 1) L (.int (x ||| y) :: st) z h
  | .ishl, .int y :: .int x :: st => nx (pc + 1) L (.int (x <<< (y &&& 31)) :: st) z h
  | .ishr, .int y :: .int x :: st => nx (pc + 1) L (.int (x >>> (y &&& 31)) :: st) z h
  | .ladd, .long y :: .long x :: st => nx (pc + 1) L (.long (x + y) :: st) z h
  | .lsub, .long y :: .long x :: st => nx (pc + 1) L (.long (x - y) :: st) z h
  | .lmul, .long y :: .long x :: st => nx (pc + 1) L (.long (x * y) :: st) z h
  | .ldiv, .long y :: .long x :: st => if y = 0 then none else nx (pc + 1) L (.long (x / y) :: st) z h
  | .lrem, .long y :: .long x :: st => if y = 0 then none else nx (pc + 1) L (.long (x - x / y * y) :: st) z h
  | .land, .long y :: .long x :: st => nx (pc + 1) L (.long (x &&& y) :: st) z h
  | .lor, .long y :: .long x :: st => nx (pc + 1) L (.long (x ||| y) :: st) z h
  | .lshl, .int y :: .long x :: st => nx (pc + 1) L (.long (x <<< (y.toInt64 &&& 63)) :: st) z h
  | .lshr, .int y :: .long x :: st => nx (pc + 1) L (.long (x >>> (y.toInt64 &&& 63)) :: st) z h
  | .lushr, .int y :: .long x :: st => nx (pc + 1) L (.long ((x.toUInt64 >>> (y.toInt64.toUInt64 &&& Int64.toUInt64 63)).toInt64) :: st) z h
  | .i2l, .int x :: st => nx (pc + 1) L (.long x.toInt64 :: st) z h
  | .l2i, .long x :: st => nx (pc + 1) L (.int x.toInt32 :: st) z h
  | .lcmp, .long y :: .long x :: st => nx (pc + 1) L (.int (lg_cmp x y) :: st) z h
  | .dup, v :: st => match v with
    | .int x => nx (pc + 1) L (.int x :: .int x :: st) z h
    | .ref x => nx (pc + 1) L (.ref x :: .ref x :: st) z h
    | _ => none
  | .dup2, v :: st => match v, st with
    | .long x, st => nx (pc + 1) L (.long x :: .long x :: st) z h
    | .int x, .ref y :: st => nx (pc + 1) L (.int x :: .ref y :: .int x :: .ref y :: st) z h
    | .int x, .int y :: st => nx (pc + 1) L (.int x :: .int y :: .int x :: .int y :: st) z h
    | _, _ => none
  | .pop, v :: st => match v with
    | .int _ => nx (pc + 1) L st z h
    | .ref _ => nx (pc + 1) L st z h
    | _ => none
  | _, _ => none
def exBranch (mi pc : Nat) (li : LI) (L : List (Option Value)) (st : List Value) (z : Zc) (h : Hp) : Xr := match li.1, st with
  | .goto _, st => nx li.2.2.1 L st z h
  | .ifCond c _, .int x :: st => if cmpI c x 0 = true then nx li.2.2.1 L st z h else nx (pc + 3) L st z h
  | .if_icmp c _, .int y :: .int x :: st => if cmpI c x y = true then nx li.2.2.1 L st z h else nx (pc + 3) L st z h
  | .ifnull _, v :: st => match v with
    | .ref _ => nx (pc + 3) L st z h
    | .null => nx li.2.2.1 L st z h
    | _ => none
  | .tableswitch _ lo hi _, .int x :: st => match swt lo hi li.2.2.2.2.2 x with
    | some t => nx t L st z h
    | none => none
  | _, _ => none
def exHeap (mi pc : Nat) (li : LI) (L : List (Option Value)) (st : List Value) (z : Zc) (h : Hp) : Xr := match li.1, st with
  | .getfield _, .ref a :: st => match gf h a li.2.2.1 li.2.2.2.1 with
    | some v => nx (pc + 3) L (v :: st) z h
    | none => none
  | .putfield _, v :: .ref a :: st => match pf h a li.2.2.1 li.2.2.2.1 li.2.2.2.2.1.toNat v with
    | some h' => nx (pc + 3) L st z h'
    | none => none
  | .iaload, .int i :: .ref a :: st => match iget h a i with
    | some x => nx (pc + 1) L (.int x :: st) z h
    | none => none
  | .baload, .int i :: .ref a :: st => match zget h a i with
    | some x => nx (pc + 1) L (.int x :: st) z h
    | none => none
  | .laload, .int i :: .ref a :: st => match jget h a i with
    | some x => nx (pc + 1) L (.long x :: st) z h
    | none => none
  | .aaload, .int i :: .ref a :: st => match rget h a i with
    | some x => nx (pc + 1) L (.ref x :: st) z h
    | none => none
  | .iastore, .int x :: .int i :: .ref a :: st => match iset h a i x with
    | some h' => nx (pc + 1) L st z h'
    | none => none
  | .bastore, .int x :: .int i :: .ref a :: st => match zset h a i x with
    | some h' => nx (pc + 1) L st z h'
    | none => none
  | .lastore, .long x :: .int i :: .ref a :: st => match jset h a i x with
    | some h' => nx (pc + 1) L st z h'
    | none => none
  | .aastore, .ref x :: .int i :: .ref a :: st => match rset h a i x with
    | some h' => nx (pc + 1) L st z h'
    | none => none
  | .arraylength, .ref a :: st => match alen h a with
    | some n => nx (pc + 1) L (.int n :: st) z h
    | none => none
  | _, _ => none
def exMake (mi pc : Nat) (li : LI) (L : List (Option Value)) (st : List Value) (z : Zc) (h : Hp) : Xr := match li.1, st with
  | .new _, st => nx (pc + 3) L (.ref (z.1 + 1) :: st) (z.1 + 1, z.2 + cN li.2.2.1) (hput h (z.1 + 1) (blankE li.2.2.1))
  | .newarray t, .int n :: st => if n < 0 then none else if n.toNatClampNeg ≤ 65536 then (match newE t n.toNatClampNeg with
    | some e => nx (pc + 2) L (.ref (z.1 + 1) :: st) (z.1 + 1, z.2 + n.toNatClampNeg) (hput h (z.1 + 1) e)
    | none => none) else none
  | .anewarray _, .int n :: st => if n < 0 then none else if n.toNatClampNeg ≤ 65536 then nx (pc + 3) L (.ref (z.1 + 1) :: st) (z.1 + 1, z.2 + n.toNatClampNeg) (hput h (z.1 + 1) (.inr (.inr (.inr (0, List.replicate n.toNatClampNeg none))))) else none
  | .multianewarray _ d, .int n :: .int k :: st => if (Nat.beq d 2 && decide (k = 2)) = true then (if n < 0 then none else if n.toNatClampNeg ≤ 65536 then
      nx (pc + 4) L (.ref (z.1 + 1) :: st) (z.1 + 3, z.2 + (2 + (n.toNatClampNeg + n.toNatClampNeg))) (hput (hput (hput h (z.1 + 1) (.inr (.inr (.inr (1, [some (z.1 + 2), some (z.1 + 3)]))))) (z.1 + 2) (.inr (.inl (false, List.replicate n.toNatClampNeg 0)))) (z.1 + 3) (.inr (.inl (false, List.replicate n.toNatClampNeg 0)))) else none) else none
  | _, _ => none
def exCall (mi pc : Nat) (li : LI) (L : List (Option Value)) (st : List Value) (z : Zc) (h : Hp) : Xr := match li.1, st with
  | .invokevirtual _, st => match st.drop li.2.2.2.2.1.toNat with
    | .ref a :: rest => if (Nat.ble (stW rest) 8 && (ck h a li.2.2.2.1 && Nat.ble (1 + stW (st.take li.2.2.2.2.1.toNat)) (mm li.2.2.1).2.2.1)) = true then some (.inr (.inr (li.2.2.1, .ref a :: (st.take li.2.2.2.2.1.toNat).reverse, (pc + 3, L, rest, z, h)))) else none
    | _ => none
  | .invokestatic _, st => if Nat.beq li.2.2.2.1 7 = true then (match st with
      | .int n :: .int dp :: .ref a :: .int sp :: .ref a0 :: st => if Nat.ble (stW st) 8 = true then (match hcpy h a0 sp a dp n with
        | some h' => nx (pc + 3) L st z h'
        | none => none) else none
      | _ => none)
    else if Nat.beq li.2.2.2.1 8 = true then (match st with
      | .int y :: .int x :: st => if Nat.ble (stW st) 8 = true then nx (pc + 3) L (.int (if x < y then y else x) :: st) z h else none
      | _ => none)
    else if Nat.beq li.2.2.2.1 9 = true then (match st with
      | .int y :: .int x :: st => if Nat.ble (stW st) 8 = true then nx (pc + 3) L (.int (if y < x then y else x) :: st) z h else none
      | _ => none)
    else if (Nat.ble (stW (st.drop li.2.2.2.2.1.toNat)) 8 && (Nat.ble li.2.2.2.2.1.toNat st.length && Nat.ble (stW (st.take li.2.2.2.2.1.toNat)) (mm li.2.2.1).2.2.1)) = true then some (.inr (.inr (li.2.2.1, (st.take li.2.2.2.2.1.toNat).reverse, (pc + 3, L, st.drop li.2.2.2.2.1.toNat, z, h)))) else none
  | .invokespecial _, st => if Nat.beq li.2.2.2.1 6 = true then (match st with
      | .ref _ :: st => if Nat.ble (stW st) 8 = true then nx (pc + 3) L st z h else none
      | _ => none)
    else match st.drop li.2.2.2.2.1.toNat with
      | .ref a :: rest => if (Nat.ble (stW rest) 8 && Nat.ble (1 + stW (st.take li.2.2.2.2.1.toNat)) (mm li.2.2.1).2.2.1) = true then some (.inr (.inr (li.2.2.1, .ref a :: (st.take li.2.2.2.2.1.toNat).reverse, (pc + 3, L, rest, z, h)))) else none
      | _ => none
  | .ireturn, st => match st with
    | [.int x] => if (Nat.beq li.2.2.1 0 || (x == 0 || x == 1)) = true then some (.inr (.inl (some (.int x), z, h))) else none
    | _ => none
  | .lreturn, st => match st with
    | [.long x] => some (.inr (.inl (some (.long x), z, h)))
    | _ => none
  | .return_, st => match st with
    | [] => some (.inr (.inl (none, z, h)))
    | _ => none
  | _, _ => none
/-- which of the six reads the instruction -/
def grp : Instr → Nat
  | .iload _ | .iload_n _ | .lload _ | .lload_n _ | .aload _ | .aload_n _ | .istore _ | .istore_n _ | .lstore _ | .lstore_n _ | .astore _ | .astore_n _ | .iinc _ _ => 0
  | .goto _ | .ifCond _ _ | .if_icmp _ _ | .ifnull _ | .tableswitch _ _ _ _ => 2
  | .getfield _ | .putfield _ | .iaload | .baload | .laload | .aaload | .iastore | .bastore | .lastore | .aastore | .arraylength => 3
  | .new _ | .newarray _ | .anewarray _ | .multianewarray _ _ => 4
  | .invokevirtual _ | .invokestatic _ | .invokespecial _ | .ireturn | .lreturn | .return_ => 5
  | _ => 1
def stepX (mi pc : Nat) (li : LI) (L : List (Option Value)) (st : List Value) (z : Zc) (h : Hp) : Xr := match grp li.1 with
  | 0 => exLocals mi pc li L st z h
  | 1 => exArith mi pc li L st z h
  | 2 => exBranch mi pc li L st z h
  | 3 => exHeap mi pc li L st z h
  | 4 => exMake mi pc li L st z h
  | _ => exCall mi pc li L st z h
def pushr : Option Value → List Value → List Value
  | none, st => st
  | some v, st => v :: st
/-- a method's locals at its start -/
def padL : Nat → List Value → List (Option Value)
  | 0, _ => []
  | n + 1, [] => none :: padL n []
  | n + 1, v :: vs => some v :: (match v with
    | .long _ => (match n with
      | 0 => []
      | k + 1 => none :: padL k vs)
    | .double _ => (match n with
      | 0 => []
      | k + 1 => none :: padL k vs)
    | _ => padL n vs)
/-! runs of the small machine; what a run comes to, as an equation for each kind of step -/
def nLo (mi : Nat) : Nat := (mm mi).2.2.1
def run : Nat → Nat → Fm → Option Rs
  | 0, _, _ => none
  | n + 1, mi, f => match fetch mi f.1 with
    | none => none
    | some li => match stepX mi f.1 li f.2.1 f.2.2.1 f.2.2.2.1 f.2.2.2.2 with
      | none => none
      | some (.inl g) => run n mi g
      | some (.inr (.inl r)) => some r
      | some (.inr (.inr (mj, as, g))) => match run n mj (0, padL (nLo mj) as, [], g.2.2.2.1, g.2.2.2.2) with
        | none => none
        | some r => run n mi (g.1, g.2.1, pushr r.1 g.2.2.1, r.2.1, r.2.2)
def Ev (mi : Nat) (f : Fm) (Q : Option Value → Zc → Hp → Prop) : Prop := ∃ n r, run n mi f = some r ∧ Q r.1 r.2.1 r.2.2
theorem run_succ : ∀ (n mi : Nat) (f : Fm) (r : Rs), run n mi f = some r → run (n + 1) mi f = some r := by
  intro n
  induction n with
  | zero => intro mi f r h; cases h
  | succ n ih =>
    intro mi f r h
    rw [run] at h ⊢
    cases h1 : fetch mi f.1 with
    | none => rw [h1] at h; cases h
    | some li =>
      rw [h1] at h
      dsimp only at h ⊢
      cases h2 : stepX mi f.1 li f.2.1 f.2.2.1 f.2.2.2.1 f.2.2.2.2 with
      | none => rw [h2] at h; cases h
      | some x =>
        rw [h2] at h
        match x, h with
        | .inl g, h => exact ih mi g r h
        | .inr (.inl q), h => exact h
        | .inr (.inr (mj, as, g)), h =>
          dsimp only at h ⊢
          cases h3 : run n mj (0, padL (nLo mj) as, [], g.2.2.2.1, g.2.2.2.2) with
          | none => rw [h3] at h; cases h
          | some q =>
            rw [h3] at h
            rw [ih _ _ _ h3]
            exact ih _ _ _ h
theorem run_le {n k mi : Nat} {f : Fm} {r : Rs} (h : run n mi f = some r) (hk : n ≤ k) : run k mi f = some r := by
  induction hk with
  | refl => exact h
  | step _ ih => exact run_succ _ _ _ _ ih
theorem run_at {n mi pc : Nat} {L : List (Option Value)} {st : List Value} {z : Zc} {h : Hp} {li : LI} (hf : fetch mi pc = some li) : run (n + 1) mi (pc, L, st, z, h) = (match stepX mi pc li L st z h with
      | none => none
      | some (.inl g) => run n mi g
      | some (.inr (.inl r)) => some r
      | some (.inr (.inr (mj, as, g))) => match run n mj (0, padL (nLo mj) as, [], g.2.2.2.1, g.2.2.2.2) with
        | none => none
        | some r => run n mi (g.1, g.2.1, pushr r.1 g.2.2.1, r.2.1, r.2.2)) := by
  rw [run]
  dsimp only
  rw [hf]
section EV
variable {mi pc : Nat} {L : List (Option Value)} {st : List Value} {z : Zc} {h : Hp} {Q : Option Value → Zc → Hp → Prop} {li : LI}
theorem ev_next (hf : fetch mi pc = some li) {g : Fm} (hs : stepX mi pc li L st z h = some (.inl g)) : Ev mi (pc, L, st, z, h) Q = Ev mi g Q := by
  apply propext
  constructor
  · rintro ⟨n, r, h1, h2⟩
    cases n with
    | zero => cases h1
    | succ n => rw [run_at hf, hs] at h1; exact ⟨n, r, h1, h2⟩
  · rintro ⟨n, r, h1, h2⟩
    exact ⟨n + 1, r, by rw [run_at hf, hs]; exact h1, h2⟩
theorem ev_ret (hf : fetch mi pc = some li) {r : Rs} (hs : stepX mi pc li L st z h = some (.inr (.inl r))) : Ev mi (pc, L, st, z, h) Q = Q r.1 r.2.1 r.2.2 := by
  apply propext
  constructor
  · rintro ⟨n, q, h1, h2⟩
    cases n with
    | zero => cases h1
    | succ n => rw [run_at hf, hs] at h1; cases h1; exact h2
  · intro h2
    exact ⟨1, r, by rw [run_at hf, hs], h2⟩
theorem ev_stuck (hf : fetch mi pc = some li) (hs : stepX mi pc li L st z h = none) : Ev mi (pc, L, st, z, h) Q = False := by
  apply propext
  constructor
  · rintro ⟨n, q, h1, h2⟩
    cases n with
    | zero => cases h1
    | succ n => rw [run_at hf, hs] at h1; cases h1
  · intro h2
    exact h2.elim
theorem ev_call (hf : fetch mi pc = some li) {mj pc' : Nat} {as : List Value} {L' : List (Option Value)} {st' : List Value} (hs : stepX mi pc li L st z h = some (.inr (.inr (mj, as, (pc', L', st', z, h))))) : Ev mi (pc, L, st, z, h) Q = Ev mj (0, padL (nLo mj) as, [], z, h) (fun v z' h' => Ev mi (pc', L', pushr v st', z', h') Q) := by
  apply propext
  constructor
  · rintro ⟨n, q, h1, h2⟩
    cases n with
    | zero => cases h1
    | succ n =>
      rw [run_at hf, hs] at h1
      dsimp only at h1
      cases h3 : run n mj (0, padL (nLo mj) as, [], z, h) with
      | none => rw [h3] at h1; cases h1
      | some r => rw [h3] at h1; exact ⟨n, r, h3, n, q, h1, h2⟩
  · rintro ⟨n, r, h1, k, q, h2, h3⟩
    refine ⟨max n k + 1, q, ?_, h3⟩
    rw [run_at hf, hs]
    dsimp only
    rw [run_le h1 (Nat.le_max_left n k)]
    exact run_le h2 (Nat.le_max_right n k)
end EV
theorem Ev.imp {mi : Nat} {f : Fm} {Q Q' : Option Value → Zc → Hp → Prop} (h : Ev mi f Q) (k : ∀ v z h', Q v z h' → Q' v z h') : Ev mi f Q' := by
  obtain ⟨n, r, h1, h2⟩ := h
  exact ⟨n, r, h1, k _ _ _ h2⟩
/-- where one end is known, every statement of the end is decided there -/
theorem Ev.det {mi : Nat} {f : Fm} {v : Option Value} {z : Zc} {h' : Hp} (h : Ev mi f (fun v1 z1 h1 => v1 = v ∧ z1 = z ∧ h1 = h')) (Q : Option Value → Zc → Hp → Prop) : Ev mi f Q = Q v z h' := by
  obtain ⟨n, r, h1, e1, e2, e3⟩ := h
  apply propext
  constructor
  · rintro ⟨k, q, h2, h3⟩
    have a1 := run_le h1 (Nat.le_max_left n k)
    have a2 := run_le h2 (Nat.le_max_right n k)
    rw [a1] at a2
    cases a2
    rw [← e1, ← e2, ← e3]
    exact h3
  · intro h3
    exact ⟨n, r, h1, by rw [e1, e2, e3]; exact h3⟩
