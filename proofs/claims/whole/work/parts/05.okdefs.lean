/-! what the tables must say of an instruction -/
def gtbl : List Jvm.Cond := lw_tbl.filter goodWord
def wat (i : Nat) (w : Jvm.Cond) : Bool := decide (lw_tbl[i]? = some w)
def wgt (i : Nat) (w : Jvm.Cond) : Bool := wat i w && goodWord w
theorem wat_mem {i : Nat} {w : Jvm.Cond} (h : wat i w = true) : w ∈ lw_tbl := List.mem_of_getElem? (of_decide_eq_true h)
theorem wgt_mem {i : Nat} {w : Jvm.Cond} (h : wgt i w = true) : w ∈ gtbl := by
  simp only [wgt, Bool.and_eq_true] at h
  exact List.mem_filter.mpr ⟨wat_mem h.1, h.2⟩
def ilen : Instr → Nat
  | .iload _ | .lload _ | .aload _ | .istore _ | .lstore _ | .astore _ | .bipush _ | .newarray _ => 2
  | .iinc _ _ | .sipush _ | .ldc2_w _ | .goto _ | .ifCond _ _ | .if_icmp _ _ | .ifnull _ | .getfield _ | .putfield _ | .new _ | .anewarray _ | .invokevirtual _ | .invokestatic _ | .invokespecial _ => 3
  | .multianewarray _ _ => 4
  | _ => 1
def okLen (li : LI) : Bool := match li.1 with
  | .tableswitch _ _ _ _ => true
  | i => Nat.beq li.2.1 (ilen i)
def hostS : String := "SheepAndStones"
def okTgt (pc : Nat) (o : Int) (t : Nat) : Bool := decide ((pc : Int) + o = (t : Int))
def okF (own : String) (idx a b w : Nat) : Bool := wgt w (.fieldLink own idx (cnm a) (cT a b).2.1 (cT a b).2.2.1) || wat w (.fieldLinkNest own idx (cnm a) (cT a b).2.1 (cT a b).2.2.1 hostS)
def okRm (mi mj : Nat) : Bool := Nat.ble ((mm mj).2.2.2.2.1 + 1) (mm mi).2.2.2.2.1 && Nat.ble (8 + ((mm mj).2.2.1 + 11) + (mm mj).2.2.2.2.2) (mm mi).2.2.2.2.2
/-- of a method: it is known by its bytes -/
def okM (mj : Nat) : Bool := Nat.blt 0 mj && (plainName (mm mj).1.cls && decide ((mm mj).1.cls ≠ "java/lang/invoke/MethodHandle" ∧ (mm mj).1.cls ≠ "java/lang/invoke/VarHandle"))
def okN (mj n : Nat) : Bool := decide ((parseMethodDescriptor (mm mj).1.desc).map (fun d => d.parameters.length) = some n)
def okW (mi pc : Nat) (li : LI) : Bool := match li.1, li.2.2.2.2.2 with
  | .goto o, _ => okTgt pc o li.2.2.1
  | .ifCond _ o, _ => okTgt pc o li.2.2.1
  | .if_icmp _ o, _ => okTgt pc o li.2.2.1
  | .ifnull o, _ => okTgt pc o li.2.2.1
  | .tableswitch d lo hi offs, t :: ts => okTgt pc d t && decide (ts.map (fun (t : Nat) => (t : Int)) = offs.toList.map (fun o => (pc : Int) + o))
  | .getfield idx, [w] => Nat.blt li.2.2.1 9 && (Nat.blt li.2.2.2.1 (cN li.2.2.1) && okF (mm mi).1.cls idx li.2.2.1 li.2.2.2.1 w)
  | .ireturn, _ => if Nat.beq li.2.2.1 0 = true then decide ((mm mi).2.2.2.1 = some .int) else decide ((mm mi).2.2.2.1 = some .boolean)
  | .lreturn, _ => decide ((mm mi).2.2.2.1 = some .long)
  | .return_, _ => decide ((mm mi).2.2.2.1 = none)
  | .putfield idx, [w] => Nat.blt li.2.2.1 9 && (Nat.blt li.2.2.2.1 (cN li.2.2.1) && (decide (tcode (cT li.2.2.1 li.2.2.2.1).2.2.1 = li.2.2.2.2.1.toNat) && (if (cT li.2.2.1 li.2.2.2.1).2.2.2 = true then decide ((mm mi).1.name = "<init>" ∧ (mm mi).1.cls = cnm li.2.2.1) && wgt w (.fieldLink (mm mi).1.cls idx (cnm li.2.2.1) (cT li.2.2.1 li.2.2.2.1).2.1 (cT li.2.2.1 li.2.2.2.1).2.2.1) else okF (mm mi).1.cls idx li.2.2.1 li.2.2.2.1 w)))
  | .ldc2_w idx, [w] => wgt w (.constantLong (mm mi).1.cls idx (Int64.ofInt li.2.2.2.2.1))
  | .new idx, [w1, w2, w3] => Nat.blt li.2.2.1 9 && (wgt w1 (.classLink (mm mi).1.cls idx (cnm li.2.2.1)) && (wgt w2 (.instantiable (cnm li.2.2.1) (cN li.2.2.1)) && wgt w3 (.initialized (cnm li.2.2.1))))
  | .newarray t, [w] => wgt w (.arrayClass (newarray.typeOf t))
  | .anewarray idx, [w] => wgt w (.classLink (mm mi).1.cls idx "SheepAndStones$Wall")
  | .multianewarray idx _, [w] => wgt w (.classLink (mm mi).1.cls idx "[[I")
  | .invokevirtual idx, [w1, w2, w3, w4] => (Nat.blt li.2.2.2.1 9 && decide ((mm li.2.2.1).1.cls = cnm li.2.2.2.1)) && okM li.2.2.1 && (okN li.2.2.1 li.2.2.2.2.1.toNat && (okRm mi li.2.2.1 && (wgt w2 (.instanceMethod (mm li.2.2.1).1) && (wgt w3 (.selects (mm li.2.2.1).1.cls (mm li.2.2.1).1 (mm li.2.2.1).1) && (wgt w4 (.initialized (mm li.2.2.1).1.cls) &&
      (wgt w1 (.methodLink (mm mi).1.cls idx (mm li.2.2.1).1) || wat w1 (.methodLinkNest (mm mi).1.cls idx (mm li.2.2.1).1 hostS)))))))
  | .invokestatic idx, [w1, w2, w3] => okM li.2.2.1 && (okN li.2.2.1 li.2.2.2.2.1.toNat && (okRm mi li.2.2.1 && (wgt w2 (.static (mm li.2.2.1).1) && (wgt w3 (.initialized (mm li.2.2.1).1.cls) &&
      (wgt w1 (.methodLink (mm mi).1.cls idx (mm li.2.2.1).1) || wat w1 (.methodLinkNest (mm mi).1.cls idx (mm li.2.2.1).1 hostS)))))) && (!Nat.beq li.2.2.2.1 7 && (!Nat.beq li.2.2.2.1 8 && !Nat.beq li.2.2.2.1 9))
  | .invokestatic idx, [w1, w2, w3, w4] => if Nat.beq li.2.2.2.1 8 = true then wgt w1 (.methodLink (mm mi).1.cls idx Lib.Math.max.name) && (wgt w2 (.static Lib.Math.max.name) && (wgt w3 (.initialized "java/lang/Math") && (wgt w4 (.code Lib.Math.max.name Lib.Math.max.code 2 (some .int)) && (Nat.ble 1 (mm mi).2.2.2.2.1 && Nat.ble 21 (mm mi).2.2.2.2.2))))
      else if Nat.beq li.2.2.2.1 9 = true then wgt w1 (.methodLink (mm mi).1.cls idx Lib.Math.min.name) && (wgt w2 (.static Lib.Math.min.name) && (wgt w3 (.initialized "java/lang/Math") && (wgt w4 (.code Lib.Math.min.name Lib.Math.min.code 2 (some .int)) && (Nat.ble 1 (mm mi).2.2.2.2.1 && Nat.ble 21 (mm mi).2.2.2.2.2))))
      else Nat.beq li.2.2.2.1 7 && (wgt w1 (.methodLink (mm mi).1.cls idx arraycopyName) && (wgt w2 (.native arraycopyName) && (wgt w3 (.static arraycopyName) && (wgt w4 (.initialized "java/lang/System") && (Nat.ble 1 (mm mi).2.2.2.2.1 && Nat.ble 40 (mm mi).2.2.2.2.2)))))
  | .invokespecial idx, [w1, w2, w3] => if Nat.beq li.2.2.2.1 6 = true then wgt w1 (.methodLink (mm mi).1.cls idx objectInit) && (wgt w2 (.instanceMethod objectInit) && (wgt w3 (.code objectInit ⟨#[0xb1]⟩ 1 none) && (Nat.ble 1 (mm mi).2.2.2.2.1 && Nat.ble 20 (mm mi).2.2.2.2.2)))
      else okM li.2.2.1 && (okN li.2.2.1 li.2.2.2.2.1.toNat && (okRm mi li.2.2.1 && (decide ((mm li.2.2.1).1.name = "<init>" ∧ (mm li.2.2.1).2.2.2.1 = none) && (wgt w2 (.instanceMethod (mm li.2.2.1).1) && (wgt w3 (.initialized (mm li.2.2.1).1.cls) &&
      (wgt w1 (.methodLink (mm mi).1.cls idx (mm li.2.2.1).1) || wat w1 (.methodLinkNest (mm mi).1.cls idx (mm li.2.2.1).1 hostS)))))))
  | .tableswitch _ _ _ _, _ => false
  | .getfield _, _ => false
  | .putfield _, _ => false
  | .ldc2_w _, _ => false
  | .new _, _ => false
  | .newarray _, _ => false
  | .anewarray _, _ => false
  | .multianewarray _ _, _ => false
  | .invokevirtual _, _ => false
  | .invokestatic _, _ => false
  | .invokespecial _, _ => false
  | _, _ => true
def okI (mi pc : Nat) (li : LI) : Bool := decide (decode (mm mi).2.1 pc = .ok (li.1, li.2.1)) && (okLen li && okW mi pc li)
