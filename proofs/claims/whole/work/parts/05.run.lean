/-! runs of the small machine; what a run comes to, as an equation for each kind of step -/
def fetch (mi pc : Nat) : Option LI := lk pc ((cds[mi]?).getD [])
def nLo (mi : Nat) : Nat := (mm mi).2.2.1
def run : Nat → Nat → Fm → Option Rs
  | 0, _, _ => none
  | n + 1, mi, f => match fetch mi f.1 with
    | none => none
    | some li => match stepX mi f.1 li f.2.1 f.2.2.1 f.2.2.2.1 f.2.2.2.2 with
      | none => none
      | some (.inl g) => run n mi g
      | some (.inr (.inl r)) => some r
      | some (.inr (.inr (mj, as, g))) => match run n mj (0, padL (nLo mj) as, [], g.2.2.2.1, g.2.2.2.2) with
        | none => none
        | some r => run n mi (g.1, g.2.1, pushr r.1 g.2.2.1, r.2.1, r.2.2)
def Ev (mi : Nat) (f : Fm) (Q : Option Value → Zc → Hp → Prop) : Prop := ∃ n r, run n mi f = some r ∧ Q r.1 r.2.1 r.2.2
theorem run_succ : ∀ (n mi : Nat) (f : Fm) (r : Rs), run n mi f = some r → run (n + 1) mi f = some r := by
  intro n
  induction n with
  | zero => intro mi f r h; cases h
  | succ n ih =>
    intro mi f r h
    rw [run] at h ⊢
    cases h1 : fetch mi f.1 with
    | none => rw [h1] at h; cases h
    | some li =>
      rw [h1] at h
      dsimp only at h ⊢
      cases h2 : stepX mi f.1 li f.2.1 f.2.2.1 f.2.2.2.1 f.2.2.2.2 with
      | none => rw [h2] at h; cases h
      | some x =>
        rw [h2] at h
        match x, h with
        | .inl g, h => exact ih mi g r h
        | .inr (.inl q), h => exact h
        | .inr (.inr (mj, as, g)), h =>
          dsimp only at h ⊢
          cases h3 : run n mj (0, padL (nLo mj) as, [], g.2.2.2.1, g.2.2.2.2) with
          | none => rw [h3] at h; cases h
          | some q =>
            rw [h3] at h
            rw [ih _ _ _ h3]
            exact ih _ _ _ h
theorem run_le {n k mi : Nat} {f : Fm} {r : Rs} (h : run n mi f = some r) (hk : n ≤ k) : run k mi f = some r := by
  induction hk with
  | refl => exact h
  | step _ ih => exact run_succ _ _ _ _ ih
theorem run_at {n mi pc : Nat} {L : List (Option Value)} {st : List Value} {z : Zc} {h : Hp} {li : LI} (hf : fetch mi pc = some li) : run (n + 1) mi (pc, L, st, z, h) = (match stepX mi pc li L st z h with
      | none => none
      | some (.inl g) => run n mi g
      | some (.inr (.inl r)) => some r
      | some (.inr (.inr (mj, as, g))) => match run n mj (0, padL (nLo mj) as, [], g.2.2.2.1, g.2.2.2.2) with
        | none => none
        | some r => run n mi (g.1, g.2.1, pushr r.1 g.2.2.1, r.2.1, r.2.2)) := by
  rw [run]
  dsimp only
  rw [hf]
section EV
variable {mi pc : Nat} {L : List (Option Value)} {st : List Value} {z : Zc} {h : Hp} {Q : Option Value → Zc → Hp → Prop} {li : LI}
theorem ev_next (hf : fetch mi pc = some li) {g : Fm} (hs : stepX mi pc li L st z h = some (.inl g)) : Ev mi (pc, L, st, z, h) Q = Ev mi g Q := by
  apply propext
  constructor
  · rintro ⟨n, r, h1, h2⟩
    cases n with
    | zero => cases h1
    | succ n => rw [run_at hf, hs] at h1; exact ⟨n, r, h1, h2⟩
  · rintro ⟨n, r, h1, h2⟩
    exact ⟨n + 1, r, by rw [run_at hf, hs]; exact h1, h2⟩
theorem ev_ret (hf : fetch mi pc = some li) {r : Rs} (hs : stepX mi pc li L st z h = some (.inr (.inl r))) : Ev mi (pc, L, st, z, h) Q = Q r.1 r.2.1 r.2.2 := by
  apply propext
  constructor
  · rintro ⟨n, q, h1, h2⟩
    cases n with
    | zero => cases h1
    | succ n => rw [run_at hf, hs] at h1; cases h1; exact h2
  · intro h2
    exact ⟨1, r, by rw [run_at hf, hs], h2⟩
theorem ev_stuck (hf : fetch mi pc = some li) (hs : stepX mi pc li L st z h = none) : Ev mi (pc, L, st, z, h) Q = False := by
  apply propext
  constructor
  · rintro ⟨n, q, h1, h2⟩
    cases n with
    | zero => cases h1
    | succ n => rw [run_at hf, hs] at h1; cases h1
  · intro h2
    exact h2.elim
theorem ev_call (hf : fetch mi pc = some li) {mj pc' : Nat} {as : List Value} {L' : List (Option Value)} {st' : List Value} (hs : stepX mi pc li L st z h = some (.inr (.inr (mj, as, (pc', L', st', z, h))))) : Ev mi (pc, L, st, z, h) Q = Ev mj (0, padL (nLo mj) as, [], z, h) (fun v z' h' => Ev mi (pc', L', pushr v st', z', h') Q) := by
  apply propext
  constructor
  · rintro ⟨n, q, h1, h2⟩
    cases n with
    | zero => cases h1
    | succ n =>
      rw [run_at hf, hs] at h1
      dsimp only at h1
      cases h3 : run n mj (0, padL (nLo mj) as, [], z, h) with
      | none => rw [h3] at h1; cases h1
      | some r => rw [h3] at h1; exact ⟨n, r, h3, n, q, h1, h2⟩
  · rintro ⟨n, r, h1, k, q, h2, h3⟩
    refine ⟨max n k + 1, q, ?_, h3⟩
    rw [run_at hf, hs]
    dsimp only
    rw [run_le h1 (Nat.le_max_left n k)]
    exact run_le h2 (Nat.le_max_right n k)
end EV
theorem Ev.imp {mi : Nat} {f : Fm} {Q Q' : Option Value → Zc → Hp → Prop} (h : Ev mi f Q) (k : ∀ v z h', Q v z h' → Q' v z h') : Ev mi f Q' := by
  obtain ⟨n, r, h1, h2⟩ := h
  exact ⟨n, r, h1, k _ _ _ h2⟩
/-- where one end is known, every statement of the end is decided there -/
theorem Ev.det {mi : Nat} {f : Fm} {v : Option Value} {z : Zc} {h' : Hp} (h : Ev mi f (fun v1 z1 h1 => v1 = v ∧ z1 = z ∧ h1 = h')) (Q : Option Value → Zc → Hp → Prop) : Ev mi f Q = Q v z h' := by
  obtain ⟨n, r, h1, e1, e2, e3⟩ := h
  apply propext
  constructor
  · rintro ⟨k, q, h2, h3⟩
    have a1 := run_le h1 (Nat.le_max_left n k)
    have a2 := run_le h2 (Nat.le_max_right n k)
    rw [a1] at a2
    cases a2
    rw [← e1, ← e2, ← e3]
    exact h3
  · intro h3
    exact ⟨n, r, h1, by rw [e1, e2, e3]; exact h3⟩
-- what the tables must say of an instruction
def gtbl : List Jvm.Cond := lw_tbl.filter goodWord
def wat (i : Nat) (w : Jvm.Cond) : Bool := decide (lw_tbl[i]? = some w)
def wgt (i : Nat) (w : Jvm.Cond) : Bool := wat i w && goodWord w
theorem wat_mem {i : Nat} {w : Jvm.Cond} (h : wat i w = true) : w ∈ lw_tbl := List.mem_of_getElem? (of_decide_eq_true h)
theorem wgt_mem {i : Nat} {w : Jvm.Cond} (h : wgt i w = true) : w ∈ gtbl := by
  simp only [wgt, Bool.and_eq_true] at h
  exact List.mem_filter.mpr ⟨wat_mem h.1, h.2⟩
def ilen : Instr → Nat
  | .iload _ | .lload _ | .aload _ | .istore _ | .lstore _ | .astore _ | .bipush _ | .newarray _ => 2
  | .iinc _ _ | .sipush _ | .ldc2_w _ | .goto _ | .ifCond _ _ | .if_icmp _ _ | .ifnull _ | .getfield _ | .putfield _ | .new _ | .anewarray _ | .invokevirtual _ | .invokestatic _ | .invokespecial _ => 3
  | .multianewarray _ _ => 4
  | _ => 1
def okLen (li : LI) : Bool := match li.1 with
  | .tableswitch _ _ _ _ => true
  | i => Nat.beq li.2.1 (ilen i)
def hostS : String := "SheepAndStones"
def okTgt (pc : Nat) (o : Int) (t : Nat) : Bool := decide ((pc : Int) + o = (t : Int))
def okF (own : String) (idx a b w : Nat) : Bool := wgt w (.fieldLink own idx (cnm a) (cT a b).2.1 (cT a b).2.2.1) || wat w (.fieldLinkNest own idx (cnm a) (cT a b).2.1 (cT a b).2.2.1 hostS)
def okRm (mi mj : Nat) : Bool := Nat.ble ((mm mj).2.2.2.2.1 + 1) (mm mi).2.2.2.2.1 && Nat.ble (8 + ((mm mj).2.2.1 + 11) + (mm mj).2.2.2.2.2) (mm mi).2.2.2.2.2
/-- of a method: it is known by its bytes -/
def okM (mj : Nat) : Bool := Nat.blt 0 mj && (plainName (mm mj).1.cls && decide ((mm mj).1.cls ≠ "java/lang/invoke/MethodHandle" ∧ (mm mj).1.cls ≠ "java/lang/invoke/VarHandle"))
def okN (mj n : Nat) : Bool := decide ((parseMethodDescriptor (mm mj).1.desc).map (fun d => d.parameters.length) = some n)
def okW (mi pc : Nat) (li : LI) : Bool := match li.1, li.2.2.2.2.2 with
  | .goto o, _ => okTgt pc o li.2.2.1
  | .ifCond _ o, _ => okTgt pc o li.2.2.1
  | .if_icmp _ o, _ => okTgt pc o li.2.2.1
  | .ifnull o, _ => okTgt pc o li.2.2.1
  | .tableswitch d lo hi offs, t :: ts => okTgt pc d t && decide (ts.map (fun (t : Nat) => (t : Int)) = offs.toList.map (fun o => (pc : Int) + o))
  | .getfield idx, [w] => Nat.blt li.2.2.1 9 && (Nat.blt li.2.2.2.1 (cN li.2.2.1) && okF (mm mi).1.cls idx li.2.2.1 li.2.2.2.1 w)
  | .ireturn, _ => if Nat.beq li.2.2.1 0 = true then decide ((mm mi).2.2.2.1 = some .int) else decide ((mm mi).2.2.2.1 = some .boolean)
  | .lreturn, _ => decide ((mm mi).2.2.2.1 = some .long)
  | .return_, _ => decide ((mm mi).2.2.2.1 = none)
  | .putfield idx, [w] => Nat.blt li.2.2.1 9 && (Nat.blt li.2.2.2.1 (cN li.2.2.1) && (decide (tcode (cT li.2.2.1 li.2.2.2.1).2.2.1 = li.2.2.2.2.1.toNat) && (if (cT li.2.2.1 li.2.2.2.1).2.2.2 = true then decide ((mm mi).1.name = "<init>" ∧ (mm mi).1.cls = cnm li.2.2.1) && wgt w (.fieldLink (mm mi).1.cls idx (cnm li.2.2.1) (cT li.2.2.1 li.2.2.2.1).2.1 (cT li.2.2.1 li.2.2.2.1).2.2.1) else okF (mm mi).1.cls idx li.2.2.1 li.2.2.2.1 w)))
  | .ldc2_w idx, [w] => wgt w (.constantLong (mm mi).1.cls idx (Int64.ofInt li.2.2.2.2.1))
  | .new idx, [w1, w2, w3] => Nat.blt li.2.2.1 9 && (wgt w1 (.classLink (mm mi).1.cls idx (cnm li.2.2.1)) && (wgt w2 (.instantiable (cnm li.2.2.1) (cN li.2.2.1)) && wgt w3 (.initialized (cnm li.2.2.1))))
  | .newarray t, [w] => wgt w (.arrayClass (newarray.typeOf t))
  | .anewarray idx, [w] => wgt w (.classLink (mm mi).1.cls idx "SheepAndStones$Wall")
  | .multianewarray idx _, [w] => wgt w (.classLink (mm mi).1.cls idx "[[I")
  | .invokevirtual idx, [w1, w2, w3, w4] => (Nat.blt li.2.2.2.1 9 && decide ((mm li.2.2.1).1.cls = cnm li.2.2.2.1)) && okM li.2.2.1 && (okN li.2.2.1 li.2.2.2.2.1.toNat && (okRm mi li.2.2.1 && (wgt w2 (.instanceMethod (mm li.2.2.1).1) && (wgt w3 (.selects (mm li.2.2.1).1.cls (mm li.2.2.1).1 (mm li.2.2.1).1) && (wgt w4 (.initialized (mm li.2.2.1).1.cls) &&
      (wgt w1 (.methodLink (mm mi).1.cls idx (mm li.2.2.1).1) || wat w1 (.methodLinkNest (mm mi).1.cls idx (mm li.2.2.1).1 hostS)))))))
  | .invokestatic idx, [w1, w2, w3] => okM li.2.2.1 && (okN li.2.2.1 li.2.2.2.2.1.toNat && (okRm mi li.2.2.1 && (wgt w2 (.static (mm li.2.2.1).1) && (wgt w3 (.initialized (mm li.2.2.1).1.cls) &&
      (wgt w1 (.methodLink (mm mi).1.cls idx (mm li.2.2.1).1) || wat w1 (.methodLinkNest (mm mi).1.cls idx (mm li.2.2.1).1 hostS)))))) && (!Nat.beq li.2.2.2.1 7 && (!Nat.beq li.2.2.2.1 8 && !Nat.beq li.2.2.2.1 9))
  | .invokestatic idx, [w1, w2, w3, w4] => if Nat.beq li.2.2.2.1 8 = true then wgt w1 (.methodLink (mm mi).1.cls idx Lib.Math.max.name) && (wgt w2 (.static Lib.Math.max.name) && (wgt w3 (.initialized "java/lang/Math") && (wgt w4 (.code Lib.Math.max.name Lib.Math.max.code 2 (some .int)) && (Nat.ble 1 (mm mi).2.2.2.2.1 && Nat.ble 21 (mm mi).2.2.2.2.2))))
      else if Nat.beq li.2.2.2.1 9 = true then wgt w1 (.methodLink (mm mi).1.cls idx Lib.Math.min.name) && (wgt w2 (.static Lib.Math.min.name) && (wgt w3 (.initialized "java/lang/Math") && (wgt w4 (.code Lib.Math.min.name Lib.Math.min.code 2 (some .int)) && (Nat.ble 1 (mm mi).2.2.2.2.1 && Nat.ble 21 (mm mi).2.2.2.2.2))))
      else Nat.beq li.2.2.2.1 7 && (wgt w1 (.methodLink (mm mi).1.cls idx arraycopyName) && (wgt w2 (.native arraycopyName) && (wgt w3 (.static arraycopyName) && (wgt w4 (.initialized "java/lang/System") && (Nat.ble 1 (mm mi).2.2.2.2.1 && Nat.ble 40 (mm mi).2.2.2.2.2)))))
  | .invokespecial idx, [w1, w2, w3] => if Nat.beq li.2.2.2.1 6 = true then wgt w1 (.methodLink (mm mi).1.cls idx objectInit) && (wgt w2 (.instanceMethod objectInit) && (wgt w3 (.code objectInit ⟨#[0xb1]⟩ 1 none) && (Nat.ble 1 (mm mi).2.2.2.2.1 && Nat.ble 20 (mm mi).2.2.2.2.2)))
      else okM li.2.2.1 && (okN li.2.2.1 li.2.2.2.2.1.toNat && (okRm mi li.2.2.1 && (decide ((mm li.2.2.1).1.name = "<init>" ∧ (mm li.2.2.1).2.2.2.1 = none) && (wgt w2 (.instanceMethod (mm li.2.2.1).1) && (wgt w3 (.initialized (mm li.2.2.1).1.cls) &&
      (wgt w1 (.methodLink (mm mi).1.cls idx (mm li.2.2.1).1) || wat w1 (.methodLinkNest (mm mi).1.cls idx (mm li.2.2.1).1 hostS)))))))
  | .tableswitch _ _ _ _, _ => false
  | .getfield _, _ => false
  | .putfield _, _ => false
  | .ldc2_w _, _ => false
  | .new _, _ => false
  | .newarray _, _ => false
  | .anewarray _, _ => false
  | .multianewarray _ _, _ => false
  | .invokevirtual _, _ => false
  | .invokestatic _, _ => false
  | .invokespecial _, _ => false
  | _, _ => true
def okI (mi pc : Nat) (li : LI) : Bool := decide (decode (mm mi).2.1 pc = .ok (li.1, li.2.1)) && (okLen li && okW mi pc li)
