/-! the shapes of the equations -/
def ob {α : Type} (o : Option α) (k : α → Prop) : Prop := match o with
  | some a => k a
  | none => False
theorem ob_some {α : Type} (a : α) (k : α → Prop) : ob (some a) k = k a := rfl
def lieq (a b : LI) : Bool := decide (a.1 = b.1) && (Nat.beq a.2.1 b.2.1 && (Nat.beq a.2.2.1 b.2.2.1 && (Nat.beq a.2.2.2.1 b.2.2.2.1 && (decide (a.2.2.2.2.1 = b.2.2.2.2.1) && decide (a.2.2.2.2.2 = b.2.2.2.2.2)))))
theorem lieq_eq {a b : LI} (h : lieq a b = true) : a = b := by
  obtain ⟨a1, a2, a3, a4, a5, a6⟩ := a
  obtain ⟨b1, b2, b3, b4, b5, b6⟩ := b
  simp only [lieq, Bool.and_eq_true, decide_eq_true_eq] at h
  obtain ⟨h1, h2, h3, h4, h5, h6⟩ := h
  rw [h1, Nat.eq_of_beq_eq_true h2, Nat.eq_of_beq_eq_true h3, Nat.eq_of_beq_eq_true h4, h5, h6]
def fq (mi pc : Nat) (li : LI) : Bool := match fetch mi pc with
  | some x => lieq x li
  | none => false
theorem fetch_of {mi pc : Nat} {li : LI} (h : fq mi pc li = true) : fetch mi pc = some li := by
  unfold fq at h
  cases hf : fetch mi pc with
  | none => rw [hf] at h; cases h
  | some x => rw [hf] at h; rw [lieq_eq h]
section EVB
variable {mi pc : Nat} {L : List (Option Value)} {st st0 : List Value} {z : Zc} {h : Hp} {Q : Option Value → Zc → Hp → Prop} {li : LI}
theorem ev_ob {α : Type} (hf : fetch mi pc = some li) (o : Option α) (k : α → Fm) (hs : stepX mi pc li L st z h = Option.rec none (fun a => some (.inl (k a))) o) : Ev mi (pc, L, st, z, h) Q = ob o (fun a => Ev mi (k a) Q) := by
  cases o with
  | none => exact ev_stuck hf hs
  | some a => exact ev_next hf hs
theorem ev_getfield {n a1 b1 : Nat} {c1 : Int} {w1 : List Nat} {i a : Nat} (hf : fetch mi pc = some (.getfield i, n, a1, b1, c1, w1)) : Ev mi (pc, L, .ref a :: st, z, h) Q = ob (gf h a a1 b1) (fun v => Ev mi (pc + 3, L, v :: st, z, h) Q) := by
  cases ho : gf h a a1 b1 with
  | none => exact ev_stuck hf (by simp [stepX, grp, exHeap, ho])
  | some v => exact ev_next hf (by simp [stepX, grp, exHeap, ho, nx])
theorem ev_putfield {n a1 b1 : Nat} {c1 : Int} {w1 : List Nat} {i a : Nat} {u : Value} (hf : fetch mi pc = some (.putfield i, n, a1, b1, c1, w1)) : Ev mi (pc, L, u :: .ref a :: st, z, h) Q = ob (pf h a a1 b1 c1.toNat u) (fun v => Ev mi (pc + 3, L, st, z, v) Q) := by
  cases ho : pf h a a1 b1 c1.toNat u with
  | none => exact ev_stuck hf (by simp [stepX, grp, exHeap, ho])
  | some v => exact ev_next hf (by simp [stepX, grp, exHeap, ho, nx])
theorem ev_iaload {n a1 b1 : Nat} {c1 : Int} {w1 : List Nat} {i : Int32} {a : Nat} (hf : fetch mi pc = some (.iaload, n, a1, b1, c1, w1)) : Ev mi (pc, L, .int i :: .ref a :: st, z, h) Q = ob (iget h a i) (fun v => Ev mi (pc + 1, L, .int v :: st, z, h) Q) := by
  cases ho : iget h a i with
  | none => exact ev_stuck hf (by simp [stepX, grp, exHeap, ho])
  | some v => exact ev_next hf (by simp [stepX, grp, exHeap, ho, nx])
theorem ev_baload {n a1 b1 : Nat} {c1 : Int} {w1 : List Nat} {i : Int32} {a : Nat} (hf : fetch mi pc = some (.baload, n, a1, b1, c1, w1)) : Ev mi (pc, L, .int i :: .ref a :: st, z, h) Q = ob (zget h a i) (fun v => Ev mi (pc + 1, L, .int v :: st, z, h) Q) := by
  cases ho : zget h a i with
  | none => exact ev_stuck hf (by simp [stepX, grp, exHeap, ho])
  | some v => exact ev_next hf (by simp [stepX, grp, exHeap, ho, nx])
theorem ev_laload {n a1 b1 : Nat} {c1 : Int} {w1 : List Nat} {i : Int32} {a : Nat} (hf : fetch mi pc = some (.laload, n, a1, b1, c1, w1)) : Ev mi (pc, L, .int i :: .ref a :: st, z, h) Q = ob (jget h a i) (fun v => Ev mi (pc + 1, L, .long v :: st, z, h) Q) := by
  cases ho : jget h a i with
  | none => exact ev_stuck hf (by simp [stepX, grp, exHeap, ho])
  | some v => exact ev_next hf (by simp [stepX, grp, exHeap, ho, nx])
theorem ev_aaload {n a1 b1 : Nat} {c1 : Int} {w1 : List Nat} {i : Int32} {a : Nat} (hf : fetch mi pc = some (.aaload, n, a1, b1, c1, w1)) : Ev mi (pc, L, .int i :: .ref a :: st, z, h) Q = ob (rget h a i) (fun v => Ev mi (pc + 1, L, .ref v :: st, z, h) Q) := by
  cases ho : rget h a i with
  | none => exact ev_stuck hf (by simp [stepX, grp, exHeap, ho])
  | some v => exact ev_next hf (by simp [stepX, grp, exHeap, ho, nx])
theorem ev_iastore {n a1 b1 : Nat} {c1 : Int} {w1 : List Nat} {i : Int32} {a : Nat} {u : Int32} (hf : fetch mi pc = some (.iastore, n, a1, b1, c1, w1)) : Ev mi (pc, L, .int u :: .int i :: .ref a :: st, z, h) Q = ob (iset h a i u) (fun v => Ev mi (pc + 1, L, st, z, v) Q) := by
  cases ho : iset h a i u with
  | none => exact ev_stuck hf (by simp [stepX, grp, exHeap, ho])
  | some v => exact ev_next hf (by simp [stepX, grp, exHeap, ho, nx])
theorem ev_bastore {n a1 b1 : Nat} {c1 : Int} {w1 : List Nat} {i : Int32} {a : Nat} {u : Int32} (hf : fetch mi pc = some (.bastore, n, a1, b1, c1, w1)) : Ev mi (pc, L, .int u :: .int i :: .ref a :: st, z, h) Q = ob (zset h a i u) (fun v => Ev mi (pc + 1, L, st, z, v) Q) := by
  cases ho : zset h a i u with
  | none => exact ev_stuck hf (by simp [stepX, grp, exHeap, ho])
  | some v => exact ev_next hf (by simp [stepX, grp, exHeap, ho, nx])
theorem ev_lastore {n a1 b1 : Nat} {c1 : Int} {w1 : List Nat} {i : Int32} {a : Nat} {u : Int64} (hf : fetch mi pc = some (.lastore, n, a1, b1, c1, w1)) : Ev mi (pc, L, .long u :: .int i :: .ref a :: st, z, h) Q = ob (jset h a i u) (fun v => Ev mi (pc + 1, L, st, z, v) Q) := by
  cases ho : jset h a i u with
  | none => exact ev_stuck hf (by simp [stepX, grp, exHeap, ho])
  | some v => exact ev_next hf (by simp [stepX, grp, exHeap, ho, nx])
theorem ev_aastore {n a1 b1 : Nat} {c1 : Int} {w1 : List Nat} {i : Int32} {a : Nat} {u : Nat} (hf : fetch mi pc = some (.aastore, n, a1, b1, c1, w1)) : Ev mi (pc, L, .ref u :: .int i :: .ref a :: st, z, h) Q = ob (rset h a i u) (fun v => Ev mi (pc + 1, L, st, z, v) Q) := by
  cases ho : rset h a i u with
  | none => exact ev_stuck hf (by simp [stepX, grp, exHeap, ho])
  | some v => exact ev_next hf (by simp [stepX, grp, exHeap, ho, nx])
theorem ev_arraylength {n a1 b1 : Nat} {c1 : Int} {w1 : List Nat} {a : Nat} (hf : fetch mi pc = some (.arraylength, n, a1, b1, c1, w1)) : Ev mi (pc, L, .ref a :: st, z, h) Q = ob (alen h a) (fun v => Ev mi (pc + 1, L, .int v :: st, z, h) Q) := by
  cases ho : alen h a with
  | none => exact ev_stuck hf (by simp [stepX, grp, exHeap, ho])
  | some v => exact ev_next hf (by simp [stepX, grp, exHeap, ho, nx])
theorem ev_tableswitch {n a1 b1 : Nat} {c1 : Int} {w1 : List Nat} {d lo hi : Int} {os : Array Int} {x : Int32} (hf : fetch mi pc = some (.tableswitch d lo hi os, n, a1, b1, c1, w1)) : Ev mi (pc, L, .int x :: st, z, h) Q = ob (swt lo hi w1 x) (fun v => Ev mi (v, L, st, z, h) Q) := by
  cases ho : swt lo hi w1 x with
  | none => exact ev_stuck hf (by simp [stepX, grp, exBranch, ho])
  | some v => exact ev_next hf (by simp [stepX, grp, exBranch, ho, nx])
theorem ev_arraycopy {n a1 i : Nat} {c1 : Int} {w1 : List Nat} {x0 x1 x3 : Int32} {x2 x4 : Nat} (hw : stW st ≤ 8) (hf : fetch mi pc = some (.invokestatic i, n, a1, 7, c1, w1)) : Ev mi (pc, L, .int x0 :: .int x1 :: .ref x2 :: .int x3 :: .ref x4 :: st, z, h) Q = ob (hcpy h x4 x3 x2 x1 x0) (fun v => Ev mi (pc + 3, L, st, z, v) Q) := by
  have hw' : Nat.ble (stW st) 8 = true := Nat.ble_eq_true_of_le hw
  cases ho : hcpy h x4 x3 x2 x1 x0 with
  | none => exact ev_stuck hf (by simp [stepX, grp, exCall, ho])
  | some v => exact ev_next hf (by simp [stepX, grp, exCall, ho, nx, hw'])
theorem ev_ckc (hf : fetch mi pc = some li) {mj pc' : Nat} {as : List Value} {L' : List (Option Value)} {st' : List Value} {b b1 b2 : Bool} (hs : stepX mi pc li L st z h = if (b1 && (b && b2)) = true then some (.inr (.inr (mj, as, (pc', L', st', z, h)))) else none) (h1 : b1 = true) (h2 : b2 = true) : Ev mi (pc, L, st, z, h) Q = if b = true then Ev mj (0, padL (nLo mj) as, [], z, h) (fun v z' h' => Ev mi (pc', L', pushr v st', z', h') Q) else False := by
  subst h1; subst h2
  cases b with
  | true => rw [if_pos rfl]; exact ev_call hf (hs.trans (if_pos rfl))
  | false => rw [if_neg (by decide)]; exact ev_stuck hf (hs.trans (if_neg (by decide)))
/-- a question's answer -/
def b2 (p : Prop) [Decidable p] : Int32 := if p then nI 1 else nI 0
theorem b2_0 (p : Prop) [Decidable p] : (b2 p = nI 0) = ¬ p := by
  unfold b2
  by_cases h : p
  · rw [if_pos h]; exact propext (Iff.intro (fun q => absurd q (by decide)) (fun q => absurd h q))
  · rw [if_neg h]; exact propext (Iff.intro (fun _ => h) (fun _ => rfl))
theorem b2_t {p : Prop} [Decidable p] (h : p) : b2 p = nI 1 := if_pos h
theorem b2_f {p : Prop} [Decidable p] (h : ¬ p) : b2 p = nI 0 := if_neg h
theorem b2_01 (p : Prop) [Decidable p] : b2 p = nI 0 ∨ b2 p = nI 1 := by
  by_cases h : p
  · exact Or.inr (b2_t h)
  · exact Or.inl (b2_f h)
theorem ret01 {x : Int32} (hx : x = nI 0 ∨ x = nI 1) : (Nat.beq 1 0 || (x == 0 || x == 1)) = true := by
  rcases hx with rfl | rfl <;> rfl
theorem ev_br {P : Prop} (dP : Decidable P) (hf : fetch mi pc = some li) {b : Bool} {f1 f2 : Fm} (hs : stepX mi pc li L st z h = if b = true then some (.inl f1) else some (.inl f2)) (hP : b = true ↔ P) : Ev mi (pc, L, st, z, h) Q = if P then Ev mi f1 Q else Ev mi f2 Q := by
  by_cases hp : P
  · rw [if_pos hp]; exact ev_next hf (hs.trans (if_pos (hP.mpr hp)))
  · rw [if_neg hp]; exact ev_next hf (hs.trans (if_neg (fun q => hp (hP.mp q))))
theorem ev_brn {P : Prop} (dP : Decidable P) (hf : fetch mi pc = some li) {b : Bool} {f1 f2 : Fm} (hs : stepX mi pc li L st z h = if b = true then some (.inl f1) else some (.inl f2)) (hP : b = true ↔ ¬ P) : Ev mi (pc, L, st, z, h) Q = if P then Ev mi f2 Q else Ev mi f1 Q := by
  by_cases hp : P
  · rw [if_pos hp]; exact ev_next hf (hs.trans (if_neg (fun q => hP.mp q hp)))
  · rw [if_neg hp]; exact ev_next hf (hs.trans (if_pos (hP.mpr hp)))
variable {x y : Int32} {f1 f2 : Fm}
theorem ev_beq (hf : fetch mi pc = some li) (hs : stepX mi pc li L st z h = if cmpI .eq x y = true then some (.inl f1) else some (.inl f2)) : Ev mi (pc, L, st, z, h) Q = if x = y then Ev mi f1 Q else Ev mi f2 Q := ev_br _ hf hs decide_eq_true_iff
theorem ev_bne (hf : fetch mi pc = some li) (hs : stepX mi pc li L st z h = if cmpI .ne x y = true then some (.inl f1) else some (.inl f2)) : Ev mi (pc, L, st, z, h) Q = if x = y then Ev mi f2 Q else Ev mi f1 Q := ev_brn _ hf hs decide_eq_true_iff
theorem ev_blt (hf : fetch mi pc = some li) (hs : stepX mi pc li L st z h = if cmpI .lt x y = true then some (.inl f1) else some (.inl f2)) : Ev mi (pc, L, st, z, h) Q = if x < y then Ev mi f1 Q else Ev mi f2 Q := ev_br _ hf hs decide_eq_true_iff
theorem ev_bge (hf : fetch mi pc = some li) (hs : stepX mi pc li L st z h = if cmpI .ge x y = true then some (.inl f1) else some (.inl f2)) : Ev mi (pc, L, st, z, h) Q = if x < y then Ev mi f2 Q else Ev mi f1 Q := ev_brn _ hf hs (decide_eq_true_iff.trans Int32.not_lt.symm)
theorem ev_bgt (hf : fetch mi pc = some li) (hs : stepX mi pc li L st z h = if cmpI .gt x y = true then some (.inl f1) else some (.inl f2)) : Ev mi (pc, L, st, z, h) Q = if y < x then Ev mi f1 Q else Ev mi f2 Q := ev_br _ hf hs decide_eq_true_iff
theorem ev_ble (hf : fetch mi pc = some li) (hs : stepX mi pc li L st z h = if cmpI .le x y = true then some (.inl f1) else some (.inl f2)) : Ev mi (pc, L, st, z, h) Q = if y < x then Ev mi f2 Q else Ev mi f1 Q := ev_brn _ hf hs (decide_eq_true_iff.trans Int32.not_lt.symm)
end EVB
