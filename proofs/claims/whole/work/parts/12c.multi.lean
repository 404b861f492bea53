/-! an array of two arrays, made by one instruction -/
section MULTI
variable {p : Program} {l : Launch} {e : Env} {R : Room} {s : State} {m : MethodId} {args : Array Value} {below : List Frame} {meth : Method} {c : Code} {H : Heap} {locs : List Loc} {cells slots : Nat} {Q : State → Prop}
/-- outer and inner cell, and the heap's way from the one before: the outer, then each inner and its place -/
def m2O (cA : ClassId) : Cell := { cls := cA, slots := Array.replicate 2 .null, vm := .none }
def m2I (cI : ClassId) (M : Nat) : Cell := { cls := cI, slots := Array.replicate M (.int 0), vm := .none }
def m2P (cA : ClassId) (a : Nat) : Cell := (m2O cA).setSlot 0 (.ref (a + 1))
def m2R (cA : ClassId) (a : Nat) : Cell := (m2P cA a).setSlot 1 (.ref (a + 2))
def m2T (T : State) (cA cI : ClassId) (M : Nat) : State := ((T.pushCell (m2O cA)).pushCell (m2I cI M)).setCell T.heap.size (m2P cA T.heap.size)
def m2S (T : State) (cA cI : ClassId) (M : Nat) : State := ((m2T T cA cI M).pushCell (m2I cI M)).setCell T.heap.size (m2R cA T.heap.size)
theorem m2_top (T : State) (f : JFrame) (cA cI : ClassId) (M : Nat) : m2S (T.setTop f) cA cI M = (m2S T cA cI M).setTop f := rfl
theorem m2_h1 (T : State) (cA cI : ClassId) (M : Nat) : ((T.pushCell (m2O cA)).pushCell (m2I cI M)).heap.size = T.heap.size + 2 ∧ ((T.pushCell (m2O cA)).pushCell (m2I cI M)).heap[T.heap.size]? = some (m2O cA) ∧ ((T.pushCell (m2O cA)).pushCell (m2I cI M)).heap[T.heap.size + 1]? = some (m2I cI M) := by
  have z1 : (T.pushCell (m2O cA)).heap.size = T.heap.size + 1 := by simp
  refine ⟨by simp, ?_, ?_⟩
  · have lt : T.heap.size < (T.pushCell (m2O cA)).heap.size := by omega
    exact (State.heap_pushCell_of_lt _ _ lt).trans (State.heap_pushCell_size _ _)
  · rw [← z1]
    exact State.heap_pushCell_size _ _
theorem m2_h2 (T : State) (cA cI : ClassId) (M : Nat) : (m2T T cA cI M).heap.size = T.heap.size + 2 ∧ (m2T T cA cI M).heap[T.heap.size]? = some (m2P cA T.heap.size) ∧ (m2T T cA cI M).heap[T.heap.size + 1]? = some (m2I cI M) := by
  obtain ⟨a, b, d⟩ := m2_h1 T cA cI M
  refine ⟨by unfold m2T; rw [← a]; simp [State.setCell], State.heap_setCell_self b, ?_⟩
  unfold m2T
  rw [State.heap_setCell_other (show T.heap.size ≠ T.heap.size + 1 by omega)]
  exact d
theorem m2_h3 (T : State) (cA cI : ClassId) (M : Nat) : ((m2T T cA cI M).pushCell (m2I cI M)).heap.size = T.heap.size + 3 ∧ ((m2T T cA cI M).pushCell (m2I cI M)).heap[T.heap.size]? = some (m2P cA T.heap.size) ∧ ((m2T T cA cI M).pushCell (m2I cI M)).heap[T.heap.size + 1]? = some (m2I cI M) ∧ ((m2T T cA cI M).pushCell (m2I cI M)).heap[T.heap.size + 2]? = some (m2I cI M) := by
  obtain ⟨a, b, d⟩ := m2_h2 T cA cI M
  refine ⟨?_, ?_, ?_, ?_⟩
  · have : ((m2T T cA cI M).pushCell (m2I cI M)).heap.size = (m2T T cA cI M).heap.size + 1 := by simp
    omega
  · have lt : T.heap.size < (m2T T cA cI M).heap.size := by omega
    exact (State.heap_pushCell_of_lt _ _ lt).trans b
  · have lt : T.heap.size + 1 < (m2T T cA cI M).heap.size := by omega
    exact (State.heap_pushCell_of_lt _ _ lt).trans d
  · rw [← a]
    exact State.heap_pushCell_size _ _
theorem m2_h4 (T : State) (cA cI : ClassId) (M : Nat) : (m2S T cA cI M).heap.size = T.heap.size + 3 ∧ (m2S T cA cI M).heap[T.heap.size]? = some (m2R cA T.heap.size) ∧ (m2S T cA cI M).heap[T.heap.size + 1]? = some (m2I cI M) ∧ (m2S T cA cI M).heap[T.heap.size + 2]? = some (m2I cI M) ∧ ∀ q, q < T.heap.size → (m2S T cA cI M).heap[q]? = T.heap[q]? := by
  obtain ⟨a, b, d, f⟩ := m2_h3 T cA cI M
  refine ⟨by unfold m2S; rw [← a]; simp [State.setCell], State.heap_setCell_self b, ?_, ?_, fun q hq => ?_⟩
  · unfold m2S
    rw [State.heap_setCell_other (show T.heap.size ≠ T.heap.size + 1 by omega)]
    exact d
  · unfold m2S
    rw [State.heap_setCell_other (show T.heap.size ≠ T.heap.size + 2 by omega)]
    exact f
  · have z2 := (m2_h2 T cA cI M).1
    have z1 : (T.pushCell (m2O cA)).heap.size = T.heap.size + 1 := by simp
    have s1 : (m2S T cA cI M).heap[q]? = ((m2T T cA cI M).pushCell (m2I cI M)).heap[q]? := State.heap_setCell_other (show T.heap.size ≠ q by omega)
    have s2 : (m2T T cA cI M).heap[q]? = ((T.pushCell (m2O cA)).pushCell (m2I cI M)).heap[q]? := State.heap_setCell_other (show T.heap.size ≠ q by omega)
    rw [s1]
    have lt2 : q < (m2T T cA cI M).heap.size := by omega
    have lt1 : q < (T.pushCell (m2O cA)).heap.size := by omega
    exact (State.heap_pushCell_of_lt _ _ lt2).trans (s2.trans ((State.heap_pushCell_of_lt _ _ lt1).trans (State.heap_pushCell_of_lt _ _ hq)))
theorem m2_in {E : CtlPost} {d : Bool} {acts : List Action} {u : State} {cI cc : ClassId} {kI : Class} {n : Int32} (hI : u.vm.classes[cI]? = some kI) (hkI : kI.kind = .array cc .int) (hn : ¬ n < 0) (l2 : ¬ n.toNatClampNeg > e.platform.arrayLengthLimit) (b2 : ¬ n.toNatClampNeg * componentBytes .int > e.platform.maxHeapBytes) (h1 : u.heap.size < e.platform.maxCells) (h2 : u.slotsUsed + n.toNatClampNeg ≤ e.platform.maxSlots) {K : Addr → Pre} (hq : ∀ acts', K u.heap.size d acts' (u.pushCell (m2I cI n.toNatClampNeg))) : wp (multianewarray.make cI [n]) K E e d acts u := by
  rw [multianewarray.make]
  simp only [wp_bind', W.ite, hn, if_false, wp_pure', W.theClass, hI, hkI, Option.some.injEq, exists_eq_left']
  exact W.newArray_of hI hkI l2 b2 h1 h2 rfl hq
theorem m2_wp {E : CtlPost} {d : Bool} {acts : List Action} {u : State} {cA cI cc : ClassId} {kA kI : Class} {n : Int32} (hA : u.vm.classes[cA]? = some kA) (hkA : kA.kind = .array cI (.array .int)) (hI : u.vm.classes[cI]? = some kI) (hkI : kI.kind = .array cc .int) (hn : ¬ n < 0) (l1 : ¬ 2 > e.platform.arrayLengthLimit) (b1 : ¬ 2 * componentBytes (.array .int) > e.platform.maxHeapBytes) (l2 : ¬ n.toNatClampNeg > e.platform.arrayLengthLimit) (b2 : ¬ n.toNatClampNeg * componentBytes .int > e.platform.maxHeapBytes) (hc : u.heap.size + 3 ≤ e.platform.maxCells) (hs : u.slotsUsed + (2 + (n.toNatClampNeg + n.toNatClampNeg)) ≤ e.platform.maxSlots) {K : Addr → Pre} (hq : ∀ d' acts', K u.heap.size d' acts' (m2S u cA cI n.toNatClampNeg)) : wp (multianewarray.make cA [2, n]) K E e d acts u := by
  have t2 : (2 : Int32).toNatClampNeg = 2 := by decide
  have n2 : ¬ (2 : Int32) < 0 := by decide
  have q2 : ((2 : Int32) == 0) = false := by decide
  rw [multianewarray.make]
  simp only [wp_bind', W.ite, n2, if_false, wp_pure', W.theClass, hA, hkA, Option.some.injEq, exists_eq_left', t2, q2, Bool.false_eq_true]
  refine W.newArray_of hA hkA l1 b1 (by omega) (by omega) rfl (fun acts1 => ?_)
  have z1 : (u.pushCell (m2O cA)).heap.size = u.heap.size + 1 := by simp
  have y1 : (u.pushCell (m2O cA)).slotsUsed = u.slotsUsed + 2 := by simp [m2O]
  obtain ⟨a1, a2, -⟩ := m2_h1 u cA cI n.toNatClampNeg
  obtain ⟨c1, c2, -⟩ := m2_h2 u cA cI n.toNatClampNeg
  obtain ⟨d1, d2, -⟩ := m2_h3 u cA cI n.toNatClampNeg
  have y2 : (m2T u cA cI n.toNatClampNeg).slotsUsed = u.slotsUsed + 2 + n.toNatClampNeg := by simp [m2T, m2O, m2I]
  have sz : ([:2] : Std.Legacy.Range).size = 2 := rfl
  rw [wp_bind', Std.Legacy.Range.forIn_eq_forIn_range', sz]
  show wp (forIn [0, 1] PUnit.unit _) _ E e d acts1 (u.pushCell (m2O cA))
  simp only [List.forIn_cons, List.forIn_nil, wp_bind']
  refine m2_in (u := u.pushCell (m2O cA)) hI hkI hn l2 b2 (by omega) (by omega) (fun acts2 => ?_)
  simp only [W.writeLoc, wp_pure', wp_bind']
  rw [z1]
  refine ⟨m2O cA, a2, by simp [m2O], by simp [m2O], ?_, ?_⟩
  · simp [State.fitsSlot, State.slotType?, m2O, hA, hkA, fits]
  show wp (multianewarray.make cI [n]) _ E e true _ (m2T u cA cI n.toNatClampNeg)
  refine m2_in (u := m2T u cA cI n.toNatClampNeg) hI hkI hn l2 b2 (by omega) (by omega) (fun acts3 => ?_)
  simp only [W.writeLoc, wp_pure', wp_bind']
  rw [c1]
  refine ⟨m2P cA u.heap.size, d2, by simp [m2P, m2O, Cell.setSlot], by simp [m2P, m2O, Cell.setSlot], ?_, ?_⟩
  · simp [State.fitsSlot, State.slotType?, m2P, m2O, m2T, Cell.setSlot, hA, hkA, fits]
  exact hq _ _
theorem m2_stand {T : State} (X : Stand p l e R s m args below meth c T locs cells slots) (cA cI : ClassId) (M : Nat) : Stand p l e R s m args below meth c (m2S T cA cI M) (locs ++ [⟨T.heap.size, 0⟩] ++ [⟨T.heap.size, 1⟩]) (cells + 3) (slots + (2 + (M + M))) := by
  have X5 := (((((X.pushed (m2O cA)).pushed (m2I cI M)).stored (m2_h1 T cA cI M).2.1 0 (.ref (T.heap.size + 1))).pushed (m2I cI M)).stored (cell := m2P cA T.heap.size) (m2_h3 T cA cI M).2.1 1 (.ref (T.heap.size + 2)))
  have e1 : (m2O cA).slots.size = 2 := by simp [m2O]
  have e2 : (m2I cI M).slots.size = M := by simp [m2I]
  rw [e1, e2, show slots + 2 + M + M = slots + (2 + (M + M)) by omega] at X5
  exact X5
set_option maxHeartbeats 2000000 in
theorem W_multi {cc : ByteArray} (hexec : p.tables.exec = Jvm.exec) (hb : c.code = cc) {own : String} {index : Nat} (hown : s.vm.findClass own = some m.cls) (hclink : (Cond.classLink own index "[[I").before args s = true) {cA cI cz : ClassId} {kA kI : Class} (hfA : s.vm.findClass "[[I" = some cA) (hA : s.vm.classes[cA]? = some kA) (hkA : kA.kind = .array cI (.array .int)) (hI : s.vm.classes[cI]? = some kI) (hkI : kI.kind = .array cz .int)
    {g : JFrame} (hg : g.method = m) (hdg : decode cc g.pc = .ok (.multianewarray index 2, 4)) {n : Int32} {rest : List Value} (hstack : g.stack = .int n :: .int 2 :: rest) (hn : ¬ n < 0) (hn2 : n.toNatClampNeg ≤ 65536) (hcells : cells + 3 ≤ R.cells) (hslots : slots + (2 + (n.toNatClampNeg + n.toNatClampNeg)) ≤ R.slots)
    (kk : ∀ H1 : Heap, H1.size = H.size + 3 → H1[H.size]? = some (m2R cA H.size) → H1[H.size + 1]? = some (m2I cI n.toNatClampNeg) → H1[H.size + 2]? = some (m2I cI n.toNatClampNeg) → (∀ q, q < H.size → H1[q]? = H[q]?) →
      W p l e R s m args below meth c H1 (locs ++ [⟨H.size, 0⟩] ++ [⟨H.size, 1⟩]) (cells + 3) (slots + (2 + (n.toNatClampNeg + n.toNatClampNeg))) Q { g with pc := g.pc + 4, stack := .ref H.size :: rest }) : W p l e R s m args below meth c H locs cells slots Q g := by
  intro T hT X
  subst hT; subst hb; subst hg
  have hpl : e.platform.magicAccessors = ({} : Platform).magicAccessors := by rw [X.admits.platform]
  obtain ⟨c0, hfc0, hcl⟩ := Cond.classLink_spec hown hclink e.platform hpl
  cases hfA.symm.trans hfc0
  obtain ⟨hg₁, hwarm₁, hready₁⟩ := State.classEntry (e := e) X.warmed hcl
  generalize T.vm.noted g.method.cls index (.cls cA) = v1 at hg₁ hwarm₁ hready₁
  have hal : s.vm.Alike v1 := hwarm₁.alike
  obtain ⟨kA₁, hkA₁, heA⟩ := hal.2.2 _ _ hA
  obtain ⟨kI₁, hkI₁, heI⟩ := hal.2.2 _ _ hI
  have hkindA : kA₁.kind = .array cI (.array .int) := by rw [heA]; exact hkA
  have hkindI : kI₁.kind = .array cz .int := by rw [heI]; exact hkI
  have X1 := X.noted hwarm₁
  have X2 := m2_stand X1 cA cI n.toNatClampNeg
  obtain ⟨f1, f2, f3, f4, f5⟩ := m2_h4 (T.setVm v1) cA cI n.toNatClampNeg
  obtain ⟨hr1, hr2⟩ := X.roomAbove hcells hslots
  obtain ⟨t', a1, b1⟩ := kk _ f1 f2 f3 f4 f5 (m2S (T.setVm v1) cA cI n.toNatClampNeg) rfl X2
  have l1 : ¬ 2 > e.platform.arrayLengthLimit := by rw [Launch.admits_arrayLengthLimit X.admits]; omega
  have b1' : ¬ 2 * componentBytes (.array .int) > e.platform.maxHeapBytes := by rw [Launch.admits_maxHeapBytes X.admits]; show ¬ 2 * 4 > 536870912; omega
  have l2 : ¬ n.toNatClampNeg > e.platform.arrayLengthLimit := by rw [Launch.admits_arrayLengthLimit X.admits]; omega
  have b2' : ¬ n.toNatClampNeg * componentBytes .int > e.platform.maxHeapBytes := by rw [Launch.admits_maxHeapBytes X.admits]; show ¬ n.toNatClampNeg * 4 > 536870912; omega
  refine ⟨t', ?_, b1⟩
  jvm_step X.here [hexec, hdg]
  simp only [multianewarray.sem, wp_bind', W.resolveClassAt_links (State.method?_setTop g X.here.top) hg₁]
  rw [W.popN, if_neg (by decide)]
  refine ⟨g, State.topJava?_setTop' (s := T.setVm v1) g X.here.top, [.int 2, .int n], rest, rfl, hstack, ?_⟩
  simp only [List.mapM_cons, List.mapM_nil, wp_bind', wp_pure']
  have eS : ((T.setTop g).setVm v1).setTop { g with stack := rest } = (T.setVm v1).setTop { g with stack := rest } := by
    show ((T.setVm v1).setTop g).setTop _ = _
    rw [State.setTop_setTop]
  refine m2_wp (kA := kA₁) (kI := kI₁) (cI := cI) (cc := cz) hkA₁ hkindA hkI₁ hkindI hn l1 b1' l2 b2' (by show T.heap.size + 3 ≤ _; omega) (by show T.slotsUsed + _ ≤ _; omega) (fun d2 acts2 => ?_)
  rw [eS, m2_top]
  simp only [wp_bind', W.mark, W.pushRef, State.topJava?_setTop' _ X2.here.top, Option.some.injEq, exists_eq_left', State.setTop_setTop, State.heap_setTop]
  intro acts3
  simp [jvm, X2.here.top]
  exact a1
end MULTI
theorem m2R_cell (cA : ClassId) (a : Nat) (f : Nat → Option Nat) (h0 : f 0 = some (a + 1)) (h1 : f 1 = some (a + 2)) : m2R cA a = arrV cA 2 (fun j => va_rf (f j)) := by
  unfold m2R m2P m2O arrV
  simp only [Cell.setSlot]
  congr 1
  apply Array.ext
  · simp
  · intro i q1 q2
    have hi : i = 0 ∨ i = 1 := by
      simp at q2
      omega
    rcases hi with rfl | rfl
    · simp [h0, va_rf]
    · simp [h1, va_rf]
section MULTI2
variable {p : Program} {l : Launch} {e : Env} {R : Room} {s : State} {m : MethodId} {args : Array Value} {below : List Frame} {meth : Method} {c : Code} {Q : State → Prop} {G : Gm} {sc : List Int32} {z0 : Zc} {mi pc : Nat} {L : List (Option Value)} {st : List Value} {z : Zc} {h : Hp} {g : Fm}
theorem va_S.more {A : Nat → Prop} {H0 H : Heap} {locs : List Loc} (hS : va_S A H0 H locs) {a : Nat} (ha : A a) : va_S A H0 H (locs ++ [⟨a, 0⟩] ++ [⟨a, 1⟩]) := by
  obtain ⟨s1, s2, s3⟩ := hS
  refine ⟨s1, s2, fun q hq => ?_⟩
  rcases List.mem_append.mp hq with hq | hq
  · rcases List.mem_append.mp hq with hq | hq
    · exact s3 q hq
    · rw [List.mem_singleton.mp hq]; exact ha
  · rw [List.mem_singleton.mp hq]; exact ha
set_option maxHeartbeats 4000000 in
theorem snd_multi {idx d len a b : Nat} {cc : Int} {ws : List Nat} (C0 : CX p R s m args meth c G sc z0 mi) (hok : okI mi pc (.multianewarray idx d, len, a, b, cc, ws) = true) (hs : exMake mi pc (.multianewarray idx d, len, a, b, cc, ws) L st z h = some (.inl g)) (hc1 : g.2.2.2.1.1 - z0.1 ≤ R.cells) (hc2 : g.2.2.2.1.2 - z0.2 ≤ R.slots) (kk : WS p l e R s m args below meth c Q G sc z0 mi g) : WS p l e R s m args below meth c Q G sc z0 mi (pc, L, st, z, h) := by
  obtain ⟨hx, hb, hml, hown, hts, hK, hX, hbl, hbs, hnm, hrf, hrl⟩ := C0
  obtain ⟨hd0, hlen, hw⟩ := okI_dec hok
  have hd : decode (mm mi).2.1 pc = .ok (.multianewarray idx d, 4) := dec_at hd0 hlen
  cases st with
  | nil => simp [exMake] at hs
  | cons v st =>
    cases st with
    | nil => cases v <;> simp [exMake] at hs
    | cons w st =>
      cases v with
      | int n =>
        cases w with
        | int k =>
          simp only [exMake] at hs
          split at hs
          · rename_i hdk
            rw [Bool.and_eq_true] at hdk
            have hd2 : d = 2 := Nat.eq_of_beq_eq_true hdk.1
            have hk2 : k = 2 := of_decide_eq_true hdk.2
            subst hd2 hk2
            split at hs
            · cases hs
            · rename_i hn
              split at hs
              · rename_i hn2
                have eg := nx_inj hs
                subst eg
                dsimp only at hc1 hc2
                intro ls H locs hL hR hS h1 h2
                dsimp only at hL hR h1 h2 ⊢
                have hsz1 := Rl.size hR (by have := hS.1; omega)
                obtain ⟨h0, hp, hpl, hph, hP⟩ := hR
                refine W_sz fun hsz2 => ?_
                have hsz : H.size = G.2.1.1 + z.1 := by omega
                match ws, hw with
                | [], hw => cases hw
                | _ :: _ :: _, hw => cases hw
                | [w1], hw =>
                  obtain ⟨comp, cQ, kQ, g1, -, g3, g4, g5⟩ := AOi_spec hK.2.2.2
                  have hRI := hK.1.2 0 _ rfl
                  have hRQ := (hK.1.2 4 _ rfl).2
                  obtain ⟨-, kI, i2, cz, i3⟩ := hRI.1 0 (fun _ => .null)
                  have eI : G.2.2.1 = comp := Option.some.inj (Eq.trans (Eq.symm hRI.2) g1)
                  have eQ : G.2.2.2.2.2.2 = cQ := Option.some.inj (Eq.trans (Eq.symm hRQ) g5)
                  refine W_multi (cA := cQ) (cI := comp) (cz := cz) (kA := kQ) (kI := kI) hx hb hown (hts _ (wgt_mem hw)) g5 g3 g4 (by rw [← eI]; exact i2) i3 rfl hd rfl hn hn2 (by omega) (by omega) fun H1 z1 e1 e2 e3 o1 => ?_
                  have hk : ∀ (k : Nat) (x : Nat × va_E), (wsF G 0 hp)[k]? = some x → H1[x.1]? = H[x.1]? := fun k x hx => o1 x.1 ((hP k x hx).lt)
                  have inn : ∀ j, H1[j]? = some (m2I comp n.toNatClampNeg) → va_at G.1 classes (j, cE G (.inr (.inl (false, List.replicate n.toNatClampNeg 0)))) H1 := fun j hj => by
                    show H1[_]? = some (vp_cell _ _)
                    simp only [Bool.false_eq_true, if_false, List.length_replicate, repl_i, eI]
                    rw [vp_cell_i]
                    refine hj.trans (congrArg some ?_)
                    exact arrV_new _ _ _
                  have out : va_at G.1 classes (G.2.1.1 + z.1, cE G (.inr (.inr (.inr (1, [some (z.1 + 2), some (z.1 + 3)]))))) H1 := by
                    show H1[_]? = some (vp_cell _ _)
                    rw [vp_cell_q, ← hsz]
                    refine e1.trans (congrArg some ?_)
                    simp only [show ((1 : Nat) = 0) = False from eq_false (by decide), if_false, eQ]
                    refine m2R_cell cQ H.size _ ?_ ?_
                    · rw [hsz]; rfl
                    · rw [hsz]; rfl
                  have R1 := Rl.push (G := G) (sc := sc) (z' := (z.1 + 1, 0)) h0 hpl hph rfl (hP.kept hk) out
                  obtain ⟨h01, hp1, hpl1, hph1, hP1⟩ := R1
                  have R2 := Rl.push (G := G) (sc := sc) (z' := (z.1 + 2, 0)) h01 hpl1 hph1 rfl hP1 (inn _ (by rw [← e2, hsz]; rfl))
                  obtain ⟨h02, hp2, hpl2, hph2, hP2⟩ := R2
                  have R3 := Rl.push (G := G) (sc := sc) (z' := (z.1 + 3, z.2 + (2 + (n.toNatClampNeg + n.toNatClampNeg)))) h02 hpl2 hph2 rfl hP2 (inn _ (by rw [← e3, hsz]; rfl))
                  have kk' : W p l e R s m args below meth c H1 (locs ++ [⟨H.size, 0⟩] ++ [⟨H.size, 1⟩]) (z.1 + 3 - z0.1) (z.2 + (2 + (n.toNatClampNeg + n.toNatClampNeg)) - z0.2) Q (F0 m (pc + 4) ls (.ref (cR G (z.1 + 1)) :: st.map (cV G))) := kk ls H1 _ hL R3 ((hS.grown rfl (by omega) o1).more (a := H.size) (by show G.2.1.1 ≤ H.size; omega)) (by dsimp only; omega) (by dsimp only; omega)
                  have e5 : cR G (z.1 + 1) = H.size := hsz.symm
                  rw [e5, show z.1 + 3 - z0.1 = z.1 - z0.1 + 3 by omega, show z.2 + (2 + (n.toNatClampNeg + n.toNatClampNeg)) - z0.2 = z.2 - z0.2 + (2 + (n.toNatClampNeg + n.toNatClampNeg)) by omega] at kk'
                  exact kk'
              · cases hs
          · cases hs
        | _ => simp [exMake] at hs
      | _ => simp [exMake] at hs
end MULTI2
