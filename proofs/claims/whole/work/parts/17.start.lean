/-! from the law's entry to the small machine -/
def heap0 (sc : List Int32) : Hp := fun j => if j = 0 then some (.inr (.inl (false, sc))) else none
def R_law : String := "SheepAndStonesLaw"
def lw_P (b : Addr) (xs : List Int32) (args : Array Value) (s : State) : Prop := args = #[.ref b] ∧ s.IntsAt b xs ∧ xs.length ≤ 384 ∧ (Jvm.Cond.and given_1 narrow_1).before args s = true
def lw_Q (_ : Array Value) (s : State) (o : Outcome) (t : State) : Prop := o = .returned (some (.int 1)) ∧ Framed s o t [] 600000 7302250
def lw_Z (below : List Frame) (a : Array Value) (s : State) : State → Prop := fun t => ∃ o, t.status = .running ∧ Ended t below o ∧ lw_Q a s o t
/-- the law's own end, with 1 on the stack, nothing written that was there before, its room as the claim has it -/
theorem lw_ret {p : Program} {l : Launch} {e : Env} {s : State} {m : MethodId} {below : List Frame} {meth : Method} {c : Code} {b : Nat} (hx : p.tables.exec = Jvm.exec) (hb : c.code = code) (hr : meth.sig.returnType = ret) (hlocks : meth.locks = false) {pc : Nat} {H : Heap} {ls : Array Slot} (hdg : decode code pc = .ok (.ireturn, 1)) : W p l e room_1 s m #[Value.ref b] below meth c H [] 600000 7302250 (lw_Z below #[Value.ref b] s) (F0 m pc ls [.int 1]) := by
  intro T hT X
  obtain ⟨fs, hret, hrun, hended, hW, hframe⟩ := X.leave (v := some (.int 1)) (hlocks := hlocks) (fun h => by rw [hr] at h; cases h)
  have hmeth' : T.vm.method? m = some meth := X.method'
  refine ⟨T.setFrames fs, ?_, .returned (some (.int 1)), hrun, hended, rfl, ⟨_, rfl⟩, hW, hframe⟩
  jvm_step X.here [X.here.top, hx, hb, hdg, hmeth', hr, ret, narrow_b1]
  (try refine ⟨rfl, ?_⟩); (try refine ⟨rfl, ?_⟩)
  first | (intro acts; rw [hret _ acts rfl rfl rfl]) | rw [hret _ _ rfl rfl rfl]
  exact Steps.refl _
/-- what holds at the law's entry: the machine, the code, the tables' words (any of lw_tbl by 'hts w (by decide +kernel)'), the script of L ints xs at the cell b, what the Statement gives of the start (any of its parts by flat_of_before) -/
def lw_At (p : Program) (s : State) (m : MethodId) (meth : Method) (c : Code) (b L : Nat) (xs : Nat → Int32) : Prop :=
  p.tables.exec = Jvm.exec ∧ c.code = code ∧ meth.sig.returnType = ret ∧ c.maxLocals = 4 ∧ s.vm.findClass R_law = some m.cls ∧ (∀ w ∈ lw_tbl, w.before #[Value.ref b] s = true) ∧ va_X b L xs s s.heap ∧ b < s.heap.size ∧ meth.locks = false ∧ (Jvm.Cond.and given_1 narrow_1).before #[Value.ref b] s = true
theorem tbl_int : (Jvm.Cond.arrayClass .int) ∈ lw_tbl := by decide +kernel
theorem tbl_bool : (Jvm.Cond.arrayClass .boolean) ∈ lw_tbl := by decide +kernel
theorem tbl_long : (Jvm.Cond.arrayClass .long) ∈ lw_tbl := by decide +kernel
theorem tbl_wall : (Jvm.Cond.arrayOver (.object "SheepAndStones$Wall")) ∈ lw_tbl := by decide +kernel
theorem tbl_ints : (Jvm.Cond.arrayOver (.array .int)) ∈ lw_tbl := by decide +kernel
def insOK (ci : Nat) : Bool := decide (Jvm.Cond.instantiable (cnm ci) (cN ci) ∈ lw_tbl)
theorem ins0 : insOK 0 = true := by decide +kernel
theorem ins1 : insOK 1 = true := by decide +kernel
theorem ins2 : insOK 2 = true := by decide +kernel
theorem ins3 : insOK 3 = true := by decide +kernel
theorem ins4 : insOK 4 = true := by decide +kernel
theorem ins5 : insOK 5 = true := by decide +kernel
theorem ins6 : insOK 6 = true := by decide +kernel
theorem ins7 : insOK 7 = true := by decide +kernel
theorem ins8 : insOK 8 = true := by decide +kernel
theorem known_all {b : Nat} {s : State} (hts : ∀ w ∈ lw_tbl, w.before #[Value.ref b] s = true) : ∃ D : va_G, ∀ (k : Nat) (q : vw_C), classes[k]? = some q → u_Kn s q.1 q.2.1 q.2.2 (D.1 k) (D.2 k) := by
  have one : ∀ ci, ci < 9 → ∃ (c : ClassId) (iS : Nat → Nat), u_Kn s (cnm ci) (cT ci) (cN ci) c iS := fun ci hci =>
    u_known (C := cnm ci) (T := cT ci) (N := cN ci) (n := cN ci) hts (fun w hw => (List.mem_filter.mp (uw_all hci w hw)).1) (hts _ (of_decide_eq_true (nine (P := fun ci => insOK ci = true) ins0 ins1 ins2 ins3 ins4 ins5 ins6 ins7 ins8 hci)))
  obtain ⟨c0, i0, h0⟩ := one 0 (by decide)
  obtain ⟨c1, i1, h1⟩ := one 1 (by decide)
  obtain ⟨c2, i2, h2⟩ := one 2 (by decide)
  obtain ⟨c3, i3, h3⟩ := one 3 (by decide)
  obtain ⟨c4, i4, h4⟩ := one 4 (by decide)
  obtain ⟨c5, i5, h5⟩ := one 5 (by decide)
  obtain ⟨c6, i6, h6⟩ := one 6 (by decide)
  obtain ⟨c7, i7, h7⟩ := one 7 (by decide)
  obtain ⟨c8, i8, h8⟩ := one 8 (by decide)
  refine ⟨(fun k => [c0, c1, c2, c3, c4, c5, c6, c7, c8].getD k 0, fun k => [i0, i1, i2, i3, i4, i5, i6, i7, i8].getD k (fun _ => 0)), fun k q hq => ?_⟩
  have hk : k < 9 := (List.getElem?_eq_some_iff.mp hq).1
  rw [classes_at hk] at hq
  cases hq
  exact nine (P := fun k => u_Kn s (cnm k) (cT k) (cN k) ([c0, c1, c2, c3, c4, c5, c6, c7, c8].getD k 0) ([i0, i1, i2, i3, i4, i5, i6, i7, i8].getD k (fun _ => 0))) h0 h1 h2 h3 h4 h5 h6 h7 h8 hk
theorem prim_arr {b : Nat} {s : State} {ty : FieldType} (h : (Jvm.Cond.arrayClass ty).before #[Value.ref b] s = true) : ∃ cA : ClassId, ArrOfT s cA ty ∧ s.vm.findClass ("[" ++ ty.toString) = some cA := by
  obtain ⟨cA, kA, comp, h1, h2, h3⟩ := Jvm.Cond.arrayClass_spec h
  exact ⟨cA, fun n z => ⟨fun k q => (by cases q), kA, h2, comp, h3⟩, h1⟩
theorem KK_start {b : Nat} {s : State} (hts : ∀ w ∈ lw_tbl, w.before #[Value.ref b] s = true) : ∃ G : Gm, G.2.1 = (s.heap.size, b) ∧ KK G s := by
  obtain ⟨D, hD⟩ := known_all hts
  obtain ⟨cI, a1, a2⟩ := prim_arr (hts _ tbl_int)
  obtain ⟨cZ, b1, b2⟩ := prim_arr (hts _ tbl_bool)
  obtain ⟨cL, d1, d2⟩ := prim_arr (hts _ tbl_long)
  have hAO : va_AO "SheepAndStones$Wall" s := va_AO.of (hts _ tbl_wall)
  have hAi : va_AOi s := by
    have := hts _ tbl_ints
    exact this
  obtain ⟨comp, cW, kW, f1, f2, f3, f4, f5⟩ := Jvm.Cond.arrayOver_spec hAO
  obtain ⟨comp2, cQ, kQ, g1, g2, g3, g4, g5⟩ := AOi_spec hAi
  refine ⟨(D, (s.heap.size, b), (cI, cZ, cL, cW, cQ)), rfl, ⟨hD, fun k q hq => ?_⟩, fun w hw hn => ?_, hAO, hAi⟩
  · have hk : k < 5 := (List.getElem?_eq_some_iff.mp hq).1
    have h5 : k = 0 ∨ k = 1 ∨ k = 2 ∨ k = 3 ∨ k = 4 := by omega
    rcases h5 with rfl | rfl | rfl | rfl | rfl
    · cases hq; exact ⟨a1, a2⟩
    · cases hq; exact ⟨b1, b2⟩
    · cases hq; exact ⟨d1, d2⟩
    · cases hq; exact ⟨fun n z => ⟨fun k q => (by cases q), kW, f3, comp, f4⟩, kW, comp, f3, f4, f1, f5⟩
    · cases hq; exact ⟨fun n z => ⟨fun k q => (by cases q), kQ, g3, comp2, g4⟩, g5⟩
  · have hz := hts w hw
    cases w <;> first | exact va_Nw.of rfl hz | (cases hn)
/-- what is still owed: the small machine's run of the law -/
def LawRuns (sc : List Int32) : Prop := Ev 0 (0, [some (.ref 0), none, none, none], [], (0, 0), heap0 sc) (fun v z _ => v = some (.int 1) ∧ z.1 ≤ 600000 ∧ z.2 ≤ 7302250)
set_option maxHeartbeats 4000000 in
theorem whole_of (hlaw : ∀ sc : List Int32, sc.length ≤ 384 → LawRuns sc) {p : Program} {e : Env} {s : State} {m : MethodId} {below : List Frame} {meth : Method} {c : Code} (l : Launch) {b L : Nat} {xs : Nat → Int32} (hL : L ≤ 384) (C0 : lw_At p s m meth c b L xs) : W p l e room_1 s m #[Value.ref b] below meth c s.heap [] 0 0 (lw_Z below #[Value.ref b] s) (entryFrame m ([Value.ref b] : List Value).toArray 4) := by
  obtain ⟨hx, hb, hr, hml, hown, hts, hX, hbl, hlocks, hgv⟩ := C0
  obtain ⟨G, hG, hK⟩ := KK_start hts
  have hB : G.2.1.1 = s.heap.size := by rw [hG]
  have hbb : G.2.1.2 = b := by rw [hG]
  have hsl : ((List.range L).map xs).length = L := by simp
  obtain ⟨n, r, hrun, hr1, hr2, hr3⟩ := hlaw ((List.range L).map xs) (by rw [hsl]; exact hL)
  have hXs : SX G ((List.range L).map xs) s s.heap := by
    obtain ⟨scr, x1, x2, x3, x4, x5⟩ := hX
    refine ⟨scr, by rw [hbb]; exact x1, x2, x3, by rw [hsl]; exact x4, fun j hj => ?_⟩
    rw [hsl] at hj
    rw [x5 j hj]
    show _ = some (Value.int (((List.range L).map xs).getD j 0))
    rw [List.getD_eq_getElem?_getD, List.getElem?_map, List.getElem?_range hj]
    rfl
  have hlt : G.2.1.2 < G.2.1.1 := by rw [hB, hbb]; exact hbl
  have hC : CX p room_1 s m #[Value.ref b] meth c G ((List.range L).map xs) (0, 0) 0 := ⟨hx, hb, hml, hown, fun w hw => hts w (List.mem_filter.mp hw).1, hK, hXs, hlt, by rw [hB]; rfl, fun hq => absurd hq (by decide +kernel), Nat.le_of_ble_eq_true rfl, Nat.le_of_ble_eq_true rfl⟩
  have hE := entry_Lr G [.ref 0] 4 (by decide)
  have e0 : [Value.ref 0].map (cV G) = [Value.ref b] := by
    show [Value.ref G.2.1.2] = _
    rw [hbb]
  rw [e0] at hE
  rw [lg_entry_eq]
  have hR0 : Rl G ((List.range L).map xs) (0, 0) (heap0 ((List.range L).map xs)) s.heap := by
    refine ⟨rfl, [], rfl, fun k => ?_, fun k q hq => by simp [wsF] at hq⟩
    show (if k + 1 = 0 then _ else _) = _
    rw [if_neg (by omega)]
    rfl
  have key := snd_all l G ((List.range L).map xs) hlt n 0 _ r hrun p e room_1 s m #[Value.ref b] below meth c (lw_Z below #[Value.ref b] s) (0, 0) hC (Nat.zero_le _) (Nat.zero_le _) (by rw [show (room_1.cells : Nat) = 600000 from rfl]; exact hr2) (by rw [show (room_1.slots : Nat) = 7302250 from rfl]; exact hr3) ?_ _ s.heap [] hE hR0 va_S.rf (Nat.le_refl _) (Nat.le_refl _)
  · exact key
  · intro pc' ls H locs hshape hR' hS'
    rw [hr1] at hshape ⊢
    refine va_forget (fun q hq => by have := hS'.2.2 q hq; rw [← hB]; exact this) ?_
    refine W.widen (k := 600000) (n := 7302250) hr2 hr3 ?_
    exact lw_ret hx hb hr hlocks hshape.1
