/-! the small machine's heap, laid over the machine's: cell k + 1 at address B0 + k, the script at its own -/
abbrev Gm : Type := va_G × (Nat × Nat) × (ClassId × ClassId × ClassId × ClassId × ClassId)
def cR (G : Gm) : Nat → Nat
  | 0 => G.2.1.2
  | k + 1 => G.2.1.1 + k
def cV (G : Gm) : Value → Value
  | .ref k => .ref (cR G k)
  | .int x => .int x
  | .long x => .long x
  | .float x => .float x
  | .double x => .double x
  | .null => .null
  | .retAddr x => .retAddr x
def cE (G : Gm) : AE → va_E
  | .inl (ci, fs) => .inr (ci, fs.map (cV G))
  | .inr (.inl (z, l)) => .inl (if z = true then G.2.2.2.1 else G.2.2.1, (l.length, .inl (fun j => l.getD j 0)))
  | .inr (.inr (.inl l)) => .inl (G.2.2.2.2.1, (l.length, .inr (.inl (fun j => l.getD j 0))))
  | .inr (.inr (.inr (w, l))) => .inl (if w = 0 then G.2.2.2.2.2.1 else G.2.2.2.2.2.2, (l.length, .inr (.inr (.inr (.inr (fun j => (l.getD j none).map (cR G)))))))
def wsF (G : Gm) : Nat → List AE → va_W
  | _, [] => []
  | n, e :: t => (G.2.1.1 + n, cE G e) :: wsF G (n + 1) t
theorem wsF_get (G : Gm) : ∀ (l : List AE) (n k : Nat), (wsF G n l)[k]? = (l[k]?).map (fun e => (G.2.1.1 + (n + k), cE G e))
  | [], n, k => by simp [wsF]
  | e :: t, n, 0 => by simp [wsF]
  | e :: t, n, k + 1 => by
    rw [wsF, List.getElem?_cons_succ, List.getElem?_cons_succ, wsF_get G t (n + 1) k]
    rw [show n + 1 + k = n + (k + 1) by omega]
theorem wsF_set (G : Gm) (e : AE) : ∀ (l : List AE) (n k : Nat), (wsF G n l).set k (G.2.1.1 + (n + k), cE G e) = wsF G n (l.set k e)
  | [], n, k => by simp [wsF]
  | a :: t, n, 0 => by simp [wsF]
  | a :: t, n, k + 1 => by
    rw [wsF, List.set_cons_succ, List.set_cons_succ, wsF, ← wsF_set G e t (n + 1) k]
    rw [show n + 1 + k = n + (k + 1) by omega]
theorem wsF_app (G : Gm) (e : AE) : ∀ (l : List AE) (n : Nat), wsF G n (l ++ [e]) = wsF G n l ++ [(G.2.1.1 + (n + l.length), cE G e)]
  | [], n => by simp [wsF]
  | a :: t, n => by
    rw [List.cons_append, wsF, wsF, List.cons_append, wsF_app G e t (n + 1), List.length_cons]
    rw [show n + 1 + t.length = n + (t.length + 1) by omega]
theorem wsF_D (G : Gm) (l : List AE) : va_D (fun q => G.2.1.1 ≤ q) (wsF G 0 l) := by
  constructor
  · intro i j p q hi hj e
    rw [wsF_get] at hi hj
    cases h1 : l[i]? with
    | none => rw [h1] at hi; cases hi
    | some a =>
      cases h2 : l[j]? with
      | none => rw [h2] at hj; cases hj
      | some c =>
        rw [h1] at hi; rw [h2] at hj
        cases hi; cases hj
        have e' : G.2.1.1 + (0 + i) = G.2.1.1 + (0 + j) := e
        omega
  · intro k q hk
    rw [wsF_get] at hk
    cases h1 : l[k]? with
    | none => rw [h1] at hk; cases hk
    | some a => rw [h1] at hk; cases hk; exact Nat.le_add_right _ _
abbrev classes : List vw_C := [(cnm 0, cT 0, cN 0), (cnm 1, cT 1, cN 1), (cnm 2, cT 2, cN 2), (cnm 3, cT 3, cN 3), (cnm 4, cT 4, cN 4), (cnm 5, cT 5, cN 5), (cnm 6, cT 6, cN 6), (cnm 7, cT 7, cN 7), (cnm 8, cT 8, cN 8)]
theorem classes_at {ci : Nat} (h : ci < 9) : classes[ci]? = some (cnm ci, cT ci, cN ci) := by
  have h9 : ci = 0 ∨ ci = 1 ∨ ci = 2 ∨ ci = 3 ∨ ci = 4 ∨ ci = 5 ∨ ci = 6 ∨ ci = 7 ∨ ci = 8 := by omega
  rcases h9 with rfl | rfl | rfl | rfl | rfl | rfl | rfl | rfl | rfl <;> rfl
def tysG (G : Gm) : List (ClassId × FieldType) := [(G.2.2.1, .int), (G.2.2.2.1, .boolean), (G.2.2.2.2.1, .long), (G.2.2.2.2.2.1, .object "SheepAndStones$Wall"), (G.2.2.2.2.2.2, .array .int)]
def isNest : Jvm.Cond → Bool
  | .fieldLinkNest .. => true
  | .methodLinkNest .. => true
  | _ => false
def va_AOi (U : State) : Prop := (Jvm.Cond.arrayOver (.array .int)).before #[] U = true
def KK (G : Gm) (U : State) : Prop := va_K G.1 classes (tysG G) U ∧ (∀ w ∈ lw_tbl, isNest w = true → va_Nw w U) ∧ va_AO "SheepAndStones$Wall" U ∧ va_AOi U
theorem AOi_spec {U : State} (h : va_AOi U) : ∃ comp c k, U.vm.findClass (FieldType.array .int).toString = some comp ∧ (U.vm.classes.findIdx? fun (x : Class) => match x.kind with | .array component _ => component == comp | _ => false) = some c ∧ U.vm.classes[c]? = some k ∧ k.kind = .array comp (.array .int) ∧ U.vm.findClass ("[" ++ (FieldType.array .int).toString) = some c := by
  unfold va_AOi Jvm.Cond.before Jvm.Cond.holds at h
  simp only [Jvm.Cond.value, beq_iff_eq] at h
  cases hc : U.vm.findClass (FieldType.array .int).toString with
  | none => simp [hc] at h
  | some comp =>
    simp only [hc, Option.bind_some, Option.bind_eq_some_iff, Option.map_eq_some_iff] at h
    obtain ⟨c, hi, k, hk, hb⟩ := h
    obtain ⟨hlt, hp, -⟩ := Array.findIdx?_eq_some_iff_getElem.mp hi
    have hkk : U.vm.classes[c] = k := (Array.getElem?_eq_some_iff.mp hk).2
    rw [hkk] at hp
    cases hkind : k.kind with
    | array component ty =>
      rw [hkind] at hb hp
      simp at hb hp
      exact ⟨comp, c, k, rfl, hi, hk, by rw [hkind, hp, hb.1], hb.2⟩
    | _ => rw [hkind] at hb; simp at hb
theorem va_AOi.moved {u U : State} (hvm : u.vm.Alike U.vm) (h : va_AOi u) : va_AOi U := by
  obtain ⟨comp, c, k, h1, h2, h3, h4, h5⟩ := AOi_spec h
  obtain ⟨k', hk', he⟩ := hvm.2.2 _ _ h3
  have hi : (U.vm.classes.findIdx? fun (x : Class) => match x.kind with | .array component _ => component == comp | _ => false) = some c := by
    have e0 : U.vm.bare = u.vm.bare := by first | exact hvm.bare_eq | exact hvm.bare_eq.symm
    have e1 := va_idx_bare U.vm comp
    rw [e0] at e1
    exact e1.symm.trans ((va_idx_bare u.vm comp).trans h2)
  have hkind : k'.kind = .array comp (.array .int) := by rw [he]; exact h4
  have f1 := h1
  have f2 := h5
  rw [← hvm.findClass] at f1 f2
  unfold va_AOi Jvm.Cond.before Jvm.Cond.holds
  simp only [Jvm.Cond.value]
  rw [f1, Option.bind_some]
  refine (congrArg (fun o : Option Nat => (o.bind (fun c => (U.vm.classes[c]?).map fun (k : Class) => match k.kind with | .array _ ty => decide (ty = FieldType.array .int) && decide (U.vm.findClass ("[" ++ (FieldType.array .int).toString) = some c) | _ => false) == some true)) hi).trans ?_
  simp [hk', hkind, f2]
theorem KK.moved {G : Gm} {u U : State} (hW : u.WarmedH U.vm) (h : KK G u) : KK G U := by
  obtain ⟨h1, h2, h3, h4⟩ := h
  refine ⟨va_K.moved hW.alike h1, fun w hw hn => ?_, va_AO.moved hW.alike h3, va_AOi.moved hW.alike h4⟩
  have hz := h2 w hw hn
  cases w <;> first | exact va_Nw.warmF hW hz | exact va_Nw.warmM hW hz | (cases hn)
theorem KK.same {G : Gm} {u U : State} (hvm : u.vm = U.vm) (h : KK G u) : KK G U := by
  obtain ⟨h1, h2, h3, h4⟩ := h
  have hal : u.vm.Alike U.vm := by rw [hvm]; exact Vm.Alike.refl _
  refine ⟨va_K.moved hal h1, fun w hw hn => ?_, va_AO.moved hal h3, va_AOi.moved hal h4⟩
  have hz := h2 w hw hn
  cases w <;> first | exact va_Nw.same rfl hvm hz | (cases hn)
def SX (G : Gm) (sc : List Int32) (U : State) (H : Heap) : Prop := va_X G.2.1.2 sc.length (fun j => sc.getD j 0) U H
def Rl (G : Gm) (sc : List Int32) (z : Zc) (h : Hp) (H : Heap) : Prop := h 0 = some (.inr (.inl (false, sc))) ∧ ∃ hp : List AE, hp.length = z.1 ∧ (∀ k, h (k + 1) = hp[k]?) ∧ va_P G.1 classes (wsF G 0 hp) H
def Lr (G : Gm) (ls : Array Slot) (nL : Nat) (L : List (Option Value)) : Prop := ls.size = nL ∧ lv_wf ls ∧ L.length = nL ∧ ∀ i v, lg i L = some v → ls[i]? = some (.val (cV G v))
/-- what stands for the whole time of a method -/
def CX (p : Program) (R : Room) (s : State) (m : MethodId) (args : Array Value) (meth : Method) (c : Code) (G : Gm) (sc : List Int32) (z0 : Zc) (mi : Nat) : Prop :=
  p.tables.exec = Jvm.exec ∧ c.code = (mm mi).2.1 ∧ c.maxLocals = (mm mi).2.2.1 ∧ s.vm.findClass (mm mi).1.cls = some m.cls ∧ (∀ w ∈ gtbl, w.before args s = true) ∧ KK G s ∧ SX G sc s s.heap ∧ G.2.1.2 < G.2.1.1 ∧ s.heap.size = G.2.1.1 + z0.1 ∧ ((mm mi).1.name = "<init>" → meth.name = "<init>") ∧ (mm mi).2.2.2.2.1 ≤ R.frames ∧ (mm mi).2.2.2.2.2 ≤ R.locals
def WS (p : Program) (l : Launch) (e : Env) (R : Room) (s : State) (m : MethodId) (args : Array Value) (below : List Frame) (meth : Method) (c : Code) (Q : State → Prop) (G : Gm) (sc : List Int32) (z0 : Zc) (mi : Nat) (f : Fm) : Prop :=
  ∀ (ls : Array Slot) (H : Heap) (locs : List Loc), Lr G ls (mm mi).2.2.1 f.2.1 → Rl G sc f.2.2.2.1 f.2.2.2.2 H → va_S (fun q => G.2.1.1 ≤ q) s.heap H locs → z0.1 ≤ f.2.2.2.1.1 → z0.2 ≤ f.2.2.2.1.2 →
    W p l e R s m args below meth c H locs (f.2.2.2.1.1 - z0.1) (f.2.2.2.1.2 - z0.2) Q (F0 m f.1 ls (f.2.2.1.map (cV G)))
-- locals
theorem lg_lp_self : ∀ (i : Nat) (x : Option Value) (l : List (Option Value)), i < l.length → lg i (lp i x l) = x
  | _, _, [], h => by simp at h
  | 0, x, a :: t, _ => by simp [lp, lg]
  | n + 1, x, a :: t, h => by
    simp only [lp, lg]
    exact lg_lp_self n x t (by simpa using h)
theorem lg_lp_ne : ∀ (i j : Nat) (x : Option Value) (l : List (Option Value)), j ≠ i → lg j (lp i x l) = lg j l
  | _, _, _, [], _ => by simp [lp]
  | 0, 0, _, _ :: _, h => absurd rfl h
  | 0, j + 1, x, a :: t, _ => by simp [lp, lg]
  | i + 1, 0, x, a :: t, _ => by simp [lp, lg]
  | i + 1, j + 1, x, a :: t, h => by
    simp only [lp, lg]
    exact lg_lp_ne i j x t (fun e => h (by rw [e]))
theorem lp_len : ∀ (i : Nat) (x : Option Value) (l : List (Option Value)), (lp i x l).length = l.length
  | _, _, [] => by simp [lp]
  | 0, x, a :: t => by simp [lp]
  | n + 1, x, a :: t => by simp [lp, lp_len n x t]
theorem lg_lt : ∀ (i : Nat) (l : List (Option Value)) (v : Value), lg i l = some v → i < l.length
  | _, [], v, h => by simp [lg] at h
  | 0, a :: t, v, h => by simp
  | n + 1, a :: t, v, h => by
    simp only [lg] at h
    have := lg_lt n t v h
    simpa using this
theorem lg_lkill : ∀ (ks : List Nat) (l : List (Option Value)) (j : Nat) (v : Value), lg j (lkill ks l) = some v → lg j l = some v
  | [], l, j, v, h => h
  | k :: ks, l, j, v, h => by
    simp only [lkill] at h
    have h1 := lg_lkill ks _ j v h
    by_cases e : j = k
    · subst e
      by_cases hl : j < l.length
      · rw [lg_lp_self j none l hl] at h1; cases h1
      · exact absurd (by rw [← lp_len j none l]; exact lg_lt _ _ _ h1) hl
    · rwa [lg_lp_ne k j none l e] at h1
theorem lkill_len : ∀ (ks : List Nat) (l : List (Option Value)), (lkill ks l).length = l.length
  | [], l => rfl
  | k :: ks, l => by simp only [lkill]; rw [lkill_len ks, lp_len]
theorem cV_cat (G : Gm) (v : Value) : (cV G v).category = v.category := by cases v <;> rfl
theorem wide_cat {v : Value} (h : wide (some v) = false) : v.category ≠ 2 := by
  cases v <;> simp_all [wide, Value.category]
/-- the listed locals -/
def ascV (G : Gm) (L : List (Option Value)) : List (Nat × Value) := (List.range L.length).filterMap (fun i => (lg i L).map (fun v => (i, cV G v)))
theorem ascV_mem {G : Gm} {L : List (Option Value)} {i : Nat} {v : Value} (h : lg i L = some v) : (i, cV G v) ∈ ascV G L :=
  List.mem_filterMap.mpr ⟨i, List.mem_range.mpr (lg_lt _ _ _ h), by rw [h]; rfl⟩
theorem ascV_of {G : Gm} {L : List (Option Value)} {q : Nat × Value} (h : q ∈ ascV G L) : ∃ v, lg q.1 L = some v ∧ q.2 = cV G v := by
  obtain ⟨i, -, h2⟩ := List.mem_filterMap.mp h
  cases hv : lg i L with
  | none => rw [hv] at h2; cases h2
  | some v => rw [hv] at h2; cases h2; exact ⟨v, hv, rfl⟩
theorem Lr.has {G : Gm} {ls : Array Slot} {nL : Nat} {L : List (Option Value)} (h : Lr G ls nL L) : lv_has ls nL (ascV G L) := by
  refine ⟨h.1, h.2.1, fun q hq => ?_⟩
  obtain ⟨v, h1, h2⟩ := ascV_of hq
  rw [h2]
  exact h.2.2.2 _ _ h1
theorem Lr.st1 {G : Gm} {ls : Array Slot} {nL : Nat} {L L' : List (Option Value)} {i : Nat} {v : Value} {ks : List Nat} (hL : L.length = nL) (h : lst1 i v ks L = some L')
    (h' : lv_has ls nL ((i, cV G v) :: (ascV G L).filter (fun q => !(q.1 == i) && !(q.1 + 1 == i && q.2.category == 2)))) : Lr G ls nL L' := by
  unfold lst1 at h
  split at h
  · rename_i hc
    rw [Bool.and_eq_true] at hc
    cases h
    have hi : i < L.length := by
      have := hc.1
      simpa [Nat.blt_eq] using this
    refine ⟨h'.1, h'.2.1, by rw [lp_len, lkill_len, hL], fun j w hw => ?_⟩
    by_cases e : j = i
    · subst e
      rw [lg_lp_self j _ _ (by rw [lkill_len]; exact hi)] at hw
      cases hw
      exact h'.2.2 (j, cV G v) List.mem_cons_self
    · rw [lg_lp_ne i j _ _ e] at hw
      refine h'.2.2 (j, cV G w) (List.mem_cons_of_mem _ (List.mem_filter.mpr ⟨ascV_mem (lg_lkill _ _ _ _ hw), ?_⟩))
      simp only [Bool.and_eq_true, Bool.not_eq_true', beq_eq_false_iff_ne, ne_eq, Bool.and_eq_false_imp, beq_iff_eq]
      refine ⟨e, fun e2 => ?_⟩
      subst e2
      have h3 := hc.2
      simp only [lfree] at h3
      rw [hw] at h3
      rw [cV_cat]
      exact wide_cat (by simpa using h3)
  · cases h
theorem Lr.st2 {G : Gm} {ls : Array Slot} {nL : Nat} {L L' : List (Option Value)} {i : Nat} {v : Value} {ks : List Nat} (hL : L.length = nL) (h : lst2 i v ks L = some L')
    (h' : lv_has ls nL ((i, cV G v) :: (ascV G L).filter (fun q => !(q.1 == i) && (!(q.1 == i + 1) && !(q.1 + 1 == i && q.2.category == 2))))) : Lr G ls nL L' := by
  unfold lst2 at h
  split at h
  · rename_i hc
    rw [Bool.and_eq_true] at hc
    cases h
    have hi : i + 1 < L.length := by
      have := hc.1
      simpa [Nat.blt_eq] using this
    refine ⟨h'.1, h'.2.1, by rw [lp_len, lp_len, lkill_len, hL], fun j w hw => ?_⟩
    by_cases e : j = i
    · subst e
      rw [lg_lp_self j _ _ (by rw [lp_len, lkill_len]; omega)] at hw
      cases hw
      exact h'.2.2 (j, cV G v) List.mem_cons_self
    · rw [lg_lp_ne i j _ _ e] at hw
      by_cases e1 : j = i + 1
      · subst e1
        rw [lg_lp_self (i + 1) _ _ (by rw [lkill_len]; omega)] at hw
        cases hw
      · rw [lg_lp_ne (i + 1) j _ _ e1] at hw
        refine h'.2.2 (j, cV G w) (List.mem_cons_of_mem _ (List.mem_filter.mpr ⟨ascV_mem (lg_lkill _ _ _ _ hw), ?_⟩))
        simp only [Bool.and_eq_true, Bool.not_eq_true', beq_eq_false_iff_ne, ne_eq, Bool.and_eq_false_imp, beq_iff_eq]
        refine ⟨e, e1, fun e2 => ?_⟩
        subst e2
        have h3 := hc.2
        simp only [lfree] at h3
        rw [hw] at h3
        rw [cV_cat]
        exact wide_cat (by simpa using h3)
  · cases h
