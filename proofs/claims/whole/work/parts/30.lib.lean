/-! heaps of small numbers: arrays as functions, and what reads and writes of them come to -/
def lsN (n : Nat) (s : Nat → Nat) : List Int32 := (List.range n).map (fun j => nI (s j))
def lsJ (n : Nat) (s : Nat → Int64) : List Int64 := (List.range n).map s
def AI (n : Nat) (s : Nat → Nat) : AE := .inr (.inl (false, lsN n s))
def AZ (n : Nat) (s : Nat → Nat) : AE := .inr (.inl (true, lsN n s))
def AJ (n : Nat) (s : Nat → Int64) : AE := .inr (.inr (.inl (lsJ n s)))
def fup {α : Type} (f : Nat → α) (k : Nat) (v : α) : Nat → α := fun j => if j = k then v else f j
theorem fup_at {α : Type} (f : Nat → α) (k : Nat) (v : α) (j : Nat) : fup f k v j = if j = k then v else f j := rfl
theorem fup_self {α : Type} (f : Nat → α) (k : Nat) (v : α) : fup f k v k = v := if_pos rfl
theorem fup_ne {α : Type} (f : Nat → α) {k j : Nat} (v : α) (h : j ≠ k) : fup f k v j = f j := if_neg h
theorem lsN_len (n : Nat) (s : Nat → Nat) : (lsN n s).length = n := by simp [lsN]
theorem lsJ_len (n : Nat) (s : Nat → Int64) : (lsJ n s).length = n := by simp [lsJ]
theorem lsN_get {n j : Nat} (s : Nat → Nat) (h : j < n) : (lsN n s)[j]? = some (nI (s j)) := by
  rw [lsN, List.getElem?_map, List.getElem?_range h]; rfl
theorem lsJ_get {n j : Nat} (s : Nat → Int64) (h : j < n) : (lsJ n s)[j]? = some (s j) := by
  rw [lsJ, List.getElem?_map, List.getElem?_range h]; rfl
theorem lsN_congr {n : Nat} {s t : Nat → Nat} (h : ∀ j, j < n → s j = t j) : lsN n s = lsN n t := by
  unfold lsN
  apply List.map_congr_left
  intro j hj
  rw [h j (List.mem_range.mp hj)]
theorem lsJ_congr {n : Nat} {s t : Nat → Int64} (h : ∀ j, j < n → s j = t j) : lsJ n s = lsJ n t := by
  unfold lsJ
  apply List.map_congr_left
  intro j hj
  rw [h j (List.mem_range.mp hj)]
theorem lsN_set (n : Nat) (s : Nat → Nat) (k x : Nat) : (lsN n s).set k (nI x) = lsN n (fup s k x) := by
  apply List.ext_getElem?
  intro j
  rw [List.getElem?_set]
  by_cases hj : j < n
  · rw [lsN_get _ hj, lsN_get _ hj, lsN_len, fup_at]
    by_cases e : k = j
    · subst e; rw [if_pos rfl, if_pos hj, if_pos rfl]
    · rw [if_neg e, if_neg (fun q => e q.symm)]
  · have e1 : (lsN n s)[j]? = none := List.getElem?_eq_none (by rw [lsN_len]; omega)
    have e2 : (lsN n (fup s k x))[j]? = none := List.getElem?_eq_none (by rw [lsN_len]; omega)
    rw [e1, e2, lsN_len]
    by_cases e : k = j
    · subst e; rw [if_pos rfl, if_neg hj]
    · rw [if_neg e]
theorem lsJ_set (n : Nat) (s : Nat → Int64) (k : Nat) (x : Int64) : (lsJ n s).set k x = lsJ n (fup s k x) := by
  apply List.ext_getElem?
  intro j
  rw [List.getElem?_set]
  by_cases hj : j < n
  · rw [lsJ_get _ hj, lsJ_get _ hj, lsJ_len, fup_at]
    by_cases e : k = j
    · subst e; rw [if_pos rfl, if_pos hj, if_pos rfl]
    · rw [if_neg e, if_neg (fun q => e q.symm)]
  · have e1 : (lsJ n s)[j]? = none := List.getElem?_eq_none (by rw [lsJ_len]; omega)
    have e2 : (lsJ n (fup s k x))[j]? = none := List.getElem?_eq_none (by rw [lsJ_len]; omega)
    rw [e1, e2, lsJ_len]
    by_cases e : k = j
    · subst e; rw [if_pos rfl, if_neg hj]
    · rw [if_neg e]
theorem agetN {α : Type} (l : List α) {j : Nat} (hj : j < 100000) : aget l (nI j) = l[j]? := by
  unfold aget
  rw [if_neg (nI_pos (by omega)), nI_clamp (by omega)]
theorem asetN {α : Type} (l : List α) (x : α) {j : Nat} (hj : j < 100000) (hl : j < l.length) : aset l (nI j) x = some (l.set j x) := by
  unfold aset
  rw [if_neg (nI_pos (by omega)), nI_clamp (by omega), if_pos hl]
-- cells one by one
def igE : AE → Int32 → Option Int32
  | .inr (.inl (z, l)), i => if z = true then none else aget l i
  | _, _ => none
def zgE : AE → Int32 → Option Int32
  | .inr (.inl (z, l)), i => if z = true then aget l i else none
  | _, _ => none
def jgE : AE → Int32 → Option Int64
  | .inr (.inr (.inl l)), i => aget l i
  | _, _ => none
def rgE : AE → Int32 → Option Nat
  | .inr (.inr (.inr (_, l))), i => match aget l i with
    | some (some r) => some r
    | _ => none
  | _, _ => none
def isE : AE → Int32 → Int32 → Option AE
  | .inr (.inl (z, l)), i, x => if z = true then none else (aset l i x).map (fun l' => .inr (.inl (false, l')))
  | _, _, _ => none
def zsE : AE → Int32 → Int32 → Option AE
  | .inr (.inl (z, l)), i, x => if (z && (x == 0 || x == 1)) = true then (aset l i x).map (fun l' => .inr (.inl (true, l'))) else none
  | _, _, _ => none
def jsE : AE → Int32 → Int64 → Option AE
  | .inr (.inr (.inl l)), i, x => (aset l i x).map (fun l' => .inr (.inr (.inl l')))
  | _, _, _ => none
def alE : AE → Option Int32
  | .inr (.inl (_, l)) => some (Int32.ofNat l.length)
  | .inr (.inr (.inl l)) => some (Int32.ofNat l.length)
  | .inr (.inr (.inr (_, l))) => some (Int32.ofNat l.length)
  | _ => none
def gfE : AE → Nat → Nat → Option Value
  | .inl (c, fs), ci, k => if Nat.beq c ci = true then fs[k]? else none
  | _, _, _ => none
def pfE : AE → Nat → Nat → Nat → Value → Option AE
  | .inl (c, fs), ci, k, t, v => if (Nat.beq c ci && (Nat.blt k fs.length && vfit t v)) = true then some (.inl (ci, fs.set k v)) else none
  | _, _, _, _, _ => none
def ckE : AE → Nat → Bool
  | .inl (c, _), ci => Nat.beq c ci
  | _, _ => false
theorem pushr_s (v : Value) (st : List Value) : pushr (some v) st = v :: st := rfl
theorem pushr_n (st : List Value) : pushr none st = st := rfl
theorem hput_at (h : Hp) (a : Nat) (e : AE) (j : Nat) : hput h a e j = if j = a then some e else h j := rfl
theorem hput_self (h : Hp) (a : Nat) (e : AE) : hput h a e a = some e := if_pos rfl
theorem hput_ne (h : Hp) {a j : Nat} (e : AE) (hj : j ≠ a) : hput h a e j = h j := if_neg hj
theorem hput_hput (h : Hp) (a : Nat) (e e' : AE) : hput (hput h a e) a e' = hput h a e' := by
  funext j
  simp only [hput_at]
  split <;> rfl
theorem hput_comm (h : Hp) {a b : Nat} (e e' : AE) (hab : a ≠ b) : hput (hput h a e) b e' = hput (hput h b e') a e := by
  funext j
  simp only [hput_at]
  by_cases h1 : j = b
  · rw [if_pos h1, if_neg (fun q => hab (q.symm.trans h1)), if_pos h1]
  · rw [if_neg h1, if_neg h1]
theorem hput_id (h : Hp) {a : Nat} {e : AE} (ha : h a = some e) : hput h a e = h := by
  funext j
  rw [hput_at]
  split
  · rename_i q; rw [q, ha]
  · rfl
theorem iget_eq (h : Hp) (a : Nat) (i : Int32) : iget h a i = (h a).bind (fun e => igE e i) := by
  unfold iget
  cases h a with
  | none => rfl
  | some e => rcases e with ⟨c, fs⟩ | ⟨z, l⟩ | l | ⟨w, l⟩ <;> rfl
theorem zget_eq (h : Hp) {a : Nat} (ha : a ≠ 0) (i : Int32) : zget h a i = (h a).bind (fun e => zgE e i) := by
  cases a with
  | zero => exact absurd rfl ha
  | succ a =>
    unfold zget
    cases h (a + 1) with
    | none => rfl
    | some e => rcases e with ⟨c, fs⟩ | ⟨z, l⟩ | l | ⟨w, l⟩ <;> rfl
theorem jget_eq (h : Hp) {a : Nat} (ha : a ≠ 0) (i : Int32) : jget h a i = (h a).bind (fun e => jgE e i) := by
  cases a with
  | zero => exact absurd rfl ha
  | succ a =>
    unfold jget
    cases h (a + 1) with
    | none => rfl
    | some e => rcases e with ⟨c, fs⟩ | ⟨z, l⟩ | l | ⟨w, l⟩ <;> rfl
theorem rget_eq (h : Hp) {a : Nat} (ha : a ≠ 0) (i : Int32) : rget h a i = (h a).bind (fun e => rgE e i) := by
  cases a with
  | zero => exact absurd rfl ha
  | succ a =>
    unfold rget
    cases h (a + 1) with
    | none => rfl
    | some e => rcases e with ⟨c, fs⟩ | ⟨z, l⟩ | l | ⟨w, l⟩ <;> rfl
theorem iset_eq (h : Hp) {a : Nat} (ha : a ≠ 0) (i x : Int32) : iset h a i x = (h a).bind (fun e => (isE e i x).map (hput h a)) := by
  cases a with
  | zero => exact absurd rfl ha
  | succ a =>
    unfold iset
    cases h (a + 1) with
    | none => rfl
    | some e =>
      rcases e with ⟨c, fs⟩ | ⟨z, l⟩ | l | ⟨w, l⟩
      · rfl
      · cases z
        · show (aset l i x).map _ = ((aset l i x).map _).map _
          rw [Option.map_map]; rfl
        · rfl
      · rfl
      · rfl
theorem zset_eq (h : Hp) {a : Nat} (ha : a ≠ 0) (i x : Int32) : zset h a i x = (h a).bind (fun e => (zsE e i x).map (hput h a)) := by
  cases a with
  | zero => exact absurd rfl ha
  | succ a =>
    unfold zset
    cases h (a + 1) with
    | none => rfl
    | some e =>
      rcases e with ⟨c, fs⟩ | ⟨z, l⟩ | l | ⟨w, l⟩
      · rfl
      · show (if _ then _ else _) = Option.map _ (if _ then _ else _)
        by_cases hq : (z && (x == 0 || x == 1)) = true
        · rw [if_pos hq, if_pos hq, Option.map_map]; rfl
        · rw [if_neg hq, if_neg hq]; rfl
      · rfl
      · rfl
theorem jset_eq (h : Hp) {a : Nat} (ha : a ≠ 0) (i : Int32) (x : Int64) : jset h a i x = (h a).bind (fun e => (jsE e i x).map (hput h a)) := by
  cases a with
  | zero => exact absurd rfl ha
  | succ a =>
    unfold jset
    cases h (a + 1) with
    | none => rfl
    | some e =>
      rcases e with ⟨c, fs⟩ | ⟨z, l⟩ | l | ⟨w, l⟩
      · rfl
      · rfl
      · show (aset l i x).map _ = ((aset l i x).map _).map _
        rw [Option.map_map]; rfl
      · rfl
theorem alen_eq (h : Hp) (a : Nat) : alen h a = (h a).bind alE := by
  unfold alen
  cases h a with
  | none => rfl
  | some e => rcases e with ⟨c, fs⟩ | ⟨z, l⟩ | l | ⟨w, l⟩ <;> rfl
theorem gf_eq (h : Hp) (a ci k : Nat) : gf h a ci k = (h a).bind (fun e => gfE e ci k) := by
  unfold gf
  cases h a with
  | none => rfl
  | some e => rcases e with ⟨c, fs⟩ | ⟨z, l⟩ | l | ⟨w, l⟩ <;> rfl
theorem pf_eq (h : Hp) (a ci k t : Nat) (v : Value) : pf h a ci k t v = (h a).bind (fun e => (pfE e ci k t v).map (hput h a)) := by
  unfold pf
  cases h a with
  | none => rfl
  | some e =>
    rcases e with ⟨c, fs⟩ | ⟨z, l⟩ | l | ⟨w, l⟩
    · show (if _ then _ else _) = Option.map _ (if _ then _ else _)
      by_cases hq : (Nat.beq c ci && (Nat.blt k fs.length && vfit t v)) = true
      · rw [if_pos hq, if_pos hq]; rfl
      · rw [if_neg hq, if_neg hq]; rfl
    · rfl
    · rfl
    · rfl
theorem ck_eq (h : Hp) (a ci : Nat) : ck h a ci = (h a).elim false (fun e => ckE e ci) := by
  unfold ck
  cases h a with
  | none => rfl
  | some e => rcases e with ⟨c, fs⟩ | ⟨z, l⟩ | l | ⟨w, l⟩ <;> rfl
theorem igE_AI {n j : Nat} (s : Nat → Nat) (h : j < n) (hn : n < 100000) : igE (AI n s) (nI j) = some (nI (s j)) := by
  show aget (lsN n s) (nI j) = _
  rw [agetN _ (by omega), lsN_get _ h]
theorem zgE_AZ {n j : Nat} (s : Nat → Nat) (h : j < n) (hn : n < 100000) : zgE (AZ n s) (nI j) = some (nI (s j)) := by
  show aget (lsN n s) (nI j) = _
  rw [agetN _ (by omega), lsN_get _ h]
theorem jgE_AJ {n j : Nat} (s : Nat → Int64) (h : j < n) (hn : n < 100000) : jgE (AJ n s) (nI j) = some (s j) := by
  show aget (lsJ n s) (nI j) = _
  rw [agetN _ (by omega), lsJ_get _ h]
theorem isE_AI {n j : Nat} (s : Nat → Nat) (x : Nat) (h : j < n) (hn : n < 100000) : isE (AI n s) (nI j) (nI x) = some (AI n (fup s j x)) := by
  show (aset (lsN n s) (nI j) (nI x)).map _ = _
  rw [asetN _ _ (by omega) (by rw [lsN_len]; exact h), lsN_set]
  rfl
theorem zsE_AZ {n j : Nat} (s : Nat → Nat) (x : Nat) (h : j < n) (hn : n < 100000) (hx : x = 0 ∨ x = 1) : zsE (AZ n s) (nI j) (nI x) = some (AZ n (fup s j x)) := by
  have h1 : ((true && (nI x == 0 || nI x == 1)) = true) := by rcases hx with rfl | rfl <;> rfl
  show (if _ then _ else _) = _
  rw [if_pos h1, asetN _ _ (by omega) (by rw [lsN_len]; exact h), lsN_set]
  rfl
theorem jsE_AJ {n j : Nat} (s : Nat → Int64) (x : Int64) (h : j < n) (hn : n < 100000) : jsE (AJ n s) (nI j) x = some (AJ n (fup s j x)) := by
  show (aset (lsJ n s) (nI j) x).map _ = _
  rw [asetN _ _ (by omega) (by rw [lsJ_len]; exact h), lsJ_set]
  rfl
theorem alE_AI (n : Nat) (s : Nat → Nat) : alE (AI n s) = some (nI n) := by
  show some (Int32.ofNat (lsN n s).length) = _
  rw [lsN_len]; rfl
theorem alE_AJ (n : Nat) (s : Nat → Int64) : alE (AJ n s) = some (nI n) := by
  show some (Int32.ofNat (lsJ n s).length) = _
  rw [lsJ_len]; rfl
theorem AI_congr {n : Nat} {s t : Nat → Nat} (h : ∀ j, j < n → s j = t j) : AI n s = AI n t := by unfold AI; rw [lsN_congr h]
theorem AJ_congr {n : Nat} {s t : Nat → Int64} (h : ∀ j, j < n → s j = t j) : AJ n s = AJ n t := by unfold AJ; rw [lsJ_congr h]
/-- whole rows copied -/
def cpE : AE → AE → Int32 → Int32 → Int32 → Option AE
  | .inr (.inl (z0, xs)), .inr (.inl (z1, ys)), sp, dp, n => if (!z0 && !z1) = true then (acpy xs ys sp dp n).map (fun l => .inr (.inl (false, l))) else none
  | .inr (.inr (.inl xs)), .inr (.inr (.inl ys)), sp, dp, n => (acpy xs ys sp dp n).map (fun l => .inr (.inr (.inl l)))
  | _, _, _, _, _ => none
theorem hcpy_eq (h : Hp) {a0 a : Nat} (h0 : a0 ≠ 0) (h1 : a ≠ 0) (sp dp n : Int32) : hcpy h a0 sp a dp n = (h a0).bind (fun e0 => (h a).bind (fun e => (cpE e0 e sp dp n).map (hput h a))) := by
  cases a0 with
  | zero => exact absurd rfl h0
  | succ a0 =>
    cases a with
    | zero => exact absurd rfl h1
    | succ a =>
      unfold hcpy
      cases h (a0 + 1) with
      | none => rfl
      | some e0 =>
        cases h (a + 1) with
        | none => rcases e0 with ⟨c, fs⟩ | ⟨z, l⟩ | l | ⟨w, l⟩ <;> rfl
        | some e =>
          rcases e0 with ⟨c, fs⟩ | ⟨z, l⟩ | l | ⟨w, l⟩
          · rcases e with ⟨c', fs'⟩ | ⟨z', l'⟩ | l' | ⟨w', l'⟩ <;> rfl
          · rcases e with ⟨c', fs'⟩ | ⟨z', l'⟩ | l' | ⟨w', l'⟩
            · rfl
            · show (if _ then _ else _) = Option.map _ (if _ then _ else _)
              by_cases hq : (!z && !z') = true
              · rw [if_pos hq, if_pos hq, Option.map_map]; rfl
              · rw [if_neg hq, if_neg hq]; rfl
            · rfl
            · rfl
          · rcases e with ⟨c', fs'⟩ | ⟨z', l'⟩ | l' | ⟨w', l'⟩
            · rfl
            · rfl
            · show (acpy l l' sp dp n).map _ = ((acpy l l' sp dp n).map _).map _
              rw [Option.map_map]; rfl
            · rfl
          · rcases e with ⟨c', fs'⟩ | ⟨z', l'⟩ | l' | ⟨w', l'⟩ <;> rfl
theorem acpy_full {α : Type} (xs ys : List α) {n : Nat} (hn : n < 100000) (h1 : xs.length = n) (h2 : ys.length = n) : acpy xs ys (nI 0) (nI 0) (nI n) = some xs := by
  unfold acpy
  rw [if_neg (nI_pos (by omega)), if_neg (nI_pos (by omega)), if_neg (nI_pos (by omega)), nI_clamp (by omega), nI_clamp (by omega), if_pos (by omega), if_pos (by omega)]
  simp [cpy, ← h1]
  rw [h1, ← h2]
  simp
theorem cpE_AI {n : Nat} (s t : Nat → Nat) (hn : n < 100000) : cpE (AI n s) (AI n t) (nI 0) (nI 0) (nI n) = some (AI n s) := by
  show (acpy (lsN n s) (lsN n t) (nI 0) (nI 0) (nI n)).map _ = _
  rw [acpy_full _ _ hn (lsN_len n s) (lsN_len n t)]
  rfl
theorem cpE_AJ {n : Nat} (s t : Nat → Int64) (hn : n < 100000) : cpE (AJ n s) (AJ n t) (nI 0) (nI 0) (nI n) = some (AJ n s) := by
  show (acpy (lsJ n s) (lsJ n t) (nI 0) (nI 0) (nI n)).map _ = _
  rw [acpy_full _ _ hn (lsJ_len n s) (lsJ_len n t)]
  rfl
-- small numbers
theorem nlt {a b : Nat} (ha : a < 100000000) (hb : b < 100000000) : (nI a < nI b) = (a < b) := propext (nI_ltI (by omega) (by omega))
theorem neq {a b : Nat} (ha : a < 100000000) (hb : b < 100000000) : (nI a = nI b) = (a = b) := propext (nI_eq (by omega) (by omega))
