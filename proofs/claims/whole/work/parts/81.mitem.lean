/-! the reference: what is being told -/
def MT (A : Nat → Nat → Nat) : Pl := fun i => if i = 0 then vec4 (A 2 1) (A 6 1) (A 10 1) (A 11 1) else if i = 1 then (fun e => A 3 (3 + e)) else if i = 2 then (fun e => A 14 (3 + e)) else if i = 3 then (fun e => A 4 (3 + e)) else if i = 4 then (fun e => A 5 (3 + e)) else if i = 5 then (fun e => A 7 (6 + e)) else if i = 6 then (fun e => A 8 (6 + e)) else if i = 7 then (fun e => A 13 (6 + e)) else if i = 8 then (fun e => A 9 (10 + e)) else (fun e => A 12 (6 + e))
def tlo (k : Nat) : Nat := if k = 2 ∨ k = 6 ∨ k = 10 ∨ k = 11 then 1 else if k = 3 ∨ k = 4 ∨ k = 5 ∨ k = 14 then 3 else if k = 7 ∨ k = 8 ∨ k = 12 ∨ k = 13 then 6 else if k = 9 then 10 else 0
def thi (k : Nat) : Nat := if k = 2 ∨ k = 6 ∨ k = 10 ∨ k = 11 then 2 else if k = 3 ∨ k = 4 ∨ k = 5 ∨ k = 14 then 6 else if k = 7 ∨ k = 8 ∨ k = 12 ∨ k = 13 then 12 else if k = 9 then 20 else 0
/-- but for what is being told (and the numbers read) all is the same -/
def TF (A B : Nat → Nat → Nat) : Prop := ∀ k j, k ≠ 16 → ¬ (tlo k ≤ j ∧ j < thi k) → B k j = A k j
theorem TF.rfl' (A : Nat → Nat → Nat) : TF A A := fun _ _ _ _ => rfl
theorem TF.trans {A B C : Nat → Nat → Nat} (h1 : TF A B) (h2 : TF B C) : TF A C := fun k j hk hj => (h2 k j hk hj).trans (h1 k j hk hj)
theorem TF.up {A B : Nat → Nat → Nat} (h : TF A B) {r x v : Nat} (h1 : tlo r ≤ x) (h2 : x < thi r) : TF A (fup B r (fup (B r) x v)) := fun k j hk hj => by
  by_cases c : k = r
  · subst c
    rw [fup_self, fup_ne _ _ (fun q => hj (by rw [q]; exact ⟨h1, h2⟩))]
    exact h k j hk hj
  · rw [fup_ne _ _ c]
    exact h k j hk hj
theorem TF.n16 {A B : Nat → Nat → Nat} (h : TF A B) (N : Nat → Nat) : TF A (fup B 16 N) := fun k j hk hj => by
  rw [fup_ne _ _ hk]
  exact h k j hk hj
theorem MT_16 (A : Nat → Nat → Nat) (N : Nat → Nat) : MT (fup A 16 N) = MT A := rfl
theorem TF.r1 {A B : Nat → Nat → Nat} (h : TF A B) : B 1 = A 1 := funext fun j => h 1 j (by decide) (by
  have : thi 1 = 0 := rfl
  omega)
theorem fup_sh (f : Nat → Nat) (c n v : Nat) : (fun e => fup f (c + n) v (c + e)) = fup (fun e => f (c + e)) n v := by
  funext e
  rw [fup_at, fup_at]
  by_cases q : e = n
  · rw [if_pos q, if_pos (by omega)]
  · rw [if_neg q, if_neg (by omega)]
-- plans told in the same way
theorem PEq.addE {P R : Pl} (h : PEq P R) (a s k : Nat) : PEq (addE P a s k) (addE R a s k) := by
  obtain ⟨⟨c0, c1, c2, c3⟩, he, hs, hc, hr⟩ := h
  refine ⟨⟨congrArg (· + 1) c0, c1, c2, c3⟩, fun e q => ?_, hs, hc, hr⟩
  have q : e < P 0 0 + 1 := q
  show fup (P 1) (P 0 0) a e = fup (R 1) (R 0 0) a e ∧ fup (P 2) (P 0 0) s e = fup (R 2) (R 0 0) s e ∧ fup (P 3) (P 0 0) k e = fup (R 3) (R 0 0) k e ∧ fup (P 4) (P 0 0) 1 e = fup (R 4) (R 0 0) 1 e
  rw [← c0, fup_at, fup_at, fup_at, fup_at, fup_at, fup_at, fup_at, fup_at]
  by_cases c : e = P 0 0
  · simp only [if_pos c, and_self]
  · simp only [if_neg c]
    exact he e (by omega)
theorem PEq.addS {P R : Pl} (h : PEq P R) (e d w : Nat) : PEq (addS P e d w) (addS R e d w) := by
  obtain ⟨⟨c0, c1, c2, c3⟩, he, hs, hc, hr⟩ := h
  refine ⟨⟨c0, congrArg (· + 1) c1, c2, c3⟩, he, fun i q => ?_, hc, hr⟩
  have q : i < P 0 1 + 1 := q
  show fup (P 5) (P 0 1) e i = fup (R 5) (R 0 1) e i ∧ fup (P 6) (P 0 1) d i = fup (R 6) (R 0 1) d i ∧ fup (P 7) (P 0 1) w i = fup (R 7) (R 0 1) w i
  rw [← c1, fup_at, fup_at, fup_at, fup_at, fup_at, fup_at]
  by_cases c : i = P 0 1
  · simp only [if_pos c, and_self]
  · simp only [if_neg c]
    exact hs i (by omega)
theorem PEq.addR {P R : Pl} (h : PEq P R) (d : Nat) : PEq (addR P d) (addR R d) := by
  obtain ⟨⟨c0, c1, c2, c3⟩, he, hs, hc, hr⟩ := h
  refine ⟨⟨c0, c1, c2, congrArg (· + 1) c3⟩, he, hs, hc, fun i q => ?_⟩
  have q : i < P 0 3 + 1 := q
  show fup (P 9) (P 0 3) d i = fup (R 9) (R 0 3) d i
  rw [← c3, fup_at, fup_at]
  by_cases c : i = P 0 3
  · rw [if_pos c, if_pos c]
  · rw [if_neg c, if_neg c]
    exact hr i (by omega)
theorem PEq.wall {P R : Pl} (h : PEq P R) (a b : Nat) : PEq (fup P 8 (fup (P 8) a b)) (fup R 8 (fup (R 8) a b)) := by
  obtain ⟨c0, he, hs, hc, hr⟩ := h
  refine ⟨c0, he, hs, fun c q => ?_, hr⟩
  show fup (P 8) a b c = fup (R 8) a b c
  rw [fup_at, fup_at, hc c q]
def OEq : Option Pl → Option Pl → Prop
  | none, none => True
  | some P, some R => PEq P R
  | _, _ => False
theorem tellL_cg {P R : Pl} (h : PEq P R) (L : Nat) (l : List Nat) : OEq (tellL P L l) (tellL R L l) := by
  have h' := h
  obtain ⟨⟨c0, c1, c2, c3⟩, -⟩ := h'
  unfold tellL
  rw [← c0, ← c1, ← c3]
  split
  · split
    · split
      · exact h.addE _ _ _
      · trivial
    · split
      · split
        · exact h.addS _ _ _
        · trivial
      · trivial
  · split
    · split
      · exact h.wall _ _
      · trivial
    · split
      · split
        · exact PEq.wRow4 h _ _
        · trivial
      · trivial
  · split
    · split
      · exact h.wRow0 _
      · trivial
    · split
      · split
        · exact h.addR _
        · trivial
      · trivial
  · trivial
def OEq2 : Option (Nat × Pl) → Option (Nat × Pl) → Prop
  | none, none => True
  | some (p, P), some (r, R) => p = r ∧ PEq P R
  | _, _ => False
theorem itemF_cg {P R : Pl} (h : PEq P R) {T U : Nat → Nat} {len a : Nat} (hT : ∀ j, j < len → T j = U j) (ha : a < len) (hn : numL T len 3 (a + 1) = numL U len 3 (a + 1)) : OEq2 (itemF T len P a) (itemF U len R a) := by
  unfold itemF
  rw [hn, hT a ha]
  cases numL U len 3 (a + 1) with
  | none => trivial
  | some q =>
    obtain ⟨l, p'⟩ := q
    dsimp only
    have ht := tellL_cg h (U a) l
    cases h1 : tellL P (U a) l with
    | none =>
      cases h2 : tellL R (U a) l with
      | none => trivial
      | some R' => rw [h1, h2] at ht; exact ht.elim
    | some P' =>
      cases h2 : tellL R (U a) l with
      | none => rw [h1, h2] at ht; exact ht.elim
      | some R' => rw [h1, h2] at ht; exact ⟨rfl, ht⟩
theorem one_cg {T U : Nat → Nat} {len : Nat} (hT : ∀ j, j < len → T j = U j) (p : Nat) : one T len p = one U len p := by
  have d : ∀ j, isd T len j ↔ isd U len j := fun j => ⟨fun q => ⟨q.1, by rw [← hT j q.1]; exact q.2⟩, fun q => ⟨q.1, by rw [hT j q.1]; exact q.2⟩⟩
  unfold one
  by_cases c : isd U len p
  · rw [if_pos c, if_pos ((d p).mpr c), hT p c.1]
    by_cases c2 : isd U len (p + 1)
    · rw [if_pos c2, if_pos ((d _).mpr c2), hT _ c2.1]
    · rw [if_neg c2, if_neg (fun q => c2 ((d _).mp q))]
  · rw [if_neg c, if_neg (fun q => c ((d p).mp q))]
theorem chr_cg {T U : Nat → Nat} {len : Nat} (hT : ∀ j, j < len → T j = U j) (p : Nat) : chr T len p = chr U len p := by
  unfold chr
  split
  · rename_i q; exact hT p q
  · rfl
theorem numL_cg {T U : Nat → Nat} {len : Nat} (hT : ∀ j, j < len → T j = U j) : ∀ n p, numL T len n p = numL U len n p
  | 0, _ => rfl
  | n + 1, p => by
    rw [numL, numL, one_cg hT p]
    cases one U len p with
    | none => rfl
    | some q =>
      obtain ⟨v, p'⟩ := q
      dsimp only
      rw [chr_cg hT p', numL_cg hT n (p' + 1)]
theorem allF_cg {T U : Nat → Nat} {len : Nat} (hT : ∀ j, j < len → T j = U j) : ∀ n {P R : Pl} a, PEq P R → PEq (allF T len n P a).1 (allF U len n R a).1 ∧ (allF T len n P a).2 = (allF U len n R a).2
  | 0, P, R, a, h => ⟨h, rfl⟩
  | n + 1, P, R, a, h => by
    rw [allF, allF]
    by_cases c : a < len
    · rw [if_pos c, if_pos c]
      have hi := itemF_cg h hT c (numL_cg hT 3 (a + 1))
      cases h1 : itemF T len P a with
      | none =>
        cases h2 : itemF U len R a with
        | none => exact ⟨h, rfl⟩
        | some q => obtain ⟨r, R'⟩ := q; rw [h1, h2] at hi; exact hi.elim
      | some q =>
        obtain ⟨p', P'⟩ := q
        cases h2 : itemF U len R a with
        | none => rw [h1, h2] at hi; exact hi.elim
        | some q =>
          obtain ⟨r, R'⟩ := q
          rw [h1, h2] at hi
          obtain ⟨e, hP⟩ := hi
          subst e
          exact allF_cg hT n p' hP
    · rw [if_neg c, if_neg c]
      exact ⟨h, rfl⟩
theorem swt_item : ∀ L, L < 256 → swt (101) (119) [611, 112, 554, 611, 611, 611, 611, 611, 611, 449, 611, 611, 611, 611, 484, 253, 611, 611, 611, 395] (nI L) = some (if L = 101 then 112 else if L = 102 then 554 else if L = 109 then 449 else if L = 114 then 484 else if L = 115 then 253 else if L = 119 then 395 else 611) := by decide +kernel
theorem tellL_len {P P' : Pl} {L : Nat} {l : List Nat} (h : tellL P L l = some P') : (L = 101 ∨ L = 115) ∧ l.length = 3 ∨ (L = 119 ∨ L = 102) ∧ l.length = 2 ∨ (L = 109 ∨ L = 114) ∧ l.length = 1 := by
  unfold tellL at h
  split at h
  · split at h
    · rename_i q; exact Or.inl ⟨Or.inl q, rfl⟩
    · split at h
      · rename_i q; exact Or.inl ⟨Or.inr q, rfl⟩
      · cases h
  · split at h
    · rename_i q; exact Or.inr (Or.inl ⟨Or.inl q, rfl⟩)
    · split at h
      · rename_i q; exact Or.inr (Or.inl ⟨Or.inr q, rfl⟩)
      · cases h
  · split at h
    · rename_i q; exact Or.inr (Or.inr ⟨Or.inl q, rfl⟩)
    · split at h
      · rename_i q; exact Or.inr (Or.inr ⟨Or.inr q, rfl⟩)
      · cases h
  · cases h
/-- an item as told by n numbers -/
def itemN (T : Nat → Nat) (len n : Nat) (P : Pl) (a : Nat) : Option (Nat × Pl) := match figs T len n (a + 1) with
  | none => none
  | some (l, p') => (tellL P (T a) l).map (fun P' => (p', P'))
theorem itemF_N {T : Nat → Nat} {len n a : Nat} {P : Pl} (hn : 1 ≤ n) (hn3 : n ≤ 3) (hl : ∀ l P', tellL P (T a) l = some P' → l.length = n) : itemF T len P a = itemN T len n P a := by
  unfold itemF itemN
  cases hf : figs T len n (a + 1) with
  | some q =>
    obtain ⟨l, p'⟩ := q
    have e : n = (n - 1) + 1 := by omega
    rw [e] at hf
    rw [(figs_numL (n - 1) 3 _ _ _ hf (by omega)).1]
  | none =>
    cases hq : numL T len 3 (a + 1) with
    | none => rfl
    | some q =>
      obtain ⟨l, p'⟩ := q
      dsimp only
      cases ht : tellL P (T a) l with
      | none => rfl
      | some P' =>
        have := hl l P' ht
        have h2 := (numL_figs 3 _ _ _ hq).1
        rw [this, hf] at h2
        cases h2
