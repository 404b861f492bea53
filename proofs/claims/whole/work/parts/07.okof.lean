def lk : Nat → List (Nat × LI) → Option LI
  | _, [] => none
  | k, (j, x) :: t => bif Nat.beq k j then some x else lk k t
def fetch (mi pc : Nat) : Option LI := lk pc ((cds[mi]?).getD [])
theorem lk_mem : ∀ (l : List (Nat × LI)) (k : Nat) (x : LI), lk k l = some x → (k, x) ∈ l
  | [], k, x, h => by simp [lk] at h
  | (j, y) :: t, k, x, h => by
    rw [lk] at h
    cases hb : Nat.beq k j with
    | true =>
      rw [hb] at h
      have e := Nat.eq_of_beq_eq_true hb
      have h2 : y = x := by simpa using h
      rw [e, h2]
      exact List.mem_cons_self
    | false =>
      rw [hb] at h
      exact List.mem_cons_of_mem _ (lk_mem t k x (by simpa using h))
theorem all_at {α : Type} {f : α → Bool} {l : List α} (h : l.all f = true) {x : α} (hx : x ∈ l) : f x = true := List.all_eq_true.mp h x hx
theorem okI_at {c : List (Nat × LI)} {mi pc : Nat} {li : LI} (h : (c.all fun q => okI mi q.1 q.2) = true) (hm : (pc, li) ∈ c) : okI mi pc li = true := by
  have h2 := List.all_eq_true.mp h (pc, li) hm
  dsimp only at h2
  exact h2
theorem okI_of {mi pc : Nat} {li : LI} (h : fetch mi pc = some li) : okI mi pc li = true := by
  unfold fetch at h
  generalize hl : cds = l at h
  have hA : okAll l 0 := by rw [← hl]; exact okAll_cds
  cases hc : l[mi]? with
  | none => rw [hc] at h; simp [lk] at h
  | some c =>
    rw [hc] at h
    have h1 := hA mi c hc
    rw [Nat.zero_add] at h1
    exact okI_at h1 (lk_mem c pc li h)
theorem okI_dec {mi pc : Nat} {li : LI} (h : okI mi pc li = true) : decode (mm mi).2.1 pc = .ok (li.1, li.2.1) ∧ okLen li = true ∧ okW mi pc li = true := by
  unfold okI at h
  rw [Bool.and_eq_true, Bool.and_eq_true] at h
  exact ⟨of_decide_eq_true h.1, h.2.1, h.2.2⟩
