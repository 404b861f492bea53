/-! what the small machine's runs come to, the machine comes to -/
section SN
variable {mi pc : Nat} {L : List (Option Value)} {st : List Value} {z : Zc} {h : Hp} {li : LI} {g : Fm}
theorem nx_z {pc : Nat} {L : List (Option Value)} {st : List Value} {z : Zc} {h : Hp} {x : Fm ⊕ (Rs ⊕ (Nat × List Value × Fm))} (hs : nx pc L st z h = some x) : ∃ g, x = .inl g ∧ g.2.2.2.1 = z := by
  unfold nx at hs
  cases hs
  exact ⟨_, rfl, rfl⟩
set_option maxHeartbeats 4000000 in
theorem exLocals_z {x : Fm ⊕ (Rs ⊕ (Nat × List Value × Fm))} (hs : exLocals mi pc li L st z h = some x) : ∃ g, x = .inl g ∧ g.2.2.2.1 = z := by
  unfold exLocals at hs
  repeat' (first | (exact nx_z hs) | (cases hs; done) | split at hs)
set_option maxHeartbeats 4000000 in
theorem exArith_z {x : Fm ⊕ (Rs ⊕ (Nat × List Value × Fm))} (hs : exArith mi pc li L st z h = some x) : ∃ g, x = .inl g ∧ g.2.2.2.1 = z := by
  unfold exArith at hs
  repeat' (first | (exact nx_z hs) | (cases hs; done) | split at hs)
set_option maxHeartbeats 4000000 in
theorem exBranch_z {x : Fm ⊕ (Rs ⊕ (Nat × List Value × Fm))} (hs : exBranch mi pc li L st z h = some x) : ∃ g, x = .inl g ∧ g.2.2.2.1 = z := by
  unfold exBranch at hs
  repeat' (first | (exact nx_z hs) | (cases hs; done) | split at hs)
set_option maxHeartbeats 4000000 in
theorem exHeap_z {x : Fm ⊕ (Rs ⊕ (Nat × List Value × Fm))} (hs : exHeap mi pc li L st z h = some x) : ∃ g, x = .inl g ∧ g.2.2.2.1 = z := by
  unfold exHeap at hs
  repeat' (first | (exact nx_z hs) | (cases hs; done) | split at hs)
set_option maxHeartbeats 4000000 in
theorem exMake_z {x : Fm ⊕ (Rs ⊕ (Nat × List Value × Fm))} (hs : exMake mi pc li L st z h = some x) : ∃ g, x = .inl g ∧ z.1 ≤ g.2.2.2.1.1 ∧ z.2 ≤ g.2.2.2.1.2 := by
  unfold exMake at hs
  repeat' (first | (obtain ⟨g, e1, e2⟩ := nx_z hs; exact ⟨g, e1, by rw [e2]; exact Nat.le_add_right _ _, by rw [e2]; exact Nat.le_add_right _ _⟩) | (cases hs; done) | split at hs)
/-- how a method ends -/
def retF (mi : Nat) (li : LI) (st : List Value) (z : Zc) (h : Hp) (r : Rs) : Prop := match li.1, st with
  | .ireturn, [.int x] => r = (some (.int x), z, h) ∧ (Nat.beq li.2.2.1 0 || (x == 0 || x == 1)) = true
  | .lreturn, [.long x] => r = (some (.long x), z, h)
  | .return_, [] => r = (none, z, h)
  | _, _ => False
set_option maxHeartbeats 4000000 in
theorem exCall_ret {r : Rs} (hs : exCall mi pc li L st z h = some (.inr (.inl r))) : retF mi li st z h r := by
  obtain ⟨ins, len, a, b, cc, ws⟩ := li
  cases ins with
  | ireturn =>
    simp only [exCall] at hs
    split at hs
    · split at hs
      · rename_i x hc
        cases hs
        exact ⟨rfl, hc⟩
      · cases hs
    · cases hs
  | lreturn =>
    simp only [exCall] at hs
    split at hs
    · cases hs; exact rfl
    · cases hs
  | return_ =>
    simp only [exCall] at hs
    split at hs
    · cases hs; exact rfl
    · cases hs
  | invokevirtual idx =>
    simp only [exCall] at hs
    repeat' (first | (cases hs; done) | split at hs)
  | invokestatic idx =>
    simp only [exCall, nx] at hs
    repeat' (first | (cases hs; done) | split at hs)
  | invokespecial idx =>
    simp only [exCall, nx] at hs
    repeat' (first | (cases hs; done) | split at hs)
  | _ => simp [exCall] at hs
/-- which call it is: kind of call, receiver and arguments -/
def callF (pc : Nat) (li : LI) (L : List (Option Value)) (st : List Value) (z : Zc) (h : Hp) (mj : Nat) (as : List Value) (g : Fm) : Prop := mj = li.2.2.1 ∧ (match li.1 with
  | .invokevirtual _ => ∃ a bs rest, st = bs.reverse ++ .ref a :: rest ∧ bs.length = li.2.2.2.2.1.toNat ∧ as = .ref a :: bs ∧ stW rest ≤ 8 ∧ ck h a li.2.2.2.1 = true ∧ 1 + stW bs ≤ (mm li.2.2.1).2.2.1 ∧ g = (pc + 3, L, rest, z, h)
  | .invokestatic _ => ∃ rest, st = as.reverse ++ rest ∧ as.length = li.2.2.2.2.1.toNat ∧ stW rest ≤ 8 ∧ stW as ≤ (mm li.2.2.1).2.2.1 ∧ g = (pc + 3, L, rest, z, h) ∧ Nat.beq li.2.2.2.1 7 = false ∧ Nat.beq li.2.2.2.1 8 = false ∧ Nat.beq li.2.2.2.1 9 = false
  | .invokespecial _ => ∃ a bs rest, st = bs.reverse ++ .ref a :: rest ∧ bs.length = li.2.2.2.2.1.toNat ∧ as = .ref a :: bs ∧ stW rest ≤ 8 ∧ 1 + stW bs ≤ (mm li.2.2.1).2.2.1 ∧ g = (pc + 3, L, rest, z, h) ∧ Nat.beq li.2.2.2.1 6 = false
  | _ => False)
theorem bfalse {b : Bool} (h : ¬ b = true) : b = false := by
  cases b with
  | true => exact absurd rfl h
  | false => rfl
theorem stW_rev (l : List Value) : stW l.reverse = stW l := by
  unfold stW
  rw [List.map_reverse, List.sum_reverse]
theorem take_len_of_drop {l rest : List Value} {v : Value} {n : Nat} (h : l.drop n = v :: rest) : (l.take n).length = n := by
  have h1 : n < l.length := by
    rcases Nat.lt_or_ge n l.length with q | q
    · exact q
    · rw [List.drop_eq_nil_of_le q] at h; cases h
  simp; omega
set_option maxHeartbeats 4000000 in
theorem exCall_call {mj : Nat} {as : List Value} (hs : exCall mi pc li L st z h = some (.inr (.inr (mj, as, g)))) : callF pc li L st z h mj as g := by
  obtain ⟨ins, len, a, b, cc, ws⟩ := li
  cases ins with
  | invokevirtual idx =>
    simp only [exCall] at hs
    split at hs
    · rename_i x rest hdr
      split at hs
      · rename_i hc
        rw [Bool.and_eq_true, Bool.and_eq_true] at hc
        obtain ⟨c1, c2, c3⟩ := hc
        cases hs
        refine ⟨rfl, x, (st.take cc.toNat).reverse, rest, ?_, ?_, rfl, Nat.le_of_ble_eq_true c1, c2, ?_, rfl⟩
        · rw [List.reverse_reverse, ← hdr, List.take_append_drop]
        · rw [List.length_reverse]; exact take_len_of_drop hdr
        · rw [stW_rev]; exact Nat.le_of_ble_eq_true c3
      · cases hs
    · cases hs
  | invokestatic idx =>
    simp only [exCall, nx] at hs
    split at hs
    · repeat' (first | (cases hs; done) | split at hs)
    · rename_i h7
      split at hs
      · repeat' (first | (cases hs; done) | split at hs)
      · rename_i h8
        split at hs
        · repeat' (first | (cases hs; done) | split at hs)
        · rename_i h9
          split at hs
          · rename_i hc
            rw [Bool.and_eq_true, Bool.and_eq_true] at hc
            obtain ⟨c1, hn, c2⟩ := hc
            have hn := Nat.le_of_ble_eq_true hn
            cases hs
            refine ⟨rfl, st.drop cc.toNat, ?_, ?_, Nat.le_of_ble_eq_true c1, ?_, rfl, bfalse h7, bfalse h8, bfalse h9⟩
            · rw [List.reverse_reverse, List.take_append_drop]
            · rw [List.length_reverse, List.length_take]
              exact Nat.min_eq_left hn
            · rw [stW_rev]; exact Nat.le_of_ble_eq_true c2
          · cases hs
  | invokespecial idx =>
    simp only [exCall, nx] at hs
    split at hs
    · repeat' (first | (cases hs; done) | split at hs)
    · rename_i h6
      split at hs
      · rename_i x rest hdr
        split at hs
        · rename_i hc
          rw [Bool.and_eq_true] at hc
          obtain ⟨c1, c2⟩ := hc
          cases hs
          refine ⟨rfl, x, (st.take cc.toNat).reverse, rest, ?_, ?_, rfl, Nat.le_of_ble_eq_true c1, ?_, rfl, bfalse h6⟩
          · rw [List.reverse_reverse, ← hdr, List.take_append_drop]
          · rw [List.length_reverse]; exact take_len_of_drop hdr
          · rw [stW_rev]; exact Nat.le_of_ble_eq_true c2
        · cases hs
      · cases hs
  | ireturn =>
    simp only [exCall] at hs
    repeat' (first | (cases hs; done) | split at hs)
  | lreturn =>
    simp only [exCall] at hs
    repeat' (first | (cases hs; done) | split at hs)
  | return_ =>
    simp only [exCall] at hs
    repeat' (first | (cases hs; done) | split at hs)
  | _ => simp [exCall] at hs
end SN
theorem stepX_z {mi pc : Nat} {li : LI} {L : List (Option Value)} {st : List Value} {z : Zc} {h : Hp} {g : Fm} (hs : stepX mi pc li L st z h = some (.inl g)) : z.1 ≤ g.2.2.2.1.1 ∧ z.2 ≤ g.2.2.2.1.2 := by
  have fin : (∃ g', (Sum.inl g : Fm ⊕ (Rs ⊕ (Nat × List Value × Fm))) = .inl g' ∧ g'.2.2.2.1 = z) → z.1 ≤ g.2.2.2.1.1 ∧ z.2 ≤ g.2.2.2.1.2 := by
    rintro ⟨g', e1, e2⟩
    cases e1
    rw [e2]
    exact ⟨Nat.le_refl _, Nat.le_refl _⟩
  unfold stepX at hs
  split at hs
  · exact fin (exLocals_z hs)
  · exact fin (exArith_z hs)
  · exact fin (exBranch_z hs)
  · exact fin (exHeap_z hs)
  · obtain ⟨g', e1, e2⟩ := exMake_z hs
    cases e1
    exact e2
  · obtain ⟨ins, len, a, b, cc, ws⟩ := li
    cases ins with
    | invokestatic idx =>
      simp only [exCall] at hs
      repeat' (first | (exact fin (nx_z hs)) | (cases hs; done) | split at hs)
    | invokespecial idx =>
      simp only [exCall] at hs
      repeat' (first | (exact fin (nx_z hs)) | (cases hs; done) | split at hs)
    | invokevirtual idx =>
      simp only [exCall] at hs
      repeat' (first | (cases hs; done) | split at hs)
    | ireturn =>
      simp only [exCall] at hs
      repeat' (first | (cases hs; done) | split at hs)
    | lreturn =>
      simp only [exCall] at hs
      repeat' (first | (cases hs; done) | split at hs)
    | return_ =>
      simp only [exCall] at hs
      repeat' (first | (cases hs; done) | split at hs)
    | _ => simp [exCall] at hs
theorem stepX_inr {mi pc : Nat} {li : LI} {L : List (Option Value)} {st : List Value} {z : Zc} {h : Hp} {x : Rs ⊕ (Nat × List Value × Fm)} (hs : stepX mi pc li L st z h = some (.inr x)) : exCall mi pc li L st z h = some (.inr x) := by
  unfold stepX at hs
  split at hs
  · obtain ⟨g', e1, e2⟩ := exLocals_z hs; cases e1
  · obtain ⟨g', e1, e2⟩ := exArith_z hs; cases e1
  · obtain ⟨g', e1, e2⟩ := exBranch_z hs; cases e1
  · obtain ⟨g', e1, e2⟩ := exHeap_z hs; cases e1
  · obtain ⟨g', e1, e2⟩ := exMake_z hs; cases e1
  · exact hs
theorem callF_g {pc : Nat} {li : LI} {L : List (Option Value)} {st : List Value} {z : Zc} {h : Hp} {mj : Nat} {as : List Value} {g : Fm} (hc : callF pc li L st z h mj as g) : g.2.2.2.1 = z ∧ g.2.2.2.2 = h ∧ g.1 = pc + 3 ∧ g.2.1 = L := by
  obtain ⟨-, hc⟩ := hc
  split at hc
  · obtain ⟨a, bs, rest, -, -, -, -, -, -, rfl⟩ := hc; exact ⟨rfl, rfl, rfl, rfl⟩
  · obtain ⟨rest, -, -, -, -, rfl, -⟩ := hc; exact ⟨rfl, rfl, rfl, rfl⟩
  · obtain ⟨a, bs, rest, -, -, -, -, -, rfl, -⟩ := hc; exact ⟨rfl, rfl, rfl, rfl⟩
  · exact hc.elim
theorem retF_z {mi : Nat} {li : LI} {st : List Value} {z : Zc} {h : Hp} {r : Rs} (hr : retF mi li st z h r) : r.2 = (z, h) ∧ (r.1 = none ∨ (∃ x, r.1 = some (.int x)) ∨ ∃ x, r.1 = some (.long x)) := by
  unfold retF at hr
  split at hr
  · rename_i x _ _; rw [hr.1]; exact ⟨rfl, Or.inr (Or.inl ⟨_, rfl⟩)⟩
  · rw [hr]; exact ⟨rfl, Or.inr (Or.inr ⟨_, rfl⟩)⟩
  · rw [hr]; exact ⟨rfl, Or.inl rfl⟩
  · exact hr.elim
theorem run_z : ∀ (n mi : Nat) (f : Fm) (r : Rs), run n mi f = some r → (f.2.2.2.1.1 ≤ r.2.1.1 ∧ f.2.2.2.1.2 ≤ r.2.1.2) ∧ (r.1 = none ∨ (∃ x, r.1 = some (.int x)) ∨ ∃ x, r.1 = some (.long x)) := by
  intro n
  induction n with
  | zero => intro mi f r h; cases h
  | succ n ih =>
    intro mi f r h
    rw [run] at h
    cases h1 : fetch mi f.1 with
    | none => rw [h1] at h; cases h
    | some li =>
      rw [h1] at h
      dsimp only at h
      cases h2 : stepX mi f.1 li f.2.1 f.2.2.1 f.2.2.2.1 f.2.2.2.2 with
      | none => rw [h2] at h; cases h
      | some x =>
        rw [h2] at h
        match x, h with
        | .inl g, h =>
          have hz := stepX_z h2
          obtain ⟨h3, h4⟩ := ih mi g r h
          exact ⟨⟨Nat.le_trans hz.1 h3.1, Nat.le_trans hz.2 h3.2⟩, h4⟩
        | .inr (.inl q), h =>
          have hc := exCall_ret (stepX_inr h2)
          obtain ⟨e1, e2⟩ := retF_z hc
          cases h
          rw [e1]
          exact ⟨⟨Nat.le_refl _, Nat.le_refl _⟩, e2⟩
        | .inr (.inr (mj, as, g)), h =>
          dsimp only at h
          have hc := exCall_call (stepX_inr h2)
          obtain ⟨e1, -, -, -⟩ := callF_g hc
          cases h3 : run n mj (0, padL (nLo mj) as, [], g.2.2.2.1, g.2.2.2.2) with
          | none => rw [h3] at h; cases h
          | some q =>
            rw [h3] at h
            obtain ⟨h4, -⟩ := ih _ _ _ h3
            obtain ⟨h5, h6⟩ := ih _ _ _ h
            dsimp only at h4 h5
            rw [e1] at h4
            exact ⟨⟨Nat.le_trans h4.1 h5.1, Nat.le_trans h4.2 h5.2⟩, h6⟩
-- a method's start
theorem padL_0 (vs : List Value) : padL 0 vs = [] := by cases vs <;> rfl
theorem padL_nil (n : Nat) : padL (n + 1) [] = none :: padL n [] := rfl
theorem padL_long1 (x : Int64) (vs : List Value) : padL 1 (.long x :: vs) = [some (.long x)] := rfl
theorem padL_long (k : Nat) (x : Int64) (vs : List Value) : padL (k + 2) (.long x :: vs) = some (.long x) :: none :: padL k vs := rfl
theorem padL_dbl1 (x : UInt64) (vs : List Value) : padL 1 (.double x :: vs) = [some (.double x)] := rfl
theorem padL_dbl (k : Nat) (x : UInt64) (vs : List Value) : padL (k + 2) (.double x :: vs) = some (.double x) :: none :: padL k vs := rfl
theorem padL_one (n : Nat) (w : Value) (vs : List Value) (hw : w.category = 1) : padL (n + 1) (w :: vs) = some w :: padL n vs := by
  cases w <;> first | rfl | (cases hw)
theorem padL_mem (G : Gm) : ∀ (n : Nat) (vs : List Value) (off i : Nat) (v : Value), lg i (padL n vs) = some v → (off + i, cV G v) ∈ lv_args off (vs.map (cV G)) := by
  intro n
  induction n using Nat.strongRecOn with
  | _ n ih =>
    intro vs off i v h
    cases n with
    | zero => rw [padL_0] at h; cases i <;> simp [lg] at h
    | succ n =>
      cases vs with
      | nil =>
        rw [padL_nil] at h
        cases i with
        | zero => simp [lg] at h
        | succ i =>
          simp only [lg] at h
          exact absurd (ih n (Nat.lt_succ_self n) [] 0 i v h) (by simp [lv_args])
      | cons w vs =>
        have two : w.category = 2 → (∀ k, n = k + 1 → padL (n + 1) (w :: vs) = some w :: none :: padL k vs) → (n = 0 → padL (n + 1) (w :: vs) = [some w]) → (off + i, cV G v) ∈ lv_args off ((w :: vs).map (cV G)) := by
          intro hc h1 h0
          rw [List.map_cons, lv_args, cV_cat, if_pos hc]
          cases n with
          | zero =>
            rw [h0 rfl] at h
            cases i with
            | zero => simp only [lg] at h; cases h; exact List.mem_cons_self
            | succ i => cases i <;> simp [lg] at h
          | succ k =>
            rw [h1 k rfl] at h
            cases i with
            | zero => simp only [lg] at h; cases h; exact List.mem_cons_self
            | succ i =>
              simp only [lg] at h
              cases i with
              | zero => simp [lg] at h
              | succ i =>
                simp only [lg] at h
                have := ih k (by omega) vs (off + 2) i v h
                rw [show off + (i + 1 + 1) = off + 2 + i by omega]
                exact List.mem_cons_of_mem _ this
        have one : w.category = 1 → (off + i, cV G v) ∈ lv_args off ((w :: vs).map (cV G)) := by
          intro hc
          rw [List.map_cons, lv_args, cV_cat, if_neg (by rw [hc]; decide)]
          rw [padL_one n w vs hc] at h
          cases i with
          | zero => simp only [lg] at h; cases h; exact List.mem_cons_self
          | succ i =>
            simp only [lg] at h
            have := ih n (Nat.lt_succ_self n) vs (off + 1) i v h
            rw [show off + (i + 1) = off + 1 + i by omega]
            exact List.mem_cons_of_mem _ this
        cases w with
        | long x => exact two rfl (fun k hk => by subst hk; rfl) (fun hk => by subst hk; rfl)
        | double x => exact two rfl (fun k hk => by subst hk; rfl) (fun hk => by subst hk; rfl)
        | int x => exact one rfl
        | float x => exact one rfl
        | null => exact one rfl
        | ref x => exact one rfl
        | retAddr x => exact one rfl
theorem padL_len : ∀ (n : Nat) (vs : List Value), stW vs ≤ n → (padL n vs).length = n := by
  intro n
  induction n using Nat.strongRecOn with
  | _ n ih =>
    intro vs h
    cases n with
    | zero => rw [padL_0]; rfl
    | succ n =>
      cases vs with
      | nil => rw [padL_nil, List.length_cons, ih n (Nat.lt_succ_self n) [] (Nat.zero_le _)]
      | cons w vs =>
        have hw : stW (w :: vs) = w.category + stW vs := by simp [stW]
        rw [hw] at h
        have one : w.category = 1 → (padL (n + 1) (w :: vs)).length = n + 1 := by
          intro hc
          rw [hc] at h
          rw [padL_one n w vs hc, List.length_cons, ih n (Nat.lt_succ_self n) vs (by omega)]
        cases w with
        | long x =>
          have h : 2 + stW vs ≤ n + 1 := h
          cases n with
          | zero => omega
          | succ k => rw [padL_long, List.length_cons, List.length_cons, ih k (by omega) vs (by omega)]
        | double x =>
          have h : 2 + stW vs ≤ n + 1 := h
          cases n with
          | zero => omega
          | succ k => rw [padL_dbl, List.length_cons, List.length_cons, ih k (by omega) vs (by omega)]
        | int x => exact one rfl
        | float x => exact one rfl
        | null => exact one rfl
        | ref x => exact one rfl
        | retAddr x => exact one rfl
theorem lg_sl_len (vs : List Value) : (lg_sl vs).length = stW vs := by
  unfold lg_sl stW
  induction vs with
  | nil => rfl
  | cons v t ih =>
    rw [List.flatMap_cons, List.length_append, ih, List.map_cons, List.sum_cons]
    congr 1
    rcases lv_cat v with hc | hc <;> simp [hc]
theorem entry_Lr (G : Gm) (as : List Value) (n : Nat) (h : stW as ≤ n) : Lr G ((lg_sl (as.map (cV G)) ++ List.replicate (n - (lg_sl (as.map (cV G))).length) Slot.unset).toArray) n (padL n as) := by
  have hl : (lg_sl (as.map (cV G))).length ≤ n := by
    rw [lg_sl_len]
    have : stW (as.map (cV G)) = stW as := stW_cV G as
    omega
  have h1 := lv_entry (as.map (cV G)) hl
  refine ⟨h1.1, h1.2.1, padL_len n as h, fun i v hv => ?_⟩
  have h2 := padL_mem G n as 0 i v hv
  rw [Nat.zero_add] at h2
  exact h1.2.2 _ h2
-- contracts
def AG (G : Gm) : Nat → Prop := fun q => G.2.1.1 ≤ q
def wsM (mi : Nat) : List Jvm.Cond := Jvm.Cond.code (mm mi).1 (mm mi).2.1 (mm mi).2.2.1 (mm mi).2.2.2.1 :: gtbl
def rmM (mi : Nat) (z z' : Zc) : Room := { frames := (mm mi).2.2.2.2.1, cells := z'.1 - z.1, slots := z'.2 - z.2, locals := (mm mi).2.2.2.2.2 }
def PcOf (G : Gm) (sc : List Int32) (as : List Value) (z : Zc) (h : Hp) : Array Value → State → Prop := va_Pc (as.map (cV G)) (fun U => U.heap.size = G.2.1.1 + z.1 ∧ Rl G sc z h U.heap ∧ KK G U ∧ SX G sc U U.heap)
def QcOf (G : Gm) (sc : List Int32) (v : Option Value) (z' : Zc) (h' : Hp) : Array Value → State → Outcome → State → Prop := match v with
  | some (.int x) => va_Qi (S := Unit) (fun r _ => r = x) (fun _ t => Rl G sc z' h' t.heap) (AG G)
  | some (.long x) => va_Ql (S := Unit) (fun r _ => r = x) (fun _ t => Rl G sc z' h' t.heap) (AG G)
  | _ => va_Qv (S := Unit) (fun _ => True) (fun _ t => Rl G sc z' h' t.heap) (AG G)
def MetI (l : Launch) (G : Gm) (sc : List Int32) (mi : Nat) (as : List Value) (z : Zc) (h : Hp) (v : Option Value) (z' : Zc) (h' : Hp) : Prop :=
  Met l (mm mi).1 (wsM mi) (rmM mi z z') (PcOf G sc as z h) (QcOf G sc v z' h') (z'.1 - z.1) (z'.2 - z.2) (AG G)
def HRet (p : Program) (l : Launch) (e : Env) (R : Room) (s : State) (m : MethodId) (args : Array Value) (below : List Frame) (meth : Method) (c : Code) (Q : State → Prop) (G : Gm) (sc : List Int32) (z0 : Zc) (mi : Nat) (r : Rs) : Prop :=
  ∀ (pc' : Nat) (ls : Array Slot) (H : Heap) (locs : List Loc), (match r.1 with
    | none => decode (mm mi).2.1 pc' = .ok (.return_, 1) ∧ (mm mi).2.2.2.1 = none
    | some (.int x) => decode (mm mi).2.1 pc' = .ok (.ireturn, 1) ∧ ((mm mi).2.2.2.1 = some .int ∨ ((mm mi).2.2.2.1 = some .boolean ∧ (x = 0 ∨ x = 1)))
    | some (.long _) => decode (mm mi).2.1 pc' = .ok (.lreturn, 1) ∧ (mm mi).2.2.2.1 = some .long
    | _ => False) → Rl G sc r.2.1 r.2.2 H → va_S (AG G) s.heap H locs → W p l e R s m args below meth c H locs (r.2.1.1 - z0.1) (r.2.1.2 - z0.2) Q (F0 m pc' ls (pushr r.1 []))
theorem good_sub {ws : List Jvm.Cond} (h : ∀ w ∈ ws, w ∈ gtbl) : GoodIn gtbl ws := fun w hw => ⟨h w hw, good_of_word (List.mem_filter.mp (h w hw)).2⟩
theorem fetch_lt {mi pc : Nat} {li : LI} (h : fetch mi pc = some li) : mi < cds.length := by
  unfold fetch at h
  cases hc : cds[mi]? with
  | none => rw [hc] at h; simp [lk] at h
  | some c => exact (List.getElem?_eq_some_iff.mp hc).1
theorem run_lt {n mi : Nat} {f : Fm} {r : Rs} (h : run n mi f = some r) : mi < cds.length := by
  cases n with
  | zero => cases h
  | succ n =>
    rw [run] at h
    cases h1 : fetch mi f.1 with
    | none => rw [h1] at h; cases h
    | some li => exact fetch_lt h1
theorem wsM_in {mj : Nat} (h0 : 0 < mj) (h : mj < cds.length) : ∀ w ∈ wsM mj, w ∈ gtbl := by
  intro w hw
  rcases List.mem_cons.mp hw with rfl | hw
  · exact cw_all mj h0 (by have : cds.length = 144 := rfl; omega)
  · exact hw
theorem PcOf.blind {G : Gm} {sc : List Int32} {as : List Value} {z : Zc} {h : Hp} : FrameBlind (PcOf G sc as z h) := by
  intro a U g mk q
  obtain ⟨q0, q1, q2, q3, q4⟩ := q
  exact ⟨q0, q1, q2, KK.same (u := U) (U := U.calling g mk a) rfl q3, va_X.moved (u := U) (U := U.calling g mk a) (Vm.Alike.refl U.vm) q4⟩
