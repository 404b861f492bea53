/-! the small machine's steps are the machine's: fields, arrays -/
theorem cT_1 {ci k : Nat} (hk : k < cN ci) : (cT ci k).1 = cnm ci := by
  unfold cT
  have h : k < (cfl ci).length := hk
  rw [List.getElem?_eq_getElem h]
def uwOK (ci : Nat) : Bool := (u_ws (cnm ci) (cT ci) (cN ci)).all fun w => goodWord w && decide (w ∈ lw_tbl)
theorem uw0 : uwOK 0 = true := by decide +kernel
theorem uw1 : uwOK 1 = true := by decide +kernel
theorem uw2 : uwOK 2 = true := by decide +kernel
theorem uw3 : uwOK 3 = true := by decide +kernel
theorem uw4 : uwOK 4 = true := by decide +kernel
theorem uw5 : uwOK 5 = true := by decide +kernel
theorem uw6 : uwOK 6 = true := by decide +kernel
theorem uw7 : uwOK 7 = true := by decide +kernel
theorem uw8 : uwOK 8 = true := by decide +kernel
theorem nine {P : Nat → Prop} (h0 : P 0) (h1 : P 1) (h2 : P 2) (h3 : P 3) (h4 : P 4) (h5 : P 5) (h6 : P 6) (h7 : P 7) (h8 : P 8) {ci : Nat} (h : ci < 9) : P ci := by
  have h9 : ci = 0 ∨ ci = 1 ∨ ci = 2 ∨ ci = 3 ∨ ci = 4 ∨ ci = 5 ∨ ci = 6 ∨ ci = 7 ∨ ci = 8 := by omega
  rcases h9 with rfl | rfl | rfl | rfl | rfl | rfl | rfl | rfl | rfl <;> assumption
theorem uw_all {ci : Nat} (h : ci < 9) : ∀ w ∈ u_ws (cnm ci) (cT ci) (cN ci), w ∈ gtbl := by
  have h1 : uwOK ci = true := nine (P := fun ci => uwOK ci = true) uw0 uw1 uw2 uw3 uw4 uw5 uw6 uw7 uw8 h
  intro w hw
  have h2 := List.all_eq_true.mp h1 w hw
  rw [Bool.and_eq_true] at h2
  exact List.mem_filter.mpr ⟨of_decide_eq_true h2.2, h2.1⟩
def cty (ci k : Nat) : FieldType := (parseFieldDescriptor (cT ci k).2.2.1).getD .int
def ftOK (d : String) (t : FieldType) : Bool := match t with
  | .int => decide (d = "I")
  | .boolean => decide (d = "Z")
  | .long => decide (d = "J")
  | .object _ => decide (d ≠ "I" ∧ d ≠ "Z" ∧ d ≠ "J")
  | .array _ => decide (d ≠ "I" ∧ d ≠ "Z" ∧ d ≠ "J")
  | _ => false
def ctOK (ci : Nat) : Bool := (List.range (cN ci)).all fun k => decide (parseFieldDescriptor (cT ci k).2.2.1 = some (cty ci k)) && (ftOK (cT ci k).2.2.1 (cty ci k) && decide (dflt (cT ci k).2.2.1 = defaultValue (cty ci k)))
theorem ct0 : ctOK 0 = true := by decide +kernel
theorem ct1 : ctOK 1 = true := by decide +kernel
theorem ct2 : ctOK 2 = true := by decide +kernel
theorem ct3 : ctOK 3 = true := by decide +kernel
theorem ct4 : ctOK 4 = true := by decide +kernel
theorem ct5 : ctOK 5 = true := by decide +kernel
theorem ct6 : ctOK 6 = true := by decide +kernel
theorem ct7 : ctOK 7 = true := by decide +kernel
theorem ct8 : ctOK 8 = true := by decide +kernel
theorem ct_all {ci k : Nat} (h : ci < 9) (hk : k < cN ci) : parseFieldDescriptor (cT ci k).2.2.1 = some (cty ci k) ∧ ftOK (cT ci k).2.2.1 (cty ci k) = true ∧ dflt (cT ci k).2.2.1 = defaultValue (cty ci k) := by
  have h1 : ctOK ci = true := nine (P := fun ci => ctOK ci = true) ct0 ct1 ct2 ct3 ct4 ct5 ct6 ct7 ct8 h
  have h2 := List.all_eq_true.mp h1 k (List.mem_range.mpr hk)
  rw [Bool.and_eq_true, Bool.and_eq_true] at h2
  exact ⟨of_decide_eq_true h2.1, h2.2.1, of_decide_eq_true h2.2.2⟩
def cdOK (ci : Nat) : Bool := (List.range (cN ci)).all fun a => (List.range (cN ci)).all fun b => decide (a = b) || decide ((cT ci a).2.1 ≠ (cT ci b).2.1)
theorem cd_0 : cdOK 0 = true := by decide +kernel
theorem cd_1 : cdOK 1 = true := by decide +kernel
theorem cd_2 : cdOK 2 = true := by decide +kernel
theorem cd_3 : cdOK 3 = true := by decide +kernel
theorem cd_4 : cdOK 4 = true := by decide +kernel
theorem cd_5 : cdOK 5 = true := by decide +kernel
theorem cd_6 : cdOK 6 = true := by decide +kernel
theorem cd_7 : cdOK 7 = true := by decide +kernel
theorem cd_8 : cdOK 8 = true := by decide +kernel
theorem cd_all {ci : Nat} (h : ci < 9) : ∀ a, a < cN ci → ∀ b, b < cN ci → a ≠ b → (cT ci a).2.1 ≠ (cT ci b).2.1 := by
  have h1 : cdOK ci = true := nine (P := fun ci => cdOK ci = true) cd_0 cd_1 cd_2 cd_3 cd_4 cd_5 cd_6 cd_7 cd_8 h
  intro a ha b hb hne
  have h2 := List.all_eq_true.mp (List.all_eq_true.mp h1 a (List.mem_range.mpr ha)) b (List.mem_range.mpr hb)
  rw [Bool.or_eq_true] at h2
  rcases h2 with h2 | h2
  · exact absurd (of_decide_eq_true h2) hne
  · exact of_decide_eq_true h2
theorem vfit_ok {d : String} {t : FieldType} {v : Value} (G : Gm) (ht : ftOK d t = true) (hv : vfit (tcode d) v = true) : narrow t (cV G v) = cV G v ∧ fits t (cV G v) = true := by
  cases t with
  | int =>
    have hd : d = "I" := of_decide_eq_true ht
    subst hd
    rw [show tcode "I" = 0 from rfl] at hv
    cases v <;> simp [vfit] at hv <;> exact ⟨rfl, rfl⟩
  | boolean =>
    have hd : d = "Z" := of_decide_eq_true ht
    subst hd
    rw [show tcode "Z" = 1 by decide +kernel] at hv
    cases v with
    | int x =>
      simp [vfit] at hv
      rcases hv with rfl | rfl <;> exact ⟨rfl, rfl⟩
    | _ => simp [vfit] at hv
  | long =>
    have hd : d = "J" := of_decide_eq_true ht
    subst hd
    rw [show tcode "J" = 2 by decide +kernel] at hv
    cases v <;> simp [vfit] at hv <;> exact ⟨rfl, rfl⟩
  | object n =>
    obtain ⟨h1, h2, h3⟩ := of_decide_eq_true ht
    rw [show tcode d = 3 by simp [tcode, h1, h2, h3]] at hv
    cases v <;> simp [vfit] at hv <;> exact ⟨rfl, rfl⟩
  | array n =>
    obtain ⟨h1, h2, h3⟩ := of_decide_eq_true ht
    rw [show tcode d = 3 by simp [tcode, h1, h2, h3]] at hv
    cases v <;> simp [vfit] at hv <;> exact ⟨rfl, rfl⟩
  | _ => cases ht
section HP
variable {G : Gm} {sc : List Int32} {z : Zc} {h : Hp} {H H1 : Heap}
theorem wsF_at {hp : List AE} {j : Nat} {e : AE} (he : hp[j]? = some e) : (wsF G 0 hp)[j]? = some (cR G (j + 1), cE G e) := by
  rw [wsF_get, he, Nat.zero_add]
  rfl
theorem wsF_put {hp : List AE} {j : Nat} {e : AE} : (wsF G 0 hp).set j (cR G (j + 1), cE G e) = wsF G 0 (hp.set j e) := by
  have := wsF_set G e hp 0 j
  rw [Nat.zero_add] at this
  exact this
/-- behind a store into cell j + 1 -/
theorem Rl.put {hp : List AE} {j : Nat} {e e' : AE} (h0 : h 0 = some (.inr (.inl (false, sc)))) (hl : hp.length = z.1) (hh : ∀ k, h (k + 1) = hp[k]?) (he : hp[j]? = some e) (hP : va_P G.1 classes ((wsF G 0 hp).set j (cR G (j + 1), cE G e')) H1) : Rl G sc z (hput h (j + 1) e') H1 := by
  refine ⟨?_, hp.set j e', by rw [List.length_set]; exact hl, fun k => ?_, by rw [← wsF_put]; exact hP⟩
  · show (if 0 = j + 1 then _ else h 0) = _
    rw [if_neg (by omega)]; exact h0
  · show (if k + 1 = j + 1 then some e' else h (k + 1)) = _
    by_cases hk : k = j
    · subst hk
      rw [if_pos rfl, List.getElem?_set_self (List.getElem?_eq_some_iff.mp he).1]
    · rw [if_neg (by omega), List.getElem?_set_ne (Ne.symm hk), hh]
theorem Rl.size (hR : Rl G sc z h H) (hb : G.2.1.1 ≤ H.size) : G.2.1.1 + z.1 ≤ H.size := by
  obtain ⟨-, hp, hl, -, hP⟩ := hR
  rcases Nat.eq_zero_or_pos z.1 with hz | hz
  · rw [hz]; exact hb
  · obtain ⟨e, he⟩ : ∃ e, hp[z.1 - 1]? = some e := ⟨_, List.getElem?_eq_getElem (by omega)⟩
    have h1 := (hP _ _ (wsF_at he)).lt
    have h2 : G.2.1.1 + (z.1 - 1) < H.size := h1
    omega
end HP
theorem aget_some {α : Type} {l : List α} {i : Int32} {x : α} (h : aget l i = some x) : vp_in i l.length ∧ l[i.toNatClampNeg]? = some x ∧ i.toNatClampNeg < l.length := by
  unfold aget at h
  split at h
  · cases h
  · rename_i hi
    have hlt := (List.getElem?_eq_some_iff.mp h).1
    exact ⟨fun q => q.elim hi (fun q => absurd hlt (Nat.not_lt.mpr q)), h, hlt⟩
theorem aset_some {α : Type} {l l' : List α} {i : Int32} {x : α} (h : aset l i x = some l') : vp_in i l.length ∧ l' = l.set i.toNatClampNeg x ∧ i.toNatClampNeg < l.length := by
  unfold aset at h
  split at h
  · cases h
  · rename_i hi
    split at h
    · rename_i hlt
      cases h
      exact ⟨fun q => q.elim hi (fun q => absurd hlt (Nat.not_lt.mpr q)), rfl, hlt⟩
    · cases h
theorem getD_of {α : Type} {l : List α} {i : Nat} {x d : α} (h : l[i]? = some x) : l.getD i d = x := by
  rw [List.getD_eq_getElem?_getD, h]; rfl
theorem sgetD {α : Type} (l : List α) (i : Nat) (x d : α) (h : i < l.length) : (fun j => (l.set i x).getD j d) = (fun j => if j = i then x else l.getD j d) := by
  funext j
  rw [List.getD_eq_getElem?_getD, List.getElem?_set]
  by_cases hj : j = i
  · subst hj
    simp [h]
  · rw [if_neg (fun q => hj q.symm), if_neg hj, List.getD_eq_getElem?_getD]
theorem cpy_len {α : Type} (xs ys : List α) {sp dp n : Nat} (h1 : sp + n ≤ xs.length) (h2 : dp + n ≤ ys.length) : (cpy xs ys sp dp n).length = ys.length := by
  simp [cpy]
  omega
theorem cpy_getD {α : Type} (xs ys : List α) (d : α) {sp dp n : Nat} (h1 : sp + n ≤ xs.length) (h2 : dp + n ≤ ys.length) : (fun j => (cpy xs ys sp dp n).getD j d) = va_cpy (fun j => xs.getD j d) (fun j => ys.getD j d) sp dp n := by
  funext j
  simp only [va_cpy, List.getD_eq_getElem?_getD, cpy]
  congr 1
  by_cases hj : j < dp
  · rw [List.getElem?_append_left (by simp; omega), List.getElem?_take_of_lt hj, if_neg (by omega)]
  · rw [List.getElem?_append_right (by simp; omega)]
    have e1 : (ys.take dp).length = dp := by simp; omega
    rw [e1]
    by_cases hj2 : j < dp + n
    · rw [if_pos ⟨by omega, hj2⟩, List.getElem?_append_left (by simp; omega), List.getElem?_take_of_lt (by omega), List.getElem?_drop]
    · rw [if_neg (by omega), List.getElem?_append_right (by simp; omega)]
      have e2 : ((xs.drop sp).take n).length = n := by simp; omega
      rw [e2, List.getElem?_drop, show dp + n + (j - dp - n) = j by omega]
theorem acpy_some {α : Type} {xs ys l : List α} {sp dp n : Int32} (h : acpy xs ys sp dp n = some l) : ¬ sp < 0 ∧ ¬ dp < 0 ∧ ¬ n < 0 ∧ sp.toNatClampNeg + n.toNatClampNeg ≤ xs.length ∧ dp.toNatClampNeg + n.toNatClampNeg ≤ ys.length ∧ l = cpy xs ys sp.toNatClampNeg dp.toNatClampNeg n.toNatClampNeg := by
  unfold acpy at h
  split at h
  · cases h
  · rename_i h1
    split at h
    · cases h
    · rename_i h2
      split at h
      · cases h
      · rename_i h3
        split at h
        · rename_i h4
          split at h
          · rename_i h5
            cases h
            exact ⟨h1, h2, h3, h4, h5, rfl⟩
          · cases h
        · cases h
theorem vp_narZ {x : Int32} (h : x = 0 ∨ x = 1) : vp_nar .boolean x = x := by
  rcases h with rfl | rfl <;> rfl
theorem gf_some {h : Hp} {a ci k : Nat} {v : Value} (hg : gf h a ci k = some v) : ∃ fs, h a = some (.inl (ci, fs)) ∧ fs[k]? = some v := by
  unfold gf at hg
  split at hg
  · rename_i c fs he
    split at hg
    · rename_i hc
      have e := Nat.eq_of_beq_eq_true hc
      subst e
      exact ⟨fs, he, hg⟩
    · cases hg
  · cases hg
theorem pf_some {h h' : Hp} {a ci k t : Nat} {v : Value} (hg : pf h a ci k t v = some h') : ∃ fs, h a = some (.inl (ci, fs)) ∧ k < fs.length ∧ vfit t v = true ∧ h' = hput h a (.inl (ci, fs.set k v)) := by
  unfold pf at hg
  split at hg
  · rename_i c fs he
    split at hg
    · rename_i hc
      rw [Bool.and_eq_true, Bool.and_eq_true] at hc
      have e := Nat.eq_of_beq_eq_true hc.1
      subst e
      cases hg
      exact ⟨fs, he, by have := hc.2.1; simpa [Nat.blt_eq] using this, hc.2.2, rfl⟩
    · cases hg
  · cases hg
theorem iget_some {h : Hp} {a : Nat} {i x : Int32} (hg : iget h a i = some x) : ∃ l, h a = some (.inr (.inl (false, l))) ∧ aget l i = some x := by
  unfold iget at hg
  split at hg
  · rename_i zz l he
    split at hg
    · cases hg
    · rename_i hz
      cases zz
      · exact ⟨l, he, hg⟩
      · exact absurd rfl hz
  · cases hg
theorem zget_some {h : Hp} {a : Nat} {i x : Int32} (hg : zget h a i = some x) : ∃ j l, a = j + 1 ∧ h a = some (.inr (.inl (true, l))) ∧ aget l i = some x := by
  unfold zget at hg
  split at hg
  · rename_i j zz l he
    split at hg
    · rename_i hz
      subst hz
      exact ⟨j, l, rfl, he, hg⟩
    · cases hg
  · cases hg
theorem jget_some {h : Hp} {a : Nat} {i : Int32} {x : Int64} (hg : jget h a i = some x) : ∃ j l, a = j + 1 ∧ h a = some (.inr (.inr (.inl l))) ∧ aget l i = some x := by
  unfold jget at hg
  split at hg
  · rename_i j l he
    exact ⟨j, l, rfl, he, hg⟩
  · cases hg
theorem rget_some {h : Hp} {a : Nat} {i : Int32} {x : Nat} (hg : rget h a i = some x) : ∃ j w l, a = j + 1 ∧ h a = some (.inr (.inr (.inr (w, l)))) ∧ aget l i = some (some x) := by
  unfold rget at hg
  split at hg
  · rename_i j w l he
    split at hg
    · rename_i r hr
      cases hg
      exact ⟨j, w, l, rfl, he, hr⟩
    · cases hg
  · cases hg
theorem iset_some {h h' : Hp} {a : Nat} {i x : Int32} (hg : iset h a i x = some h') : ∃ j l l', a = j + 1 ∧ h a = some (.inr (.inl (false, l))) ∧ aset l i x = some l' ∧ h' = hput h a (.inr (.inl (false, l'))) := by
  unfold iset at hg
  split at hg
  · rename_i j zz l he
    split at hg
    · cases hg
    · rename_i hz
      cases zz
      · cases hs : aset l i x with
        | none => rw [hs] at hg; cases hg
        | some l' => rw [hs] at hg; cases hg; exact ⟨j, l, l', rfl, he, hs, rfl⟩
      · exact absurd rfl hz
  · cases hg
theorem zset_some {h h' : Hp} {a : Nat} {i x : Int32} (hg : zset h a i x = some h') : ∃ j l l', a = j + 1 ∧ h a = some (.inr (.inl (true, l))) ∧ (x = 0 ∨ x = 1) ∧ aset l i x = some l' ∧ h' = hput h a (.inr (.inl (true, l'))) := by
  unfold zset at hg
  split at hg
  · rename_i j zz l he
    split at hg
    · rename_i hz
      rw [Bool.and_eq_true, Bool.or_eq_true, beq_iff_eq, beq_iff_eq] at hz
      obtain ⟨h1, h2⟩ := hz
      subst h1
      cases hs : aset l i x with
      | none => rw [hs] at hg; cases hg
      | some l' => rw [hs] at hg; cases hg; exact ⟨j, l, l', rfl, he, h2, hs, rfl⟩
    · cases hg
  · cases hg
theorem jset_some {h h' : Hp} {a : Nat} {i : Int32} {x : Int64} (hg : jset h a i x = some h') : ∃ j l l', a = j + 1 ∧ h a = some (.inr (.inr (.inl l))) ∧ aset l i x = some l' ∧ h' = hput h a (.inr (.inr (.inl l'))) := by
  unfold jset at hg
  split at hg
  · rename_i j l he
    cases hs : aset l i x with
    | none => rw [hs] at hg; cases hg
    | some l' => rw [hs] at hg; cases hg; exact ⟨j, l, l', rfl, he, hs, rfl⟩
  · cases hg
theorem ck_some {h : Hp} {a ci : Nat} (hg : ck h a ci = true) : ∃ fs, h a = some (.inl (ci, fs)) := by
  unfold ck at hg
  split at hg
  · rename_i c fs he
    have e := Nat.eq_of_beq_eq_true hg
    subst e
    exact ⟨fs, he⟩
  · cases hg
theorem rset_some {h h' : Hp} {a : Nat} {i : Int32} {x : Nat} (hg : rset h a i x = some h') : ∃ j l l', a = j + 1 ∧ h a = some (.inr (.inr (.inr (0, l)))) ∧ ck h x 4 = true ∧ aset l i (some x) = some l' ∧ h' = hput h a (.inr (.inr (.inr (0, l')))) := by
  unfold rset at hg
  split at hg
  · rename_i j w l he
    split at hg
    · rename_i hz
      rw [Bool.and_eq_true] at hz
      obtain ⟨h1, h2⟩ := hz
      have e := Nat.eq_of_beq_eq_true h1
      subst e
      cases hs : aset l i (some x) with
      | none => rw [hs] at hg; cases hg
      | some l' => rw [hs] at hg; cases hg; exact ⟨j, l, l', rfl, he, h2, hs, rfl⟩
    · cases hg
  · cases hg
