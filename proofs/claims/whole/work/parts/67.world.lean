/-! the class's state that lasts, as one heap: plan, best order, changes -/
def W3 (h : Hp) (P : Pl) (Sb : Nat → Int32) (Ab : Nat → Nat → Nat) (S : Nat → Int32) (A : Nat → Nat → Nat) : Hp := cset (bset (pset h 15 P) Sb Ab) S A
theorem swap_bp (h : Hp) (P : Pl) (Sb : Nat → Int32) (Ab : Nat → Nat → Nat) : bset (pset h 15 P) Sb Ab = pset (bset h Sb Ab) 15 P := by
  funext j
  by_cases c : 39 ≤ j ∧ j ≤ 43
  · rw [bset_in _ _ _ c.1 c.2, pset_ne _ _ (by omega), bset_in _ _ _ c.1 c.2]
  · rw [bset_ne _ _ _ (by omega)]
    unfold pset
    rw [bset_ne _ _ _ (by omega)]
theorem swap_cb (h : Hp) (Sb : Nat → Int32) (Ab : Nat → Nat → Nat) (S : Nat → Int32) (A : Nat → Nat → Nat) : cset (bset h Sb Ab) S A = bset (cset h S A) Sb Ab := by
  funext j
  by_cases c : 65 ≤ j ∧ j ≤ 74
  · rw [cset_in _ _ _ c.1 c.2, bset_ne _ _ _ (by omega), cset_in _ _ _ c.1 c.2]
  · rw [cset_ne _ _ _ (by omega)]
    by_cases c2 : 39 ≤ j ∧ j ≤ 43
    · rw [bset_in _ _ _ c2.1 c2.2, bset_in _ _ _ c2.1 c2.2]
    · rw [bset_ne _ _ _ (by omega), bset_ne _ _ _ (by omega), cset_ne _ _ _ (by omega)]
theorem w3_b (h : Hp) (P : Pl) (Sb : Nat → Int32) (Ab : Nat → Nat → Nat) (S : Nat → Int32) (A : Nat → Nat → Nat) : W3 h P Sb Ab S A = bset (cset (pset h 15 P) S A) Sb Ab := swap_cb _ _ _ _ _
theorem w3_p (h : Hp) (P : Pl) (Sb : Nat → Int32) (Ab : Nat → Nat → Nat) (S : Nat → Int32) (A : Nat → Nat → Nat) : W3 h P Sb Ab S A = cset (pset (bset h Sb Ab) 15 P) S A := by unfold W3; rw [swap_bp]
theorem w3_ne (h : Hp) (P : Pl) (Sb : Nat → Int32) (Ab : Nat → Nat → Nat) (S : Nat → Int32) (A : Nat → Nat → Nat) {j : Nat} (hj : j < 15 ∨ (24 < j ∧ j < 39) ∨ (43 < j ∧ j < 65) ∨ 74 < j) : W3 h P Sb Ab S A j = h j := by
  unfold W3
  rw [cset_ne _ _ _ (by omega), bset_ne _ _ _ (by omega), pset_ne _ _ (by omega)]
theorem w3_P (h : Hp) (P : Pl) (Sb : Nat → Int32) (Ab : Nat → Nat → Nat) (S : Nat → Int32) (A : Nat → Nat → Nat) : PlanC (W3 h P Sb Ab S A) 15 P := (pset_C h (by decide) P).same (fun j a b => by unfold W3; rw [cset_ne _ _ _ (by omega), bset_ne _ _ _ (by omega)])
theorem w3_note {h : Hp} {P : Pl} {Sb : Nat → Int32} {Ab : Nat → Nat → Nat} {S : Nat → Int32} {A : Nat → Nat → Nat} {u b i w : Nat} (hu : S 0 = nI u) (hu8 : u ≤ 8) (hb : b = 0 ∨ b = 1) (h01 : ∀ j, A 1 j = 0 ∨ A 1 j = 1) (z : Zc) (Q : Option Value → Zc → Hp → Prop) : Ev 101 (0, [some (.ref 65), some (.int (nI b)), some (.int (nI i)), some (.int (nI w))], [], z, W3 h P Sb Ab S A) Q = Q none z (W3 h P Sb Ab (fup S 0 (nI (noteU u + 1))) (noteC A u b i w)) := note_eq hu hu8 hb h01 z Q
theorem w3_forget {h : Hp} {P : Pl} {Sb : Nat → Int32} {Ab : Nat → Nat → Nat} {S : Nat → Int32} {A : Nat → Nat → Nat} (z : Zc) (Q : Option Value → Zc → Hp → Prop) : Ev 86 (0, [some (.ref 39)], [], z, W3 h P Sb Ab S A) Q = Q none z (W3 h P (bv (nI 0) (Sb 1) (Sb 2)) Ab S A) := by
  rw [w3_b, w3_b]
  exact forget_eq z Q
theorem w3_take {h : Hp} {P : Pl} {Sb : Nat → Int32} {Ab : Nat → Nat → Nat} {S : Nat → Int32} {A : Nat → Nat → Nat} {u : Nat} (hu : S 0 = nI (u + 1)) (hu8 : u < 8) (hb : A 1 u = 0 ∨ A 1 u = 1) (h1 : A 1 u = 1 → A 2 u < P 0 1) (h0 : A 1 u = 0 → A 2 u < P 0 0) (v0 : P 0 0 ≤ 3) (v1 : P 0 1 ≤ 6) (z : Zc) (Q : Option Value → Zc → Hp → Prop) : Ev 103 (0, [some (.ref 65), some (.ref 15), none], [], z, W3 h P Sb Ab S A) Q = Q none z (W3 h (undoP P A u) Sb Ab (cv (nI u) (S 1)) A) := by
  rw [w3_p, w3_p]
  exact takeBack_eq hu hu8 hb h1 h0 v0 v1 z Q
theorem w3_restore {h : Hp} {P : Pl} {Sb : Nat → Int32} {Ab : Nat → Nat → Nat} {S : Nat → Int32} {A : Nat → Nat → Nat} {k : Nat} (hk : S 1 = nI (k + 1)) (hk2 : k < 2) (z : Zc) (Q : Option Value → Zc → Hp → Prop) : Ev 105 (0, [some (.ref 65), some (.ref 15)], [], z, W3 h P Sb Ab S A) Q = Q none z (W3 h (backP P A k) Sb Ab (cv (nI 0) (nI k)) A) := by
  rw [w3_p, w3_p]
  exact restore_eq hk hk2 z Q
theorem w3_save {h : Hp} {P : Pl} {Sb : Nat → Int32} {Ab : Nat → Nat → Nat} {S : Nat → Int32} {A : Nat → Nat → Nat} {k : Nat} (hk : S 1 = nI k) (hk2 : k < 2) (z : Zc) (Q : Option Value → Zc → Hp → Prop) : Ev 104 (0, [some (.ref 65), some (.ref 15)], [], z, W3 h P Sb Ab S A) Q = Q none z (W3 h P Sb Ab (cv (S 0) (nI (k + 1))) (saveC A P k)) := save_eq hk hk2 (fun S A => w3_P h P Sb Ab S A) z Q
theorem w3_r7 (h : Hp) (P : Pl) (Sb : Nat → Int32) (Ab : Nat → Nat → Nat) (S : Nat → Int32) (A : Nat → Nat → Nat) (f : Nat → Nat) : hput (W3 h P Sb Ab S A) 22 (AI 6 f) = W3 h (fup P 7 f) Sb Ab S A := by
  rw [w3_p, w3_p]
  exact cp3_r7 _ _ _ _ _
theorem w3_r2 (h : Hp) (P : Pl) (Sb : Nat → Int32) (Ab : Nat → Nat → Nat) (S : Nat → Int32) (A : Nat → Nat → Nat) (f : Nat → Nat) : hput (W3 h P Sb Ab S A) 17 (AI 3 f) = W3 h (fup P 2 f) Sb Ab S A := by
  rw [w3_p, w3_p]
  exact cp3_r2 _ _ _ _ _
