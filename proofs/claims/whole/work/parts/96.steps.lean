/-! the calls that change plan, changes or text -/
theorem CC.same_w3 {H : Hp} {sc : List Int32} {len : Nat} {T : Nat → Nat} {P : Pl} {Sb : Nat → Int32} {Ab : Nat → Nat → Nat} {Sc : Nat → Int32} {Ac : Nat → Nat → Nat} (h : CC H sc len T P Sb Ab Sc Ac) : W3 H P Sb Ab Sc Ac = H := by
  obtain ⟨-, h3, -, -, h6, -, h8, -⟩ := h
  unfold W3
  rw [h3.id, h6, h8]
theorem CC.w3 {H : Hp} {sc : List Int32} {len : Nat} {T : Nat → Nat} {P : Pl} {Sb : Nat → Int32} {Ab : Nat → Nat → Nat} {Sc : Nat → Int32} {Ac : Nat → Nat → Nat} (h : CC H sc len T P Sb Ab Sc Ac) (P2 : Pl) (Sb2 : Nat → Int32) (Ab2 : Nat → Nat → Nat) (Sc2 : Nat → Int32) (Ac2 : Nat → Nat → Nat) : CC (W3 H P2 Sb2 Ab2 Sc2 Ac2) sc len T P2 Sb2 Ab2 Sc2 Ac2 := by
  obtain ⟨⟨h0, h1, h2⟩, h3, h4, h5, h6, ⟨V, h7⟩, h8, a, b, F, G, h9⟩ := h
  have ne : ∀ j, (j < 15 ∨ (24 < j ∧ j < 39) ∨ (43 < j ∧ j < 65) ∨ 74 < j) → W3 H P2 Sb2 Ab2 Sc2 Ac2 j = H j := fun j hj => w3_ne H P2 Sb2 Ab2 Sc2 Ac2 hj
  refine ⟨⟨(ne 0 (by decide)).trans h0, (ne 1 (by decide)).trans h1, (ne 3 (by decide)).trans h2⟩, w3_P H P2 Sb2 Ab2 Sc2 Ac2, h4.same (fun j x y => ne j (by omega)), h5.same (fun j x y => ne j (by omega)), ?_, ⟨V, vset_keep h7 (fun j x y => ne j (by omega))⟩, ?_, a, b, F, G, qset_keep h9 (fun j x y => ne j (by omega))⟩
  · rw [w3_b, bset_set]
  · unfold W3
    rw [cset_set]
theorem valid_2 {P : Pl} (hV : Valid P) {f : Nat → Nat} (hf : ∀ e, e < P 0 0 → f e ≤ 60) : Valid (fup P 2 f) := by
  obtain ⟨v0, v1, v2, v3, v4, v5, v6, v7⟩ := hV
  exact ⟨v0, v1, v2, v3, fun e he => ⟨(v4 e he).1, (v4 e he).2.1, hf e he, (v4 e he).2.2.2.1, (v4 e he).2.2.2.2⟩, v5, v6, v7⟩
theorem MP_14 {A A1 : Nat → Nat → Nat} (h : ∀ k, k ≤ 15 → k ≠ 14 → A1 k = A k) : MP A1 = fup (MP A) 2 (A1 14) := by
  funext i
  rw [fup_at]
  by_cases c : i = 2
  · subst c; rfl
  · rw [if_neg c]
    unfold MP
    rw [if_neg c, if_neg c, h 2 (by decide) (by decide), h 3 (by decide) (by decide), h 4 (by decide) (by decide), h 5 (by decide) (by decide), h 6 (by decide) (by decide), h 7 (by decide) (by decide), h 8 (by decide) (by decide), h 9 (by decide) (by decide), h 10 (by decide) (by decide), h 11 (by decide) (by decide), h 12 (by decide) (by decide), h 13 (by decide) (by decide)]
theorem MP_15 (A : Nat → Nat → Nat) (f : Nat → Nat) : MP (fup A 15 f) = MP A := rfl
theorem PEq.f7 {P R : Pl} (h : PEq P R) {f g : Nat → Nat} (hf : ∀ i, i < P 0 1 → f i = g i) : PEq (fup P 7 f) (fup R 7 g) :=
  ⟨h.1, h.2.1, fun i hi => ⟨(h.2.2.1 i hi).1, (h.2.2.1 i hi).2.1, hf i hi⟩, h.2.2.2.1, h.2.2.2.2⟩
theorem PEq.f2 {P R : Pl} (h : PEq P R) {f g : Nat → Nat} (hf : ∀ e, e < P 0 0 → f e = g e) : PEq (fup P 2 f) (fup R 2 g) :=
  ⟨h.1, fun e he => ⟨(h.2.1 e he).1, hf e he, (h.2.1 e he).2.2.1, (h.2.1 e he).2.2.2⟩, h.2.2.1, h.2.2.2.1, h.2.2.2.2⟩
theorem UE.cg {P P2 : Pl} {Ac A A2 : Nat → Nat → Nat} {j : Nat} (h : UE P Ac A j) (e0 : P2 0 0 = P 0 0) (e1 : P2 0 1 = P 0 1) (e15 : A2 15 = A 15) : UE P2 Ac A2 j := by
  unfold UE at h ⊢
  rw [e0, e1, e15]
  exact h
theorem KE.cg {P P2 : Pl} {Ac Ac2 A A2 : Nat → Nat → Nat} {j : Nat} (h : KE P Ac A j) (e0 : P2 0 0 = P 0 0) (e1 : P2 0 1 = P 0 1) (hA : ∀ x, 5 ≤ x → Ac2 x = Ac x) (h13 : ∀ j, 12 ≤ j → A2 13 j = A 13 j) (h14 : ∀ j, 6 ≤ j → A2 14 j = A 14 j) : KE P2 Ac2 A2 j := by
  unfold KE at h ⊢
  rw [e0, e1, hA _ (by omega), hA _ (by omega)]
  exact ⟨fun i hi => by rw [h13 _ (by omega)]; exact h.1 i hi, fun e he => by rw [h14 _ (by omega)]; exact h.2 e he⟩
theorem mnoteT_0 (T : Nat → Nat) (v w i d : Nat) : mnoteT T v w i d (3 * v) = w := by
  unfold mnoteT
  rw [fup_ne _ _ (by omega), fup_ne _ _ (by omega), fup_self]
theorem mnoteT_1 (T : Nat → Nat) (v w i d : Nat) : mnoteT T v w i d (3 * v + 1) = i := by
  unfold mnoteT
  rw [fup_ne _ _ (by omega), fup_self]
theorem mnoteT_2 (T : Nat → Nat) (v w i d : Nat) : mnoteT T v w i d (3 * v + 2) = d := by
  unfold mnoteT
  rw [fup_self]
theorem mnoteT_ne (T : Nat → Nat) {v j : Nat} (w i d : Nat) (h : j < 3 * v) : mnoteT T v w i d j = T j := by
  unfold mnoteT
  rw [fup_ne _ _ (by omega), fup_ne _ _ (by omega), fup_ne _ _ (by omega)]
theorem ue_new {P : Pl} {B A2 : Nat → Nat → Nat} {v b i d : Nat} {T : Nat → Nat} (hb : (b = 1 ∧ i < P 0 1 ∧ 1 ≤ d ∧ d ≤ 20) ∨ (b = 0 ∧ i < P 0 0 ∧ d ≤ 60)) (h15 : A2 15 = mnoteT T v (1 - b) i d) : UE P (noteA B v b i d) A2 v := by
  unfold UE
  have a1 : noteA B v b i d 1 v = b := fup_self (B 1) v b
  have a2 : noteA B v b i d 2 v = i := fup_self (B 2) v i
  have a3 : noteA B v b i d 3 v = d := fup_self (B 3) v d
  rw [h15, a1, a2, a3, mnoteT_0, mnoteT_1, mnoteT_2]
  refine ⟨⟨rfl, rfl⟩, fun q => ?_, fun q => ?_⟩
  · rcases hb with ⟨g1, g2, g3, g4⟩ | ⟨g1, g2, g3⟩
    · exact ⟨by omega, g2, g3, g4⟩
    · omega
  · rcases hb with ⟨g1, g2, g3, g4⟩ | ⟨g1, g2, g3⟩
    · omega
    · exact ⟨by omega, g2, g3⟩
theorem ue_old {P : Pl} {B Ac A A2 : Nat → Nat → Nat} {v b i d j k : Nat} {T : Nat → Nat} (hj : j < v) (h : UE P Ac A k) (hB : B 1 j = Ac 1 k ∧ B 2 j = Ac 2 k ∧ B 3 j = Ac 3 k) (hT : T (3 * j) = A 15 (3 * k) ∧ T (3 * j + 1) = A 15 (3 * k + 1) ∧ T (3 * j + 2) = A 15 (3 * k + 2)) (w : Nat) (h15 : A2 15 = mnoteT T v w i d) : UE P (noteA B v b i d) A2 j := by
  unfold UE at h ⊢
  have a1 : noteA B v b i d 1 j = Ac 1 k := (fup_ne (B 1) b (by omega)).trans hB.1
  have a2 : noteA B v b i d 2 j = Ac 2 k := (fup_ne (B 2) i (by omega)).trans hB.2.1
  have a3 : noteA B v b i d 3 j = Ac 3 k := (fup_ne (B 3) d (by omega)).trans hB.2.2
  rw [h15, a1, a2, a3, mnoteT_ne T w i d (by omega), mnoteT_ne T w i d (by omega), mnoteT_ne T w i d (by omega), hT.1, hT.2.1, hT.2.2]
  exact h
theorem note_CH {P P2 : Pl} {Sc : Nat → Int32} {Ac : Nat → Nat → Nat} {S2 : Nat → Int32} {A A2 : Nat → Nat → Nat} {u k b i d : Nat} (hu8 : u ≤ 8) (hk2 : k ≤ 2) (hS1 : Sc 1 = nI k) (c1 : ∀ j, Ac 1 j = 0 ∨ Ac 1 j = 1) (hue : ∀ j, j < u → UE P Ac A j) (hke : ∀ j, j < k → KE P Ac A j) (hb : (b = 1 ∧ i < P 0 1 ∧ 1 ≤ d ∧ d ≤ 20) ∨ (b = 0 ∧ i < P 0 0 ∧ d ≤ 60)) (e0 : P2 0 0 = P 0 0) (e1 : P2 0 1 = P 0 1) (hs1 : S2 1 = nI k) (hs2 : S2 2 = nI (noteU u + 1)) (h15 : A2 15 = mnoteT (if u < 8 then A 15 else shT (A 15) 21) (noteU u) (1 - b) i d) (h13 : ∀ j, 12 ≤ j → A2 13 j = A 13 j) (h14 : ∀ j, 6 ≤ j → A2 14 j = A 14 j) : CH P2 (fup Sc 0 (nI (noteU u + 1))) (noteC Ac u b i d) S2 A2 := by
  have hb01 : b = 0 ∨ b = 1 := by
    rcases hb with g | g
    · exact Or.inr g.1
    · exact Or.inl g.1
  have hn8 : noteU u + 1 ≤ 8 := by unfold noteU; split <;> omega
  refine ⟨?_, noteU u + 1, k, ⟨fup_self _ _ _, hn8, hS1, hk2, hs2, hs1⟩, fun j hj => ?_, fun j hj => (hke j hj).cg e0 e1 (fun x hx => ?_) h13 h14⟩
  · intro j
    unfold noteC
    split
    · show fup (Ac 1) u b j = 0 ∨ fup (Ac 1) u b j = 1
      rw [fup_at]
      split
      · exact hb01
      · exact c1 j
    · show fup (shA 8 Ac 1) 7 b j = 0 ∨ fup (shA 8 Ac 1) 7 b j = 1
      rw [fup_at]
      split
      · exact hb01
      · exact shA_01 c1 8 j
  · refine UE.cg (P := P) (A := A2) ?_ e0 e1 rfl
    unfold noteC
    by_cases c : u < 8
    · unfold noteU at hj h15
      rw [if_pos c] at hj h15 ⊢
      rw [if_pos c] at h15
      by_cases cj : j = u
      · subst cj
        exact ue_new hb h15
      · exact ue_old (by omega) (hue j (by omega)) ⟨rfl, rfl, rfl⟩ ⟨rfl, rfl, rfl⟩ _ h15
    · unfold noteU at hj h15
      rw [if_neg c] at hj h15 ⊢
      rw [if_neg c] at h15
      by_cases cj : j = 7
      · subst cj
        exact ue_new hb h15
      · have s : ∀ x, x = 1 ∨ x = 2 ∨ x = 3 → shA 8 Ac x j = Ac x (j + 1) := fun x hx => by
          unfold shA
          rw [if_pos hx]
          exact if_pos (by omega)
        have t : ∀ y, y < 21 → shT (A 15) 21 y = A 15 (y + 3) := fun y hy => if_pos hy
        have m : ∀ y, 3 * j + y + 3 = 3 * (j + 1) + y := fun y => by omega
        exact ue_old (by omega) (hue (j + 1) (by omega)) ⟨s 1 (Or.inl rfl), s 2 (Or.inr (Or.inl rfl)), s 3 (Or.inr (Or.inr rfl))⟩ ⟨by rw [t _ (by omega), m 0, Nat.add_zero], by rw [t _ (by omega), m 1], by rw [t _ (by omega), m 2]⟩ _ h15
  · unfold noteC
    split
    · show (if x = 1 then _ else if x = 2 then _ else if x = 3 then _ else Ac x) = Ac x
      rw [if_neg (by omega), if_neg (by omega), if_neg (by omega)]
    · show (if x = 1 then _ else if x = 2 then _ else if x = 3 then _ else shA 8 Ac x) = Ac x
      rw [if_neg (by omega), if_neg (by omega), if_neg (by omega)]
      unfold shA
      rw [if_neg (by omega)]
section STEP2
variable {sc : List Int32} {H : Hp} {z : Zc}
theorem st_weigh (I : INV sc H) (i w : Int32) : ∃ v : Int32, StI sc 21 79 [some (.ref 1), some (.int i), some (.int w), none] [some (.ref 78), some (.int i), some (.int w), none] (.int v) z H := by
  obtain ⟨len, T, P, Sb, Ab, Sc, Ac, S, A, W, hC, hm, hR⟩ := I
  have hid := hC.same_w3
  have hR' := hR
  obtain ⟨hT, hV, hP, hK, c1, u, k, ⟨u1, u2, k1, k2, u3, k3⟩, hu, hk⟩ := hR
  have e6 : P 0 1 = A 6 0 := hP.1.2.1
  have v1 : P 0 1 ≤ 6 := hV.2.1
  by_cases c : inI i (P 0 1) ∧ rgI w 1 20
  · obtain ⟨ei, hi⟩ := in_nt c.1
    obtain ⟨ew, hw1, hw2⟩ := rg_nt c.2
    generalize nt i = i2 at ei hi
    generalize nt w = w2 at ew hw1 hw2
    subst ei ew
    have hs := fun Q => sweigh_good (h := H) (P := P) (Sb := Sb) (Ab := Ab) (S := Sc) (A := Ac) hC.1.2.1 hV u1 u2 c1 hi hw1 hw2 z Q
    rw [hid] at hs
    have e7 : P 7 i2 = A 13 i2 := (hP.2.2.1 i2 hi).2.2
    have b7 := (hV.2.2.2.2.2.1 i2 hi).2.2.2
    refine ⟨_, fin (hC.w3 _ _ _ _ _) hm (fun j hj => w3_ne _ _ _ _ _ _ (by omega)) hs ⟨mv (S 0) (S 1) (nI (noteU u + 1)) (S 3) (S 4) (S 5) (S 6), fup (fup A 15 (mnoteT (if u < 8 then A 15 else shT (A 15) 21) (noteU u) 0 i2 (A 13 i2))) 13 (fup (A 13) i2 w2), W, ⟨hT, valid_7 hV (fun j hj => ?_), ?_, ⟨hK.1, Or.inl rfl⟩, note_CH u2 k2 k1 c1 hu hk (Or.inl ⟨rfl, hi, b7.1, b7.2⟩) rfl rfl k3 rfl (by rw [e7]; rfl) (fun j hj => fup_ne _ _ (by omega)) (fun j hj => rfl)⟩, fun Q => ?_⟩⟩
    · rw [fup_at]
      split
      · exact ⟨hw1, hw2⟩
      · exact (hV.2.2.2.2.2.1 j hj).2.2.2
    · rw [MP_13 (A := fup A 15 (mnoteT (if u < 8 then A 15 else shT (A 15) 21) (noteU u) 0 i2 (A 13 i2))) (fun k a b => fup_ne _ _ b), MP_15]
      exact hP.f7 (fun j hj => by
        rw [fup_self, fup_at, fup_at]
        split
        · rfl
        · exact (hP.2.2.1 j hj).2.2)
    · rw [e7]
      exact mweigh_good (hP.valid hV) u3 u2 (by omega) hw1 hw2 z Q
  · have hs := fun Q => sweigh_bad (h := H) (P := P) (Sb := Sb) (Ab := Ab) (S := Sc) (A := Ac) hC.1.2.1 hV i w c z Q
    rw [hid] at hs
    exact ⟨_, finMop hC hm (fun _ _ => rfl) hs hR' ⟨S, A, W, MR.rfl' S A, fun Q => mweigh_bad (hP.valid hV) i w (by rw [← e6]; exact c) z Q⟩⟩
theorem st_give (I : INV sc H) (e s : Int32) : ∃ v : Int32, StI sc 22 80 [some (.ref 1), some (.int e), some (.int s), none] [some (.ref 78), some (.int e), some (.int s), none] (.int v) z H := by
  obtain ⟨len, T, P, Sb, Ab, Sc, Ac, S, A, W, hC, hm, hR⟩ := I
  have hid := hC.same_w3
  have hR' := hR
  obtain ⟨hT, hV, hP, hK, c1, u, k, ⟨u1, u2, k1, k2, u3, k3⟩, hu, hk⟩ := hR
  have e2 : P 0 0 = A 2 0 := hP.1.1
  have v1 : P 0 0 ≤ 3 := hV.1
  by_cases c : inI e (P 0 0) ∧ rgI s 0 60
  · obtain ⟨ei, hi⟩ := in_nt c.1
    obtain ⟨ew, hw1, hw2⟩ := rg_nt c.2
    generalize nt e = i2 at ei hi
    generalize nt s = w2 at ew hw1 hw2
    subst ei ew
    have hs := fun Q => sgive_good (h := H) (P := P) (Sb := Sb) (Ab := Ab) (S := Sc) (A := Ac) hC.1.2.1 hV u1 u2 c1 hi hw2 z Q
    rw [hid] at hs
    have e7 : P 2 i2 = A 14 i2 := (hP.2.1 i2 hi).2.1
    have b7 := (hV.2.2.2.2.1 i2 hi).2.2.1
    refine ⟨_, fin (hC.w3 _ _ _ _ _) hm (fun j hj => w3_ne _ _ _ _ _ _ (by omega)) hs ⟨mv (S 0) (S 1) (nI (noteU u + 1)) (S 3) (S 4) (S 5) (S 6), fup (fup A 15 (mnoteT (if u < 8 then A 15 else shT (A 15) 21) (noteU u) 1 i2 (A 14 i2))) 14 (fup (A 14) i2 w2), W, ⟨hT, valid_2 hV (fun j hj => ?_), ?_, ⟨hK.1, Or.inl rfl⟩, note_CH u2 k2 k1 c1 hu hk (Or.inr ⟨rfl, hi, b7⟩) rfl rfl k3 rfl (by rw [e7]; rfl) (fun j hj => rfl) (fun j hj => fup_ne _ _ (by omega))⟩, fun Q => ?_⟩⟩
    · rw [fup_at]
      split
      · exact hw2
      · exact (hV.2.2.2.2.1 j hj).2.2.1
    · rw [MP_14 (A := fup A 15 (mnoteT (if u < 8 then A 15 else shT (A 15) 21) (noteU u) 1 i2 (A 14 i2))) (fun k a b => fup_ne _ _ b), MP_15]
      exact hP.f2 (fun j hj => by
        rw [fup_self, fup_at, fup_at]
        split
        · rfl
        · exact (hP.2.1 j hj).2.1)
    · rw [e7]
      exact mgive_good (hP.valid hV) u3 u2 (by omega) hw2 z Q
  · have hs := fun Q => sgive_bad (h := H) (P := P) (Sb := Sb) (Ab := Ab) (S := Sc) (A := Ac) hC.1.2.1 hV e s c z Q
    rw [hid] at hs
    exact ⟨_, finMop hC hm (fun _ _ => rfl) hs hR' ⟨S, A, W, MR.rfl' S A, fun Q => mgive_bad (hP.valid hV) e s (by rw [← e2]; exact c) z Q⟩⟩
theorem st_undo (I : INV sc H) : ∃ v : Int32, StI sc 23 81 [some (.ref 1)] [some (.ref 78), none] (.int v) z H := by
  obtain ⟨len, T, P, Sb, Ab, Sc, Ac, S, A, W, hC, hm, hR⟩ := I
  have hid := hC.same_w3
  have hR' := hR
  obtain ⟨hT, hV, hP, hK, c1, u, k, ⟨u1, u2, k1, k2, u3, k3⟩, hu, hk⟩ := hR
  have v0 : P 0 0 ≤ 3 := hV.1
  have v1 : P 0 1 ≤ 6 := hV.2.1
  cases u with
  | zero =>
    have hs := fun Q => sundo_bad (h := H) (P := P) (Sb := Sb) (Ab := Ab) (S := Sc) (A := Ac) hC.1.2.1 u1 z Q
    rw [hid] at hs
    exact ⟨_, finMop hC hm (fun _ _ => rfl) hs hR' ⟨S, A, W, MR.rfl' S A, fun Q => mundo_bad u3 z Q⟩⟩
  | succ u =>
    obtain ⟨⟨q1, q2⟩, q3, q4⟩ := hu u (by omega)
    have hs := fun Q => sundo_good (h := H) (P := P) (Sb := Sb) (Ab := Ab) (S := Sc) (A := Ac) hC.1.2.1 hV u1 (by omega) (c1 u) (fun g => (q3 g).2.1) (fun g => (q4 g).2.1) z Q
    rw [hid] at hs
    have hb15 : A 15 (3 * u) < 100000 ∧ A 15 (3 * u + 1) < 6 := by
      rw [q1]
      rcases c1 u with g | g
      · have := q4 g; omega
      · have := q3 g; omega
    have hke : ∀ {P2 : Pl} {A2 : Nat → Nat → Nat}, P2 0 0 = P 0 0 → P2 0 1 = P 0 1 → (∀ j, 12 ≤ j → A2 13 j = A 13 j) → (∀ j, 6 ≤ j → A2 14 j = A 14 j) → ∀ j, j < k → KE P2 Ac A2 j := fun e0 e1 h13 h14 j hj => (hk j hj).cg e0 e1 (fun _ _ => rfl) h13 h14
    refine ⟨_, fin (hC.w3 _ _ _ _ _) hm (fun j hj => w3_ne _ _ _ _ _ _ (by omega)) hs ⟨mv (S 0) (S 1) (nI u) (S 3) (S 4) (S 5) (S 6), mundoA A u, W, ?_, fun Q => mundo_good u3 (by omega) hb15.1 hb15.2 z Q⟩⟩
    rcases c1 u with g | g
    · obtain ⟨g1, g2, g3⟩ := q4 g
      have ea : mundoA A u = fup A 14 (fup (A 14) (Ac 2 u) (Ac 3 u)) := by
        unfold mundoA
        rw [if_neg (by omega), q1, q2]
      have ep : undoP P Ac u = fup P 2 (fup (P 2) (Ac 2 u) (Ac 3 u)) := by
        unfold undoP
        rw [if_neg (by omega)]
      rw [ea, ep]
      refine ⟨hT, valid_2 hV (fun j hj => ?_), ?_, ⟨hK.1, Or.inl rfl⟩, c1, u, k, ⟨rfl, by omega, k1, k2, rfl, k3⟩, fun j hj => (hu j (by omega)).cg rfl rfl rfl, hke rfl rfl (fun j hj => rfl) (fun j hj => fup_ne _ _ (by omega))⟩
      · rw [fup_at]
        split
        · exact g3
        · exact (hV.2.2.2.2.1 j hj).2.2.1
      · rw [MP_14 (A := A) (fun k a b => fup_ne _ _ b)]
        exact hP.f2 (fun j hj => by
          rw [fup_self, fup_at, fup_at]
          split
          · rfl
          · exact (hP.2.1 j hj).2.1)
    · obtain ⟨g1, g2, g3, g4⟩ := q3 g
      have ea : mundoA A u = fup A 13 (fup (A 13) (Ac 2 u) (Ac 3 u)) := by
        unfold mundoA
        rw [if_pos g1, q1, q2]
      have ep : undoP P Ac u = fup P 7 (fup (P 7) (Ac 2 u) (Ac 3 u)) := by
        unfold undoP
        rw [if_pos g]
      rw [ea, ep]
      refine ⟨hT, valid_7 hV (fun j hj => ?_), ?_, ⟨hK.1, Or.inl rfl⟩, c1, u, k, ⟨rfl, by omega, k1, k2, rfl, k3⟩, fun j hj => (hu j (by omega)).cg rfl rfl rfl, hke rfl rfl (fun j hj => fup_ne _ _ (by omega)) (fun j hj => rfl)⟩
      · rw [fup_at]
        split
        · exact ⟨g3, g4⟩
        · exact (hV.2.2.2.2.2.1 j hj).2.2.2
      · rw [MP_13 (A := A) (fun k a b => fup_ne _ _ b)]
        exact hP.f7 (fun j hj => by
          rw [fup_self, fup_at, fup_at]
          split
          · rfl
          · exact (hP.2.2.1 j hj).2.2)
theorem MP_cp {A B : Nat → Nat → Nat} (h : ∀ k, k ≤ 15 → k ≠ 13 → k ≠ 14 → B k = A k) : MP B = fup (fup (MP A) 7 (B 13)) 2 (B 14) := by
  rw [MP_14 (A := fup A 13 (B 13)) (A1 := B) (fun k a b => by
    rw [fup_at]
    split
    · rename_i q; rw [q]
    · rename_i q; exact h k a q b), MP_13 (A := A) (A1 := fup A 13 (B 13)) (fun k a b => fup_ne _ _ b), fup_self]
theorem st_keep (I : INV sc H) : ∃ v : Int32, StI sc 24 82 [some (.ref 1)] [some (.ref 78)] (.int v) z H := by
  obtain ⟨len, T, P, Sb, Ab, Sc, Ac, S, A, W, hC, hm, hR⟩ := I
  have hid := hC.same_w3
  have hR' := hR
  obtain ⟨hT, hV, hP, hK, c1, u, k, ⟨u1, u2, k1, k2, u3, k3⟩, hu, hk⟩ := hR
  have v0 : P 0 0 ≤ 3 := hV.1
  have v1 : P 0 1 ≤ 6 := hV.2.1
  by_cases c : k < 2
  · have hs := fun Q => skeep_good (h := H) (P := P) (Sb := Sb) (Ab := Ab) (S := Sc) (A := Ac) hC.1.2.1 k1 c z Q
    rw [hid] at hs
    have sv : ∀ x, x < 5 → saveC Ac P k x = Ac x := fun x hx => by
      unfold saveC
      rw [fup_ne _ _ (by omega), fup_ne _ _ (by omega)]
    refine ⟨_, fin (hC.w3 _ _ _ _ _) hm (fun j hj => w3_ne _ _ _ _ _ _ (by omega)) hs ⟨mv (S 0) (nI (k + 1)) (S 2) (S 3) (S 4) (S 5) (S 6), cpA A 0 (1 + (k + 1)), W, ⟨hT, hV, ?_, hK, fun j => by rw [sv 1 (by decide)]; exact c1 j, u, k + 1, ⟨u1, u2, rfl, by omega, u3, rfl⟩, fun j hj => by
      have := (hu j hj).cg (P2 := P) (A2 := cpA A 0 (1 + (k + 1))) rfl rfl rfl
      unfold UE at this ⊢
      rw [sv 1 (by decide), sv 2 (by decide), sv 3 (by decide)]
      exact this, fun j hj => ?_⟩, fun Q => mkeep_good k3 c z Q⟩⟩
    · rw [MP_cp (A := A) (B := cpA A 0 (1 + (k + 1))) (fun x a b d => (fup_ne _ _ d).trans (fup_ne _ _ b))]
      refine hP.trans' ⟨⟨rfl, rfl, rfl, rfl⟩, fun e he => ⟨rfl, ?_, rfl, rfl⟩, fun i hi => ⟨rfl, rfl, ?_⟩, fun _ _ => rfl, fun _ _ => rfl⟩
      · have he2 : e < 3 := by have : MP A 0 0 = P 0 0 := hP.1.1.symm; omega
        exact (copyF_out (m := 3) (a := 0) (b := 1 + (k + 1)) (n := 3) (A 14) (by omega)).symm
      · have hi2 : i < 6 := by have : MP A 0 1 = P 0 1 := hP.1.2.1.symm; omega
        exact (copyF_out (m := 6) (a := 0) (b := 1 + (k + 1)) (n := 6) (A 13) (by omega)).symm
    · by_cases cj : j = k
      · subst cj
        refine ⟨fun i hi => ?_, fun e he => ?_⟩
        · have e1 : saveC Ac P j (5 + j) i = P 7 i := by
            unfold saveC
            rw [fup_ne _ _ (by omega), fup_self]
          have e2 : cpA A 0 (1 + (j + 1)) 13 (12 + 6 * j + i) = A 13 i := by
            have := copyF_in (m := 6) (a := 0) (b := 1 + (j + 1)) (n := 6) (j := i) (A 13) (by omega)
            have e3 : 6 * (1 + (j + 1)) + i = 12 + 6 * j + i := by omega
            rw [e3, Nat.mul_zero, Nat.zero_add] at this
            exact this
          rw [e1, e2]
          exact ⟨(hP.2.2.1 i hi).2.2, (hV.2.2.2.2.2.1 i hi).2.2.2⟩
        · have e1 : saveC Ac P j (8 + j) e = P 2 e := by
            unfold saveC
            rw [fup_self]
          have e2 : cpA A 0 (1 + (j + 1)) 14 (6 + 3 * j + e) = A 14 e := by
            have := copyF_in (m := 3) (a := 0) (b := 1 + (j + 1)) (n := 3) (j := e) (A 14) (by omega)
            have e3 : 3 * (1 + (j + 1)) + e = 6 + 3 * j + e := by omega
            rw [e3, Nat.mul_zero, Nat.zero_add] at this
            exact this
          rw [e1, e2]
          exact ⟨(hP.2.1 e he).2.1, (hV.2.2.2.2.1 e he).2.2.1⟩
      · obtain ⟨f1, f2⟩ := hk j (by omega)
        refine ⟨fun i hi => ?_, fun e he => ?_⟩
        · have e1 : saveC Ac P k (5 + j) = Ac (5 + j) := by
            unfold saveC
            rw [fup_ne _ _ (by omega), fup_ne _ _ (by omega)]
          have e2 : cpA A 0 (1 + (k + 1)) 13 (12 + 6 * j + i) = A 13 (12 + 6 * j + i) := copyF_out (m := 6) (a := 0) (b := 1 + (k + 1)) (n := 6) (A 13) (by omega)
          rw [e1, e2]
          exact f1 i hi
        · have e1 : saveC Ac P k (8 + j) = Ac (8 + j) := by
            unfold saveC
            rw [fup_ne _ _ (by omega), fup_ne _ _ (by omega)]
          have e2 : cpA A 0 (1 + (k + 1)) 14 (6 + 3 * j + e) = A 14 (6 + 3 * j + e) := copyF_out (m := 3) (a := 0) (b := 1 + (k + 1)) (n := 3) (A 14) (by omega)
          rw [e1, e2]
          exact f2 e he
  · have ek : k = 2 := by omega
    subst ek
    have hs := fun Q => skeep_bad (h := H) (P := P) (Sb := Sb) (Ab := Ab) (S := Sc) (A := Ac) hC.1.2.1 k1 z Q
    rw [hid] at hs
    exact ⟨_, finMop hC hm (fun _ _ => rfl) hs hR' ⟨S, A, W, MR.rfl' S A, fun Q => mkeep_bad k3 z Q⟩⟩
theorem st_back (I : INV sc H) : ∃ v : Int32, StI sc 25 83 [some (.ref 1)] [some (.ref 78)] (.int v) z H := by
  obtain ⟨len, T, P, Sb, Ab, Sc, Ac, S, A, W, hC, hm, hR⟩ := I
  have hid := hC.same_w3
  have hR' := hR
  obtain ⟨hT, hV, hP, hK, c1, u, k, ⟨u1, u2, k1, k2, u3, k3⟩, hu, hk⟩ := hR
  have v0 : P 0 0 ≤ 3 := hV.1
  have v1 : P 0 1 ≤ 6 := hV.2.1
  cases k with
  | zero =>
    have hs := fun Q => sback_bad (h := H) (P := P) (Sb := Sb) (Ab := Ab) (S := Sc) (A := Ac) hC.1.2.1 k1 z Q
    rw [hid] at hs
    exact ⟨_, finMop hC hm (fun _ _ => rfl) hs hR' ⟨S, A, W, MR.rfl' S A, fun Q => mback_bad k3 z Q⟩⟩
  | succ k =>
    obtain ⟨f1, f2⟩ := hk k (by omega)
    have hs := fun Q => sback_good (h := H) (P := P) (Sb := Sb) (Ab := Ab) (S := Sc) (A := Ac) hC.1.2.1 k1 (by omega) z Q
    rw [hid] at hs
    refine ⟨_, fin (hC.w3 _ _ _ _ _) hm (fun j hj => w3_ne _ _ _ _ _ _ (by omega)) hs ⟨mv (S 0) (nI k) (nI 0) (S 3) (S 4) (S 5) (S 6), cpA A (1 + (k + 1)) 0, W, ⟨hT, ?_, ?_, ⟨hK.1, Or.inl rfl⟩, c1, 0, k, ⟨rfl, by omega, rfl, by omega, rfl, rfl⟩, fun j hj => by omega, fun j hj => (hk j (by omega)).cg rfl rfl (fun _ _ => rfl) (fun j hj => copyF_out (m := 6) (a := 1 + (k + 1)) (b := 0) (n := 6) (A 13) (by omega)) (fun j hj => copyF_out (m := 3) (a := 1 + (k + 1)) (b := 0) (n := 3) (A 14) (by omega))⟩, fun Q => mback_good k3 (by omega) z Q⟩⟩
    · exact valid_2 (valid_7 hV (fun j hj => (f1 j hj).2)) (fun e he => (f2 e he).2)
    · rw [MP_cp (A := A) (B := cpA A (1 + (k + 1)) 0) (fun x a b d => (fup_ne _ _ d).trans (fup_ne _ _ b))]
      refine (hP.f7 (fun i hi => ?_)).f2 (fun e he => ?_)
      · have e2 : cpA A (1 + (k + 1)) 0 13 i = A 13 (12 + 6 * k + i) := by
          have := copyF_in (m := 6) (a := 1 + (k + 1)) (b := 0) (n := 6) (j := i) (A 13) (by omega)
          have e3 : 6 * (1 + (k + 1)) + i = 12 + 6 * k + i := by omega
          rw [e3, Nat.mul_zero, Nat.zero_add] at this
          exact this
        rw [e2]
        exact (f1 i hi).1
      · have he3 : e < P 0 0 := he
        have e2 : cpA A (1 + (k + 1)) 0 14 e = A 14 (6 + 3 * k + e) := by
          have := copyF_in (m := 3) (a := 1 + (k + 1)) (b := 0) (n := 3) (j := e) (A 14) (by omega)
          have e3 : 3 * (1 + (k + 1)) + e = 6 + 3 * k + e := by omega
          rw [e3, Nat.mul_zero, Nat.zero_add] at this
          exact this
        rw [e2]
        exact (f2 e he).1
end STEP2
