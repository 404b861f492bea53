/-! the calls that change the text, and those that lay and order -/
theorem CC.text {H : Hp} {sc : List Int32} {len : Nat} {T : Nat → Nat} {P : Pl} {Sb : Nat → Int32} {Ab : Nat → Nat → Nat} {Sc : Nat → Int32} {Ac : Nat → Nat → Nat} (h : CC H sc len T P Sb Ab Sc Ac) (l2 : Nat) (A2 : Nat → Nat → Nat) : CC (tset H (tv (nI l2)) A2) sc l2 (A2 1) P Sb Ab Sc Ac := by
  obtain ⟨⟨h0, h1, h2⟩, h3, h4, ⟨N, P2, r1, r2, r4, r5⟩, h6, ⟨V, h7⟩, h8, a, b, F, G, h9⟩ := h
  have ne : ∀ j, (j < 2 ∨ 3 < j) → tset H (tv (nI l2)) A2 j = H j := fun j hj => tset_ne _ _ _ hj
  exact ⟨⟨(ne 0 (by decide)).trans h0, (ne 1 (by decide)).trans h1, tset_k1 _ _ _⟩, h3.same (fun j x y => ne j (by omega)), h4.same (fun j x y => ne j (by omega)), ⟨N, P2, tset_o _ _ _, (ne 14 (by decide)).trans r2, r4, r5.same (fun j x y => ne j (by omega))⟩, bset_keep h6 (fun j x y => ne j (by omega)), ⟨V, vset_keep h7 (fun j x y => ne j (by omega))⟩, cset_keep h8 (fun j x y => ne j (by omega)), a, b, F, G, qset_keep h9 (fun j x y => ne j (by omega))⟩
theorem CC.same_t {H : Hp} {sc : List Int32} {len : Nat} {T : Nat → Nat} {P : Pl} {Sb : Nat → Int32} {Ab : Nat → Nat → Nat} {Sc : Nat → Int32} {Ac : Nat → Nat → Nat} (h : CC H sc len T P Sb Ab Sc Ac) : tset H (tv (nI len)) (fun _ => T) = H := by
  obtain ⟨⟨h0, h1, h2⟩, h3, h4, ⟨N, P2, r1, r2, r4, r5⟩, -⟩ := h
  funext j
  by_cases c1 : j = 2
  · rw [c1]
    exact r1.symm
  · by_cases c2 : j = 3
    · rw [c2]
      exact h2.symm
    · exact tset_ne _ _ _ (by omega)
theorem CC.ord {H : Hp} {sc : List Int32} {len : Nat} {T : Nat → Nat} {P : Pl} {Sb : Nat → Int32} {Ab : Nat → Nat → Nat} {Sc : Nat → Int32} {Ac : Nat → Nat → Nat} (h : CC H sc len T P Sb Ab Sc Ac) (V2 : Wv) (Sb2 : Nat → Int32) (Ab2 : Nat → Nat → Nat) : CC (bw H V2 Sb2 Ab2) sc len T P Sb2 Ab2 Sc Ac := by
  obtain ⟨⟨h0, h1, h2⟩, h3, h4, h5, h6, ⟨V, h7⟩, h8, a, b, F, G, h9⟩ := h
  have ne : ∀ j, (j < 39 ∨ 64 < j) → bw H V2 Sb2 Ab2 j = H j := fun j hj => (bset_ne _ _ _ (by omega)).trans (vset_ne _ _ (by omega))
  refine ⟨⟨(ne 0 (by decide)).trans h0, (ne 1 (by decide)).trans h1, (ne 3 (by decide)).trans h2⟩, h3.same (fun j x y => ne j (by omega)), h4.same (fun j x y => ne j (by omega)), h5.same (fun j x y => ne j (by omega)), bset_set _ _ _ _ _, ⟨V2, ?_⟩, cset_keep h8 (fun j x y => ne j (by omega)), a, b, F, G, qset_keep h9 (fun j x y => ne j (by omega))⟩
  exact vset_keep (h := vset H V2) (by
    funext j
    unfold vset
    split <;> rfl) (fun j x y => bset_ne _ _ _ (by omega))
theorem CC.rd {H : Hp} {sc : List Int32} {len : Nat} {T : Nat → Nat} {P : Pl} {Sb : Nat → Int32} {Ab : Nat → Nat → Nat} {Sc : Nat → Int32} {Ac : Nat → Nat → Nat} (h : CC H sc len T P Sb Ab Sc Ac) {N : Nat → Nat} (hN : ∀ k, N k < 100000) (P2 : Pl) : CC (rdset H len N P2) sc len T P Sb Ab Sc Ac :=
  h.scr (h.2.2.1.same (fun j a b => rdset_ne _ _ _ _ (by omega))) ⟨N, P2, rdset_23 _ _ _ _, rdset_24 _ _ _ _, hN, rdset_P _ _ _ _⟩ (fun j a b => rdset_ne _ _ _ _ (by omega))
theorem Best.cg {n day : Nat} {a0 b0 w : Nat → Nat} {D E : (Nat → Nat) → Nat} (ha : ∀ k, k < n → a0 k = b0 k) (hD : ∀ c, PrmF n c a0 → D c = E c) (h : Best n a0 D (fun _ => True) day w) : Best n b0 E (fun _ => True) day w := by
  have hp : PrmF n a0 b0 := fun v => cntF_cg v n ha
  refine ⟨fun q => ⟨(h.1 q).1.trans hp, ?_⟩, fun c hc ht => ?_⟩
  · rw [← hD w (h.1 q).1]
    exact (h.1 q).2
  · rw [← hD c (hc.trans hp.symm)]
    exact h.2 c (hc.trans hp.symm) ht
theorem dyR_cg {P R : Pl} {d n : Nat} (h6 : ∀ i, i < n → P 6 i = R 6 i) : ∀ m, m ≤ n → dyR P d n m = dyR R d n m
  | 0, _ => rfl
  | m + 1, hm => by
    show (if P 6 (n - (m + 1)) = d then (n - (m + 1)) :: dyR P d n m else dyR P d n m) = (if R 6 (n - (m + 1)) = d then (n - (m + 1)) :: dyR R d n m else dyR R d n m)
    rw [h6 _ (by omega), dyR_cg h6 m (by omega)]
theorem orR_cg {P R : Pl} {n : Nat} (h6 : ∀ i, i < n → P 6 i = R 6 i) : ∀ m, orR P n m = orR R n m
  | 0 => rfl
  | m + 1 => by
    show dyR P (30 - m) n n ++ orR P n m = dyR R (30 - m) n n ++ orR R n m
    rw [dyR_cg h6 n (Nat.le_refl _), orR_cg h6 m]
theorem thL_cg {P R : Pl} (h : PEq P R) : thL P = thL R := by
  unfold thL
  rw [← h.1.2.1]
  exact orR_cg (fun i hi => (h.2.2.1 i hi).2.1) 30
theorem thK_cg {P R : Pl} (h : PEq P R) (k : Nat) : thK P k = thK R k := by
  unfold thK
  rw [thL_cg h]
theorem dayO_cg {P R : Pl} (h : PEq P R) (hV : Valid P) {a : Nat → Nat} (ha : ∀ k, k < P 0 1 → 1 ≤ a k ∧ a k ≤ 20) : dayO P a = dayO R a := by
  have hf : ∀ k, k < P 0 1 → tkF (thK P) a 0 (List.range (P 0 1)) (P 7) (thK P k) = a k := fun k hk => by
    have := tkF_at (ro := thK P) (so := a) (List.range (P 0 1)) 0 (P 7) (fun i j _ h1 h2 q => by
      rw [List.length_range] at h2
      have := thK_inj hV (k := i) (j := j) (by omega) (by omega) q
      omega) k (by rw [List.length_range]; exact hk)
    rw [Nat.zero_add] at this
    rw [this, List.getD_eq_getElem?_getD, List.getElem?_range hk]
    rfl
  have hb := tkF_pres (ro := thK P) (so := a) (p := fun x => 1 ≤ x ∧ x ≤ 20) (n := P 0 1) (List.range (P 0 1)) 0 (P 7) (fun j hj => (hV.2.2.2.2.2.1 j hj).2.2.2) (fun x hx => ha x (List.mem_range.mp hx))
  generalize tkF (thK P) a 0 (List.range (P 0 1)) (P 7) = f at hf hb
  rw [← run_dayO hV hf, ← run_dayO (h.valid hV) (f := f) (fun k hk => by
    rw [← thK_cg h]
    exact hf k (by rw [h.1.2.1]; exact hk))]
  have := (runF_cg (h.f7 (f := f) (g := f) (fun _ _ => rfl)) (valid_7 hV hb) 30).2
  rw [this]
theorem BestP_cg {P R : Pl} (h : PEq P R) (hV : Valid P) {day : Nat} {w : Nat → Nat} (hb : BestP P day w) : BestP R day w := by
  unfold BestP at hb ⊢
  rw [← h.1.2.1]
  refine hb.cg (fun k hk => ?_) (fun c hc => dayO_cg h hV (prm_vals (p := fun x => 1 ≤ x ∧ x ≤ 20) hc (fun j hj => ?_)))
  · rw [← thK_cg h]
    exact (h.2.2.1 _ (thK_lt hV hk)).2.2
  · exact (hV.2.2.2.2.2.1 _ (thK_lt hV hj)).2.2.2
section STEP3
variable {sc : List Int32} {H : Hp} {z : Zc}
theorem st_write (I : INV sc H) (n : Int32) (v : Int64) : ∃ r : Int32, StI sc 2 37 [some (.ref 1), some (.int n), some (.long v), none, none] [some (.ref 78), some (.int n), some (.long v), none, none] (.int r) z H := by
  obtain ⟨len, T, P, Sb, Ab, Sc, Ac, S, A, W, hC, hm, hR⟩ := I
  have hid := hC.same_t
  have hR' := hR
  obtain ⟨⟨l1, l2, l3, l4, l5⟩, hV, hP, hK, c1, u, k, ⟨u1, u2, k1, k2, u3, k3⟩, hu, hk⟩ := hR
  have hs := fun Q => swrite_eq (h := H) (S := tv (nI len)) (A := fun _ => T) (len := len) hC.1.2.1 rfl l1 n v z Q
  rw [hid] at hs
  have hM := fun H Q => mwrite_eq (h := H) (S := S) (A := A) (W := W) l3 l1 n v z Q
  by_cases c : rgI n 1 8 ∧ len + nt n ≤ 300
  · simp only [if_pos c] at hs hM
    exact ⟨_, fin (hC.text _ _) hm (fun j hj => tset_ne _ _ _ (by omega)) hs ⟨mv (nI (len + nt n)) (S 1) (S 2) (S 3) (S 4) (S 5) (S 6), fup A 1 (wrL v (nt n) len (A 1)), W, ⟨⟨c.2, wrL_le _ _ _ l2, rfl, fun j hj => wrL_cg (v := v) _ _ _ _ l4 j hj, wrL_le _ _ _ l5⟩, hV, hP, hK, c1, u, k, ⟨u1, u2, k1, k2, u3, k3⟩, fun j hj => (hu j hj).cg rfl rfl rfl, fun j hj => (hk j hj).cg rfl rfl (fun _ _ => rfl) (fun _ _ => rfl) (fun _ _ => rfl)⟩, hM _⟩⟩
  · simp only [if_neg c] at hs hM
    exact ⟨_, finMop hC hm (fun _ _ => rfl) hs hR' ⟨S, A, W, MR.rfl' S A, hM _⟩⟩
theorem st_wipe (I : INV sc H) : ∃ v : Int32, StI sc 3 38 [some (.ref 1), none] [some (.ref 78), none] (.int v) z H := by
  obtain ⟨len, T, P, Sb, Ab, Sc, Ac, S, A, W, hC, hm, hR⟩ := I
  have hid := hC.same_t
  obtain ⟨⟨l1, l2, l3, l4, l5⟩, hV, hP, hK, c1, u, k, ⟨u1, u2, k1, k2, u3, k3⟩, hu, hk⟩ := hR
  have hs := fun Q => swipe_eq (h := H) (S := tv (nI len)) (A := fun _ => T) hC.1.2.1 z Q
  rw [hid] at hs
  exact ⟨_, fin (hC.text 0 _) hm (fun j hj => tset_ne _ _ _ (by omega)) hs ⟨mv (nI 0) (S 1) (S 2) (S 3) (S 4) (S 5) (S 6), A, W, ⟨⟨by omega, l2, rfl, fun j hj => by omega, l5⟩, hV, hP, hK, c1, u, k, ⟨u1, u2, k1, k2, u3, k3⟩, fun j hj => (hu j hj).cg rfl rfl rfl, fun j hj => (hk j hj).cg rfl rfl (fun _ _ => rfl) (fun _ _ => rfl) (fun _ _ => rfl)⟩, fun Q => by
    rw [mwipe_eq, l3]
    rfl⟩⟩
theorem st_lay (I : INV sc H) : ∃ v : Int32, StI sc 5 45 [some (.ref 1)] [some (.ref 78), none] (.int v) z H := by
  obtain ⟨len, T, P, Sb, Ab, Sc, Ac, S, A, W, hC, hm, hR⟩ := I
  have hid := hC.same_w3
  have hR' := hR
  obtain ⟨⟨l1, l2, l3, l4, l5⟩, hV, hP, hK, c1, u, k, ⟨u1, u2, k1, k2, u3, k3⟩, hu, hk⟩ := hR
  obtain ⟨N, P2, r1, r2, r4, hp2⟩ := hC.2.2.2.1
  have ha := allF_cg (T := T) (U := A 1) (len := len) l4 300 (P := noneP P2) (R := noneP P2) 0 (PEq.rfl' _)
  have hv := allF_valid (T := T) (len := len) 300 (noneP P2) 0 (noneP_valid P2)
  obtain ⟨R, hRe⟩ : ∃ R, allF T len 300 (noneP P2) 0 = R := ⟨_, rfl⟩
  obtain ⟨R2, hRe2⟩ : ∃ R2, allF (A 1) len 300 (noneP P2) 0 = R2 := ⟨_, rfl⟩
  rw [hRe, hRe2] at ha
  rw [hRe] at hv
  have hE : Ev 5 (0, [some (.ref 1)], [], z, W3 H P Sb Ab Sc Ac) (fun v z' h' => ∃ N', (∀ k, N' k < 100000) ∧ z' = z ∧ ((R.2 = none ∧ R.1 0 0 ≠ 0 → v = some (.int (nI (R.1 0 0))) ∧ h' = W3 (rdset H len N' R.1) R.1 (bv (nI 0) (Sb 1) (Sb 2)) Ab (cv (nI 0) (nI 0)) Ac) ∧ (¬ (R.2 = none ∧ R.1 0 0 ≠ 0) → v = some (.int (-2)) ∧ h' = W3 (rdset H len N' R.1) P Sb Ab Sc Ac))) :=
    slay_eq hC.1.2.1 l2 hC.1.2.2 l1 r1 r2 hp2 r4 z _ R hRe (fun N' hN => ⟨fun g1 g2 => ⟨N', hN, rfl, fun _ => ⟨rfl, rfl⟩, fun q => absurd ⟨g1, g2⟩ q⟩, fun g => ⟨N', hN, rfl, fun q => absurd q g, fun _ => ⟨rfl, rfl⟩⟩⟩)
  rw [hid] at hE
  obtain ⟨v, z', h', ⟨N', hN, e1, e2, e3⟩, hk'⟩ := Ev.get hE
  subst e1
  have hrd := hC.rd hN R.1
  by_cases c : R.2 = none ∧ R.1 0 0 ≠ 0
  · obtain ⟨f1, f2⟩ := e2 c
    subst f1 f2
    have e0 : R2.1 0 0 = R.1 0 0 := ha.1.1.1.symm
    have c2 : R2.2 = none ∧ R2.1 0 0 ≠ 0 := by rw [← ha.2, e0]; exact c
    refine ⟨_, fin (hrd.w3 _ _ _ _ _) hm (fun j hj => (w3_ne _ _ _ _ _ _ (by omega)).trans (rdset_ne _ _ _ _ (by omega))) hk' ?_⟩
    obtain ⟨S2, A2, ⟨s0, s1, s2⟩, a1, hpe, hM⟩ := (mlay_op (h := W3 (rdset H len N' R.1) R.1 (bv (nI 0) (Sb 1) (Sb 2)) Ab (cv (nI 0) (nI 0)) Ac) (W := W) (hP.valid hV) l3 l1 l5 P2 z' R2 hRe2).1 c2.1 c2.2
    rw [e0] at hM
    exact ⟨S2, A2, W, ⟨⟨l1, l2, s0.trans l3, fun j hj => by rw [a1]; exact l4 j hj, fun j => by rw [a1]; exact l5 j⟩, hv, ha.1.trans' hpe, ⟨hK.1, Or.inl rfl⟩, c1, 0, 0, ⟨rfl, by omega, rfl, by omega, s2, s1⟩, fun j hj => by omega, fun j hj => by omega⟩, hM⟩
  · obtain ⟨f1, f2⟩ := e3 c
    subst f1 f2
    have e0 : R2.1 0 0 = R.1 0 0 := ha.1.1.1.symm
    have c2 : ¬ (R2.2 = none ∧ R2.1 0 0 ≠ 0) := by rw [← ha.2, e0]; exact c
    exact ⟨_, finMop (hrd.w3 _ _ _ _ _) hm (fun j hj => (w3_ne _ _ _ _ _ _ (by omega)).trans (rdset_ne _ _ _ _ (by omega))) hk' hR' ((mlay_op (W := W) (hP.valid hV) l3 l1 l5 P2 z' R2 hRe2).2 c2)⟩
theorem st_order (I : INV sc H) (i : Int32) : ∃ v : Int32, StI sc 12 66 [some (.ref 1), some (.int i)] [some (.ref 78), some (.int i), none, none, none, none] (.int v) z H := by
  obtain ⟨len, T, P, Sb, Ab, Sc, Ac, S, A, W, hC, hm, hR⟩ := I
  obtain ⟨hT, hV, hP, hK, hCH⟩ := hR
  obtain ⟨V, hv7⟩ := hC.2.2.2.2.2.1
  have hid : bw H V Sb Ab = H := by
    unfold bw
    rw [hv7]
    exact hC.2.2.2.2.1
  obtain ⟨V2, S2, A2, hK2, hs⟩ := sorder_op (h := H) (V := V) hC.1.2.1 hC.2.1 hV hK i z
  rw [hid] at hs
  have n1 : P 0 1 = A 6 0 := hP.1.2.1
  have hC2 := hC.ord V2 S2 A2
  have hk : ∀ j, 78 ≤ j → bw H V2 S2 A2 j = H j := fun j hj => (bset_ne _ _ _ (by omega)).trans (vset_ne _ _ (by omega))
  have hM := morder_op (h := bw H V2 S2 A2) (W := W) (S := S) (hP.valid hV) i z
  rw [← n1] at hM
  have no : ∀ day w, ¬ (i = -1 ∨ inI i (P 0 1)) → ansOrd (P 0 1) day w i = -1 := fun day w q => if_neg q
  rcases hs with ⟨g, hs⟩ | ⟨day, w, hb, hs⟩
  · refine ⟨_, finMop hC2 hm hk hs ⟨hT, hV, hP, hK2, hCH⟩ ?_⟩
    rcases hM with ⟨-, hM⟩ | ⟨day2, w2, -, hM⟩
    · exact hM
    · rw [no _ _ g] at hM
      exact hM
  · refine ⟨_, finMop hC2 hm hk hs ⟨hT, hV, hP, hK2, hCH⟩ ?_⟩
    rcases hM with ⟨g, hM⟩ | ⟨day2, w2, hb2, hM⟩
    · rw [no _ _ g]
      exact hM
    · have hbu := BestP_cg hP hV hb
      unfold BestP at hbu hb2
      obtain ⟨u1, u2⟩ := Best.uniq hbu hb2
      have e : ansOrd (P 0 1) day w i = ansOrd (P 0 1) day2 w2 i := by
        unfold ansOrd
        by_cases c1 : i = -1 ∨ inI i (P 0 1)
        · rw [if_pos c1, if_pos c1, ← u1]
          by_cases c2 : day = 0
          · rw [if_pos c2, if_pos c2]
          · rw [if_neg c2, if_neg c2]
            by_cases c3 : i = -1
            · rw [if_pos c3, if_pos c3]
            · rw [if_neg c3, if_neg c3]
              rcases c1 with c1 | c1
              · exact absurd c1 c3
              · rw [u2 c2 (nt i) (by
                  have := (in_nt c1).2
                  have e2 : MP A 0 1 = P 0 1 := hP.1.2.1.symm
                  omega)]
        · rw [if_neg c1, if_neg c1]
      rw [e]
      exact hM
end STEP3
