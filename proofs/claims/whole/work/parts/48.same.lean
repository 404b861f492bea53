/-! plans that are the same where they are used -/
def PEq (P R : Pl) : Prop := (P 0 0 = R 0 0 ∧ P 0 1 = R 0 1 ∧ P 0 2 = R 0 2 ∧ P 0 3 = R 0 3) ∧ (∀ e, e < P 0 0 → P 1 e = R 1 e ∧ P 2 e = R 2 e ∧ P 3 e = R 3 e ∧ P 4 e = R 4 e) ∧ (∀ i, i < P 0 1 → P 5 i = R 5 i ∧ P 6 i = R 6 i ∧ P 7 i = R 7 i) ∧ (∀ c, c < 10 → P 8 c = R 8 c) ∧ ∀ k, k < P 0 3 → P 9 k = R 9 k
theorem PEq.rfl' (P : Pl) : PEq P P := ⟨⟨rfl, rfl, rfl, rfl⟩, fun _ _ => ⟨rfl, rfl, rfl, rfl⟩, fun _ _ => ⟨rfl, rfl, rfl⟩, fun _ _ => rfl, fun _ _ => rfl⟩
theorem PEq.valid {P R : Pl} (h : PEq P R) (hV : Valid P) : Valid R := by
  obtain ⟨⟨c0, c1, c2, c3⟩, he, hs, hc, hr⟩ := h
  obtain ⟨v0, v1, v2, v3, v4, v5, v6, v7⟩ := hV
  refine ⟨by omega, by omega, by omega, by omega, fun e q => ?_, fun i q => ?_, fun c q => ?_, fun j q => ?_⟩
  · obtain ⟨e1, e2, e3, e4⟩ := he e (by omega)
    have := v4 e (by omega)
    omega
  · obtain ⟨e1, e2, e3⟩ := hs i (by omega)
    have := v5 i (by omega)
    omega
  · have := v6 c q; have := hc c q; omega
  · have := v7 j (by omega); have := hr j (by omega); omega
theorem rainF_cg {f g : Nat → Nat} (d : Nat) : ∀ r, (∀ j, j < r → f j = g j) → rainF f d r = rainF g d r
  | 0, _ => rfl
  | r + 1, h => by rw [rainF, rainF, rainF_cg d r (fun j q => h j (by omega)), h r (by omega)]
theorem farN_cg {P R : Pl} (h : PEq P R) (hV : Valid P) {i : Nat} (hi : i < P 0 1) (w : Nat) : farN P i w = farN R i w := by
  obtain ⟨⟨c0, c1, c2, c3⟩, he, hs, hc, hr⟩ := h
  obtain ⟨e5, e6, e7⟩ := hs i hi
  obtain ⟨v0, v1, v2, v3, v4, v5, v6, v7⟩ := hV
  obtain ⟨e1, e2, e3, e4⟩ := he (P 5 i) (v5 i hi).1
  unfold farN shN
  rw [← c3, ← e5, ← e6, ← e1, ← e2, ← e3, ← e4, rainF_cg (P 6 i) (P 0 3) hr]
def SEq (S S2 : Wl) : Prop := (∀ c, c < 10 → S.1 c = S2.1 c) ∧ S.2 = S2.2
theorem weakS_cg {s s2 : Nat → Nat} (h : ∀ c, c < 10 → s c = s2 c) (c bl : Nat) : ∀ j, j < 10 → weakS s c bl j = weakS s2 c bl j := by
  intro j hj
  unfold weakS
  split
  · rename_i q
    rw [fup_at, fup_at, h c q, h j hj]
  · exact h j hj
theorem strikeS_cg {P R : Pl} (h : PEq P R) (hV : Valid P) {i : Nat} (hi : i < P 0 1) (w : Nat) {S S2 : Wl} (hS : SEq S S2) : SEq (strikeS P S i w) (strikeS R S2 i w) := by
  have hf := farN_cg h hV hi w
  have hk : P 3 (P 5 i) = R 3 (R 5 i) := by
    have e5 := (h.2.2.1 i hi).1
    rw [← e5]
    exact (h.2.1 (P 5 i) (hV.2.2.2.2.2.1 i hi).1).2.2.1
  unfold strikeS
  rw [← hf, ← hk]
  split
  · exact hS
  · refine ⟨?_, by show S.2 + w = S2.2 + w; rw [hS.2]⟩
    dsimp only
    split
    · exact weakS_cg (weakS_cg hS.1 _ _) _ _
    · exact weakS_cg hS.1 _ _
theorem thrD_cg {P R : Pl} (h : PEq P R) (hV : Valid P) (d : Nat) : ∀ n S S2, n ≤ P 0 1 → SEq S S2 → SEq (thrD P d n S) (thrD R d n S2)
  | 0, S, S2, _, hS => hS
  | n + 1, S, S2, hn, hS => by
    have hi : P 0 1 - (n + 1) < P 0 1 := by omega
    obtain ⟨e5, e6, e7⟩ := h.2.2.1 _ hi
    rw [thrD, thrD, ← h.1.2.1, ← e6, ← e7]
    refine thrD_cg h hV d n _ _ (by omega) ?_
    split
    · exact strikeS_cg h hV hi _ hS
    · exact hS
theorem weakF_cg {f f2 s s2 : Nat → Nat} (hf : ∀ c, c < 10 → f c = f2 c) (hs : ∀ c, c < 10 → s c = s2 c) : ∀ c, c ≤ 10 → weakF f s c = weakF f2 s2 c
  | 0, _ => rfl
  | c + 1, h => by
    have ih := weakF_cg hf hs c (by omega)
    rw [weakF, weakF, ← ih, hf c (by omega), hs c (by omega)]
    rcases weakF_lt f s c (by omega) with e | e
    · by_cases q : s2 c < f2 c
      · rw [if_pos ⟨q, Or.inl e⟩, if_pos ⟨q, Or.inl e⟩]
      · rw [if_neg (fun r => q r.1), if_neg (fun r => q r.1)]
    · rw [hs (weakF f s c) (by omega)]
theorem mend1_cg {f f2 : Nat → Nat} (hf : ∀ c, c < 10 → f c = f2 c) {S S2 : Wl} (hS : SEq S S2) : SEq (mend1 f S) (mend1 f2 S2) := by
  have ew := weakF_cg hf hS.1 10 (Nat.le_refl _)
  unfold mend1
  rw [← ew, ← hS.2]
  split
  · exact hS
  · rename_i q
    have hl := weakF_le f S.1
    have hn : weakF f S.1 10 < 10 := by omega
    refine ⟨fun c hc => ?_, by show S.2 - 1 = S.2 - 1; rfl⟩
    show fup S.1 _ _ c = fup S2.1 _ _ c
    rw [fup_at, fup_at, hS.1 _ hn, hS.1 c hc]
theorem mendN_cg {f f2 : Nat → Nat} (hf : ∀ c, c < 10 → f c = f2 c) : ∀ n {S S2 : Wl}, SEq S S2 → SEq (mendN f n S) (mendN f2 n S2)
  | 0, _, _, h => h
  | n + 1, _, _, h => mendN_cg hf n (mend1_cg hf h)
theorem opF_cg {s s2 : Nat → Nat} (hs : ∀ c, c < 10 → s c = s2 c) : ∀ n, opF s n = opF s2 n
  | 0 => rfl
  | n + 1 => by rw [opF, opF, hs (9 - n) (by omega), opF_cg hs n]
theorem totF_cg {s s2 : Nat → Nat} (hs : ∀ c, c < 10 → s c = s2 c) : ∀ n, n ≤ 10 → totF s n = totF s2 n
  | 0, _ => rfl
  | n + 1, h => by rw [totF, totF, totF_cg hs n (by omega), hs n (by omega)]
def DEq (X Y : Dy) : Prop := SEq X.1 Y.1 ∧ X.2 = Y.2
theorem runF_cg {P R : Pl} (h : PEq P R) (hV : Valid P) : ∀ d, DEq (runF P d) (runF R d)
  | 0 => ⟨⟨h.2.2.2.1, rfl⟩, rfl⟩
  | d + 1 => by
    obtain ⟨h1, h2⟩ := runF_cg h hV d
    have ht := thrD_cg h hV (d + 1) (P 0 1) _ _ (Nat.le_refl _) h1
    rw [runF, runF]
    unfold passS
    rw [← h.1.2.1, ← h.1.2.2.1]
    refine ⟨mendN_cg h.2.2.2.1 _ ht, ?_⟩
    dsimp only
    rw [← opF_cg ht.1, ← h2]
