/-! how many rows come ahead; the search for the best order -/
def ltF (f : Nat → Nat) (v : Nat) : Nat → Nat
  | 0 => 0
  | n + 1 => ltF f v n + (if f n < v then 1 else 0)
theorem ltF_cg {f g : Nat → Nat} (v : Nat) : ∀ n, (∀ j, j < n → f j = g j) → ltF f v n = ltF g v n
  | 0, _ => rfl
  | n + 1, h => by rw [ltF, ltF, ltF_cg v n (fun j q => h j (by omega)), h n (by omega)]
theorem ltF_succ (f : Nat → Nat) (v : Nat) : ∀ n, ltF f (v + 1) n = ltF f v n + cntF f v n
  | 0 => rfl
  | n + 1 => by
    rw [ltF, ltF, cntF, ltF_succ f v n]
    rcases Nat.lt_trichotomy (f n) v with c | c | c
    · rw [if_pos (by omega), if_pos c, if_neg (by omega)]; omega
    · rw [if_pos (by omega), if_neg (by omega), if_pos c]; omega
    · rw [if_neg (by omega), if_neg (by omega), if_neg (by omega)]; omega
theorem ltF_zero (f : Nat → Nat) : ∀ n, ltF f 0 n = 0
  | 0 => rfl
  | n + 1 => by rw [ltF, ltF_zero f n, if_neg (by omega)]
theorem ltF_prm {n : Nat} {f g : Nat → Nat} (h : PrmF n f g) : ∀ v, ltF f v n = ltF g v n
  | 0 => by rw [ltF_zero, ltF_zero]
  | v + 1 => by rw [ltF_succ, ltF_succ, ltF_prm h v, h v]
theorem ltF_grow (f : Nat → Nat) {u w : Nat} (h : u ≤ w) {q : Nat} : ∀ m, ltF f u (q + m) + ltF f w q ≤ ltF f w (q + m) + ltF f u q
  | 0 => by rw [Nat.add_zero, Nat.add_comm]; exact Nat.le_refl _
  | m + 1 => by
    have ih := ltF_grow f h (q := q) m
    rw [← Nat.add_assoc, ltF, ltF]
    by_cases c : f (q + m) < u
    · rw [if_pos c, if_pos (by omega)]; omega
    · rw [if_neg c]; omega
theorem ltF_strict (f : Nat → Nat) {u w q : Nat} (h1 : u ≤ f q) (h2 : f q < w) {n : Nat} (hq : q < n) : ltF f u n + ltF f w q < ltF f w n + ltF f u q := by
  have h := ltF_grow f (u := u) (w := w) (by omega) (q := q + 1) (n - (q + 1))
  rw [show q + 1 + (n - (q + 1)) = n by omega, ltF, ltF, if_pos h2, if_neg (by omega)] at h
  omega
theorem ltF_le (f : Nat → Nat) (v : Nat) {q : Nat} : ∀ m, ltF f v (q + m) ≤ ltF f v q + m
  | 0 => Nat.le_refl _
  | m + 1 => by
    have ih := ltF_le f v (q := q) m
    rw [← Nat.add_assoc, ltF]
    split <;> omega
def fac : Nat → Nat
  | 0 => 1
  | n + 1 => (n + 1) * fac n
theorem fac_pos : ∀ n, 0 < fac n
  | 0 => by decide
  | n + 1 => Nat.mul_pos (Nat.succ_pos n) (fac_pos n)
def digF (f : Nat → Nat) (n i : Nat) : Nat := ltF f (f i) n - ltF f (f i) (i + 1)
def rkF (f : Nat → Nat) (n : Nat) : Nat → Nat
  | 0 => 0
  | k + 1 => digF f n (n - (k + 1)) * fac k + rkF f n k
theorem digF_le (f : Nat → Nat) {n i : Nat} (h : i < n) : digF f n i ≤ n - (i + 1) := by
  have := ltF_le f (f i) (q := i + 1) (n - (i + 1))
  rw [show i + 1 + (n - (i + 1)) = n by omega] at this
  unfold digF
  omega
theorem rkF_lt (f : Nat → Nat) (n : Nat) : ∀ k, k ≤ n → rkF f n k < fac k
  | 0, _ => Nat.zero_lt_one
  | k + 1, h => by
    have ih := rkF_lt f n k (by omega)
    have hd := digF_le f (n := n) (i := n - (k + 1)) (by omega)
    have hm : digF f n (n - (k + 1)) * fac k ≤ k * fac k := Nat.mul_le_mul_right _ (by omega)
    have e : (k + 1) * fac k = k * fac k + fac k := Nat.succ_mul k (fac k)
    rw [rkF, fac, e]
    omega
theorem rkF_cg {f g : Nat → Nat} {n : Nat} (h : ∀ j, j < n → f j = g j) : ∀ k, k ≤ n → rkF f n k = rkF g n k
  | 0, _ => rfl
  | k + 1, hk => by
    rw [rkF, rkF, rkF_cg h k (by omega)]
    unfold digF
    rw [h (n - (k + 1)) (by omega), ltF_cg _ n h, ltF_cg _ (n - (k + 1) + 1) (fun j hj => h j (by omega))]
theorem rkF_mono {n : Nat} {f g : Nat → Nat} (hp : PrmF n f g) {q : Nat} (q1 : q < n) (q2 : ∀ j, j < q → f j = g j) (q3 : f q < g q) : ∀ k, k ≤ n → n - k ≤ q → rkF f n k < rkF g n k
  | 0, _, h => by omega
  | k + 1, hk, h => by
    rw [rkF, rkF]
    by_cases c : n - (k + 1) = q
    · rw [c]
      have hr := rkF_lt f n k (by omega)
      have hs := ltF_strict f (u := f q) (w := g q) (Nat.le_refl _) q3 q1
      have e1 := ltF_prm hp (g q)
      have e2 := ltF_cg (f := f) (g := g) (g q) q q2
      have e3 : ltF f (f q) (q + 1) = ltF f (f q) q := by rw [ltF, if_neg (by omega)]; rfl
      have e4 : ltF g (g q) (q + 1) = ltF g (g q) q := by rw [ltF, if_neg (by omega)]; rfl
      have m1 := ltF_grow f (u := 0) (w := f q) (Nat.zero_le _) (q := q) (n - q)
      rw [show q + (n - q) = n by omega, ltF_zero, ltF_zero] at m1
      have hd : digF f n q + 1 ≤ digF g n q := by
        unfold digF
        omega
      have hm : (digF f n q + 1) * fac k ≤ digF g n q * fac k := Nat.mul_le_mul_right _ hd
      rw [Nat.succ_mul] at hm
      omega
    · have ih := rkF_mono hp q1 q2 q3 k (by omega) (by omega)
      have hd : digF f n (n - (k + 1)) = digF g n (n - (k + 1)) := by
        unfold digF
        rw [q2 (n - (k + 1)) (by omega), ltF_prm hp, ltF_cg (g (n - (k + 1))) (n - (k + 1) + 1) (fun j hj => q2 j (by omega))]
      rw [hd]
      omega
theorem rkF_lex {n : Nat} {f g : Nat → Nat} (hp : PrmF n f g) (h : lexL n f g) : rkF f n n < rkF g n n := by
  obtain ⟨q, q1, q2, q3⟩ := h
  exact rkF_mono hp q1 q2 q3 n (Nat.le_refl _) (by omega)
-- days of breaches by the k-th thrown
def DF (ok : Nat → Bool) (dy : Nat → Nat) (n : Nat) : Nat → Nat
  | 0 => 0
  | r + 1 => if ok (n - (r + 1)) = true then dy (n - (r + 1)) else DF ok dy n r
theorem DF_cg {ok ok2 : Nat → Bool} {dy : Nat → Nat} {n : Nat} : ∀ r, r ≤ n → (∀ j, j < n → ok j = ok2 j) → DF ok dy n r = DF ok2 dy n r
  | 0, _, _ => rfl
  | r + 1, hr, h => by rw [DF, DF, h (n - (r + 1)) (by omega), DF_cg r (by omega) h]
theorem DF_skip {ok : Nat → Bool} {dy : Nat → Nat} {n q : Nat} (h : ∀ j, j < q → ok j = false) : ∀ m r, r + m ≤ n → n - r ≤ q → DF ok dy n (r + m) = DF ok dy n r
  | 0, r, _, _ => rfl
  | m + 1, r, h1, h2 => by
    rw [← Nat.add_assoc, DF, h (n - (r + m + 1)) (by omega), if_neg (by decide)]
    exact DF_skip h m r (by omega) h2
theorem DF_ge {ok : Nat → Bool} {dy : Nat → Nat} {n q : Nat} (hm : ∀ x y, x < y → y < n → dy x ≤ dy y) (hq : q < n) : ∀ r, r ≤ n → q ≤ n - r → DF ok dy n r = 0 ∨ dy q ≤ DF ok dy n r
  | 0, _, _ => Or.inl rfl
  | r + 1, h1, h2 => by
    rw [DF]
    split
    · refine Or.inr ?_
      by_cases c : q = n - (r + 1)
      · rw [← c]; exact Nat.le_refl _
      · exact hm q _ (by omega) (by omega)
    · exact DF_ge hm hq r (by omega) (by omega)
def tryF (ok : Nat → Bool) (dy : Nat → Nat) (day n : Nat) : Nat → Nat × Nat
  | 0 => (n, 0)
  | r + 1 => if day ≠ 0 ∧ day ≤ dy (n - (r + 1)) then (n - (r + 1), 0) else if ok (n - (r + 1)) = true then (n - (r + 1) + 1, dy (n - (r + 1))) else tryF ok dy day n r
theorem tryF_spec {ok : Nat → Bool} {dy : Nat → Nat} {day n : Nat} (hm : ∀ x y, x < y → y < n → dy x ≤ dy y) (hd : ∀ k, k < n → dy k ≠ 0) : ∀ r, r ≤ n → (∀ j, j < n - r → ok j = false) →
    (n - r ≤ (tryF ok dy day n r).1 ∧ (tryF ok dy day n r).1 ≤ n) ∧ (∀ j, j + 1 < (tryF ok dy day n r).1 → ok j = false) ∧
    ((tryF ok dy day n r).2 = 0 → ∀ ok2 : Nat → Bool, (∀ j, j < (tryF ok dy day n r).1 → ok2 j = ok j) → DF ok2 dy n n = 0 ∨ (day ≠ 0 ∧ day ≤ DF ok2 dy n n)) ∧
    ((tryF ok dy day n r).2 ≠ 0 → (day = 0 ∨ (tryF ok dy day n r).2 < day) ∧ ∀ ok2 : Nat → Bool, (∀ j, j < (tryF ok dy day n r).1 → ok2 j = ok j) → DF ok2 dy n n = (tryF ok dy day n r).2)
  | 0, _, h => by
    rw [tryF]
    refine ⟨⟨by dsimp only; omega, Nat.le_refl _⟩, fun j hj => h j (by dsimp only at hj; omega), fun _ ok2 h2 => Or.inl ?_, fun q => absurd rfl q⟩
    have e := DF_skip (ok := ok2) (dy := dy) (n := n) (q := n) (fun j hj => by rw [h2 j hj]; exact h j (by omega)) n 0 (by omega) (by omega)
    rw [Nat.zero_add] at e
    rw [e]
    rfl
  | r + 1, hr, h => by
    rw [tryF]
    by_cases c1 : day ≠ 0 ∧ day ≤ dy (n - (r + 1))
    · rw [if_pos c1]
      refine ⟨⟨Nat.le_refl _, by dsimp only; omega⟩, fun j hj => h j (by dsimp only at hj; omega), fun _ ok2 h2 => ?_, fun q => absurd rfl q⟩
      have e := DF_skip (ok := ok2) (dy := dy) (n := n) (q := n - (r + 1)) (fun j hj => by rw [h2 j hj]; exact h j hj) (n - (r + 1)) (r + 1) (by omega) (by omega)
      rw [show r + 1 + (n - (r + 1)) = n by omega] at e
      rw [e]
      rcases DF_ge (ok := ok2) (q := n - (r + 1)) hm (by omega) (r + 1) hr (Nat.le_refl _) with g | g
      · exact Or.inl g
      · exact Or.inr ⟨c1.1, Nat.le_trans c1.2 g⟩
    · rw [if_neg c1]
      by_cases c2 : ok (n - (r + 1)) = true
      · rw [if_pos c2]
        have h0 := hd (n - (r + 1)) (by omega)
        refine ⟨⟨by dsimp only; omega, by dsimp only; omega⟩, fun j hj => h j (by dsimp only at hj; omega), fun q => absurd q h0, fun _ => ⟨by dsimp only; omega, fun ok2 h2 => ?_⟩⟩
        have e := DF_skip (ok := ok2) (dy := dy) (n := n) (q := n - (r + 1)) (fun j hj => by rw [h2 j (by dsimp only; omega)]; exact h j hj) (n - (r + 1)) (r + 1) (by omega) (by omega)
        rw [show r + 1 + (n - (r + 1)) = n by omega] at e
        rw [e, DF, h2 (n - (r + 1)) (by dsimp only; omega), if_pos c2]
      · rw [if_neg c2]
        have ih := tryF_spec (ok := ok) (dy := dy) (day := day) (n := n) hm hd r (by omega) (fun j hj => by
          by_cases e : j = n - (r + 1)
          · rw [e]
            cases hk : ok (n - (r + 1)) with
            | true => exact absurd hk c2
            | false => rfl
          · exact h j (by omega))
        exact ⟨⟨by omega, ih.1.2⟩, ih.2⟩
/-- the search, at most so many times -/
def seF (ok : (Nat → Nat) → Nat → Bool) (dy : Nat → Nat) (n : Nat) : Nat → Nat → (Nat → Nat) → Nat → (Nat → Nat) → Nat × (Nat → Nat)
  | 0, _, _, day, w => (day, w)
  | t + 1, p, a, day, w =>
    if pvF (soF false n (tryF (ok a) dy day n (n - p)).1 a) (n - 1) = 10 then (if (tryF (ok a) dy day n (n - p)).2 = 0 then (day, w) else ((tryF (ok a) dy day n (n - p)).2, a))
    else seF ok dy n t (pvF (soF false n (tryF (ok a) dy day n (n - p)).1 a) (n - 1)) (nxF n (pvF (soF false n (tryF (ok a) dy day n (n - p)).1 a) (n - 1)) (soF false n (tryF (ok a) dy day n (n - p)).1 a)) (if (tryF (ok a) dy day n (n - p)).2 = 0 then day else (tryF (ok a) dy day n (n - p)).2) (if (tryF (ok a) dy day n (n - p)).2 = 0 then w else a)
/-- the least day, then the first by numbers, of the rows of which S speaks -/
def Best (n : Nat) (a0 : Nat → Nat) (D : (Nat → Nat) → Nat) (S : (Nat → Nat) → Prop) (day : Nat) (w : Nat → Nat) : Prop :=
  (day ≠ 0 → PrmF n w a0 ∧ D w = day) ∧ ∀ c, PrmF n c a0 → S c → D c = 0 ∨ (day ≠ 0 ∧ (day < D c ∨ (day = D c ∧ ¬ lexL n c w)))
theorem Best.uniq {n : Nat} {a0 : Nat → Nat} {D : (Nat → Nat) → Nat} {d1 d2 : Nat} {w1 w2 : Nat → Nat} (h1 : Best n a0 D (fun _ => True) d1 w1) (h2 : Best n a0 D (fun _ => True) d2 w2) : d1 = d2 ∧ (d1 ≠ 0 → ∀ j, j < n → w1 j = w2 j) := by
  obtain ⟨a1, b1⟩ := h1
  obtain ⟨a2, b2'⟩ := h2
  by_cases c1 : d1 = 0
  · by_cases c2 : d2 = 0
    · exact ⟨by omega, fun q => absurd c1 q⟩
    · obtain ⟨u1, u2⟩ := a2 c2
      rcases b1 w2 u1 trivial with g | ⟨g, -⟩
      · omega
      · exact absurd c1 g
  · obtain ⟨u1, u2⟩ := a1 c1
    by_cases c2 : d2 = 0
    · rcases b2' w1 u1 trivial with g | ⟨g, -⟩
      · omega
      · exact absurd c2 g
    · obtain ⟨v1, v2⟩ := a2 c2
      rcases b1 w2 v1 trivial with g | ⟨-, g⟩
      · omega
      · rcases b2' w1 u1 trivial with g2 | ⟨-, g2⟩
        · omega
        · have e : d1 = d2 := by omega
          refine ⟨e, fun _ => ?_⟩
          have n1 : ¬ lexL n w2 w1 := by
            rcases g with g | g
            · omega
            · exact g.2
          have n2 : ¬ lexL n w1 w2 := by
            rcases g2 with g2 | g2
            · omega
            · exact g2.2
          rcases lexL_tri w1 w2 n with t | t | t
          · exact t
          · exact absurd t n2
          · exact absurd t n1
theorem seF_spec {ok : (Nat → Nat) → Nat → Bool} {dy : Nat → Nat} {n : Nat} {a0 : Nat → Nat} (hn : n ≤ 10) (hm : ∀ x y, x < y → y < n → dy x ≤ dy y) (hd : ∀ k, k < n → dy k ≠ 0) (hok : ∀ a c k, k < n → (∀ j, j ≤ k → a j = c j) → ok a k = ok c k) : ∀ t p (a : Nat → Nat) (day : Nat) (w : Nat → Nat), p ≤ n → PrmF n a a0 → (∀ j, j < p → ok a j = false) → fac n ≤ rkF a n n + t → (day ≠ 0 → ¬ lexL n a w) →
    Best n a0 (fun c => DF (ok c) dy n n) (fun c => lexL n c a) day w →
    Best n a0 (fun c => DF (ok c) dy n n) (fun _ => True) (seF ok dy n t p a day w).1 (seF ok dy n t p a day w).2
  | 0, p, a, day, w, hp, ha, hz, ht, hw, hb => by
    have := rkF_lt a n n (Nat.le_refl _)
    omega
  | t + 1, p, a, day, w, hp, ha, hz, ht, hw, hb => by
    obtain ⟨⟨t1, t2⟩, t3, t4, t5⟩ := tryF_spec (ok := ok a) (dy := dy) (day := day) (n := n) hm hd (n - p) (by omega) (fun j hj => hz j (by omega))
    rw [seF]
    generalize tryF (ok a) dy day n (n - p) = r at t1 t2 t3 t4 t5
    obtain ⟨m, d⟩ := r
    dsimp only at t1 t2 t3 t4 t5 ⊢
    obtain ⟨-, s2, s3⟩ := soF_spec (up := false) (n := n) (i := m) a t2
    have s1 := soF_dsc (n := n) (i := m) a t2
    generalize hg : soF false n m a = g at s1 s2 s3
    have hga : PrmF n g a0 := s3.trans ha
    -- what is known once this row has been tried
    have hstep : Best n a0 (fun c => DF (ok c) dy n n) (fun c => ¬ lexL n g c) (if d = 0 then day else d) (if d = 0 then w else a) := by
      obtain ⟨b1, b2'⟩ := hb
      have hpre : ∀ c, ¬ lexL n c a → ¬ lexL n g c → ∀ j, j < m → c j = a j := by
        intro c n1 n2 j
        induction j using Nat.strongRecOn with
        | _ j ih =>
          intro hj
          rcases Nat.lt_trichotomy (c j) (a j) with q | q | q
          · exact absurd ⟨j, by omega, fun i hi => ih i hi (by omega), q⟩ n1
          · exact q
          · exact absurd ⟨j, by omega, fun i hi => (s2 i (by omega)).trans (ih i hi (by omega)).symm, by rw [s2 j (Or.inl hj)]; exact q⟩ n2
      have hok2 : ∀ c, (∀ j, j < m → c j = a j) → ∀ j, j < m → ok c j = ok a j := fun c hc j hj => hok c a j (by omega) (fun i hi => hc i (by omega))
      by_cases c0 : d = 0
      · rw [if_pos c0, if_pos c0]
        refine ⟨b1, fun c hc hS => ?_⟩
        dsimp only
        by_cases cl : lexL n c a
        · exact b2' c hc cl
        · have hcm := hpre c cl hS
          rcases t4 c0 (ok c) (hok2 c hcm) with g1 | ⟨g1, g2⟩
          · exact Or.inl g1
          · refine Or.inr ⟨g1, ?_⟩
            rcases Nat.lt_or_ge day (DF (ok c) dy n n) with g3 | g3
            · exact Or.inl g3
            · refine Or.inr ⟨by omega, fun hl => ?_⟩
              rcases lexL_tri c a n with q | q | q
              · exact hw g1 (lexL_cg q (fun _ _ => rfl) hl)
              · exact cl q
              · exact hw g1 (lexL_trans q hl)
      · rw [if_neg c0, if_neg c0]
        obtain ⟨u1, u2⟩ := t5 c0
        refine ⟨fun _ => ⟨ha, u2 (ok a) (fun _ _ => rfl)⟩, fun c hc hS => ?_⟩
        dsimp only
        by_cases cl : lexL n c a
        · rcases b2' c hc cl with g1 | ⟨g1, g2⟩
          · exact Or.inl g1
          · refine Or.inr ⟨c0, Or.inl ?_⟩
            rcases u1 with u1 | u1
            · exact absurd u1 g1
            · rcases g2 with g2 | g2
              · exact Nat.lt_trans u1 g2
              · have e : day = DF (ok c) dy n n := g2.1
                omega
        · refine Or.inr ⟨c0, Or.inr ⟨(u2 (ok c) (hok2 c (hpre c cl hS))).symm, cl⟩⟩
    by_cases cp : pvF g (n - 1) = 10
    · rw [if_pos cp]
      have hl := fun c (hc : PrmF n c a0) => last_spec hn (c := c) cp (hc.trans hga.symm)
      obtain ⟨b1, b2'⟩ := hstep
      by_cases c0 : d = 0
      · rw [if_pos c0] at b1 b2' ⊢
        rw [if_pos c0] at b1 b2'
        exact ⟨b1, fun c hc _ => b2' c hc (hl c hc)⟩
      · rw [if_neg c0] at b1 b2' ⊢
        rw [if_neg c0] at b1 b2'
        exact ⟨b1, fun c hc _ => b2' c hc (hl c hc)⟩
    · rw [if_neg cp]
      obtain ⟨x1, x2, x3, x4, x5, x6⟩ := next_spec hn rfl cp
      generalize hp2 : pvF g (n - 1) = p2 at x1 x2 x3 x4 x5 x6 cp
      have hpm : p2 < m := by
        rcases Nat.lt_or_ge p2 m with q | q
        · exact q
        · have h1 := s1 p2 (p2 + 1) q (Nat.lt_succ_self _) x1
          rcases pvF_spec g (n - 1) (by omega) with ⟨i1, i2⟩ | ⟨i1, i2, i3⟩
          · omega
          · rw [hp2] at i2
            omega
      refine seF_spec hn hm hd hok t p2 (nxF n p2 g) _ _ (by omega) (x2.trans hga) (fun j hj => ?_) ?_ ?_ ?_
      · have e := hok (nxF n p2 g) a j (by omega) (fun i hi => (x3 i (by omega)).trans (s2 i (by omega)))
        rw [e]
        exact t3 j (by omega)
      · have r1 : rkF a n n ≤ rkF g n n := by
          rcases lexL_tri a g n with q | q | q
          · rw [rkF_cg q n (Nat.le_refl _)]; exact Nat.le_refl _
          · exact Nat.le_of_lt (rkF_lex s3.symm q)
          · exact absurd q (desc_max (i := m) s1 s3.symm (fun j hj => (s2 j (Or.inl hj)).symm))
        have r2 : rkF g n n < rkF (nxF n p2 g) n n := rkF_lex x2.symm ⟨p2, by omega, fun j hj => (x3 j hj).symm, x4⟩
        omega
      · have lg : lexL n g (nxF n p2 g) := ⟨p2, by omega, fun j hj => (x3 j hj).symm, x4⟩
        have la : lexL n a (nxF n p2 g) := by
          rcases lexL_tri a g n with q | q | q
          · exact lexL_cg (fun j hj => (q j hj).symm) (fun _ _ => rfl) lg
          · exact lexL_trans q lg
          · exact absurd q (desc_max (i := m) s1 s3.symm (fun j hj => (s2 j (Or.inl hj)).symm))
        by_cases c0 : d = 0
        · rw [if_pos c0, if_pos c0]
          exact fun q hl => hw q (lexL_trans la hl)
        · rw [if_neg c0, if_neg c0]
          exact fun _ hl => lexL_asym la hl
      · obtain ⟨b1, b2'⟩ := hstep
        exact ⟨b1, fun c hc hS => b2' c hc (fun hl => x6 c (hc.trans hga.symm) hl hS)⟩
