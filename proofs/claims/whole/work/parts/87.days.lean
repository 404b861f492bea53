/-! the order in which stones are thrown, and the day of the breach -/
def dyR (P : Pl) (d n : Nat) : Nat → List Nat
  | 0 => []
  | m + 1 => if P 6 (n - (m + 1)) = d then (n - (m + 1)) :: dyR P d n m else dyR P d n m
def orR (P : Pl) (n : Nat) : Nat → List Nat
  | 0 => []
  | m + 1 => dyR P (30 - m) n n ++ orR P n m
def cGE (P : Pl) (d n : Nat) : Nat → Nat
  | 0 => 0
  | m + 1 => cGE P d n m + (if d ≤ P 6 (n - (m + 1)) then 1 else 0)
theorem cGE_succ (P : Pl) (d n : Nat) : ∀ m, cGE P d n m = cGE P (d + 1) n m + (dyR P d n m).length
  | 0 => rfl
  | m + 1 => by
    rw [cGE, cGE, dyR, cGE_succ P d n m]
    by_cases c : P 6 (n - (m + 1)) = d
    · rw [if_pos c, if_pos (by omega), if_neg (by omega), List.length_cons]; omega
    · rw [if_neg c]
      by_cases c2 : d ≤ P 6 (n - (m + 1))
      · rw [if_pos c2, if_pos (by omega)]; omega
      · rw [if_neg c2, if_neg (by omega)]; omega
theorem cGE_0 {P : Pl} {d n : Nat} : ∀ m, m ≤ n → (∀ i, i < n → P 6 i < d) → cGE P d n m = 0
  | 0, _, _ => rfl
  | m + 1, h, hd => by
    rw [cGE, cGE_0 m (by omega) hd, if_neg]
    have := hd (n - (m + 1)) (by omega)
    omega
theorem cGE_n {P : Pl} {d n : Nat} : ∀ m, m ≤ n → (∀ i, i < n → d ≤ P 6 i) → cGE P d n m = m
  | 0, _, _ => rfl
  | m + 1, h, hd => by rw [cGE, cGE_n m (by omega) hd, if_pos (hd _ (by omega))]
theorem orR_len {P : Pl} {n : Nat} (hd : ∀ i, i < n → P 6 i ≤ 30) : ∀ m, m ≤ 30 → (orR P n m).length = cGE P (31 - m) n n
  | 0, _ => by rw [cGE_0 n (Nat.le_refl _) (fun i hi => by have := hd i hi; omega)]; rfl
  | m + 1, h => by
    have e := cGE_succ P (30 - m) n n
    rw [orR, List.length_append, orR_len hd m (by omega), show 31 - (m + 1) = 30 - m by omega, e, show 30 - m + 1 = 31 - m by omega]
    omega
theorem dyR_mem {P : Pl} {d n : Nat} : ∀ m x, m ≤ n → x ∈ dyR P d n m → n - m ≤ x ∧ x < n ∧ P 6 x = d
  | 0, x, _, h => by cases h
  | m + 1, x, hm, h => by
    rw [dyR] at h
    by_cases c : P 6 (n - (m + 1)) = d
    · rw [if_pos c] at h
      rcases List.mem_cons.mp h with e | e
      · rw [e]; exact ⟨Nat.le_refl _, by omega, c⟩
      · have := dyR_mem m x (by omega) e; omega
    · rw [if_neg c] at h
      have := dyR_mem m x (by omega) h; omega
/-- thrown ahead of -/
def thA (P : Pl) (x y : Nat) : Prop := P 6 x < P 6 y ∨ (P 6 x = P 6 y ∧ x < y)
theorem dyR_pw {P : Pl} {d n : Nat} : ∀ m, m ≤ n → (dyR P d n m).Pairwise (thA P)
  | 0, _ => List.Pairwise.nil
  | m + 1, hm => by
    rw [dyR]
    by_cases c : P 6 (n - (m + 1)) = d
    · rw [if_pos c]
      refine List.pairwise_cons.mpr ⟨fun y hy => ?_, dyR_pw m (by omega)⟩
      have := dyR_mem m y (by omega) hy
      exact Or.inr ⟨by omega, by omega⟩
    · rw [if_neg c]
      exact dyR_pw m (by omega)
theorem orR_mem {P : Pl} {n : Nat} : ∀ m x, m ≤ 30 → x ∈ orR P n m → x < n ∧ 31 - m ≤ P 6 x
  | 0, x, _, h => by cases h
  | m + 1, x, hm, h => by
    rw [orR] at h
    rcases List.mem_append.mp h with e | e
    · have := dyR_mem n x (Nat.le_refl _) e; omega
    · have := orR_mem m x (by omega) e; omega
theorem orR_pw {P : Pl} {n : Nat} : ∀ m, m ≤ 30 → (orR P n m).Pairwise (thA P)
  | 0, _ => List.Pairwise.nil
  | m + 1, hm => by
    rw [orR]
    refine List.pairwise_append.mpr ⟨dyR_pw n (Nat.le_refl _), orR_pw m (by omega), fun x hx y hy => ?_⟩
    have h1 := dyR_mem n x (Nat.le_refl _) hx
    have h2 := orR_mem m y (by omega) hy
    exact Or.inl (by omega)
def thL (P : Pl) : List Nat := orR P (P 0 1) 30
def thK (P : Pl) (k : Nat) : Nat := (thL P).getD k 0
theorem thL_len {P : Pl} (hV : Valid P) : (thL P).length = P 0 1 := by
  obtain ⟨-, -, -, -, -, v5, -⟩ := hV
  unfold thL
  rw [orR_len (fun i hi => (v5 i hi).2.2.1) 30 (Nat.le_refl _)]
  exact cGE_n _ (Nat.le_refl _) (fun i hi => (v5 i hi).2.1)
theorem thK_get {P : Pl} (hV : Valid P) {k : Nat} (hk : k < P 0 1) : (thL P)[k]? = some (thK P k) := by
  have hl := thL_len hV
  unfold thK
  rw [List.getD_eq_getElem?_getD, List.getElem?_eq_getElem (by omega)]
  rfl
theorem thK_mem {P : Pl} (hV : Valid P) {k : Nat} (hk : k < P 0 1) : thK P k ∈ thL P := List.mem_of_getElem? (thK_get hV hk)
theorem thK_lt {P : Pl} (hV : Valid P) {k : Nat} (hk : k < P 0 1) : thK P k < P 0 1 := (orR_mem 30 _ (Nat.le_refl _) (thK_mem hV hk)).1
theorem thK_pw {P : Pl} (hV : Valid P) {k j : Nat} (hkj : k < j) (hj : j < P 0 1) : thA P (thK P k) (thK P j) := by
  have hl := thL_len hV
  have h := List.pairwise_iff_getElem.mp (orR_pw (P := P) (n := P 0 1) 30 (Nat.le_refl _)) k j (show k < (thL P).length by omega) (show j < (thL P).length by omega) hkj
  have e1 := thK_get hV (k := k) (by omega)
  have e2 := thK_get hV hj
  rw [List.getElem?_eq_getElem (by omega)] at e1 e2
  have e1 := Option.some.inj e1
  have e2 := Option.some.inj e2
  rw [← e1, ← e2]
  exact h
theorem thK_inj {P : Pl} (hV : Valid P) {k j : Nat} (hk : k < P 0 1) (hj : j < P 0 1) (h : thK P k = thK P j) : k = j := by
  rcases Nat.lt_trichotomy k j with c | c | c
  · have := thK_pw hV c hj
    unfold thA at this
    rw [h] at this
    omega
  · exact c
  · have := thK_pw hV c hk
    unfold thA at this
    rw [h] at this
    omega
def dyK (P : Pl) (k : Nat) : Nat := P 6 (thK P k)
theorem dyK_mono {P : Pl} (hV : Valid P) : ∀ x y, x < y → y < P 0 1 → dyK P x ≤ dyK P y := fun x y h1 h2 => by
  have := thK_pw hV h1 h2
  unfold thA at this
  unfold dyK
  omega
theorem dyK_pos {P : Pl} (hV : Valid P) : ∀ k, k < P 0 1 → dyK P k ≠ 0 ∧ dyK P k ≤ 30 := fun k hk => by
  have := hV.2.2.2.2.2.1 _ (thK_lt hV hk)
  unfold dyK
  omega
-- opened or not
theorem opF_iff {s : Nat → Nat} : ∀ n, n ≤ 10 → (opF s n = 10 ↔ ∀ c, 10 - n ≤ c → c < 10 → s c ≠ 0)
  | 0, _ => ⟨fun _ c h1 h2 => by omega, fun _ => rfl⟩
  | n + 1, h => by
    have ih := opF_iff (s := s) n (by omega)
    rw [opF]
    by_cases c0 : s (9 - n) = 0
    · rw [if_pos c0]
      exact ⟨fun q => by omega, fun q => absurd c0 (q (9 - n) (by omega) (by omega))⟩
    · rw [if_neg c0, ih]
      refine ⟨fun q c h1 h2 => ?_, fun q c h1 h2 => q c (by omega) h2⟩
      by_cases e : c = 9 - n
      · rw [e]; exact c0
      · exact q c (by omega) h2
theorem opF_ten {s : Nat → Nat} : opF s 10 = 10 ↔ ∀ c, c < 10 → s c ≠ 0 := by
  rw [opF_iff 10 (Nat.le_refl _)]
  exact ⟨fun q c h => q c (by omega) h, fun q c _ h => q c h⟩
theorem opF_less {s t : Nat → Nat} (h : ∀ c, t c ≤ s c) (ho : opF s 10 ≠ 10) : opF t 10 ≠ 10 := fun q => ho (opF_ten.mpr (fun c hc e => opF_ten.mp q c hc (by have := h c; omega)))
theorem mend1_ge (f : Nat → Nat) (S : Wl) (c : Nat) : S.1 c ≤ (mend1 f S).1 c := by
  unfold mend1
  split
  · exact Nat.le_refl _
  · show S.1 c ≤ fup S.1 _ _ c
    rw [fup_at]
    split
    · rename_i e; rw [e]; exact Nat.le_succ _
    · exact Nat.le_refl _
theorem mendN_ge (f : Nat → Nat) (c : Nat) : ∀ n (S : Wl), S.1 c ≤ (mendN f n S).1 c
  | 0, S => Nat.le_refl _
  | n + 1, S => Nat.le_trans (mend1_ge f S c) (mendN_ge f c n _)
theorem mendN_add (f : Nat → Nat) (b : Nat) : ∀ a (S : Wl), mendN f (a + b) S = mendN f b (mendN f a S)
  | 0, S => by rw [Nat.zero_add]; rfl
  | a + 1, S => by
    rw [show a + 1 + b = (a + b) + 1 by omega, mendN, mendN]
    exact mendN_add f b a _
theorem mendN_none (f s : Nat → Nat) (n : Nat) : mendN f n (s, 0) = (s, 0) := mendN_stuck (f := f) (S := (s, 0)) (show mend1 f (s, 0) = (s, 0) from if_pos (Or.inr rfl)) n
theorem mendN_open (f : Nat → Nat) (n : Nat) (S : Wl) (h : opF S.1 10 = 10) : opF (mendN f n S).1 10 = 10 := opF_ten.mpr (fun c hc e => opF_ten.mp h c hc (by have := mendN_ge f c n S; omega))
-- stone by stone
def thT (P : Pl) (f : Nat → Nat) : List Nat → Wl → Wl
  | [], S => S
  | i :: l, S => thT P f l (strikeS P S i (f i))
theorem thrD_thT (P : Pl) (f : Nat → Nat) (d : Nat) : ∀ n S, thrD (fup P 7 f) d n S = thT P f (dyR P d (P 0 1) n) S
  | 0, S => rfl
  | n + 1, S => by
    rw [thrD, dyR]
    show thrD (fup P 7 f) d n (if P 6 (P 0 1 - (n + 1)) = d then strikeS P S (P 0 1 - (n + 1)) (f (P 0 1 - (n + 1))) else S) = _
    rw [thrD_thT P f d n]
    by_cases c : P 6 (P 0 1 - (n + 1)) = d
    · rw [if_pos c, if_pos c]; rfl
    · rw [if_neg c, if_neg c]
theorem thT_le (P : Pl) (f : Nat → Nat) (c : Nat) : ∀ l S, (thT P f l S).1 c ≤ S.1 c
  | [], S => Nat.le_refl _
  | i :: l, S => Nat.le_trans (thT_le P f c l _) (strikeS_le _ _ _ _ _)
def cwL (P : Pl) (f : Nat → Nat) : List Nat → Nat → Wl → Nat
  | [], _, _ => 0
  | i :: l, d, S => if opF (strikeS P (mendN (P 8) (P 0 2 * (P 6 i - d)) S) i (f i)).1 10 ≠ 10 then P 6 i else cwL P f l (P 6 i) (strikeS P (mendN (P 8) (P 0 2 * (P 6 i - d)) S) i (f i))
theorem cwL_today {P : Pl} {f : Nat → Nat} {d : Nat} (r : List Nat) : ∀ t S, (∀ i, i ∈ t → P 6 i = d) → opF S.1 10 = 10 → cwL P f (t ++ r) d S = if opF (thT P f t S).1 10 ≠ 10 then d else cwL P f r d (thT P f t S)
  | [], S, _, ho => by
    rw [thT, if_neg (fun q => q ho)]
    rfl
  | i :: t, S, ht, ho => by
    have hi := ht i List.mem_cons_self
    show cwL P f (i :: (t ++ r)) d S = _
    rw [cwL, thT, hi, Nat.sub_self, Nat.mul_zero, mendN]
    by_cases c : opF (strikeS P S i (f i)).1 10 ≠ 10
    · rw [if_pos c, if_pos (opF_less (fun x => thT_le P f x t _) c)]
    · rw [if_neg c]
      exact cwL_today r t _ (fun j hj => ht j (List.mem_cons_of_mem _ hj)) (Classical.byContradiction c)
theorem cwL_night {P : Pl} {f : Nat → Nat} {d : Nat} : ∀ r S, (∀ i, i ∈ r → d + 1 ≤ P 6 i) → cwL P f r (d + 1) (mendN (P 8) (P 0 2) S) = cwL P f r d S
  | [], S, _ => rfl
  | i :: r, S, h => by
    have hi := h i List.mem_cons_self
    have e : mendN (P 8) (P 0 2 * (P 6 i - (d + 1))) (mendN (P 8) (P 0 2) S) = mendN (P 8) (P 0 2 * (P 6 i - d)) S := by
      rw [← mendN_add]
      refine congrArg (fun q => mendN (P 8) q S) ?_
      have e2 : P 6 i - d = (P 6 i - (d + 1)) + 1 := by omega
      rw [e2, Nat.mul_succ, Nat.add_comm]
    rw [cwL, cwL, e]
def ruX (R : Pl) : Nat → Nat → Dy → Dy
  | 0, _, X => X
  | m + 1, d, X => ruX R m (d + 1) (passS (R 8) R d X)
theorem ruX_eq (R : Pl) : ∀ m d, runF R (d + m) = ruX R m (d + 1) (runF R d)
  | 0, d => rfl
  | m + 1, d => by
    rw [ruX, show d + (m + 1) = (d + 1) + m by omega, ruX_eq R m (d + 1)]
    rfl
theorem ruX_done (R : Pl) : ∀ m d (X : Dy), X.2.1 ≠ 0 → (ruX R m d X).2.1 = X.2.1
  | 0, d, X, _ => rfl
  | m + 1, d, X, h => by
    have e : (passS (R 8) R d X).2 = X.2 := if_neg (fun q => h q.1)
    rw [ruX, ruX_done R m (d + 1) _ (by rw [e]; exact h), e]
theorem ruX_cw {P : Pl} {f : Nat → Nat} : ∀ m, m ≤ 30 → ∀ S : Wl, opF S.1 10 = 10 → (ruX (fup P 7 f) m (31 - m) (S, 0, 10)).2.1 = cwL P f (orR P (P 0 1) m) (31 - m) S
  | 0, _, S, _ => rfl
  | m + 1, hm, S, ho => by
    have hday : ∀ i, i ∈ dyR P (31 - (m + 1)) (P 0 1) (P 0 1) → P 6 i = 31 - (m + 1) := fun i hi => (dyR_mem _ _ (Nat.le_refl _) hi).2.2
    have hlater : ∀ i, i ∈ orR P (P 0 1) m → 31 - (m + 1) + 1 ≤ P 6 i := fun i hi => by
      have := orR_mem m i (by omega) hi
      omega
    have ec := cwL_today (f := f) (orR P (P 0 1) m) _ S hday ho
    have et := thrD_thT P f (31 - (m + 1)) (P 0 1) S
    rw [ruX, orR, show 30 - m = 31 - (m + 1) by omega, ec, ← et]
    have ep : passS ((fup P 7 f) 8) (fup P 7 f) (31 - (m + 1)) (S, 0, 10) = (mendN (P 8) (P 0 2) (thrD (fup P 7 f) (31 - (m + 1)) (P 0 1) S), if (0 : Nat) = 0 ∧ opF (thrD (fup P 7 f) (31 - (m + 1)) (P 0 1) S).1 10 ≠ 10 then (31 - (m + 1), opF (thrD (fup P 7 f) (31 - (m + 1)) (P 0 1) S).1 10) else (0, 10)) := rfl
    rw [ep]
    generalize thrD (fup P 7 f) (31 - (m + 1)) (P 0 1) S = S1
    by_cases c : opF S1.1 10 ≠ 10
    · rw [if_pos c, if_pos ⟨rfl, c⟩, ruX_done _ _ _ _ (by show 31 - (m + 1) ≠ 0; omega)]
    · have c' : opF S1.1 10 = 10 := Classical.byContradiction c
      rw [if_neg c, if_neg (fun q => c q.2), show 31 - (m + 1) + 1 = 31 - m by omega, ruX_cw m (by omega) _ (mendN_open _ _ _ c')]
      have en := cwL_night (f := f) (orR P (P 0 1) m) S1 hlater
      rw [show 31 - (m + 1) + 1 = 31 - m by omega] at en
      exact en
theorem ru_of (R : Pl) (m : Nat) : runF R m = ruX R m 1 ((R 8, 0), 0, 10) := by
  have e := ruX_eq R m 0
  rw [Nat.zero_add] at e
  exact e
theorem run_cwm {P : Pl} {f : Nat → Nat} {m : Nat} (hm : m ≤ 30) (h1 : 31 - m = 1) (ho : opF (P 8) 10 = 10) : (runF (fup P 7 f) m).2.1 = cwL P f (orR P (P 0 1) m) 1 (P 8, 0) := by
  have h := ruX_cw (P := P) (f := f) m hm (P 8, 0) ho
  rw [h1] at h
  rw [ru_of]
  exact h
theorem run_cw {P : Pl} {f : Nat → Nat} (ho : opF (P 8) 10 = 10) : (runF (fup P 7 f) 30).2.1 = cwL P f (thL P) 1 (P 8, 0) := run_cwm (Nat.le_refl 30) rfl ho
theorem run_open {P : Pl} {f : Nat → Nat} (ho : opF (P 8) 10 ≠ 10) : (runF (fup P 7 f) 30).2.1 = 1 := by
  have e : runF (fup P 7 f) 30 = ruX (fup P 7 f) 29 2 (runF (fup P 7 f) 1) := ruX_eq (fup P 7 f) 29 1
  have h1 : (runF (fup P 7 f) 1).2 = (1, opF (thrD (fup P 7 f) 1 (P 0 1) (P 8, 0)).1 10) := by
    have hl := opF_less (s := P 8) (t := (thrD (fup P 7 f) 1 (P 0 1) (P 8, 0)).1) (fun c => thrD_le _ _ _ _ c) ho
    show (if (0 : Nat) = 0 ∧ opF (thrD (fup P 7 f) 1 (P 0 1) (P 8, 0)).1 10 ≠ 10 then ((1 : Nat), opF (thrD (fup P 7 f) 1 (P 0 1) (P 8, 0)).1 10) else ((0 : Nat), 10)) = _
    rw [if_pos ⟨rfl, hl⟩]
  have h2 : (runF (fup P 7 f) 1).2.1 = 1 := by rw [h1]
  rw [e, ruX_done _ _ _ _ (by rw [h2]; exact Nat.one_ne_zero), h2]
-- the walls ahead of each stone
def ahW (P : Pl) (a : Nat → Nat) : Nat → Wl
  | 0 => (P 8, 0)
  | k + 1 => mendN (P 8) (P 0 2 * (dyK P (k + 1) - dyK P k)) (strikeS P (ahW P a k) (thK P k) (a k))
def skW (P : Pl) (a : Nat → Nat) (k : Nat) : Wl := strikeS P (ahW P a k) (thK P k) (a k)
def okB (P : Pl) (a : Nat → Nat) (k : Nat) : Bool := !(opF (skW P a k).1 10 == 10)
theorem okB_iff (P : Pl) (a : Nat → Nat) (k : Nat) : okB P a k = true ↔ opF (skW P a k).1 10 ≠ 10 := by
  unfold okB
  rw [Bool.not_eq_true', beq_eq_false_iff_ne]
theorem ahW_cg {P : Pl} {a c : Nat → Nat} : ∀ k, (∀ j, j < k → a j = c j) → ahW P a k = ahW P c k
  | 0, _ => rfl
  | k + 1, h => by rw [ahW, ahW, ahW_cg k (fun j hj => h j (by omega)), h k (by omega)]
theorem okB_cg {P : Pl} {a c : Nat → Nat} {k : Nat} (h : ∀ j, j ≤ k → a j = c j) : okB P a k = okB P c k := by
  unfold okB skW
  rw [ahW_cg k (fun j hj => h j (by omega)), h k (Nat.le_refl _)]
theorem drop_thL {P : Pl} (hV : Valid P) {k : Nat} (hk : k < P 0 1) : (thL P).drop k = thK P k :: (thL P).drop (k + 1) := by
  have hl := thL_len hV
  have e := thK_get hV hk
  rw [List.getElem?_eq_getElem (by omega)] at e
  rw [List.drop_eq_getElem_cons (by omega), Option.some.inj e]
theorem cw_DF {P : Pl} (hV : Valid P) {a f : Nat → Nat} (hf : ∀ k, k < P 0 1 → f (thK P k) = a k) : ∀ r, r ≤ P 0 1 → ∀ d S, (P 0 1 - r < P 0 1 → mendN (P 8) (P 0 2 * (dyK P (P 0 1 - r) - d)) S = ahW P a (P 0 1 - r)) → cwL P f ((thL P).drop (P 0 1 - r)) d S = DF (okB P a) (dyK P) (P 0 1) r
  | 0, _, d, S, _ => by
    have hl := thL_len hV
    rw [Nat.sub_zero, List.drop_eq_nil_of_le (by omega)]
    rfl
  | r + 1, hr, d, S, h => by
    have hk : P 0 1 - (r + 1) < P 0 1 := by omega
    have e := h hk
    unfold dyK at e
    rw [drop_thL hV hk, cwL, DF, e, hf _ hk]
    have ih := cw_DF hV hf r (by omega) (dyK P (P 0 1 - (r + 1))) (skW P a (P 0 1 - (r + 1))) (fun hk2 => by
      rw [show P 0 1 - r = P 0 1 - (r + 1) + 1 by omega, ahW]
      rfl)
    rw [show P 0 1 - r = P 0 1 - (r + 1) + 1 by omega] at ih
    by_cases c : opF (skW P a (P 0 1 - (r + 1))).1 10 ≠ 10
    · rw [if_pos ((okB_iff _ _ _).mpr c)]
      exact if_pos c
    · rw [if_neg (fun q => c ((okB_iff _ _ _).mp q)), ← ih]
      exact if_neg c
/-- the day of the breach, by the weights in the order of throwing -/
def dayO (P : Pl) (a : Nat → Nat) : Nat := if opF (P 8) 10 = 10 then DF (okB P a) (dyK P) (P 0 1) (P 0 1) else 1
theorem run_dayO {P : Pl} (hV : Valid P) {a f : Nat → Nat} (hf : ∀ k, k < P 0 1 → f (thK P k) = a k) : (runF (fup P 7 f) 30).2.1 = dayO P a := by
  unfold dayO
  by_cases c : opF (P 8) 10 = 10
  · rw [if_pos c, run_cw c]
    have h := cw_DF hV hf (P 0 1) (Nat.le_refl _) 1 (P 8, 0) (fun _ => by
      rw [Nat.sub_self]
      exact mendN_none _ _ _)
    rw [Nat.sub_self] at h
    exact h
  · rw [if_neg c, run_open c]
