/-! rows put in order: counting, first by numbers -/
def cntF (f : Nat → Nat) (v : Nat) : Nat → Nat
  | 0 => 0
  | n + 1 => cntF f v n + (if f n = v then 1 else 0)
def PrmF (n : Nat) (f g : Nat → Nat) : Prop := ∀ v, cntF f v n = cntF g v n
theorem PrmF.rfl' (n : Nat) (f : Nat → Nat) : PrmF n f f := fun _ => rfl
theorem PrmF.trans {n : Nat} {f g k : Nat → Nat} (h1 : PrmF n f g) (h2 : PrmF n g k) : PrmF n f k := fun v => (h1 v).trans (h2 v)
theorem PrmF.symm {n : Nat} {f g : Nat → Nat} (h1 : PrmF n f g) : PrmF n g f := fun v => (h1 v).symm
theorem cntF_cg {f g : Nat → Nat} (v : Nat) : ∀ n, (∀ j, j < n → f j = g j) → cntF f v n = cntF g v n
  | 0, _ => rfl
  | n + 1, h => by rw [cntF, cntF, cntF_cg v n (fun j q => h j (by omega)), h n (by omega)]
theorem cntF_out (f : Nat → Nat) {k x : Nat} (v : Nat) : ∀ n, n ≤ k → cntF (fup f k x) v n = cntF f v n := fun n hn => cntF_cg v n (fun j q => fup_ne _ _ (by omega))
theorem cntF_up (f : Nat → Nat) {k : Nat} (x v : Nat) : ∀ n, k < n → cntF (fup f k x) v n + (if f k = v then 1 else 0) = cntF f v n + (if x = v then 1 else 0)
  | 0, h => by omega
  | n + 1, h => by
    rw [cntF, cntF, fup_at]
    by_cases c : n = k
    · subst c
      rw [if_pos rfl, cntF_out f v n (Nat.le_refl _)]
      omega
    · rw [if_neg c]
      have ih := cntF_up f (k := k) x v n (by omega)
      omega
theorem cntF_mono (f : Nat → Nat) (v : Nat) {q : Nat} : ∀ n, q ≤ n → cntF f v q ≤ cntF f v n
  | 0, h => by rw [Nat.le_zero.mp h]; exact Nat.le_refl _
  | n + 1, h => by
    by_cases c : q = n + 1
    · rw [c]; exact Nat.le_refl _
    · rw [cntF]
      exact Nat.le_trans (cntF_mono f v n (by omega)) (Nat.le_add_right _ _)
theorem cntF_ex {f : Nat → Nat} {v q : Nat} : ∀ n, cntF f v q < cntF f v n → q ≤ n → ∃ j, q ≤ j ∧ j < n ∧ f j = v
  | 0, h, hq => by
    have : cntF f v 0 = 0 := rfl
    omega
  | n + 1, h, hq => by
    by_cases c : f n = v
    · by_cases c2 : q ≤ n
      · exact ⟨n, c2, Nat.lt_succ_self n, c⟩
      · have e : q = n + 1 := by omega
        rw [e] at h
        omega
    · rw [cntF, if_neg c] at h
      by_cases c2 : q ≤ n
      · obtain ⟨j, h1, h2, h3⟩ := cntF_ex n (by omega) c2
        exact ⟨j, h1, by omega, h3⟩
      · have e : q = n + 1 := by omega
        rw [e, cntF, if_neg c] at h
        omega
theorem prm_in {n : Nat} {f g : Nat → Nat} (h : PrmF n f g) {a : Nat} (he : ∀ j, j < a → f j = g j) {y : Nat} (h1 : a ≤ y) (h2 : y < n) : ∃ j, a ≤ j ∧ j < n ∧ g j = f y := by
  have e1 : cntF f (f y) (y + 1) = cntF f (f y) y + 1 := by rw [cntF, if_pos rfl]
  have e2 := cntF_mono f (f y) (q := a) y h1
  have e3 := cntF_mono f (f y) (q := y + 1) n h2
  have e4 := cntF_cg (f := f) (g := g) (f y) a he
  have e5 := h (f y)
  exact cntF_ex n (by omega) (by omega)
def lexL (n : Nat) (a b : Nat → Nat) : Prop := ∃ q, q < n ∧ (∀ j, j < q → a j = b j) ∧ a q < b q
theorem lexL_asym {n : Nat} {a b : Nat → Nat} (h1 : lexL n a b) (h2 : lexL n b a) : False := by
  obtain ⟨q, q1, q2, q3⟩ := h1
  obtain ⟨r, r1, r2, r3⟩ := h2
  rcases Nat.lt_trichotomy q r with c | c | c
  · have := r2 q c; omega
  · subst c; omega
  · have := q2 r c; omega
theorem lexL_trans {n : Nat} {a b c : Nat → Nat} (h1 : lexL n a b) (h2 : lexL n b c) : lexL n a c := by
  obtain ⟨q, q1, q2, q3⟩ := h1
  obtain ⟨r, r1, r2, r3⟩ := h2
  rcases Nat.lt_trichotomy q r with d | d | d
  · exact ⟨q, q1, fun j hj => (q2 j hj).trans (r2 j (by omega)), by rw [← r2 q d]; exact q3⟩
  · subst d
    exact ⟨q, q1, fun j hj => (q2 j hj).trans (r2 j hj), Nat.lt_trans q3 r3⟩
  · exact ⟨r, r1, fun j hj => (q2 j (by omega)).trans (r2 j hj), by rw [q2 r d]; exact r3⟩
theorem lexL_tri (a b : Nat → Nat) : ∀ n, (∀ j, j < n → a j = b j) ∨ lexL n a b ∨ lexL n b a
  | 0 => Or.inl (fun j h => by omega)
  | n + 1 => by
    rcases lexL_tri a b n with h | ⟨q, q1, q2, q3⟩ | ⟨q, q1, q2, q3⟩
    · rcases Nat.lt_trichotomy (a n) (b n) with c | c | c
      · exact Or.inr (Or.inl ⟨n, Nat.lt_succ_self n, h, c⟩)
      · refine Or.inl (fun j hj => ?_)
        by_cases e : j = n
        · rw [e]; exact c
        · exact h j (by omega)
      · exact Or.inr (Or.inr ⟨n, Nat.lt_succ_self n, fun j hj => (h j hj).symm, c⟩)
    · exact Or.inr (Or.inl ⟨q, by omega, q2, q3⟩)
    · exact Or.inr (Or.inr ⟨q, by omega, q2, q3⟩)
theorem lexL_cg {n : Nat} {a b c d : Nat → Nat} (h1 : ∀ j, j < n → a j = c j) (h2 : ∀ j, j < n → b j = d j) (h : lexL n a b) : lexL n c d := by
  obtain ⟨q, q1, q2, q3⟩ := h
  exact ⟨q, q1, fun j hj => by rw [← h1 j (by omega), ← h2 j (by omega)]; exact q2 j hj, by rw [← h1 q q1, ← h2 q q1]; exact q3⟩
theorem asc_min {n i : Nat} {a c : Nat → Nat} (asc : ∀ x y, i ≤ x → x < y → y < n → a x ≤ a y) (h : PrmF n c a) (he : ∀ j, j < i → c j = a j) : ¬ lexL n c a := by
  rintro ⟨q, q1, q2, q3⟩
  by_cases c1 : q < i
  · have := he q c1; omega
  · obtain ⟨j, j1, j2, j3⟩ := prm_in h q2 (Nat.le_refl q) q1
    by_cases c2 : j = q
    · rw [c2] at j3; omega
    · have := asc q j (by omega) (by omega) j2
      omega
theorem desc_max {n i : Nat} {a c : Nat → Nat} (dsc : ∀ x y, i ≤ x → x < y → y < n → a y ≤ a x) (h : PrmF n c a) (he : ∀ j, j < i → c j = a j) : ¬ lexL n a c := by
  rintro ⟨q, q1, q2, q3⟩
  by_cases c1 : q < i
  · have := he q c1; omega
  · obtain ⟨j, j1, j2, j3⟩ := prm_in h (fun j hj => (q2 j hj).symm) (Nat.le_refl q) q1
    by_cases c2 : j = q
    · rw [c2] at j3; omega
    · have := dsc q j (by omega) (by omega) j2
      omega
-- changed about
def swF (f : Nat → Nat) (a b : Nat) : Nat → Nat := fup (fup f a (f b)) b (f a)
theorem swF_prm (f : Nat → Nat) {a b n : Nat} (ha : a < n) (hb : b < n) : PrmF n (swF f a b) f := by
  intro v
  have e1 := cntF_up (fup f a (f b)) (k := b) (f a) v n hb
  have e2 := cntF_up f (k := a) (f b) v n ha
  have e3 : fup f a (f b) b = f b := by
    rw [fup_at]
    split <;> rfl
  rw [e3] at e1
  unfold swF
  generalize (if f b = v then 1 else 0) = p at e1 e2
  generalize (if f a = v then 1 else 0) = q at e1 e2
  omega
theorem swF_a (f : Nat → Nat) {a b : Nat} (h : a ≠ b) : swF f a b a = f b := by
  unfold swF
  rw [fup_ne _ _ h, fup_self]
theorem swF_b (f : Nat → Nat) (a b : Nat) : swF f a b b = f a := fup_self _ _ _
theorem swF_ne (f : Nat → Nat) {a b j : Nat} (h1 : j ≠ a) (h2 : j ≠ b) : swF f a b j = f j := by
  unfold swF
  rw [fup_ne _ _ h2, fup_ne _ _ h1]
/-- have x, then y, to be changed about -/
def swB (up : Bool) (x y : Nat) : Bool := if up = true then decide (y < x) else decide (x < y)
theorem swB_t {x y : Nat} : swB true x y = true ↔ y < x := by
  unfold swB
  rw [if_pos rfl, decide_eq_true_iff]
theorem swB_f {x y : Nat} : swB false x y = true ↔ x < y := by
  unfold swB
  rw [if_neg (by decide), decide_eq_true_iff]
theorem swB_le {up : Bool} {x y w : Nat} (h : swB up x y = true) (h2 : ¬ swB up x w = true) : ¬ swB up y w = true := by
  cases up with
  | true => rw [swB_t] at *; omega
  | false => rw [swB_f] at *; omega
theorem swB_as {up : Bool} {x y : Nat} (h : swB up x y = true) : ¬ swB up y x = true := by
  cases up with
  | true => rw [swB_t] at *; omega
  | false => rw [swB_f] at *; omega
def inS (up : Bool) (a n : Nat) : Nat → (Nat → Nat) → Nat → Nat
  | 0, f => f
  | k + 1, f => inS up a n k (if swB up (f a) (f (n - (k + 1))) = true then swF f a (n - (k + 1)) else f)
theorem inS_spec {up : Bool} {a n : Nat} : ∀ k (f : Nat → Nat), a + k < n → (∀ j, a < j → j < n - k → ¬ swB up (f a) (f j) = true) →
    (∀ j, a < j → j < n → ¬ swB up (inS up a n k f a) (inS up a n k f j) = true) ∧ (∀ j, j < a ∨ n ≤ j → inS up a n k f j = f j) ∧ PrmF n (inS up a n k f) f
  | 0, f, hk, h => ⟨fun j h1 h2 => h j h1 (by omega), fun _ _ => rfl, PrmF.rfl' n f⟩
  | k + 1, f, hk, h => by
    rw [inS]
    have hb : a ≠ n - (k + 1) := by omega
    by_cases c : swB up (f a) (f (n - (k + 1))) = true
    · rw [if_pos c]
      obtain ⟨i1, i2, i3⟩ := inS_spec (up := up) (a := a) (n := n) k (swF f a (n - (k + 1))) (by omega) (fun j h1 h2 => by
        rw [swF_a f hb]
        by_cases q : j = n - (k + 1)
        · rw [q, swF_b]; exact swB_as c
        · rw [swF_ne f (by omega) q]
          exact swB_le c (h j h1 (by omega)))
      exact ⟨i1, fun j hj => (i2 j hj).trans (swF_ne f (by omega) (by omega)), i3.trans (swF_prm f (by omega) (by omega))⟩
    · rw [if_neg c]
      exact inS_spec k f (by omega) (fun j h1 h2 => by
        by_cases q : j = n - (k + 1)
        · rw [q]; exact c
        · exact h j h1 (by omega))
def ouS (up : Bool) (n : Nat) : Nat → (Nat → Nat) → Nat → Nat
  | 0, f => f
  | k + 1, f => ouS up n k (inS up (n - (k + 1)) n k f)
theorem ouS_spec {up : Bool} {n i : Nat} : ∀ k (f : Nat → Nat), k ≤ n → (∀ x y, i ≤ x → x < n - k → x < y → y < n → ¬ swB up (f x) (f y) = true) →
    (∀ x y, i ≤ x → x < y → y < n → ¬ swB up (ouS up n k f x) (ouS up n k f y) = true) ∧ (∀ j, j < n - k ∨ n ≤ j → ouS up n k f j = f j) ∧ PrmF n (ouS up n k f) f
  | 0, f, hk, h => ⟨fun x y h1 h2 h3 => h x y h1 (by omega) h2 h3, fun _ _ => rfl, PrmF.rfl' n f⟩
  | k + 1, f, hk, h => by
    rw [ouS]
    obtain ⟨j1, j2, j3⟩ := inS_spec (up := up) (a := n - (k + 1)) (n := n) k f (by omega) (fun j h1 h2 => by omega)
    obtain ⟨i1, i2, i3⟩ := ouS_spec (up := up) (n := n) (i := i) k (inS up (n - (k + 1)) n k f) (by omega) (fun x y h1 h2 h3 h4 => by
      by_cases c : x = n - (k + 1)
      · rw [c]; exact j1 y (by omega) h4
      · rw [j2 x (by omega)]
        by_cases c2 : y < n - (k + 1)
        · rw [j2 y (by omega)]
          exact h x y h1 (by omega) h3 h4
        · obtain ⟨w, w1, w2, w3⟩ := prm_in j3 (a := n - (k + 1)) (fun j hj => j2 j (by omega)) (y := y) (by omega) h4
          rw [← w3]
          exact h x w h1 (by omega) (by omega) w2)
    exact ⟨i1, fun j hj => (i2 j (by omega)).trans (j2 j hj), i3.trans j3⟩
def soF (up : Bool) (n i : Nat) (f : Nat → Nat) : Nat → Nat := ouS up n (n - i) f
theorem soF_spec {up : Bool} {n i : Nat} (f : Nat → Nat) (hi : i ≤ n) : (∀ x y, i ≤ x → x < y → y < n → ¬ swB up (soF up n i f x) (soF up n i f y) = true) ∧ (∀ j, j < i ∨ n ≤ j → soF up n i f j = f j) ∧ PrmF n (soF up n i f) f := by
  obtain ⟨h1, h2, h3⟩ := ouS_spec (up := up) (n := n) (i := i) (n - i) f (by omega) (fun x y a b c d => by omega)
  exact ⟨h1, fun j hj => h2 j (by omega), h3⟩
theorem soF_asc {n i : Nat} (f : Nat → Nat) (hi : i ≤ n) : ∀ x y, i ≤ x → x < y → y < n → soF true n i f x ≤ soF true n i f y := fun x y a b c => by
  have := (soF_spec (up := true) f hi).1 x y a b c
  rw [swB_t] at this
  omega
theorem soF_dsc {n i : Nat} (f : Nat → Nat) (hi : i ≤ n) : ∀ x y, i ≤ x → x < y → y < n → soF false n i f y ≤ soF false n i f x := fun x y a b c => by
  have := (soF_spec (up := false) f hi).1 x y a b c
  rw [swB_f] at this
  omega
-- the next by numbers
def pvF (f : Nat → Nat) : Nat → Nat
  | 0 => 10
  | k + 1 => if f k < f (k + 1) then k else pvF f k
theorem pvF_spec (f : Nat → Nat) : ∀ m, m ≤ 9 → (pvF f m = 10 ∧ ∀ k, k < m → f (k + 1) ≤ f k) ∨ (pvF f m < m ∧ f (pvF f m) < f (pvF f m + 1) ∧ ∀ k, pvF f m < k → k < m → f (k + 1) ≤ f k)
  | 0, _ => Or.inl ⟨rfl, fun k h => by omega⟩
  | m + 1, h => by
    rw [pvF]
    by_cases c : f m < f (m + 1)
    · rw [if_pos c]
      exact Or.inr ⟨Nat.lt_succ_self m, c, fun k h1 h2 => by omega⟩
    · rw [if_neg c]
      rcases pvF_spec f m (by omega) with ⟨i1, i2⟩ | ⟨i1, i2, i3⟩
      · refine Or.inl ⟨i1, fun k hk => ?_⟩
        by_cases q : k = m
        · rw [q]; omega
        · exact i2 k (by omega)
      · refine Or.inr ⟨by omega, i2, fun k h1 h2 => ?_⟩
        by_cases q : k = m
        · rw [q]; omega
        · exact i3 k h1 (by omega)
def hiF (f : Nat → Nat) (p : Nat) : Nat → Nat
  | 0 => p + 1
  | m + 1 => if f p < f (p + 2 + m) then p + 2 + m else hiF f p m
theorem hiF_spec {f : Nat → Nat} {p : Nat} (hp : f p < f (p + 1)) : ∀ m, p < hiF f p m ∧ hiF f p m < p + 2 + m ∧ f p < f (hiF f p m) ∧ ∀ j, hiF f p m < j → j < p + 2 + m → f j ≤ f p
  | 0 => ⟨Nat.lt_succ_self p, Nat.lt_succ_self (p + 1), hp, fun j h1 h2 => by rw [hiF] at h1; omega⟩
  | m + 1 => by
    rw [hiF]
    by_cases c : f p < f (p + 2 + m)
    · rw [if_pos c]
      exact ⟨by omega, by omega, c, fun j h1 h2 => by omega⟩
    · rw [if_neg c]
      obtain ⟨i1, i2, i3, i4⟩ := hiF_spec hp m
      refine ⟨i1, by omega, i3, fun j h1 h2 => ?_⟩
      by_cases q : j = p + 2 + m
      · rw [q]; omega
      · exact i4 j h1 (by omega)
theorem dsc_chain {f : Nat → Nat} {p n : Nat} (h : ∀ k, p < k → k + 1 < n → f (k + 1) ≤ f k) : ∀ m x, p < x → x + m < n → f (x + m) ≤ f x
  | 0, x, _, _ => Nat.le_refl _
  | m + 1, x, h1, h2 => Nat.le_trans (h (x + m) (by omega) (by omega)) (dsc_chain h m x h1 (by omega))
def nxF (n p : Nat) (f : Nat → Nat) : Nat → Nat := soF true n (p + 1) (swF f p (hiF f p (n - (p + 2))))
theorem last_spec {n : Nat} (hn : n ≤ 10) {f c : Nat → Nat} (hp : pvF f (n - 1) = 10) (h : PrmF n c f) : ¬ lexL n f c := by
  rcases pvF_spec f (n - 1) (by omega) with ⟨i1, i2⟩ | ⟨i1, i2, i3⟩
  · refine desc_max (i := 0) (fun x y _ h2 h3 => ?_) h (fun j hj => by omega)
    have hd : ∀ m x, x + m < n → f (x + m) ≤ f x := by
      intro m
      induction m with
      | zero => intro x _; exact Nat.le_refl _
      | succ m ih => intro x hx; exact Nat.le_trans (i2 (x + m) (by omega)) (ih x (by omega))
    have := hd (y - x) x (by omega)
    rwa [show x + (y - x) = y by omega] at this
  · omega
theorem next_spec {n : Nat} (hn : n ≤ 10) {f : Nat → Nat} {p : Nat} (hpv : pvF f (n - 1) = p) (hp : p ≠ 10) : p + 1 < n ∧ PrmF n (nxF n p f) f ∧ (∀ j, j < p → nxF n p f j = f j) ∧ f p < nxF n p f p ∧ (∀ j, n ≤ j → nxF n p f j = f j) ∧ ∀ c, PrmF n c f → lexL n f c → ¬ lexL n c (nxF n p f) := by
  rcases pvF_spec f (n - 1) (by omega) with ⟨i1, i2⟩ | ⟨i1, i2, i3⟩
  · omega
  · rw [hpv] at i1 i2 i3
    obtain ⟨h1, h2, h3, h4⟩ := hiF_spec i2 (n - (p + 2))
    have hlt : hiF f p (n - (p + 2)) < n := by omega
    obtain ⟨-, s2, s3⟩ := soF_spec (up := true) (n := n) (i := p + 1) (swF f p (hiF f p (n - (p + 2)))) (by omega)
    have s1 := soF_asc (n := n) (i := p + 1) (swF f p (hiF f p (n - (p + 2)))) (by omega)
    have hpr : PrmF n (nxF n p f) f := s3.trans (swF_prm f (by omega) hlt)
    have hlow : ∀ j, j < p → nxF n p f j = f j := fun j hj => (s2 j (by omega)).trans (swF_ne f (by omega) (by omega))
    have hat : nxF n p f p = f (hiF f p (n - (p + 2))) := (s2 p (by omega)).trans (swF_a f (by omega))
    have hdc := dsc_chain (f := f) (p := p) (n := n) (fun k a b => i3 k a (by omega))
    refine ⟨by omega, hpr, hlow, by rw [hat]; exact h3, fun j hj => (s2 j (Or.inr hj)).trans (swF_ne f (by omega) (by omega)), fun c hc hl hl2 => ?_⟩
    obtain ⟨q, q1, q2, q3⟩ := hl
    obtain ⟨j, j1, j2, j3⟩ := prm_in hc (fun j hj => (q2 j hj).symm) (Nat.le_refl q) q1
    rcases Nat.lt_trichotomy q p with c1 | c1 | c1
    · exact lexL_asym hl2 ⟨q, q1, fun j hj => (hlow j (by omega)).trans (q2 j hj), by rw [hlow q c1]; exact q3⟩
    · subst c1
      have jq : q < j := by
        rcases Nat.lt_or_ge q j with r | r
        · exact r
        · have e : j = q := by omega
          rw [e] at j3
          omega
      have jh : j ≤ hiF f q (n - (q + 2)) := by
        rcases Nat.lt_or_ge (hiF f q (n - (q + 2))) j with r | r
        · have := h4 j r (by omega)
          omega
        · exact r
      have hge := hdc (hiF f q (n - (q + 2)) - j) j jq (by omega)
      rw [show j + (hiF f q (n - (q + 2)) - j) = hiF f q (n - (q + 2)) by omega] at hge
      rcases Nat.lt_or_ge (nxF n q f q) (c q) with r | r
      · exact lexL_asym hl2 ⟨q, q1, fun j hj => (hlow j hj).trans (q2 j hj), r⟩
      · have e : c q = nxF n q f q := by omega
        refine asc_min (i := q + 1) s1 (hc.trans hpr.symm) (fun j hj => ?_) hl2
        by_cases e2 : j = q
        · rw [e2]; exact e
        · exact (q2 j (by omega)).symm.trans (hlow j (by omega)).symm
    · have hge := hdc (j - q) q c1 (by omega)
      rw [show q + (j - q) = j by omega] at hge
      omega
