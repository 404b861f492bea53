/-! all orders by their codes -/
def arrL : Nat → List Nat → Nat → List Nat
  | 0, _, _ => []
  | k + 1, u, c => u.getD (c / fac k) 0 :: arrL k (u.eraseIdx (c / fac k)) (c % fac k)
theorem code_lt {k c : Nat} (h : c < fac (k + 1)) : c / fac k < k + 1 ∧ c % fac k < fac k := by
  have h0 := fac_pos k
  rw [fac] at h
  exact ⟨(Nat.div_lt_iff_lt_mul h0).mpr h, Nat.mod_lt _ h0⟩
theorem getD_get {u : List Nat} {d : Nat} (h : d < u.length) : u.getD d 0 = u[d] := by
  rw [List.getD_eq_getElem?_getD, List.getElem?_eq_getElem h]
  rfl
theorem arrL_len : ∀ k u c, (arrL k u c).length = k
  | 0, _, _ => rfl
  | k + 1, u, c => by rw [arrL, List.length_cons, arrL_len k]
theorem ei_perm : ∀ (u : List Nat) (d : Nat) (h : d < u.length), (u[d] :: u.eraseIdx d).Perm u
  | x :: t, 0, _ => List.Perm.refl _
  | x :: t, d + 1, h => by
    have hd : d < t.length := Nat.lt_of_succ_lt_succ h
    show (t[d] :: x :: t.eraseIdx d).Perm (x :: t)
    exact (List.Perm.swap x t[d] (t.eraseIdx d)).trans (List.Perm.cons x (ei_perm t d hd))
theorem ei_map (f : Nat → Nat) : ∀ (u : List Nat) (d : Nat), (u.eraseIdx d).map f = (u.map f).eraseIdx d
  | [], _ => rfl
  | x :: t, 0 => rfl
  | x :: t, d + 1 => by
    show f x :: (t.eraseIdx d).map f = f x :: (t.map f).eraseIdx d
    rw [ei_map f t d]
theorem arrL_perm : ∀ k (u : List Nat) c, u.length = k → c < fac k → (arrL k u c).Perm u
  | 0, u, c, hu, _ => by
    rw [List.eq_nil_of_length_eq_zero hu]
    exact List.Perm.refl _
  | k + 1, u, c, hu, hc => by
    obtain ⟨h1, h2⟩ := code_lt hc
    have hd : c / fac k < u.length := by omega
    rw [arrL, getD_get hd]
    have hl : (u.eraseIdx (c / fac k)).length = k := by rw [List.length_eraseIdx_of_lt hd]; omega
    exact (List.Perm.cons _ (arrL_perm k _ _ hl h2)).trans (ei_perm u _ hd)
/-- first by numbers, for lists -/
def llt : List Nat → List Nat → Prop
  | x :: s, y :: t => x < y ∨ (x = y ∧ llt s t)
  | _, _ => False
theorem arrL_code {k d c : Nat} (hc : c < fac k) : (d * fac k + c) / fac k = d ∧ (d * fac k + c) % fac k = c := by
  have h0 := fac_pos k
  constructor
  · rw [Nat.add_comm, Nat.add_mul_div_right _ _ h0, Nat.div_eq_of_lt hc, Nat.zero_add]
  · rw [Nat.add_comm, Nat.add_mul_mod_self_right, Nat.mod_eq_of_lt hc]
theorem arrL_onto : ∀ k (u s : List Nat), u.length = k → s.Perm u → ∃ c, c < fac k ∧ arrL k u c = s
  | 0, u, s, hu, hs => by
    have hl := hs.length_eq
    exact ⟨0, by decide, (List.eq_nil_of_length_eq_zero (by omega)).symm⟩
  | k + 1, u, s, hu, hs => by
    have hl := hs.length_eq
    match s, hs, hl with
    | [], hs, hl =>
      rw [List.length_nil] at hl
      omega
    | v :: t, hs, hl =>
      obtain ⟨d, hd, e⟩ := List.getElem_of_mem (hs.mem_iff.mp List.mem_cons_self)
      have hp := ei_perm u _ hd
      rw [e] at hp
      have ht : t.Perm (u.eraseIdx d) := (List.perm_cons v).mp (hs.trans hp.symm)
      obtain ⟨c, hc, ec⟩ := arrL_onto k (u.eraseIdx d) t (by rw [List.length_eraseIdx_of_lt hd]; omega) ht
      obtain ⟨e1, e2⟩ := arrL_code (d := d) hc
      refine ⟨d * fac k + c, ?_, ?_⟩
      · have : (d + 1) * fac k ≤ (k + 1) * fac k := Nat.mul_le_mul_right _ (by omega)
        rw [Nat.succ_mul] at this
        rw [fac]
        omega
      · rw [arrL, e1, e2, ec, getD_get hd, e]
theorem arrL_below : ∀ k (u s : List Nat) c, u.length = k → u.Pairwise (· ≤ ·) → s.Perm u → c < fac k → llt s (arrL k u c) → ∃ b, b < c ∧ arrL k u b = s
  | 0, u, s, c, _, _, _, _, h => by
    rw [arrL] at h
    cases s <;> exact h.elim
  | k + 1, u, s, c, hu, hw, hs, hc, h => by
    obtain ⟨h1, h2⟩ := code_lt hc
    have hdc : c / fac k < u.length := by omega
    have hl := hs.length_eq
    have hc2 : c = c / fac k * fac k + c % fac k := by rw [Nat.mul_comm]; exact (Nat.div_add_mod c (fac k)).symm
    match s, hs, hl with
    | v :: t, hs, hl =>
      rw [arrL, getD_get hdc] at h
      rcases h with h | ⟨h, ht⟩
      · obtain ⟨d, hd, e⟩ := List.getElem_of_mem (hs.mem_iff.mp List.mem_cons_self)
        have hlt : d < c / fac k := by
          rcases Nat.lt_or_ge d (c / fac k) with q | q
          · exact q
          · by_cases q2 : d = c / fac k
            · subst q2; omega
            · have := List.pairwise_iff_getElem.mp hw (c / fac k) d hdc hd (by omega)
              omega
        have hp := ei_perm u _ hd
        rw [e] at hp
        have htp : t.Perm (u.eraseIdx d) := (List.perm_cons v).mp (hs.trans hp.symm)
        obtain ⟨b, hb, eb⟩ := arrL_onto k (u.eraseIdx d) t (by rw [List.length_eraseIdx_of_lt hd]; omega) htp
        obtain ⟨e1, e2⟩ := arrL_code (d := d) hb
        refine ⟨d * fac k + b, ?_, ?_⟩
        · have : (d + 1) * fac k ≤ c / fac k * fac k := Nat.mul_le_mul_right _ (by omega)
          rw [Nat.succ_mul] at this
          omega
        · rw [arrL, e1, e2, eb, getD_get hd, e]
      · have hp := ei_perm u _ hdc
        rw [← h] at hp
        have htp : t.Perm (u.eraseIdx (c / fac k)) := (List.perm_cons v).mp (hs.trans hp.symm)
        obtain ⟨b, hb, eb⟩ := arrL_below k (u.eraseIdx (c / fac k)) t (c % fac k) (by rw [List.length_eraseIdx_of_lt hdc]; omega) (hw.sublist (List.eraseIdx_sublist _ _)) htp h2 ht
        obtain ⟨e1, e2⟩ := arrL_code (k := k) (d := c / fac k) (c := b) (by omega)
        refine ⟨c / fac k * fac k + b, by omega, ?_⟩
        rw [arrL, e1, e2, eb, getD_get hdc, ← h]
theorem arrL_map (f : Nat → Nat) : ∀ k (u : List Nat) c, u.length = k → c < fac k → (arrL k u c).map f = arrL k (u.map f) c
  | 0, _, _, _, _ => rfl
  | k + 1, u, c, hu, hc => by
    obtain ⟨h1, h2⟩ := code_lt hc
    have hd : c / fac k < u.length := by omega
    rw [arrL, arrL, List.map_cons, arrL_map f k _ _ (by rw [List.length_eraseIdx_of_lt hd]; omega) h2, getD_get hd, getD_get (by rw [List.length_map]; exact hd), List.getElem_map, ei_map]
-- rows as lists
def lsF (f : Nat → Nat) (n : Nat) : List Nat := (List.range n).map f
theorem lsF_len (f : Nat → Nat) (n : Nat) : (lsF f n).length = n := by simp [lsF]
theorem lsF_succ (f : Nat → Nat) (n : Nat) : lsF f (n + 1) = lsF f n ++ [f n] := by
  unfold lsF
  rw [List.range_succ, List.map_append]
  rfl
theorem lsF_count (f : Nat → Nat) (v : Nat) : ∀ n, (lsF f n).count v = cntF f v n
  | 0 => rfl
  | n + 1 => by
    rw [lsF_succ, List.count_append, lsF_count f v n, cntF, List.count_singleton]
    by_cases c : f n = v
    · rw [if_pos c, if_pos (by rw [c]; exact beq_self_eq_true v)]
    · rw [if_neg c, if_neg (fun q => c (eq_of_beq q))]
theorem lsF_perm {f g : Nat → Nat} {n : Nat} : PrmF n f g ↔ (lsF f n).Perm (lsF g n) := by
  rw [List.perm_iff_count]
  exact ⟨fun h v => by rw [lsF_count, lsF_count]; exact h v, fun h v => by rw [← lsF_count, ← lsF_count]; exact h v⟩
theorem lsF_cg {f g : Nat → Nat} {n : Nat} (h : ∀ j, j < n → f j = g j) : lsF f n = lsF g n := List.map_congr_left (fun j hj => h j (List.mem_range.mp hj))
def unL (l : List Nat) : Nat → Nat := fun j => l.getD j 0
theorem unL_ls {l : List Nat} {n : Nat} (h : l.length = n) : lsF (unL l) n = l := by
  apply List.ext_getElem?
  intro j
  unfold lsF unL
  rw [List.getElem?_map]
  by_cases c : j < n
  · rw [List.getElem?_range c, Option.map_some, List.getD_eq_getElem?_getD, List.getElem?_eq_getElem (by omega)]
    rfl
  · rw [List.getElem?_eq_none (by rw [List.length_range]; omega), List.getElem?_eq_none (by omega)]
    rfl
theorem llt_of : ∀ (n : Nat) (f g : Nat → Nat), lexL n f g → llt (lsF f n) (lsF g n)
  | 0, f, g, ⟨q, h, _⟩ => by omega
  | n + 1, f, g, ⟨q, q1, q2, q3⟩ => by
    have e : ∀ f : Nat → Nat, lsF f (n + 1) = f 0 :: lsF (fun j => f (j + 1)) n := fun f => by
      unfold lsF
      rw [List.range_succ_eq_map, List.map_cons, List.map_map]
      rfl
    rw [e, e]
    cases q with
    | zero => exact Or.inl q3
    | succ q => exact Or.inr ⟨q2 0 (by omega), llt_of n _ _ ⟨q, by omega, fun j hj => q2 (j + 1) (by omega), q3⟩⟩
/-- the rows by code, out of the sorted ones -/
def cdF (n : Nat) (so : Nat → Nat) (c : Nat) : Nat → Nat := fun k => so ((arrL n (List.range n) c).getD k 0)
theorem cdF_ls {n c : Nat} (so : Nat → Nat) (hc : c < fac n) : lsF (cdF n so c) n = arrL n (lsF so n) c := by
  have hl : (arrL n (List.range n) c).length = n := arrL_len n _ c
  have e : lsF (cdF n so c) n = (lsF (unL (arrL n (List.range n) c)) n).map so := by
    unfold lsF
    rw [List.map_map]
    rfl
  rw [e, unL_ls hl, arrL_map so n _ c (List.length_range) hc]
  rfl
/-- the best of the codes ahead of c -/
def BestC (n : Nat) (so : Nat → Nat) (D : (Nat → Nat) → Nat) (c day : Nat) (w : Nat → Nat) : Prop :=
  (day ≠ 0 → ∃ x, x < c ∧ day = D (cdF n so x) ∧ (∀ k, k < n → w k = cdF n so x k) ∧ ∀ y, y < x → D (cdF n so y) = 0 ∨ day < D (cdF n so y)) ∧ ∀ y, y < c → D (cdF n so y) = 0 ∨ (day ≠ 0 ∧ day ≤ D (cdF n so y))
theorem BestC.best {n : Nat} {so a0 : Nat → Nat} {D : (Nat → Nat) → Nat} {day : Nat} {w : Nat → Nat} (hD : ∀ a c : Nat → Nat, (∀ j, j < n → a j = c j) → D a = D c) (hso : ∀ x y, x < y → y < n → so x ≤ so y) (hp : PrmF n so a0) (h : BestC n so D (fac n) day w) : Best n a0 D (fun _ => True) day w := by
  obtain ⟨h1, h2⟩ := h
  have hw : (lsF so n).Pairwise (· ≤ ·) := by
    unfold lsF
    rw [List.pairwise_iff_getElem]
    intro i j hi hj hij
    have hj2 : j < n := by
      rw [List.length_map, List.length_range] at hj
      exact hj
    rw [List.getElem_map, List.getElem_map, List.getElem_range, List.getElem_range]
    exact hso i j hij hj2
  have back : ∀ (c : Nat → Nat) y, y < fac n → arrL n (lsF so n) y = lsF c n → ∀ j, j < n → cdF n so y j = c j := by
    intro c y hy e j hj
    rw [← cdF_ls so hy] at e
    have := congrArg (fun l : List Nat => l[j]?) e
    unfold lsF at this
    rw [List.getElem?_map, List.getElem?_map, List.getElem?_range hj] at this
    exact Option.some.inj this
  refine ⟨fun q => ?_, fun c hc _ => ?_⟩
  · obtain ⟨x, x1, x2, x3, x4⟩ := h1 q
    refine ⟨?_, ?_⟩
    · refine PrmF.trans (g := so) (lsF_perm.mpr ?_) hp
      rw [lsF_cg x3, cdF_ls so x1]
      exact arrL_perm n _ x (lsF_len so n) x1
    · rw [x2]
      exact hD _ _ x3
  · have hcp : (lsF c n).Perm (lsF so n) := lsF_perm.mp (hc.trans hp.symm)
    obtain ⟨y, y1, y2⟩ := arrL_onto n (lsF so n) (lsF c n) (lsF_len so n) hcp
    have ey := hD _ _ (back c y y1 y2)
    have hy := h2 y y1
    rw [ey] at hy
    rcases hy with g | ⟨g1, g2⟩
    · exact Or.inl g
    · refine Or.inr ⟨g1, ?_⟩
      rcases Nat.lt_or_ge day (D c) with g3 | g3
      · exact Or.inl g3
      · refine Or.inr ⟨by omega, fun hl => ?_⟩
        obtain ⟨x, x1, x2, x3, x4⟩ := h1 g1
        have hl2 := llt_of n _ _ (lexL_cg (fun _ _ => rfl) x3 hl)
        rw [cdF_ls so x1] at hl2
        obtain ⟨b, b1, b2'⟩ := arrL_below n (lsF so n) (lsF c n) x (lsF_len so n) hw hcp x1 hl2
        have eb := hD _ _ (back c b (by omega) b2')
        have hx := x4 b b1
        rw [eb] at hx
        omega
-- codes read by bits
def whF : Nat → Nat → Nat → Nat → Option Nat
  | 0, _, _, _ => none
  | m + 1, u, s, a => if u / 2 ^ a % 2 = 1 ∨ 0 < s then whF m u (if u / 2 ^ a % 2 = 1 then s else s - 1) (a + 1) else some a
def toF : Nat → Nat → Nat → Nat → Option (List Nat)
  | 0, _, _, _ => some []
  | m + 1, left, used, ways => if ways = 0 then none else match whF 8 used (left / ways) 0 with
    | none => none
    | some a => if 6 ≤ a then none else (toF m (left % ways) (used ||| 2 ^ a) (if m = 0 then 1 else ways / m)).map (fun l => a :: l)
def toOK (n : Nat) : Bool := (List.range (fac n)).all (fun c => decide (toF n c 0 (fac (n - 1)) = some (arrL n (List.range n) c)))
set_option maxRecDepth 100000 in
theorem toOK_0 : toOK 0 = true := by decide +kernel
set_option maxRecDepth 100000 in
theorem toOK_1 : toOK 1 = true := by decide +kernel
set_option maxRecDepth 100000 in
theorem toOK_2 : toOK 2 = true := by decide +kernel
set_option maxRecDepth 100000 in
theorem toOK_3 : toOK 3 = true := by decide +kernel
set_option maxRecDepth 100000 in
theorem toOK_4 : toOK 4 = true := by decide +kernel
set_option maxRecDepth 100000 in
theorem toOK_5 : toOK 5 = true := by decide +kernel
set_option maxRecDepth 100000 in
theorem toOK_6 : toOK 6 = true := by decide +kernel
theorem toF_eq {n c : Nat} (hn : n ≤ 6) (hc : c < fac n) : toF n c 0 (fac (n - 1)) = some (arrL n (List.range n) c) := by
  have h : toOK n = true := by
    have h6 : n = 0 ∨ n = 1 ∨ n = 2 ∨ n = 3 ∨ n = 4 ∨ n = 5 ∨ n = 6 := by omega
    rcases h6 with e | e | e | e | e | e | e
    · rw [e]; exact toOK_0
    · rw [e]; exact toOK_1
    · rw [e]; exact toOK_2
    · rw [e]; exact toOK_3
    · rw [e]; exact toOK_4
    · rw [e]; exact toOK_5
    · rw [e]; exact toOK_6
  unfold toOK at h
  rw [List.all_eq_true] at h
  exact of_decide_eq_true (h c (List.mem_range.mpr hc))
theorem has_bits : ∀ u, u < 64 → ∀ a, a < 8 → (nI u >>> (nI a &&& 31)) &&& nI 1 = nI (u / 2 ^ a % 2) := by decide +kernel
theorem or_bits : ∀ u, u < 64 → ∀ a, a < 6 → (nI u ||| (nI 1 <<< (nI a &&& 31)) = nI (u ||| 2 ^ a) ∧ u ||| 2 ^ a < 64) := by decide +kernel
-- sorted by putting in
def insJ : Nat → (Nat → Nat) → Nat → Nat
  | 0, f => f
  | j + 1, f => if f (j + 1) < f j then insJ j (swF f (j + 1) j) else f
theorem insJ_spec {k : Nat} : ∀ j (f : Nat → Nat), j ≤ k → (∀ x y, x < y → y ≤ k → x ≠ j → y ≠ j → f x ≤ f y) → (∀ y, j < y → y ≤ k → f j ≤ f y) →
    (∀ x y, x < y → y ≤ k → insJ j f x ≤ insJ j f y) ∧ PrmF (k + 1) (insJ j f) f ∧ ∀ y, k < y → insJ j f y = f y
  | 0, f, hj, h1, h2 => ⟨fun x y a b => by
      by_cases c : x = 0
      · subst c; exact h2 y a b
      · exact h1 x y a b c (by omega), PrmF.rfl' _ _, fun _ _ => rfl⟩
  | j + 1, f, hj, h1, h2 => by
    rw [insJ]
    by_cases c : f (j + 1) < f j
    · rw [if_pos c]
      have ea : swF f (j + 1) j (j + 1) = f j := swF_a f (by omega)
      have eb : swF f (j + 1) j j = f (j + 1) := swF_b f _ _
      have en : ∀ x, x ≠ j + 1 → x ≠ j → swF f (j + 1) j x = f x := fun x a b => swF_ne f a b
      obtain ⟨i1, i2, i3⟩ := insJ_spec (k := k) j (swF f (j + 1) j) (by omega) (fun x y a b c1 c2 => by
        by_cases x1 : x = j + 1
        · rw [x1, ea, en y (by omega) c2]
          exact h1 j y (by omega) b (by omega) (by omega)
        · rw [en x x1 c1]
          by_cases y1 : y = j + 1
          · rw [y1, ea]
            exact h1 x j (by omega) (by omega) (by omega) (by omega)
          · rw [en y y1 c2]
            exact h1 x y a b x1 y1) (fun y a b => by
        rw [eb]
        by_cases y1 : y = j + 1
        · rw [y1, ea]; omega
        · rw [en y y1 (by omega)]
          exact h2 y (by omega) b)
      exact ⟨i1, i2.trans (swF_prm f (by omega) (by omega)), fun y hy => (i3 y hy).trans (en y (by omega) (by omega))⟩
    · rw [if_neg c]
      refine ⟨fun x y a b => ?_, PrmF.rfl' _ _, fun _ _ => rfl⟩
      by_cases x1 : x = j + 1
      · rw [x1]; exact h2 y (by omega) b
      · by_cases y1 : y = j + 1
        · rw [y1]
          by_cases x2 : x = j
          · rw [x2]; omega
          · have := h1 x j (by omega) (by omega) x1 (by omega)
            omega
        · exact h1 x y a b x1 y1
def isK (w : Nat → Nat) : Nat → (Nat → Nat) → Nat → Nat
  | 0, f => f
  | k + 1, f => insJ k (fup (isK w k f) k (w k))
theorem isK_spec (w f : Nat → Nat) : ∀ k, (∀ x y, x < y → y < k → isK w k f x ≤ isK w k f y) ∧ PrmF k (isK w k f) w
  | 0 => ⟨fun x y a b => by omega, fun v => rfl⟩
  | k + 1 => by
    obtain ⟨i1, i2⟩ := isK_spec w f k
    obtain ⟨j1, j2, j3⟩ := insJ_spec (k := k) k (fup (isK w k f) k (w k)) (Nat.le_refl _) (fun x y a b c d => by
      rw [fup_ne _ _ c, fup_ne _ _ d]
      exact i1 x y a (by omega)) (fun y a b => by omega)
    refine ⟨fun x y a b => j1 x y a (by omega), j2.trans (fun v => ?_)⟩
    rw [cntF, cntF, fup_self, cntF_out _ _ k (Nat.le_refl _), i2 v]
