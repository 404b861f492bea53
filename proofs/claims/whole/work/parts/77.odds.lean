/-! chances, day by day -/
def AN (n : Nat) (F : Nat → Nat) : AE := AJ n (fun j => jN (F j))
theorem jgE_AN {n j : Nat} (F : Nat → Nat) (h : j < n) (hn : n < 100000) : jgE (AN n F) (nI j) = some (jN (F j)) := jgE_AJ _ h hn
theorem jN_fup (F : Nat → Nat) (k v : Nat) : fup (fun j => jN (F j)) k (jN v) = fun j => jN (fup F k v j) := by
  funext j
  rw [fup_at, fup_at]
  split <;> rfl
theorem jsE_AN {n j : Nat} (F : Nat → Nat) (v : Nat) (h : j < n) (hn : n < 100000) : jsE (AN n F) (nI j) (jN v) = some (AN n (fup F j v)) := by
  unfold AN
  rw [jsE_AJ _ _ h hn, jN_fup]
theorem alE_AN (n : Nat) (F : Nat → Nat) : alE (AN n F) = some (nI n) := alE_AJ _ _
theorem cpE_AN {n : Nat} (F G : Nat → Nat) (hn : n < 100000) : cpE (AN n F) (AN n G) (nI 0) (nI 0) (nI n) = some (AN n F) := cpE_AJ _ _ hn
def odStep (h b x : Nat) (F G : Nat → Nat) (s : Nat) : Nat → Nat := fup (fup G (s - b) (G (s - b) + F s * x)) (min h (s + 1)) (fup G (s - b) (G (s - b) + F s * x) (min h (s + 1)) + F s * (10 - x))
def odRun (h b x : Nat) (F : Nat → Nat) : Nat → (Nat → Nat) → Nat → Nat
  | 0, G => G
  | n + 1, G => odRun h b x F n (odStep h b x F G (h + 1 - (n + 1)))
def odZ (F : Nat → Nat) : Nat → Nat := fup (fun _ => 0) 0 (F 0 * 10)
def odDay (h b x : Nat) (F : Nat → Nat) : Nat → Nat := odRun h b x F h (odZ F)
def odN (h b x : Nat) : Nat → Nat → Nat
  | 0 => fup (fun _ => 0) h 1
  | n + 1 => odDay h b x (odN h b x n)
-- what they come to together
theorem totF_up (G : Nat → Nat) (k v : Nat) : ∀ n, totF (fup G k v) n + (if k < n then G k else 0) = totF G n + (if k < n then v else 0)
  | 0 => by rw [if_neg (by omega), if_neg (by omega)]; rfl
  | n + 1 => by
    have ih := totF_up G k v n
    rw [totF, totF, fup_at]
    by_cases c : n = k
    · subst c
      rw [if_neg (by omega), if_neg (by omega)] at ih
      rw [if_pos rfl, if_pos (by omega), if_pos (by omega)]
      omega
    · rw [if_neg c]
      by_cases c2 : k < n
      · rw [if_pos c2, if_pos c2] at ih
        rw [if_pos (by omega), if_pos (by omega)]
        omega
      · rw [if_neg c2, if_neg c2] at ih
        rw [if_neg (by omega), if_neg (by omega)]
        omega
theorem totF_mono (G : Nat → Nat) {m : Nat} : ∀ n, totF G m ≤ totF G (m + n)
  | 0 => Nat.le_refl _
  | n + 1 => Nat.le_trans (totF_mono G n) (by rw [← Nat.add_assoc, totF]; exact Nat.le_add_right _ _)
theorem totF_zero : ∀ n, totF (fun _ => 0) n = 0
  | 0 => rfl
  | n + 1 => by rw [totF, totF_zero n]
theorem odStep_tot {h b x s : Nat} (F G : Nat → Nat) (hh : h ≤ 40) (hx : x ≤ 10) (hs : s ≤ 40) : totF (odStep h b x F G s) 41 = totF G 41 + 10 * F s := by
  have e1 := totF_up G (s - b) (G (s - b) + F s * x) 41
  have e2 := totF_up (fup G (s - b) (G (s - b) + F s * x)) (min h (s + 1)) (fup G (s - b) (G (s - b) + F s * x) (min h (s + 1)) + F s * (10 - x)) 41
  have hm : min h (s + 1) < 41 := by omega
  rw [if_pos (by omega), if_pos (by omega)] at e1
  rw [if_pos hm, if_pos hm] at e2
  have e3 : F s * x + F s * (10 - x) = 10 * F s := by
    rw [← Nat.mul_add, show x + (10 - x) = 10 by omega, Nat.mul_comm]
  unfold odStep
  omega
theorem odRun_tot {h b x : Nat} (F : Nat → Nat) (hh : h ≤ 40) (hx : x ≤ 10) : ∀ n G, n ≤ h → totF (odRun h b x F n G) 41 + 10 * totF F (h + 1 - n) = totF G 41 + 10 * totF F (h + 1)
  | 0, G, _ => rfl
  | n + 1, G, hn => by
    have ih := odRun_tot (b := b) F hh hx n (odStep h b x F G (h + 1 - (n + 1))) (by omega)
    rw [odStep_tot F G hh hx (by omega)] at ih
    have e : totF F (h + 1 - n) = totF F (h + 1 - (n + 1)) + F (h + 1 - (n + 1)) := by
      rw [show h + 1 - n = (h + 1 - (n + 1)) + 1 by omega, totF]
    rw [e] at ih
    rw [odRun]
    omega
theorem odDay_tot {h b x : Nat} (F : Nat → Nat) (hh : h ≤ 40) (hx : x ≤ 10) : totF (odDay h b x F) 41 ≤ 10 * totF F 41 := by
  have e1 := odRun_tot (b := b) F hh hx h (odZ F) (Nat.le_refl _)
  have e2 := totF_up (fun _ => 0) 0 (F 0 * 10) 41
  rw [if_pos (by decide), if_pos (by decide), totF_zero] at e2
  have e3 : totF F (h + 1 - h) = F 0 := by
    rw [show h + 1 - h = 0 + 1 by omega, totF, totF]
    omega
  have e4 := totF_mono F (m := h + 1) (40 - h)
  rw [show h + 1 + (40 - h) = 41 by omega] at e4
  rw [e3] at e1
  unfold odDay
  unfold odZ at e1 ⊢
  omega
theorem odN_tot {h b x : Nat} (hh : h ≤ 40) (hx : x ≤ 10) : ∀ n, totF (odN h b x n) 41 ≤ 10 ^ n
  | 0 => by
    have e := totF_up (fun _ => 0) h 1 41
    rw [if_pos (by omega), if_pos (by omega), totF_zero] at e
    rw [odN]
    omega
  | n + 1 => by
    have ih := odN_tot (b := b) hh hx n
    have e := odDay_tot (b := b) (odN h b x n) hh hx
    rw [odN, Nat.pow_succ]
    omega
theorem odN_0 {h b x : Nat} (hh : h ≤ 40) (hx : x ≤ 10) (n : Nat) : odN h b x n 0 ≤ 10 ^ n := by
  have e1 := odN_tot (b := b) hh hx n
  have e2 := totF_mono (odN h b x n) (m := 1) 40
  have e3 : totF (odN h b x n) 1 = odN h b x n 0 := by
    rw [totF, totF]
    omega
  rw [e3] at e2
  exact Nat.le_trans e2 e1
theorem ten_le {n : Nat} (hn : n ≤ 9) : 10 ^ n ≤ 1000000000 := Nat.pow_le_pow_right (n := 10) (by decide) hn
-- the greatest that divides both
def gcdB : Nat → Nat → Nat → Nat
  | 0, d, _ => d
  | n + 1, d, r => if r = 0 then d else gcdB n r (d % r)
theorem gcdB_eq : ∀ m n d r, r < 2 ^ m → 2 * m ≤ n → gcdB n d r = Nat.gcd d r := by
  intro m
  induction m with
  | zero =>
    intro n d r hr hn
    have e : r = 0 := by
      have : 2 ^ 0 = 1 := rfl
      omega
    subst e
    rw [Nat.gcd_zero_right]
    cases n with
    | zero => rfl
    | succ n => rw [gcdB, if_pos rfl]
  | succ m ih =>
    intro n d r hr hn
    have hn2 : n = (n - 2) + 1 + 1 := by omega
    rw [hn2, gcdB]
    by_cases c : r = 0
    · subst c; rw [if_pos rfl, Nat.gcd_zero_right]
    · rw [if_neg c, gcdB]
      have g1 : Nat.gcd d r = Nat.gcd r (d % r) := by
        rw [Nat.gcd_comm d r, Nat.gcd_rec r d, Nat.gcd_comm]
      have hlt : d % r < r := Nat.mod_lt _ (by omega)
      by_cases c2 : d % r = 0
      · rw [if_pos c2, g1, c2, Nat.gcd_zero_right]
      · rw [if_neg c2]
        have g2 : Nat.gcd r (d % r) = Nat.gcd (d % r) (r % (d % r)) := by
          rw [Nat.gcd_comm r, Nat.gcd_rec (d % r) r, Nat.gcd_comm]
        have h1 : r % (d % r) < d % r := Nat.mod_lt _ (by omega)
        have h2 : r % (d % r) + (d % r) ≤ r := by
          have e := Nat.mod_add_div r (d % r)
          have hq : 1 ≤ r / (d % r) := (Nat.le_div_iff_mul_le (by omega)).mpr (by omega)
          have := Nat.mul_le_mul_left (d % r) hq
          omega
        rw [g1, g2]
        refine ih (n - 2) _ _ ?_ (by omega)
        rw [Nat.pow_succ] at hr
        omega
def odG (h b x n : Nat) : Nat := Nat.gcd (10 ^ n) (odN h b x n 0)
def ansOdds (h b x n p : Int32) : Int64 := if rgI h 1 40 ∧ rgI b 1 20 ∧ rgI x 0 10 ∧ rgI n 0 9 ∧ rgI p 0 1 then (if p = nI 0 then jN (odN (nt h) (nt b) (nt x) (nt n) 0 / odG (nt h) (nt b) (nt x) (nt n)) else jN (10 ^ nt n / odG (nt h) (nt b) (nt x) (nt n))) else -1
theorem jcmp0 {r : Nat} (h : r < 2 ^ 63) : (lg_cmp (jN r) 0 = nI 0) = (r = 0) := by
  have e := lg_cmp_eq (jN r) 0
  have e2 := jN_inj (a := r) (b := 0) h (by decide)
  exact (propext e).trans e2
theorem jcmp0_lt {r : Nat} (h : r < 2 ^ 63) : (nI 0 < lg_cmp (jN r) 0) = (0 < r) := by
  refine (propext (lg_cmp_gt (jN r) 0)).trans ?_
  rw [Int64.lt_iff_toInt_lt, jN_toInt h]
  have h0 : (0 : Int64).toInt = 0 := by decide
  rw [h0]
  exact propext (by omega)
/-! the class's chances -/
def qset (h : Hp) (a b : Nat) (F G : Nat → Nat) : Hp := fun j => if j = 75 then some (oH (.long (jN a)) (.long (jN b)) (.ref 76) (.ref 77)) else if j = 76 then some (AN 41 F) else if j = 77 then some (AN 41 G) else h j
theorem qset_65 (h : Hp) (a b : Nat) (F G : Nat → Nat) : qset h a b F G 75 = some (oH (.long (jN a)) (.long (jN b)) (.ref 76) (.ref 77)) := rfl
theorem qset_66 (h : Hp) (a b : Nat) (F G : Nat → Nat) : qset h a b F G 76 = some (AN 41 F) := rfl
theorem qset_67 (h : Hp) (a b : Nat) (F G : Nat → Nat) : qset h a b F G 77 = some (AN 41 G) := rfl
theorem qset_ne (h : Hp) (a b : Nat) (F G : Nat → Nat) {j : Nat} (hj : j < 75 ∨ 77 < j) : qset h a b F G j = h j := by
  unfold qset
  rw [if_neg (by omega), if_neg (by omega), if_neg (by omega)]
theorem qset_p65 (h : Hp) (a b a2 b2 : Nat) (F G : Nat → Nat) : hput (qset h a b F G) 75 (oH (.long (jN a2)) (.long (jN b2)) (.ref 76) (.ref 77)) = qset h a2 b2 F G := by
  funext j
  rw [hput_at]
  unfold qset
  by_cases c : j = 75
  · rw [if_pos c, if_pos c]
  · rw [if_neg c, if_neg c, if_neg c]
theorem qset_p66 (h : Hp) (a b : Nat) (F G F2 : Nat → Nat) : hput (qset h a b F G) 76 (AN 41 F2) = qset h a b F2 G := by
  funext j
  rw [hput_at]
  unfold qset
  by_cases c : j = 76
  · rw [if_pos c, if_neg (by omega), if_pos c]
  · rw [if_neg c, if_neg c, if_neg c]
theorem qset_p67 (h : Hp) (a b : Nat) (F G G2 : Nat → Nat) : hput (qset h a b F G) 77 (AN 41 G2) = qset h a b F G2 := by
  funext j
  rw [hput_at]
  unfold qset
  by_cases c : j = 77
  · rw [if_pos c, if_neg (by omega), if_neg (by omega), if_pos c]
  · rw [if_neg c, if_neg c, if_neg c]
theorem fillL_loop {r N : Nat} (hr : r ≠ 0) (hN : N < 100000) (x : Int64) (z : Zc) (Q : Option Value → Zc → Hp → Prop) : ∀ n k, n + k = N → ∀ (h : Hp) (s : Nat → Int64), h r = some (AJ N s) → (∀ j, j < k → s j = x) → Ev 143 (6, [some (.ref r), some (.long x), none, some (.int (nI k)), some (.int (nI N))], [], z, h) Q = Q none z (hput h r (AJ N (fun _ => x))) := by
  intro n
  induction n with
  | zero =>
    intro k hk h s hs hx
    have e : k = N := by omega
    subst e
    rw [m143_6, ← AJ_congr (s := s) (fun j hj => hx j hj), hput_id h hs]
    simp only [m143_0, m143_1, m143_2, m143_3, m143_4, m143_7, m143_9, m143_12, m143_13, m143_14, m143_15, m143_16, m143_19, m143_22, nlt (a := k) (b := k) (by omega) (by omega), Nat.lt_irrefl, if_false]
  | succ n ih =>
    intro k hk h s hs hx
    have hlt : k < N := by omega
    have a1 := jsE_AJ s x hlt hN
    have ihk := ih (k + 1) (by omega) (hput h r (AJ N (fup s k x))) (fup s k x) (hput_self _ _ _) (fun j hj => by
      rw [fup_at]
      split
      · rfl
      · exact hx j (by omega))
    rw [hput_hput] at ihk
    rw [m143_6]
    simp only [m143_0, m143_1, m143_2, m143_3, m143_4, m143_7, m143_9, m143_12, m143_13, m143_14, m143_15, m143_16, m143_19, m143_22, ob_some, pushr_s, pushr_n, iget_eq, gf_eq, pf_eq, ck_eq, alen_eq, rget_eq, iset_eq, Option.bind_some, Option.map_some, Option.elim_some, hput_at, ↓reduceIte, Nat.reduceEqDiff, Nat.reduceAdd, ne_eq, not_false_eq_true, oS_ck, oS_g0, oS_p0, oS_g1, oS_p1, oS_g2, oS_p2, oS_g3, oS_p3, oS_g4, oS_p4, oS_g5, oS_p5, oS_g6, oS_p6, oP_ck, oP_g0, oP_p0, oP_g1, oP_p1, oP_g2, oP_p2, oP_g3, oP_p3, oP_g4, oP_p4, oP_g5, oP_p5, oP_g6, oP_p6, oP_g7, oP_p7, oP_g8, oP_p8, oP_g9, oP_p9, oP_g10, oP_p10, oP_g11, oP_p11, oP_g12, oP_p12, oR_ck, oR_g0, oR_p0, oR_g1, oR_p1, oR_g2, oR_p2, oR_g3, oR_p3, oG_ck, oG_g0, oG_p0, oG_g1, oG_p1, oG_g2, oG_p2, oW_ck, oW_g0, oW_p0, oW_g1, oW_p1, oW_g2, oW_p2, oB_ck, oB_g0, oB_p0, oB_g1, oB_p1, oB_g2, oB_p2, oB_g3, oB_p3, oB_g4, oB_p4, oB_g5, oB_p5, oB_g6, oB_p6, oC_ck, oC_g0, oC_p0, oC_g1, oC_p1, oC_g2, oC_p2, oC_g3, oC_p3, oC_g4, oC_p4, oC_g5, oC_p5, oC_g6, oC_p6, oH_ck, oH_g0, oH_p0, oH_g1, oH_p1, oH_g2, oH_p2, oH_g3, oH_p3, oM_ck, oM_g0, oM_p0, oM_g1, oM_p1, oM_g2, oM_p2, oM_g3, oM_p3, oM_g4, oM_p4, oM_g5, oM_p5, oM_g6, oM_p6, oM_g7, oM_p7, oM_g8, oM_p8, oM_g9, oM_p9, oM_g10, oM_p10, oM_g11, oM_p11, oM_g12, oM_p12, oM_g13, oM_p13, oM_g14, oM_p14, oM_g15, oM_p15, oM_g16, oM_p16, oM_g17, oM_p17, oM_g18, oM_p18, oM_g19, oM_p19, oM_g20, oM_p20, oM_g21, oM_p21, oM_g22, oM_p22, oM_g23, oM_p23, oM_g24, oM_p24, oM_g25, oM_p25, oM_g26, oM_p26, oM_g27, oM_p27, oM_g28, oM_p28, oM_g29, oM_p29, zget_eq, zset_eq, jget_eq, jset_eq, hcpy_eq, hr, hs, nlt (a := k) (b := N) (by omega) (by omega), hlt, if_true, a1, nI_add]
    exact ihk
theorem fillL_eq {h : Hp} {r N : Nat} {s : Nat → Int64} (hr : r ≠ 0) (hN : N < 100000) (hs : h r = some (AJ N s)) (x : Int64) (z : Zc) (Q : Option Value → Zc → Hp → Prop) : Ev 143 (0, [some (.ref r), some (.long x), none, none, none], [], z, h) Q = Q none z (hput h r (AJ N (fun _ => x))) := by
  have hl := fillL_loop hr hN x z Q N 0 (by omega) h s hs (fun j hj => by omega)
  simp only [m143_0, m143_1, m143_2, m143_3, m143_4, m143_7, m143_9, m143_12, m143_13, m143_14, m143_15, m143_16, m143_19, m143_22, ob_some, pushr_s, pushr_n, iget_eq, gf_eq, pf_eq, ck_eq, alen_eq, rget_eq, iset_eq, Option.bind_some, Option.map_some, Option.elim_some, hput_at, ↓reduceIte, Nat.reduceEqDiff, Nat.reduceAdd, ne_eq, not_false_eq_true, oS_ck, oS_g0, oS_p0, oS_g1, oS_p1, oS_g2, oS_p2, oS_g3, oS_p3, oS_g4, oS_p4, oS_g5, oS_p5, oS_g6, oS_p6, oP_ck, oP_g0, oP_p0, oP_g1, oP_p1, oP_g2, oP_p2, oP_g3, oP_p3, oP_g4, oP_p4, oP_g5, oP_p5, oP_g6, oP_p6, oP_g7, oP_p7, oP_g8, oP_p8, oP_g9, oP_p9, oP_g10, oP_p10, oP_g11, oP_p11, oP_g12, oP_p12, oR_ck, oR_g0, oR_p0, oR_g1, oR_p1, oR_g2, oR_p2, oR_g3, oR_p3, oG_ck, oG_g0, oG_p0, oG_g1, oG_p1, oG_g2, oG_p2, oW_ck, oW_g0, oW_p0, oW_g1, oW_p1, oW_g2, oW_p2, oB_ck, oB_g0, oB_p0, oB_g1, oB_p1, oB_g2, oB_p2, oB_g3, oB_p3, oB_g4, oB_p4, oB_g5, oB_p5, oB_g6, oB_p6, oC_ck, oC_g0, oC_p0, oC_g1, oC_p1, oC_g2, oC_p2, oC_g3, oC_p3, oC_g4, oC_p4, oC_g5, oC_p5, oC_g6, oC_p6, oH_ck, oH_g0, oH_p0, oH_g1, oH_p1, oH_g2, oH_p2, oH_g3, oH_p3, oM_ck, oM_g0, oM_p0, oM_g1, oM_p1, oM_g2, oM_p2, oM_g3, oM_p3, oM_g4, oM_p4, oM_g5, oM_p5, oM_g6, oM_p6, oM_g7, oM_p7, oM_g8, oM_p8, oM_g9, oM_p9, oM_g10, oM_p10, oM_g11, oM_p11, oM_g12, oM_p12, oM_g13, oM_p13, oM_g14, oM_p14, oM_g15, oM_p15, oM_g16, oM_p16, oM_g17, oM_p17, oM_g18, oM_p18, oM_g19, oM_p19, oM_g20, oM_p20, oM_g21, oM_p21, oM_g22, oM_p22, oM_g23, oM_p23, oM_g24, oM_p24, oM_g25, oM_p25, oM_g26, oM_p26, oM_g27, oM_p27, oM_g28, oM_p28, oM_g29, oM_p29, hs, alE_AJ]
  exact hl
theorem qfill_66 (h : Hp) (a b : Nat) (F G : Nat → Nat) (z : Zc) (Q : Option Value → Zc → Hp → Prop) : Ev 143 (0, [some (.ref 76), some (.long 0), none, none, none], [], z, qset h a b F G) Q = Q none z (qset h a b (fun _ => 0) G) := by
  rw [fillL_eq (N := 41) (by decide) (by decide) (qset_66 h a b F G) 0 z Q, ← qset_p66 h a b F G (fun _ => 0)]
  rfl
theorem qfill_67 (h : Hp) (a b : Nat) (F G : Nat → Nat) (z : Zc) (Q : Option Value → Zc → Hp → Prop) : Ev 143 (0, [some (.ref 77), some (.long 0), none, none, none], [], z, qset h a b F G) Q = Q none z (qset h a b F (fun _ => 0)) := by
  rw [fillL_eq (N := 41) (by decide) (by decide) (qset_67 h a b F G) 0 z Q, ← qset_p67 h a b F G (fun _ => 0)]
  rfl
theorem min_nI {a b : Nat} (ha : a < 100000) (hb : b < 100000) : (if nI b < nI a then nI b else nI a) = nI (min a b) := by
  have e := nlt (a := b) (b := a) (by omega) (by omega)
  by_cases c : b < a
  · rw [if_pos (by rw [e]; exact c), show min a b = b by omega]
  · rw [if_neg (by rw [e]; exact c), show min a b = a by omega]
theorem jN_ten_sub {x : Nat} (hx : x ≤ 10) : (nI 10 - nI x).toInt64 = jN (10 - x) := by
  rw [pk_sub (a := 10) (b := x) hx, jN_i2l (by omega)]
theorem passDay_loop {h : Hp} {hh b x a bl : Nat} {F : Nat → Nat} (h40 : hh ≤ 40) (h20 : b ≤ 20) (h10 : x ≤ 10) (z : Zc) (Q : Option Value → Zc → Hp → Prop) : ∀ n s, n + s = hh + 1 → ∀ G, Ev 97 (27, [some (.ref 75), some (.int (nI hh)), some (.int (nI b)), some (.int (nI x)), some (.int (nI s))], [], z, qset h a bl F G) Q = Q none z (qset h a bl (odRun hh b x F n G) (odRun hh b x F n G)) := by
  intro n
  induction n with
  | zero =>
    intro s hs G
    have e : s = hh + 1 := by omega
    subst e
    have c1 := cpE_AN (n := 41) G F (by decide)
    rw [m97_27, odRun]
    simp only [m97_0, m97_1, m97_4, m97_5, m97_8, m97_9, m97_12, m97_13, m97_14, m97_17, m97_18, m97_19, m97_22, m97_23, m97_24, m97_25, m97_29, m97_30, m97_33, m97_35, m97_37, m97_40, m97_41, m97_44, m97_45, m97_47, m97_48, m97_49, m97_52, m97_53, m97_54, m97_55, m97_58, m97_60, m97_61, m97_62, m97_63, m97_64, m97_65, m97_66, m97_67, m97_70, m97_71, m97_73, m97_74, m97_75, m97_78, m97_79, m97_80, m97_81, m97_84, m97_86, m97_87, m97_89, m97_90, m97_91, m97_92, m97_93, m97_94, m97_95, m97_98, m97_101, m97_102, m97_105, m97_106, m97_107, m97_110, m97_111, m97_112, m97_115, m97_116, m97_119, ob_some, pushr_s, pushr_n, iget_eq, gf_eq, pf_eq, ck_eq, alen_eq, rget_eq, iset_eq, Option.bind_some, Option.map_some, Option.elim_some, hput_at, ↓reduceIte, Nat.reduceEqDiff, Nat.reduceAdd, ne_eq, not_false_eq_true, oS_ck, oS_g0, oS_p0, oS_g1, oS_p1, oS_g2, oS_p2, oS_g3, oS_p3, oS_g4, oS_p4, oS_g5, oS_p5, oS_g6, oS_p6, oP_ck, oP_g0, oP_p0, oP_g1, oP_p1, oP_g2, oP_p2, oP_g3, oP_p3, oP_g4, oP_p4, oP_g5, oP_p5, oP_g6, oP_p6, oP_g7, oP_p7, oP_g8, oP_p8, oP_g9, oP_p9, oP_g10, oP_p10, oP_g11, oP_p11, oP_g12, oP_p12, oR_ck, oR_g0, oR_p0, oR_g1, oR_p1, oR_g2, oR_p2, oR_g3, oR_p3, oG_ck, oG_g0, oG_p0, oG_g1, oG_p1, oG_g2, oG_p2, oW_ck, oW_g0, oW_p0, oW_g1, oW_p1, oW_g2, oW_p2, oB_ck, oB_g0, oB_p0, oB_g1, oB_p1, oB_g2, oB_p2, oB_g3, oB_p3, oB_g4, oB_p4, oB_g5, oB_p5, oB_g6, oB_p6, oC_ck, oC_g0, oC_p0, oC_g1, oC_p1, oC_g2, oC_p2, oC_g3, oC_p3, oC_g4, oC_p4, oC_g5, oC_p5, oC_g6, oC_p6, oH_ck, oH_g0, oH_p0, oH_g1, oH_p1, oH_g2, oH_p2, oH_g3, oH_p3, oM_ck, oM_g0, oM_p0, oM_g1, oM_p1, oM_g2, oM_p2, oM_g3, oM_p3, oM_g4, oM_p4, oM_g5, oM_p5, oM_g6, oM_p6, oM_g7, oM_p7, oM_g8, oM_p8, oM_g9, oM_p9, oM_g10, oM_p10, oM_g11, oM_p11, oM_g12, oM_p12, oM_g13, oM_p13, oM_g14, oM_p14, oM_g15, oM_p15, oM_g16, oM_p16, oM_g17, oM_p17, oM_g18, oM_p18, oM_g19, oM_p19, oM_g20, oM_p20, oM_g21, oM_p21, oM_g22, oM_p22, oM_g23, oM_p23, oM_g24, oM_p24, oM_g25, oM_p25, oM_g26, oM_p26, oM_g27, oM_p27, oM_g28, oM_p28, oM_g29, oM_p29, zget_eq, zset_eq, jget_eq, jset_eq, hcpy_eq, qset_65, qset_66, qset_67, qset_p65, qset_p66, qset_p67, nlt (a := hh) (b := hh + 1) (by omega) (by omega), Nat.lt_succ_self, if_true, alE_AN, c1]
  | succ n ih =>
    intro s hs G
    have hlt : ¬ hh < s := by omega
    have h41 : ¬ 40 < s := by omega
    have e1 : hh + 1 - (n + 1) = s := by omega
    have m1 := sheep_sub (a := s) (b := b) (by omega) (by omega)
    have m2 := min_nI (a := hh) (b := s + 1) (by omega) (by omega)
    have g1 := fun F => jgE_AN (n := 41) (j := s - b) F (by omega) (by decide)
    have g2 := jgE_AN (n := 41) (j := s) F (by omega) (by decide)
    have g3 := fun F => jgE_AN (n := 41) (j := min hh (s + 1)) F (by omega) (by decide)
    have p1 := fun F v => jsE_AN (n := 41) (j := s - b) F v (by omega) (by decide)
    have p2 := fun F v => jsE_AN (n := 41) (j := min hh (s + 1)) F v (by omega) (by decide)
    have ex := jN_i2l (n := x) (by omega)
    have et := jN_ten_sub h10
    have ihk := ih (s + 1) (by omega) (odStep hh b x F G s)
    rw [m97_27, odRun, e1]
    refine Eq.trans ?_ ihk
    unfold odStep
    simp only [m97_0, m97_1, m97_4, m97_5, m97_8, m97_9, m97_12, m97_13, m97_14, m97_17, m97_18, m97_19, m97_22, m97_23, m97_24, m97_25, m97_29, m97_30, m97_33, m97_35, m97_37, m97_40, m97_41, m97_44, m97_45, m97_47, m97_48, m97_49, m97_52, m97_53, m97_54, m97_55, m97_58, m97_60, m97_61, m97_62, m97_63, m97_64, m97_65, m97_66, m97_67, m97_70, m97_71, m97_73, m97_74, m97_75, m97_78, m97_79, m97_80, m97_81, m97_84, m97_86, m97_87, m97_89, m97_90, m97_91, m97_92, m97_93, m97_94, m97_95, m97_98, m97_101, m97_102, m97_105, m97_106, m97_107, m97_110, m97_111, m97_112, m97_115, m97_116, m97_119, ob_some, pushr_s, pushr_n, iget_eq, gf_eq, pf_eq, ck_eq, alen_eq, rget_eq, iset_eq, Option.bind_some, Option.map_some, Option.elim_some, hput_at, ↓reduceIte, Nat.reduceEqDiff, Nat.reduceAdd, ne_eq, not_false_eq_true, oS_ck, oS_g0, oS_p0, oS_g1, oS_p1, oS_g2, oS_p2, oS_g3, oS_p3, oS_g4, oS_p4, oS_g5, oS_p5, oS_g6, oS_p6, oP_ck, oP_g0, oP_p0, oP_g1, oP_p1, oP_g2, oP_p2, oP_g3, oP_p3, oP_g4, oP_p4, oP_g5, oP_p5, oP_g6, oP_p6, oP_g7, oP_p7, oP_g8, oP_p8, oP_g9, oP_p9, oP_g10, oP_p10, oP_g11, oP_p11, oP_g12, oP_p12, oR_ck, oR_g0, oR_p0, oR_g1, oR_p1, oR_g2, oR_p2, oR_g3, oR_p3, oG_ck, oG_g0, oG_p0, oG_g1, oG_p1, oG_g2, oG_p2, oW_ck, oW_g0, oW_p0, oW_g1, oW_p1, oW_g2, oW_p2, oB_ck, oB_g0, oB_p0, oB_g1, oB_p1, oB_g2, oB_p2, oB_g3, oB_p3, oB_g4, oB_p4, oB_g5, oB_p5, oB_g6, oB_p6, oC_ck, oC_g0, oC_p0, oC_g1, oC_p1, oC_g2, oC_p2, oC_g3, oC_p3, oC_g4, oC_p4, oC_g5, oC_p5, oC_g6, oC_p6, oH_ck, oH_g0, oH_p0, oH_g1, oH_p1, oH_g2, oH_p2, oH_g3, oH_p3, oM_ck, oM_g0, oM_p0, oM_g1, oM_p1, oM_g2, oM_p2, oM_g3, oM_p3, oM_g4, oM_p4, oM_g5, oM_p5, oM_g6, oM_p6, oM_g7, oM_p7, oM_g8, oM_p8, oM_g9, oM_p9, oM_g10, oM_p10, oM_g11, oM_p11, oM_g12, oM_p12, oM_g13, oM_p13, oM_g14, oM_p14, oM_g15, oM_p15, oM_g16, oM_p16, oM_g17, oM_p17, oM_g18, oM_p18, oM_g19, oM_p19, oM_g20, oM_p20, oM_g21, oM_p21, oM_g22, oM_p22, oM_g23, oM_p23, oM_g24, oM_p24, oM_g25, oM_p25, oM_g26, oM_p26, oM_g27, oM_p27, oM_g28, oM_p28, oM_g29, oM_p29, zget_eq, zset_eq, jget_eq, jset_eq, hcpy_eq, qset_65, qset_66, qset_67, qset_p65, qset_p66, qset_p67, nlt (a := hh) (b := s) (by omega) (by omega), nlt (a := 40) (b := s) (by omega) (by omega), hlt, h41, if_false, m1, nI_add, m2, g1, g2, g3, ex, et, jN_mul, jN_add, p1, p2]
theorem passDay_eq {h : Hp} {hh b x a bl : Nat} {F G : Nat → Nat} (h40 : hh ≤ 40) (h20 : b ≤ 20) (h10 : x ≤ 10) (z : Zc) (Q : Option Value → Zc → Hp → Prop) : Ev 97 (0, [some (.ref 75), some (.int (nI hh)), some (.int (nI b)), some (.int (nI x)), none], [], z, qset h a bl F G) Q = Q none z (qset h a bl (odDay hh b x F) (odDay hh b x F)) := by
  have hl := passDay_loop (h := h) (a := a) (bl := bl) (F := F) h40 h20 h10 z Q hh 1 (by omega) (odZ F)
  have g0 := jgE_AN (n := 41) (j := 0) F (by decide) (by decide)
  have p0 := jsE_AN (n := 41) (j := 0) (fun _ => 0) (F 0 * 10) (by decide) (by decide)
  unfold odDay
  refine Eq.trans ?_ hl
  simp only [m97_0, m97_1, m97_4, m97_5, m97_8, m97_9, m97_12, m97_13, m97_14, m97_17, m97_18, m97_19, m97_22, m97_23, m97_24, m97_25, m97_29, m97_30, m97_33, m97_35, m97_37, m97_40, m97_41, m97_44, m97_45, m97_47, m97_48, m97_49, m97_52, m97_53, m97_54, m97_55, m97_58, m97_60, m97_61, m97_62, m97_63, m97_64, m97_65, m97_66, m97_67, m97_70, m97_71, m97_73, m97_74, m97_75, m97_78, m97_79, m97_80, m97_81, m97_84, m97_86, m97_87, m97_89, m97_90, m97_91, m97_92, m97_93, m97_94, m97_95, m97_98, m97_101, m97_102, m97_105, m97_106, m97_107, m97_110, m97_111, m97_112, m97_115, m97_116, m97_119, ob_some, pushr_s, pushr_n, iget_eq, gf_eq, pf_eq, ck_eq, alen_eq, rget_eq, iset_eq, Option.bind_some, Option.map_some, Option.elim_some, hput_at, ↓reduceIte, Nat.reduceEqDiff, Nat.reduceAdd, ne_eq, not_false_eq_true, oS_ck, oS_g0, oS_p0, oS_g1, oS_p1, oS_g2, oS_p2, oS_g3, oS_p3, oS_g4, oS_p4, oS_g5, oS_p5, oS_g6, oS_p6, oP_ck, oP_g0, oP_p0, oP_g1, oP_p1, oP_g2, oP_p2, oP_g3, oP_p3, oP_g4, oP_p4, oP_g5, oP_p5, oP_g6, oP_p6, oP_g7, oP_p7, oP_g8, oP_p8, oP_g9, oP_p9, oP_g10, oP_p10, oP_g11, oP_p11, oP_g12, oP_p12, oR_ck, oR_g0, oR_p0, oR_g1, oR_p1, oR_g2, oR_p2, oR_g3, oR_p3, oG_ck, oG_g0, oG_p0, oG_g1, oG_p1, oG_g2, oG_p2, oW_ck, oW_g0, oW_p0, oW_g1, oW_p1, oW_g2, oW_p2, oB_ck, oB_g0, oB_p0, oB_g1, oB_p1, oB_g2, oB_p2, oB_g3, oB_p3, oB_g4, oB_p4, oB_g5, oB_p5, oB_g6, oB_p6, oC_ck, oC_g0, oC_p0, oC_g1, oC_p1, oC_g2, oC_p2, oC_g3, oC_p3, oC_g4, oC_p4, oC_g5, oC_p5, oC_g6, oC_p6, oH_ck, oH_g0, oH_p0, oH_g1, oH_p1, oH_g2, oH_p2, oH_g3, oH_p3, oM_ck, oM_g0, oM_p0, oM_g1, oM_p1, oM_g2, oM_p2, oM_g3, oM_p3, oM_g4, oM_p4, oM_g5, oM_p5, oM_g6, oM_p6, oM_g7, oM_p7, oM_g8, oM_p8, oM_g9, oM_p9, oM_g10, oM_p10, oM_g11, oM_p11, oM_g12, oM_p12, oM_g13, oM_p13, oM_g14, oM_p14, oM_g15, oM_p15, oM_g16, oM_p16, oM_g17, oM_p17, oM_g18, oM_p18, oM_g19, oM_p19, oM_g20, oM_p20, oM_g21, oM_p21, oM_g22, oM_p22, oM_g23, oM_p23, oM_g24, oM_p24, oM_g25, oM_p25, oM_g26, oM_p26, oM_g27, oM_p27, oM_g28, oM_p28, oM_g29, oM_p29, zget_eq, zset_eq, jget_eq, jset_eq, hcpy_eq, qset_65, qset_66, qset_67, qset_p65, qset_p66, qset_p67, qfill_67, g0, J10, jN_mul, p0]
  rfl
theorem lower_loop {h : Hp} (z : Zc) (Q : Option Value → Zc → Hp → Prop) (T : Prop) : ∀ n k d r l6 l7, n + k = 100 → d < 2 ^ 63 → r < 2 ^ 63 →
    (∀ x l6 l7, Ev 98 (42, [some (.ref 75), some (.long (jN (gcdB n d r))), none, x, none, some (.int (nI k)), l6, l7], [], z, h) Q = T) →
    (∀ m x l6 l7, Ev 98 (42, [some (.ref 75), some (.long (jN (gcdB n d r))), none, x, none, some (.int (nI m)), l6, l7], [], z, h) Q = T) →
    Ev 98 (13, [some (.ref 75), some (.long (jN d)), none, some (.long (jN r)), none, some (.int (nI k)), l6, l7], [], z, h) Q = T := by
  intro n
  induction n with
  | zero =>
    intro k d r l6 l7 hk hd hr h1 h2
    have e : k = 100 := by omega
    subst e
    rw [m98_13, ← h2 100 (some (.long (jN r))) l6 l7, gcdB]
    simp only [m98_15, m98_17, nlt (a := 100) (b := 100) (by decide) (by decide), Nat.lt_irrefl, if_false]
  | succ n ih =>
    intro k d r l6 l7 hk hd hr h1 h2
    have hlt : k < 100 := by omega
    have l0 := jcmp0 hr
    rw [m98_13]
    by_cases c : r = 0
    · have l0t : (lg_cmp (jN r) 0 = nI 0) = True := l0.trans (eq_true c)
      rw [← h2 k (some (.long (jN r))) l6 l7, gcdB, if_pos c]
      simp only [m98_15, m98_17, m98_20, m98_21, m98_22, m98_23, nlt (a := k) (b := 100) (by omega) (by decide), hlt, if_true, l0t]
    · have e : gcdB (n + 1) d r = gcdB n r (d % r) := by rw [gcdB, if_neg c]
      rw [e] at h1 h2
      have hm : d % r < r := Nat.mod_lt _ (by omega)
      have hy : ¬ jN r = 0 := by
        rw [J0, jN_inj hr (by decide)]
        exact c
      have er := jN_rem hd hr (by omega)
      have ihk := ih (k + 1) r (d % r) (some (.long (jN (d % r)))) none (by omega) hr (by omega) (fun x l6 l7 => h2 _ x l6 l7) (fun m x l6 l7 => h2 m x l6 l7)
      simp only [m98_15, m98_17, m98_20, m98_21, m98_22, m98_23, m98_26, m98_27, m98_28, m98_29, m98_31, m98_32, m98_33, m98_35, m98_36, m98_39, nlt (a := k) (b := 100) (by omega) (by decide), hlt, if_true, l0, c, if_false, hy, not_false_eq_true, er, nI_add]
      exact ihk
theorem lower_eq {h : Hp} {a b : Nat} {F G : Nat → Nat} (ha : a ≤ b) (hb : b ≤ 1000000000) (hb0 : 0 < b) (z : Zc) (Q : Option Value → Zc → Hp → Prop) : Ev 98 (0, [some (.ref 75), none, none, none, none, none, none, none], [], z, qset h a b F G) Q = Q none z (qset h (a / Nat.gcd b a) (b / Nat.gcd b a) F G) := by
  have eg := gcdB_eq 30 100 b a (by omega) (by decide)
  have hg : 0 < Nat.gcd b a := Nat.gcd_pos_of_pos_left _ hb0
  have hgl : Nat.gcd b a ≤ b := Nat.gcd_le_left _ hb0
  have l0 := jcmp0_lt (r := Nat.gcd b a) (by omega)
  have d1 := jN_div (a := a) (b := Nat.gcd b a) (by omega) (by omega) hg
  have d2 := jN_div (a := b) (b := Nat.gcd b a) (by omega) (by omega) hg
  have hy : ¬ jN (Nat.gcd b a) = 0 := by
    rw [J0, jN_inj (by omega) (by decide)]
    omega
  have fin : ∀ m x l6 l7, Ev 98 (42, [some (.ref 75), some (.long (jN (gcdB 100 b a))), none, x, none, some (.int (nI m)), l6, l7], [], z, qset h a b F G) Q = Q none z (qset h (a / Nat.gcd b a) (b / Nat.gcd b a) F G) := by
    intro m x l6 l7
    rw [eg]
    simp only [m98_0, m98_1, m98_4, m98_5, m98_6, m98_9, m98_10, m98_11, m98_15, m98_17, m98_20, m98_21, m98_22, m98_23, m98_26, m98_27, m98_28, m98_29, m98_31, m98_32, m98_33, m98_35, m98_36, m98_39, m98_42, m98_43, m98_44, m98_45, m98_48, m98_49, m98_50, m98_53, m98_54, m98_55, m98_58, m98_59, m98_60, m98_63, m98_64, m98_65, m98_68, ob_some, pushr_s, pushr_n, iget_eq, gf_eq, pf_eq, ck_eq, alen_eq, rget_eq, iset_eq, Option.bind_some, Option.map_some, Option.elim_some, hput_at, ↓reduceIte, Nat.reduceEqDiff, Nat.reduceAdd, ne_eq, not_false_eq_true, oS_ck, oS_g0, oS_p0, oS_g1, oS_p1, oS_g2, oS_p2, oS_g3, oS_p3, oS_g4, oS_p4, oS_g5, oS_p5, oS_g6, oS_p6, oP_ck, oP_g0, oP_p0, oP_g1, oP_p1, oP_g2, oP_p2, oP_g3, oP_p3, oP_g4, oP_p4, oP_g5, oP_p5, oP_g6, oP_p6, oP_g7, oP_p7, oP_g8, oP_p8, oP_g9, oP_p9, oP_g10, oP_p10, oP_g11, oP_p11, oP_g12, oP_p12, oR_ck, oR_g0, oR_p0, oR_g1, oR_p1, oR_g2, oR_p2, oR_g3, oR_p3, oG_ck, oG_g0, oG_p0, oG_g1, oG_p1, oG_g2, oG_p2, oW_ck, oW_g0, oW_p0, oW_g1, oW_p1, oW_g2, oW_p2, oB_ck, oB_g0, oB_p0, oB_g1, oB_p1, oB_g2, oB_p2, oB_g3, oB_p3, oB_g4, oB_p4, oB_g5, oB_p5, oB_g6, oB_p6, oC_ck, oC_g0, oC_p0, oC_g1, oC_p1, oC_g2, oC_p2, oC_g3, oC_p3, oC_g4, oC_p4, oC_g5, oC_p5, oC_g6, oC_p6, oH_ck, oH_g0, oH_p0, oH_g1, oH_p1, oH_g2, oH_p2, oH_g3, oH_p3, oM_ck, oM_g0, oM_p0, oM_g1, oM_p1, oM_g2, oM_p2, oM_g3, oM_p3, oM_g4, oM_p4, oM_g5, oM_p5, oM_g6, oM_p6, oM_g7, oM_p7, oM_g8, oM_p8, oM_g9, oM_p9, oM_g10, oM_p10, oM_g11, oM_p11, oM_g12, oM_p12, oM_g13, oM_p13, oM_g14, oM_p14, oM_g15, oM_p15, oM_g16, oM_p16, oM_g17, oM_p17, oM_g18, oM_p18, oM_g19, oM_p19, oM_g20, oM_p20, oM_g21, oM_p21, oM_g22, oM_p22, oM_g23, oM_p23, oM_g24, oM_p24, oM_g25, oM_p25, oM_g26, oM_p26, oM_g27, oM_p27, oM_g28, oM_p28, oM_g29, oM_p29, qset_65, qset_66, qset_67, qset_p65, qset_p66, qset_p67, l0, hg, if_true, hy, not_false_eq_true, d1, d2]
  have hl := lower_loop (h := qset h a b F G) z Q (Q none z (qset h (a / Nat.gcd b a) (b / Nat.gcd b a) F G)) 100 0 b a none none rfl (by omega) (by omega) (fun x l6 l7 => fin 0 x l6 l7) fin
  simp only [m98_0, m98_1, m98_4, m98_5, m98_6, m98_9, m98_10, m98_11, m98_15, m98_17, m98_20, m98_21, m98_22, m98_23, m98_26, m98_27, m98_28, m98_29, m98_31, m98_32, m98_33, m98_35, m98_36, m98_39, m98_42, m98_43, m98_44, m98_45, m98_48, m98_49, m98_50, m98_53, m98_54, m98_55, m98_58, m98_59, m98_60, m98_63, m98_64, m98_65, m98_68, ob_some, pushr_s, pushr_n, iget_eq, gf_eq, pf_eq, ck_eq, alen_eq, rget_eq, iset_eq, Option.bind_some, Option.map_some, Option.elim_some, hput_at, ↓reduceIte, Nat.reduceEqDiff, Nat.reduceAdd, ne_eq, not_false_eq_true, oS_ck, oS_g0, oS_p0, oS_g1, oS_p1, oS_g2, oS_p2, oS_g3, oS_p3, oS_g4, oS_p4, oS_g5, oS_p5, oS_g6, oS_p6, oP_ck, oP_g0, oP_p0, oP_g1, oP_p1, oP_g2, oP_p2, oP_g3, oP_p3, oP_g4, oP_p4, oP_g5, oP_p5, oP_g6, oP_p6, oP_g7, oP_p7, oP_g8, oP_p8, oP_g9, oP_p9, oP_g10, oP_p10, oP_g11, oP_p11, oP_g12, oP_p12, oR_ck, oR_g0, oR_p0, oR_g1, oR_p1, oR_g2, oR_p2, oR_g3, oR_p3, oG_ck, oG_g0, oG_p0, oG_g1, oG_p1, oG_g2, oG_p2, oW_ck, oW_g0, oW_p0, oW_g1, oW_p1, oW_g2, oW_p2, oB_ck, oB_g0, oB_p0, oB_g1, oB_p1, oB_g2, oB_p2, oB_g3, oB_p3, oB_g4, oB_p4, oB_g5, oB_p5, oB_g6, oB_p6, oC_ck, oC_g0, oC_p0, oC_g1, oC_p1, oC_g2, oC_p2, oC_g3, oC_p3, oC_g4, oC_p4, oC_g5, oC_p5, oC_g6, oC_p6, oH_ck, oH_g0, oH_p0, oH_g1, oH_p1, oH_g2, oH_p2, oH_g3, oH_p3, oM_ck, oM_g0, oM_p0, oM_g1, oM_p1, oM_g2, oM_p2, oM_g3, oM_p3, oM_g4, oM_p4, oM_g5, oM_p5, oM_g6, oM_p6, oM_g7, oM_p7, oM_g8, oM_p8, oM_g9, oM_p9, oM_g10, oM_p10, oM_g11, oM_p11, oM_g12, oM_p12, oM_g13, oM_p13, oM_g14, oM_p14, oM_g15, oM_p15, oM_g16, oM_p16, oM_g17, oM_p17, oM_g18, oM_p18, oM_g19, oM_p19, oM_g20, oM_p20, oM_g21, oM_p21, oM_g22, oM_p22, oM_g23, oM_p23, oM_g24, oM_p24, oM_g25, oM_p25, oM_g26, oM_p26, oM_g27, oM_p27, oM_g28, oM_p28, oM_g29, oM_p29, qset_65, qset_66, qset_67, qset_p65, qset_p66, qset_p67]
  exact hl
theorem reckon_loop {h : Hp} {hh b x a N : Nat} (h40 : hh ≤ 40) (h20 : b ≤ 20) (h10 : x ≤ 10) (hN : N ≤ 9) (z : Zc) : ∀ n k, n + k = N → ∀ G, ∃ G2, ∀ Q, Ev 96 (33, [some (.ref 75), some (.int (nI hh)), some (.int (nI b)), some (.int (nI x)), some (.int (nI N)), some (.int (nI k))], [], z, qset h a (10 ^ k) (odN hh b x k) G) Q = Ev 96 (65, [some (.ref 75), some (.int (nI hh)), some (.int (nI b)), some (.int (nI x)), some (.int (nI N)), some (.int (nI N))], [], z, qset h a (10 ^ N) (odN hh b x N) G2) Q := by
  intro n
  induction n with
  | zero =>
    intro k hk G
    have e : k = N := by omega
    subst e
    refine ⟨G, fun Q => ?_⟩
    rw [m96_33]
    simp only [m96_35, m96_37, nlt (a := k) (b := k) (by omega) (by omega), Nat.lt_irrefl, if_false]
  | succ n ih =>
    intro k hk G
    have hlt : k < N := by omega
    obtain ⟨G2, hG⟩ := ih (k + 1) (by omega) (odN hh b x (k + 1))
    have hp := fun G Q => passDay_eq (h := h) (a := a) (bl := 10 ^ k) (F := odN hh b x k) (G := G) h40 h20 h10 z Q
    refine ⟨G2, fun Q => ?_⟩
    rw [← hG Q, m96_33]
    simp only [m96_35, m96_37, m96_40, m96_41, m96_42, m96_43, m96_44, m96_47, m96_48, m96_49, m96_52, m96_55, m96_56, m96_59, m96_62, ob_some, pushr_s, pushr_n, iget_eq, gf_eq, pf_eq, ck_eq, alen_eq, rget_eq, iset_eq, Option.bind_some, Option.map_some, Option.elim_some, hput_at, ↓reduceIte, Nat.reduceEqDiff, Nat.reduceAdd, ne_eq, not_false_eq_true, oS_ck, oS_g0, oS_p0, oS_g1, oS_p1, oS_g2, oS_p2, oS_g3, oS_p3, oS_g4, oS_p4, oS_g5, oS_p5, oS_g6, oS_p6, oP_ck, oP_g0, oP_p0, oP_g1, oP_p1, oP_g2, oP_p2, oP_g3, oP_p3, oP_g4, oP_p4, oP_g5, oP_p5, oP_g6, oP_p6, oP_g7, oP_p7, oP_g8, oP_p8, oP_g9, oP_p9, oP_g10, oP_p10, oP_g11, oP_p11, oP_g12, oP_p12, oR_ck, oR_g0, oR_p0, oR_g1, oR_p1, oR_g2, oR_p2, oR_g3, oR_p3, oG_ck, oG_g0, oG_p0, oG_g1, oG_p1, oG_g2, oG_p2, oW_ck, oW_g0, oW_p0, oW_g1, oW_p1, oW_g2, oW_p2, oB_ck, oB_g0, oB_p0, oB_g1, oB_p1, oB_g2, oB_p2, oB_g3, oB_p3, oB_g4, oB_p4, oB_g5, oB_p5, oB_g6, oB_p6, oC_ck, oC_g0, oC_p0, oC_g1, oC_p1, oC_g2, oC_p2, oC_g3, oC_p3, oC_g4, oC_p4, oC_g5, oC_p5, oC_g6, oC_p6, oH_ck, oH_g0, oH_p0, oH_g1, oH_p1, oH_g2, oH_p2, oH_g3, oH_p3, oM_ck, oM_g0, oM_p0, oM_g1, oM_p1, oM_g2, oM_p2, oM_g3, oM_p3, oM_g4, oM_p4, oM_g5, oM_p5, oM_g6, oM_p6, oM_g7, oM_p7, oM_g8, oM_p8, oM_g9, oM_p9, oM_g10, oM_p10, oM_g11, oM_p11, oM_g12, oM_p12, oM_g13, oM_p13, oM_g14, oM_p14, oM_g15, oM_p15, oM_g16, oM_p16, oM_g17, oM_p17, oM_g18, oM_p18, oM_g19, oM_p19, oM_g20, oM_p20, oM_g21, oM_p21, oM_g22, oM_p22, oM_g23, oM_p23, oM_g24, oM_p24, oM_g25, oM_p25, oM_g26, oM_p26, oM_g27, oM_p27, oM_g28, oM_p28, oM_g29, oM_p29, qset_65, qset_66, qset_67, qset_p65, qset_p66, qset_p67, nlt (a := k) (b := N) (by omega) (by omega), hlt, if_true, hp, J10, jN_mul, nI_add]
    rfl
theorem reckon_eq {h : Hp} {hh b x a bl N : Nat} {F G : Nat → Nat} (h1 : 1 ≤ hh) (h40 : hh ≤ 40) (h20 : b ≤ 20) (h10 : x ≤ 10) (hN : N ≤ 9) (z : Zc) : ∃ G2, ∀ Q, Ev 96 (0, [some (.ref 75), some (.int (nI hh)), some (.int (nI b)), some (.int (nI x)), some (.int (nI N)), none], [], z, qset h a bl F G) Q = Q none z (qset h (odN hh b x N 0 / odG hh b x N) (10 ^ N / odG hh b x N) (odN hh b x N) G2) := by
  obtain ⟨G2, hl⟩ := reckon_loop (h := h) (a := a) h40 h20 h10 hN z N 0 (by omega) G
  have w1 : b2 (¬ nI hh < nI 1 ∧ ¬ nI 40 < nI hh) = nI 1 := b2_t (by rw [inR (by omega) (by decide) (by decide)]; omega)
  have p0 := jsE_AN (n := 41) (j := hh) (fun _ => 0) 1 (by omega) (by decide)
  have g0 := jgE_AN (n := 41) (j := 0) (odN hh b x N) (by decide) (by decide)
  have hle := odN_0 (h := hh) (b := b) (x := x) h40 h10 N
  have hw := fun G Q => lower_eq (h := h) (a := odN hh b x N 0) (b := 10 ^ N) (F := odN hh b x N) (G := G) hle (ten_le hN) (Nat.pow_pos (by decide)) z Q
  have e0 : fup (fun _ => 0) hh 1 = odN hh b x 0 := rfl
  have e1 : (1 : Nat) = 10 ^ 0 := rfl
  refine ⟨G2, fun Q => ?_⟩
  have hl2 := hl Q
  simp only [m96_65, m96_66, m96_67, m96_70, m96_71, m96_72, m96_75, m96_76, m96_79, ob_some, pushr_s, pushr_n, iget_eq, gf_eq, pf_eq, ck_eq, alen_eq, rget_eq, iset_eq, Option.bind_some, Option.map_some, Option.elim_some, hput_at, ↓reduceIte, Nat.reduceEqDiff, Nat.reduceAdd, ne_eq, not_false_eq_true, oS_ck, oS_g0, oS_p0, oS_g1, oS_p1, oS_g2, oS_p2, oS_g3, oS_p3, oS_g4, oS_p4, oS_g5, oS_p5, oS_g6, oS_p6, oP_ck, oP_g0, oP_p0, oP_g1, oP_p1, oP_g2, oP_p2, oP_g3, oP_p3, oP_g4, oP_p4, oP_g5, oP_p5, oP_g6, oP_p6, oP_g7, oP_p7, oP_g8, oP_p8, oP_g9, oP_p9, oP_g10, oP_p10, oP_g11, oP_p11, oP_g12, oP_p12, oR_ck, oR_g0, oR_p0, oR_g1, oR_p1, oR_g2, oR_p2, oR_g3, oR_p3, oG_ck, oG_g0, oG_p0, oG_g1, oG_p1, oG_g2, oG_p2, oW_ck, oW_g0, oW_p0, oW_g1, oW_p1, oW_g2, oW_p2, oB_ck, oB_g0, oB_p0, oB_g1, oB_p1, oB_g2, oB_p2, oB_g3, oB_p3, oB_g4, oB_p4, oB_g5, oB_p5, oB_g6, oB_p6, oC_ck, oC_g0, oC_p0, oC_g1, oC_p1, oC_g2, oC_p2, oC_g3, oC_p3, oC_g4, oC_p4, oC_g5, oC_p5, oC_g6, oC_p6, oH_ck, oH_g0, oH_p0, oH_g1, oH_p1, oH_g2, oH_p2, oH_g3, oH_p3, oM_ck, oM_g0, oM_p0, oM_g1, oM_p1, oM_g2, oM_p2, oM_g3, oM_p3, oM_g4, oM_p4, oM_g5, oM_p5, oM_g6, oM_p6, oM_g7, oM_p7, oM_g8, oM_p8, oM_g9, oM_p9, oM_g10, oM_p10, oM_g11, oM_p11, oM_g12, oM_p12, oM_g13, oM_p13, oM_g14, oM_p14, oM_g15, oM_p15, oM_g16, oM_p16, oM_g17, oM_p17, oM_g18, oM_p18, oM_g19, oM_p19, oM_g20, oM_p20, oM_g21, oM_p21, oM_g22, oM_p22, oM_g23, oM_p23, oM_g24, oM_p24, oM_g25, oM_p25, oM_g26, oM_p26, oM_g27, oM_p27, oM_g28, oM_p28, oM_g29, oM_p29, zget_eq, zset_eq, jget_eq, jset_eq, hcpy_eq, qset_65, qset_66, qset_67, qset_p65, qset_p66, qset_p67, g0, hw, pushr_n] at hl2
  refine Eq.trans ?_ hl2
  simp only [m96_0, m96_1, m96_4, m96_5, m96_8, m96_9, m96_10, m96_12, m96_15, m96_18, m96_19, m96_22, m96_23, m96_24, m96_25, m96_26, m96_27, m96_30, m96_31, ob_some, pushr_s, pushr_n, iget_eq, gf_eq, pf_eq, ck_eq, alen_eq, rget_eq, iset_eq, Option.bind_some, Option.map_some, Option.elim_some, hput_at, ↓reduceIte, Nat.reduceEqDiff, Nat.reduceAdd, ne_eq, not_false_eq_true, oS_ck, oS_g0, oS_p0, oS_g1, oS_p1, oS_g2, oS_p2, oS_g3, oS_p3, oS_g4, oS_p4, oS_g5, oS_p5, oS_g6, oS_p6, oP_ck, oP_g0, oP_p0, oP_g1, oP_p1, oP_g2, oP_p2, oP_g3, oP_p3, oP_g4, oP_p4, oP_g5, oP_p5, oP_g6, oP_p6, oP_g7, oP_p7, oP_g8, oP_p8, oP_g9, oP_p9, oP_g10, oP_p10, oP_g11, oP_p11, oP_g12, oP_p12, oR_ck, oR_g0, oR_p0, oR_g1, oR_p1, oR_g2, oR_p2, oR_g3, oR_p3, oG_ck, oG_g0, oG_p0, oG_g1, oG_p1, oG_g2, oG_p2, oW_ck, oW_g0, oW_p0, oW_g1, oW_p1, oW_g2, oW_p2, oB_ck, oB_g0, oB_p0, oB_g1, oB_p1, oB_g2, oB_p2, oB_g3, oB_p3, oB_g4, oB_p4, oB_g5, oB_p5, oB_g6, oB_p6, oC_ck, oC_g0, oC_p0, oC_g1, oC_p1, oC_g2, oC_p2, oC_g3, oC_p3, oC_g4, oC_p4, oC_g5, oC_p5, oC_g6, oC_p6, oH_ck, oH_g0, oH_p0, oH_g1, oH_p1, oH_g2, oH_p2, oH_g3, oH_p3, oM_ck, oM_g0, oM_p0, oM_g1, oM_p1, oM_g2, oM_p2, oM_g3, oM_p3, oM_g4, oM_p4, oM_g5, oM_p5, oM_g6, oM_p6, oM_g7, oM_p7, oM_g8, oM_p8, oM_g9, oM_p9, oM_g10, oM_p10, oM_g11, oM_p11, oM_g12, oM_p12, oM_g13, oM_p13, oM_g14, oM_p14, oM_g15, oM_p15, oM_g16, oM_p16, oM_g17, oM_p17, oM_g18, oM_p18, oM_g19, oM_p19, oM_g20, oM_p20, oM_g21, oM_p21, oM_g22, oM_p22, oM_g23, oM_p23, oM_g24, oM_p24, oM_g25, oM_p25, oM_g26, oM_p26, oM_g27, oM_p27, oM_g28, oM_p28, oM_g29, oM_p29, zget_eq, zset_eq, jget_eq, jset_eq, hcpy_eq, qset_65, qset_66, qset_67, qset_p65, qset_p66, qset_p67, qfill_66, within_eq, w1, n10, if_false, J1, p0, e0]
theorem sodds_op {H : Hp} {len a bl : Nat} {F G : Nat → Nat} (hS : SO H len) (h b x n p : Int32) (z : Zc) : ∃ a2 b2 F2 G2, ∀ Q, Ev 19 (0, [some (.ref 1), some (.int h), some (.int b), some (.int x), some (.int n), some (.int p)], [], z, qset H a bl F G) Q = Q (some (.long (ansOdds h b x n p))) z (qset H a2 b2 F2 G2) := by
  have hS1 : ∀ a b F G, qset H a b F G 1 = H 1 := fun a b F G => qset_ne H a b F G (by omega)
  unfold SO at hS
  have eh := rg_c h (lo := 1) (hi := 40) (by decide) (by decide)
  have eb := rg_c b (lo := 1) (hi := 20) (by decide) (by decide)
  have ex := rg_c x (lo := 0) (hi := 10) (by decide) (by decide)
  have en := rg_c n (lo := 0) (hi := 9) (by decide) (by decide)
  have ep := rg_c p (lo := 0) (hi := 1) (by decide) (by decide)
  unfold ansOdds
  by_cases c1 : rgI h 1 40
  · by_cases c2 : rgI b 1 20
    · by_cases c3 : rgI x 0 10
      · by_cases c4 : rgI n 0 9
        · by_cases c5 : rgI p 0 1
          · rw [if_pos ⟨c1, c2, c3, c4, c5⟩]
            obtain ⟨h1, h2, h3⟩ := rg_nt c1
            obtain ⟨b1, b2', b3⟩ := rg_nt c2
            obtain ⟨x1, x2, x3⟩ := rg_nt c3
            obtain ⟨n1, n2, n3⟩ := rg_nt c4
            obtain ⟨G2, hr⟩ := reckon_eq (h := H) (a := a) (bl := bl) (F := F) (G := G) h2 h3 b3 x3 n3 z
            rw [← h1, ← b1, ← x1, ← n1] at hr
            refine ⟨odN (nt h) (nt b) (nt x) (nt n) 0 / odG (nt h) (nt b) (nt x) (nt n), 10 ^ nt n / odG (nt h) (nt b) (nt x) (nt n), odN (nt h) (nt b) (nt x) (nt n), G2, fun Q => ?_⟩
            by_cases c6 : p = nI 0
            · have c7 : (p = nI 0) = True := eq_true c6
              rw [if_pos c6]
              simp only [m19_0, m19_1, m19_2, m19_4, m19_7, m19_10, m19_11, m19_12, m19_14, m19_17, m19_20, m19_21, m19_22, m19_24, m19_27, m19_30, m19_32, m19_33, m19_35, m19_38, m19_41, m19_43, m19_44, m19_45, m19_48, m19_51, m19_54, m19_55, m19_56, m19_59, m19_60, m19_61, m19_62, m19_64, m19_67, m19_69, m19_72, m19_73, m19_76, m19_79, m19_82, m19_83, m19_86, m19_89, ob_some, pushr_s, pushr_n, iget_eq, gf_eq, pf_eq, ck_eq, alen_eq, rget_eq, iset_eq, Option.bind_some, Option.map_some, Option.elim_some, hput_at, ↓reduceIte, Nat.reduceEqDiff, Nat.reduceAdd, ne_eq, not_false_eq_true, oS_ck, oS_g0, oS_p0, oS_g1, oS_p1, oS_g2, oS_p2, oS_g3, oS_p3, oS_g4, oS_p4, oS_g5, oS_p5, oS_g6, oS_p6, oP_ck, oP_g0, oP_p0, oP_g1, oP_p1, oP_g2, oP_p2, oP_g3, oP_p3, oP_g4, oP_p4, oP_g5, oP_p5, oP_g6, oP_p6, oP_g7, oP_p7, oP_g8, oP_p8, oP_g9, oP_p9, oP_g10, oP_p10, oP_g11, oP_p11, oP_g12, oP_p12, oR_ck, oR_g0, oR_p0, oR_g1, oR_p1, oR_g2, oR_p2, oR_g3, oR_p3, oG_ck, oG_g0, oG_p0, oG_g1, oG_p1, oG_g2, oG_p2, oW_ck, oW_g0, oW_p0, oW_g1, oW_p1, oW_g2, oW_p2, oB_ck, oB_g0, oB_p0, oB_g1, oB_p1, oB_g2, oB_p2, oB_g3, oB_p3, oB_g4, oB_p4, oB_g5, oB_p5, oB_g6, oB_p6, oC_ck, oC_g0, oC_p0, oC_g1, oC_p1, oC_g2, oC_p2, oC_g3, oC_p3, oC_g4, oC_p4, oC_g5, oC_p5, oC_g6, oC_p6, oH_ck, oH_g0, oH_p0, oH_g1, oH_p1, oH_g2, oH_p2, oH_g3, oH_p3, oM_ck, oM_g0, oM_p0, oM_g1, oM_p1, oM_g2, oM_p2, oM_g3, oM_p3, oM_g4, oM_p4, oM_g5, oM_p5, oM_g6, oM_p6, oM_g7, oM_p7, oM_g8, oM_p8, oM_g9, oM_p9, oM_g10, oM_p10, oM_g11, oM_p11, oM_g12, oM_p12, oM_g13, oM_p13, oM_g14, oM_p14, oM_g15, oM_p15, oM_g16, oM_p16, oM_g17, oM_p17, oM_g18, oM_p18, oM_g19, oM_p19, oM_g20, oM_p20, oM_g21, oM_p21, oM_g22, oM_p22, oM_g23, oM_p23, oM_g24, oM_p24, oM_g25, oM_p25, oM_g26, oM_p26, oM_g27, oM_p27, oM_g28, oM_p28, oM_g29, oM_p29, qset_65, qset_66, qset_67, qset_p65, qset_p66, qset_p67, hS1, hS, within_eq, eh, eb, ex, en, ep, bt c1, bt c2, bt c3, bt c4, bt c5, if_false, hr, c7, if_true]
            · rw [if_neg c6]
              simp only [m19_0, m19_1, m19_2, m19_4, m19_7, m19_10, m19_11, m19_12, m19_14, m19_17, m19_20, m19_21, m19_22, m19_24, m19_27, m19_30, m19_32, m19_33, m19_35, m19_38, m19_41, m19_43, m19_44, m19_45, m19_48, m19_51, m19_54, m19_55, m19_56, m19_59, m19_60, m19_61, m19_62, m19_64, m19_67, m19_69, m19_72, m19_73, m19_76, m19_79, m19_82, m19_83, m19_86, m19_89, ob_some, pushr_s, pushr_n, iget_eq, gf_eq, pf_eq, ck_eq, alen_eq, rget_eq, iset_eq, Option.bind_some, Option.map_some, Option.elim_some, hput_at, ↓reduceIte, Nat.reduceEqDiff, Nat.reduceAdd, ne_eq, not_false_eq_true, oS_ck, oS_g0, oS_p0, oS_g1, oS_p1, oS_g2, oS_p2, oS_g3, oS_p3, oS_g4, oS_p4, oS_g5, oS_p5, oS_g6, oS_p6, oP_ck, oP_g0, oP_p0, oP_g1, oP_p1, oP_g2, oP_p2, oP_g3, oP_p3, oP_g4, oP_p4, oP_g5, oP_p5, oP_g6, oP_p6, oP_g7, oP_p7, oP_g8, oP_p8, oP_g9, oP_p9, oP_g10, oP_p10, oP_g11, oP_p11, oP_g12, oP_p12, oR_ck, oR_g0, oR_p0, oR_g1, oR_p1, oR_g2, oR_p2, oR_g3, oR_p3, oG_ck, oG_g0, oG_p0, oG_g1, oG_p1, oG_g2, oG_p2, oW_ck, oW_g0, oW_p0, oW_g1, oW_p1, oW_g2, oW_p2, oB_ck, oB_g0, oB_p0, oB_g1, oB_p1, oB_g2, oB_p2, oB_g3, oB_p3, oB_g4, oB_p4, oB_g5, oB_p5, oB_g6, oB_p6, oC_ck, oC_g0, oC_p0, oC_g1, oC_p1, oC_g2, oC_p2, oC_g3, oC_p3, oC_g4, oC_p4, oC_g5, oC_p5, oC_g6, oC_p6, oH_ck, oH_g0, oH_p0, oH_g1, oH_p1, oH_g2, oH_p2, oH_g3, oH_p3, oM_ck, oM_g0, oM_p0, oM_g1, oM_p1, oM_g2, oM_p2, oM_g3, oM_p3, oM_g4, oM_p4, oM_g5, oM_p5, oM_g6, oM_p6, oM_g7, oM_p7, oM_g8, oM_p8, oM_g9, oM_p9, oM_g10, oM_p10, oM_g11, oM_p11, oM_g12, oM_p12, oM_g13, oM_p13, oM_g14, oM_p14, oM_g15, oM_p15, oM_g16, oM_p16, oM_g17, oM_p17, oM_g18, oM_p18, oM_g19, oM_p19, oM_g20, oM_p20, oM_g21, oM_p21, oM_g22, oM_p22, oM_g23, oM_p23, oM_g24, oM_p24, oM_g25, oM_p25, oM_g26, oM_p26, oM_g27, oM_p27, oM_g28, oM_p28, oM_g29, oM_p29, qset_65, qset_66, qset_67, qset_p65, qset_p66, qset_p67, hS1, hS, within_eq, eh, eb, ex, en, ep, bt c1, bt c2, bt c3, bt c4, bt c5, if_false, hr, c6]
          · rw [if_neg (fun q => c5 q.2.2.2.2)]
            refine ⟨a, bl, F, G, fun Q => ?_⟩
            simp only [m19_0, m19_1, m19_2, m19_4, m19_7, m19_10, m19_11, m19_12, m19_14, m19_17, m19_20, m19_21, m19_22, m19_24, m19_27, m19_30, m19_32, m19_33, m19_35, m19_38, m19_41, m19_43, m19_44, m19_45, m19_48, m19_51, m19_54, m19_55, m19_56, m19_59, m19_60, m19_61, m19_62, m19_64, m19_67, m19_69, m19_72, m19_73, m19_76, m19_79, m19_82, m19_83, m19_86, m19_89, within_eq, pushr_s, eh, eb, ex, en, ep, bt c1, bt c2, bt c3, bt c4, bf c5, if_false, if_true]
        · rw [if_neg (fun q => c4 q.2.2.2.1)]
          refine ⟨a, bl, F, G, fun Q => ?_⟩
          simp only [m19_0, m19_1, m19_2, m19_4, m19_7, m19_10, m19_11, m19_12, m19_14, m19_17, m19_20, m19_21, m19_22, m19_24, m19_27, m19_30, m19_32, m19_33, m19_35, m19_38, m19_41, m19_43, m19_44, m19_45, m19_48, m19_51, m19_54, m19_55, m19_56, m19_59, m19_60, m19_61, m19_62, m19_64, m19_67, m19_69, m19_72, m19_73, m19_76, m19_79, m19_82, m19_83, m19_86, m19_89, within_eq, pushr_s, eh, eb, ex, en, ep, bt c1, bt c2, bt c3, bf c4, if_false, if_true]
      · rw [if_neg (fun q => c3 q.2.2.1)]
        refine ⟨a, bl, F, G, fun Q => ?_⟩
        simp only [m19_0, m19_1, m19_2, m19_4, m19_7, m19_10, m19_11, m19_12, m19_14, m19_17, m19_20, m19_21, m19_22, m19_24, m19_27, m19_30, m19_32, m19_33, m19_35, m19_38, m19_41, m19_43, m19_44, m19_45, m19_48, m19_51, m19_54, m19_55, m19_56, m19_59, m19_60, m19_61, m19_62, m19_64, m19_67, m19_69, m19_72, m19_73, m19_76, m19_79, m19_82, m19_83, m19_86, m19_89, within_eq, pushr_s, eh, eb, ex, en, ep, bt c1, bt c2, bf c3, if_false, if_true]
    · rw [if_neg (fun q => c2 q.2.1)]
      refine ⟨a, bl, F, G, fun Q => ?_⟩
      simp only [m19_0, m19_1, m19_2, m19_4, m19_7, m19_10, m19_11, m19_12, m19_14, m19_17, m19_20, m19_21, m19_22, m19_24, m19_27, m19_30, m19_32, m19_33, m19_35, m19_38, m19_41, m19_43, m19_44, m19_45, m19_48, m19_51, m19_54, m19_55, m19_56, m19_59, m19_60, m19_61, m19_62, m19_64, m19_67, m19_69, m19_72, m19_73, m19_76, m19_79, m19_82, m19_83, m19_86, m19_89, within_eq, pushr_s, eh, eb, ex, en, ep, bt c1, bf c2, if_false, if_true]
  · rw [if_neg (fun q => c1 q.1)]
    refine ⟨a, bl, F, G, fun Q => ?_⟩
    simp only [m19_0, m19_1, m19_2, m19_4, m19_7, m19_10, m19_11, m19_12, m19_14, m19_17, m19_20, m19_21, m19_22, m19_24, m19_27, m19_30, m19_32, m19_33, m19_35, m19_38, m19_41, m19_43, m19_44, m19_45, m19_48, m19_51, m19_54, m19_55, m19_56, m19_59, m19_60, m19_61, m19_62, m19_64, m19_67, m19_69, m19_72, m19_73, m19_76, m19_79, m19_82, m19_83, m19_86, m19_89, within_eq, pushr_s, eh, eb, ex, en, ep, bf c1, if_false, if_true]
