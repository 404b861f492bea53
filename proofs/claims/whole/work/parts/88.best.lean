/-! the class's best order: its walls and its rows -/
abbrev Wv : Type := Nat → (Nat → Nat) × Wl
def vcE (V : Wv) (j : Nat) : AE := if (j - 44) % 3 = 0 then oW (.ref (j + 1)) (.ref (j + 2)) (.int (nI (V ((j - 44) / 3)).2.2)) else if (j - 44) % 3 = 1 then AI 10 (V ((j - 44) / 3)).1 else AI 10 (V ((j - 44) / 3)).2.1
def vset (h : Hp) (V : Wv) : Hp := fun j => if 44 ≤ j ∧ j ≤ 64 then some (vcE V j) else h j
theorem vset_ne (h : Hp) (V : Wv) {j : Nat} (hj : j < 44 ∨ 64 < j) : vset h V j = h j := if_neg (by omega)
theorem vset_in (h : Hp) (V : Wv) {j : Nat} (h1 : 44 ≤ j) (h2 : j ≤ 64) : vset h V j = some (vcE V j) := if_pos ⟨h1, h2⟩
theorem vset_C (h : Hp) (V : Wv) {k : Nat} (hk : k < 7) : WallC (vset h V) (44 + 3 * k) (V k).1 (V k).2.1 (V k).2.2 := by
  refine ⟨by omega, ?_, ?_, ?_⟩
  · rw [vset_in _ _ (by omega) (by omega)]
    unfold vcE
    rw [if_pos (by omega), show (44 + 3 * k - 44) / 3 = k by omega]
  · rw [vset_in _ _ (by omega) (by omega)]
    unfold vcE
    rw [if_neg (by omega), if_pos (by omega), show (44 + 3 * k + 1 - 44) / 3 = k by omega]
  · rw [vset_in _ _ (by omega) (by omega)]
    unfold vcE
    rw [if_neg (by omega), if_neg (by omega), show (44 + 3 * k + 2 - 44) / 3 = k by omega]
theorem vset_w (h : Hp) (V : Wv) {k : Nat} (hk : k < 7) (f s : Nat → Nat) (ru : Nat) : wset (vset h V) (44 + 3 * k) f s ru = vset h (fup V k (f, (s, ru))) := by
  funext j
  unfold wset
  by_cases c0 : j = 44 + 3 * k
  · rw [if_pos c0, vset_in _ _ (by omega) (by omega)]
    unfold vcE
    rw [if_pos (by omega), show (j - 44) / 3 = k by omega, fup_self, c0]
  · rw [if_neg c0]
    by_cases c1 : j = 44 + 3 * k + 1
    · rw [if_pos c1, vset_in _ _ (by omega) (by omega)]
      unfold vcE
      rw [if_neg (by omega), if_pos (by omega), show (j - 44) / 3 = k by omega, fup_self]
    · rw [if_neg c1]
      by_cases c2 : j = 44 + 3 * k + 2
      · rw [if_pos c2, vset_in _ _ (by omega) (by omega)]
        unfold vcE
        rw [if_neg (by omega), if_neg (by omega), show (j - 44) / 3 = k by omega, fup_self]
      · rw [if_neg c2]
        by_cases c3 : 44 ≤ j ∧ j ≤ 64
        · rw [vset_in _ _ c3.1 c3.2, vset_in _ _ c3.1 c3.2]
          unfold vcE
          rw [fup_ne _ _ (by omega)]
        · rw [vset_ne _ _ (by omega), vset_ne _ _ (by omega)]
/-- the best order's object, its rows and its walls -/
def bw (h : Hp) (V : Wv) (S : Nat → Int32) (A : Nat → Nat → Nat) : Hp := bset (vset h V) S A
theorem bw_C (h : Hp) (V : Wv) (S : Nat → Int32) (A : Nat → Nat → Nat) {k : Nat} (hk : k < 7) : WallC (bw h V S A) (44 + 3 * k) (V k).1 (V k).2.1 (V k).2.2 := by
  obtain ⟨h0, h1, h2, h3⟩ := vset_C h V hk
  exact ⟨h0, by unfold bw; rw [bset_ne _ _ _ (by omega)]; exact h1, by unfold bw; rw [bset_ne _ _ _ (by omega)]; exact h2, by unfold bw; rw [bset_ne _ _ _ (by omega)]; exact h3⟩
theorem bw_w (h : Hp) (V : Wv) (S : Nat → Int32) (A : Nat → Nat → Nat) {k : Nat} (hk : k < 7) (f s : Nat → Nat) (ru : Nat) : wset (bw h V S A) (44 + 3 * k) f s ru = bw h (fup V k (f, (s, ru))) S A := by
  unfold bw
  rw [← vset_w h V hk f s ru]
  funext j
  by_cases c : 39 ≤ j ∧ j ≤ 43
  · rw [wset_ne _ _ _ _ (by omega), bset_in _ _ _ c.1 c.2, bset_in _ _ _ c.1 c.2]
  · rw [bset_ne _ _ _ (by omega)]
    unfold wset
    rw [bset_ne _ _ _ (by omega)]
theorem bw_P {h : Hp} {P : Pl} (hP : PlanC h 15 P) (V : Wv) (S : Nat → Int32) (A : Nat → Nat → Nat) : PlanC (bw h V S A) 15 P := hP.same (fun j a b => by
  unfold bw
  rw [bset_ne _ _ _ (by omega), vset_ne _ _ (by omega)])
theorem bw_o (h : Hp) (V : Wv) (S : Nat → Int32) (A : Nat → Nat → Nat) : bw h V S A 39 = some (oB (.int (S 0)) (.int (S 1)) (.ref 40) (.int (S 2)) (.ref 41) (.ref 42) (.ref 43)) := rfl
theorem bw_po (h : Hp) (V : Wv) (S : Nat → Int32) (A : Nat → Nat → Nat) (a0 a1 a2 : Int32) : hput (bw h V S A) 39 (oB (.int a0) (.int a1) (.ref 40) (.int a2) (.ref 41) (.ref 42) (.ref 43)) = bw h V (bv a0 a1 a2) A := bset_po _ _ _ _ _ _
theorem bw_k1 (h : Hp) (V : Wv) (S : Nat → Int32) (A : Nat → Nat → Nat) : bw h V S A 40 = some (AI 6 (A 1)) := rfl
theorem bw_k2 (h : Hp) (V : Wv) (S : Nat → Int32) (A : Nat → Nat → Nat) : bw h V S A 41 = some (AI 6 (A 2)) := rfl
theorem bw_k3 (h : Hp) (V : Wv) (S : Nat → Int32) (A : Nat → Nat → Nat) : bw h V S A 42 = some (AI 6 (A 3)) := rfl
theorem bw_k4 (h : Hp) (V : Wv) (S : Nat → Int32) (A : Nat → Nat → Nat) : bw h V S A 43 = some ((.inr (.inr (.inr (0, [some 44, some 47, some 50, some 53, some 56, some 59, some 62]))))) := rfl
theorem bw_r1 (h : Hp) (V : Wv) (S : Nat → Int32) (A : Nat → Nat → Nat) (f : Nat → Nat) : hput (bw h V S A) 40 (AI 6 f) = bw h V S (fup A 1 f) := bset_r1 _ _ _ _
theorem bw_r2 (h : Hp) (V : Wv) (S : Nat → Int32) (A : Nat → Nat → Nat) (f : Nat → Nat) : hput (bw h V S A) 41 (AI 6 f) = bw h V S (fup A 2 f) := bset_r2 _ _ _ _
theorem bw_r3 (h : Hp) (V : Wv) (S : Nat → Int32) (A : Nat → Nat → Nat) (f : Nat → Nat) : hput (bw h V S A) 42 (AI 6 f) = bw h V S (fup A 3 f) := bset_r3 _ _ _ _
theorem rgE_b4 {k : Nat} (hk : k < 7) : rgE (.inr (.inr (.inr (0, [some 44, some 47, some 50, some 53, some 56, some 59, some 62])))) (nI k) = some (44 + 3 * k) := by
  have c : k = 0 ∨ k = 1 ∨ k = 2 ∨ k = 3 ∨ k = 4 ∨ k = 5 ∨ k = 6 := by omega
  rcases c with rfl | rfl | rfl | rfl | rfl | rfl | rfl <;> rfl
section BEST
variable {h : Hp} {V : Wv} {S : Nat → Int32} {A : Nat → Nat → Nat} {n : Nat} (z : Zc) (Q : Option Value → Zc → Hp → Prop)
theorem swap_eq {a b : Nat} (ha : a < 6) (hb : b < 6) : Ev 94 (0, [some (.ref 39), some (.int (nI a)), some (.int (nI b)), none], [], z, bw h V S A) Q = Q none z (bw h V S (fup A 3 (swF (A 3) a b))) := by
  have g1 := igE_AI (n := 6) (j := a) (A 3) ha (by decide)
  have g2 := igE_AI (n := 6) (j := b) (A 3) hb (by decide)
  have p1 := isE_AI (n := 6) (j := a) (A 3) (A 3 b) ha (by decide)
  have p2 := isE_AI (n := 6) (j := b) (fup (A 3) a (A 3 b)) (A 3 a) hb (by decide)
  have f3 : ∀ f, fup A 3 f 3 = f := fun f => rfl
  have e : fup (fup (A 3) a (A 3 b)) b (A 3 a) = swF (A 3) a b := rfl
  simp only [m94_0, m94_1, m94_4, m94_5, m94_6, m94_7, m94_8, m94_11, m94_12, m94_13, m94_16, m94_17, m94_18, m94_19, m94_20, m94_23, m94_24, m94_25, m94_26, ob_some, pushr_s, pushr_n, iget_eq, gf_eq, pf_eq, ck_eq, alen_eq, rget_eq, iset_eq, Option.bind_some, Option.map_some, Option.elim_some, hput_at, ↓reduceIte, Nat.reduceEqDiff, Nat.reduceAdd, ne_eq, not_false_eq_true, oS_ck, oS_g0, oS_p0, oS_g1, oS_p1, oS_g2, oS_p2, oS_g3, oS_p3, oS_g4, oS_p4, oS_g5, oS_p5, oS_g6, oS_p6, oP_ck, oP_g0, oP_p0, oP_g1, oP_p1, oP_g2, oP_p2, oP_g3, oP_p3, oP_g4, oP_p4, oP_g5, oP_p5, oP_g6, oP_p6, oP_g7, oP_p7, oP_g8, oP_p8, oP_g9, oP_p9, oP_g10, oP_p10, oP_g11, oP_p11, oP_g12, oP_p12, oR_ck, oR_g0, oR_p0, oR_g1, oR_p1, oR_g2, oR_p2, oR_g3, oR_p3, oG_ck, oG_g0, oG_p0, oG_g1, oG_p1, oG_g2, oG_p2, oW_ck, oW_g0, oW_p0, oW_g1, oW_p1, oW_g2, oW_p2, oB_ck, oB_g0, oB_p0, oB_g1, oB_p1, oB_g2, oB_p2, oB_g3, oB_p3, oB_g4, oB_p4, oB_g5, oB_p5, oB_g6, oB_p6, oC_ck, oC_g0, oC_p0, oC_g1, oC_p1, oC_g2, oC_p2, oC_g3, oC_p3, oC_g4, oC_p4, oC_g5, oC_p5, oC_g6, oC_p6, oH_ck, oH_g0, oH_p0, oH_g1, oH_p1, oH_g2, oH_p2, oH_g3, oH_p3, oM_ck, oM_g0, oM_p0, oM_g1, oM_p1, oM_g2, oM_p2, oM_g3, oM_p3, oM_g4, oM_p4, oM_g5, oM_p5, oM_g6, oM_p6, oM_g7, oM_p7, oM_g8, oM_p8, oM_g9, oM_p9, oM_g10, oM_p10, oM_g11, oM_p11, oM_g12, oM_p12, oM_g13, oM_p13, oM_g14, oM_p14, oM_g15, oM_p15, oM_g16, oM_p16, oM_g17, oM_p17, oM_g18, oM_p18, oM_g19, oM_p19, oM_g20, oM_p20, oM_g21, oM_p21, oM_g22, oM_p22, oM_g23, oM_p23, oM_g24, oM_p24, oM_g25, oM_p25, oM_g26, oM_p26, oM_g27, oM_p27, oM_g28, oM_p28, oM_g29, oM_p29, bv0, bv1, bv2, bw_o, bw_po, bw_k1, bw_k2, bw_k3, bw_k4, bw_r1, bw_r2, bw_r3, g1, g2, p1, f3, p2, fup_fup, e]
theorem swF_bd {f : Nat → Nat} {m a b : Nat} (h : ∀ j, f j < m) : ∀ j, swF f a b j < m := fun j => by
  unfold swF
  rw [fup_at, fup_at]
  split
  · exact h a
  · split
    · exact h b
    · exact h j
theorem inS_bd {up : Bool} {a n m : Nat} : ∀ k (f : Nat → Nat), (∀ j, f j < m) → ∀ j, inS up a n k f j < m
  | 0, f, h, j => h j
  | k + 1, f, h, j => inS_bd k _ (fun i => by
      split
      · exact swF_bd h i
      · exact h i) j
theorem ouS_bd {up : Bool} {n m : Nat} : ∀ k (f : Nat → Nat), (∀ j, f j < m) → ∀ j, ouS up n k f j < m
  | 0, f, h, j => h j
  | k + 1, f, h, j => ouS_bd k _ (inS_bd k f h) j
def upI (up : Bool) : Nat := if up = true then 1 else 0
theorem sort_inner {up : Bool} {a : Nat} (hn : n ≤ 6) (hS : S 2 = nI n) : ∀ k b, k + b = n → a < b → ∀ f : Nat → Nat, (∀ j, f j < 100000) → ∀ l1,
    Ev 93 (19, [some (.ref 39), l1, some (.int (nI (upI up))), some (.int (nI a)), some (.int (nI b))], [], z, bw h V S (fup A 3 f)) Q = Ev 93 (80, [some (.ref 39), l1, some (.int (nI (upI up))), some (.int (nI a)), some (.int (nI n))], [], z, bw h V S (fup A 3 (inS up a n k f))) Q := by
  intro k
  induction k with
  | zero =>
    intro b hb hab f hf l1
    have e : b = n := by omega
    subst e
    rw [m93_19, inS]
    simp only [m93_21, m93_22, m93_25, ob_some, pushr_s, pushr_n, iget_eq, gf_eq, pf_eq, ck_eq, alen_eq, rget_eq, iset_eq, Option.bind_some, Option.map_some, Option.elim_some, hput_at, ↓reduceIte, Nat.reduceEqDiff, Nat.reduceAdd, ne_eq, not_false_eq_true, oS_ck, oS_g0, oS_p0, oS_g1, oS_p1, oS_g2, oS_p2, oS_g3, oS_p3, oS_g4, oS_p4, oS_g5, oS_p5, oS_g6, oS_p6, oP_ck, oP_g0, oP_p0, oP_g1, oP_p1, oP_g2, oP_p2, oP_g3, oP_p3, oP_g4, oP_p4, oP_g5, oP_p5, oP_g6, oP_p6, oP_g7, oP_p7, oP_g8, oP_p8, oP_g9, oP_p9, oP_g10, oP_p10, oP_g11, oP_p11, oP_g12, oP_p12, oR_ck, oR_g0, oR_p0, oR_g1, oR_p1, oR_g2, oR_p2, oR_g3, oR_p3, oG_ck, oG_g0, oG_p0, oG_g1, oG_p1, oG_g2, oG_p2, oW_ck, oW_g0, oW_p0, oW_g1, oW_p1, oW_g2, oW_p2, oB_ck, oB_g0, oB_p0, oB_g1, oB_p1, oB_g2, oB_p2, oB_g3, oB_p3, oB_g4, oB_p4, oB_g5, oB_p5, oB_g6, oB_p6, oC_ck, oC_g0, oC_p0, oC_g1, oC_p1, oC_g2, oC_p2, oC_g3, oC_p3, oC_g4, oC_p4, oC_g5, oC_p5, oC_g6, oC_p6, oH_ck, oH_g0, oH_p0, oH_g1, oH_p1, oH_g2, oH_p2, oH_g3, oH_p3, oM_ck, oM_g0, oM_p0, oM_g1, oM_p1, oM_g2, oM_p2, oM_g3, oM_p3, oM_g4, oM_p4, oM_g5, oM_p5, oM_g6, oM_p6, oM_g7, oM_p7, oM_g8, oM_p8, oM_g9, oM_p9, oM_g10, oM_p10, oM_g11, oM_p11, oM_g12, oM_p12, oM_g13, oM_p13, oM_g14, oM_p14, oM_g15, oM_p15, oM_g16, oM_p16, oM_g17, oM_p17, oM_g18, oM_p18, oM_g19, oM_p19, oM_g20, oM_p20, oM_g21, oM_p21, oM_g22, oM_p22, oM_g23, oM_p23, oM_g24, oM_p24, oM_g25, oM_p25, oM_g26, oM_p26, oM_g27, oM_p27, oM_g28, oM_p28, oM_g29, oM_p29, bv0, bv1, bv2, bw_o, bw_po, bw_k1, bw_k2, bw_k3, bw_k4, bw_r1, bw_r2, bw_r3, hS, nlt (a := b) (b := b) (by omega) (by omega), Nat.lt_irrefl, if_false]
  | succ k ih =>
    intro b hb hab f hf l1
    have hlt : b < n := by omega
    have e1 : n - (k + 1) = b := by omega
    have f3 : ∀ f, fup A 3 f 3 = f := fun f => rfl
    have g1 := igE_AI (n := 6) (j := a) f (by omega) (by decide)
    have g2 := igE_AI (n := 6) (j := b) f (by omega) (by decide)
    have l1' := nlt (a := b) (b := n) (by omega) (by omega)
    have t0 : (nI 1 = nI 0) = False := n10
    have hsw := fun z Q => swap_eq (h := h) (V := V) (S := S) (A := fup A 3 f) z Q (a := a) (b := b) (by omega) (by omega)
    simp only [f3, fup_fup] at hsw
    have q1 := nlt (a := f b) (b := f a) (by have := hf b; omega) (by have := hf a; omega)
    have q2 := nlt (a := f a) (b := f b) (by have := hf a; omega) (by have := hf b; omega)
    rw [inS, e1, m93_19]
    by_cases c : swB up (f a) (f b) = true
    · have ihk := ih (b + 1) (by omega) (by omega) (swF f a b) (swF_bd hf) l1
      rw [if_pos c, ← ihk]
      cases up with
      | true =>
        rw [swB_t] at c
        have u : upI true = 1 := rfl
        rw [u]
        simp only [m93_21, m93_22, m93_25, m93_28, m93_29, m93_32, m93_33, m93_36, m93_38, m93_39, m93_40, m93_43, m93_44, m93_45, m93_48, m93_67, m93_68, m93_69, m93_71, m93_74, m93_77, ob_some, pushr_s, pushr_n, iget_eq, gf_eq, pf_eq, ck_eq, alen_eq, rget_eq, iset_eq, Option.bind_some, Option.map_some, Option.elim_some, hput_at, ↓reduceIte, Nat.reduceEqDiff, Nat.reduceAdd, ne_eq, not_false_eq_true, oS_ck, oS_g0, oS_p0, oS_g1, oS_p1, oS_g2, oS_p2, oS_g3, oS_p3, oS_g4, oS_p4, oS_g5, oS_p5, oS_g6, oS_p6, oP_ck, oP_g0, oP_p0, oP_g1, oP_p1, oP_g2, oP_p2, oP_g3, oP_p3, oP_g4, oP_p4, oP_g5, oP_p5, oP_g6, oP_p6, oP_g7, oP_p7, oP_g8, oP_p8, oP_g9, oP_p9, oP_g10, oP_p10, oP_g11, oP_p11, oP_g12, oP_p12, oR_ck, oR_g0, oR_p0, oR_g1, oR_p1, oR_g2, oR_p2, oR_g3, oR_p3, oG_ck, oG_g0, oG_p0, oG_g1, oG_p1, oG_g2, oG_p2, oW_ck, oW_g0, oW_p0, oW_g1, oW_p1, oW_g2, oW_p2, oB_ck, oB_g0, oB_p0, oB_g1, oB_p1, oB_g2, oB_p2, oB_g3, oB_p3, oB_g4, oB_p4, oB_g5, oB_p5, oB_g6, oB_p6, oC_ck, oC_g0, oC_p0, oC_g1, oC_p1, oC_g2, oC_p2, oC_g3, oC_p3, oC_g4, oC_p4, oC_g5, oC_p5, oC_g6, oC_p6, oH_ck, oH_g0, oH_p0, oH_g1, oH_p1, oH_g2, oH_p2, oH_g3, oH_p3, oM_ck, oM_g0, oM_p0, oM_g1, oM_p1, oM_g2, oM_p2, oM_g3, oM_p3, oM_g4, oM_p4, oM_g5, oM_p5, oM_g6, oM_p6, oM_g7, oM_p7, oM_g8, oM_p8, oM_g9, oM_p9, oM_g10, oM_p10, oM_g11, oM_p11, oM_g12, oM_p12, oM_g13, oM_p13, oM_g14, oM_p14, oM_g15, oM_p15, oM_g16, oM_p16, oM_g17, oM_p17, oM_g18, oM_p18, oM_g19, oM_p19, oM_g20, oM_p20, oM_g21, oM_p21, oM_g22, oM_p22, oM_g23, oM_p23, oM_g24, oM_p24, oM_g25, oM_p25, oM_g26, oM_p26, oM_g27, oM_p27, oM_g28, oM_p28, oM_g29, oM_p29, bv0, bv1, bv2, bw_o, bw_po, bw_k1, bw_k2, bw_k3, bw_k4, bw_r1, bw_r2, bw_r3, hS, l1', hlt, if_true, t0, if_false, f3, g1, g2, q1, c, hsw, nI_add]
      | false =>
        rw [swB_f] at c
        have u : upI false = 0 := rfl
        rw [u]
        simp only [m93_21, m93_22, m93_25, m93_28, m93_29, m93_51, m93_52, m93_55, m93_57, m93_58, m93_59, m93_62, m93_63, m93_64, m93_67, m93_68, m93_69, m93_71, m93_74, m93_77, ob_some, pushr_s, pushr_n, iget_eq, gf_eq, pf_eq, ck_eq, alen_eq, rget_eq, iset_eq, Option.bind_some, Option.map_some, Option.elim_some, hput_at, ↓reduceIte, Nat.reduceEqDiff, Nat.reduceAdd, ne_eq, not_false_eq_true, oS_ck, oS_g0, oS_p0, oS_g1, oS_p1, oS_g2, oS_p2, oS_g3, oS_p3, oS_g4, oS_p4, oS_g5, oS_p5, oS_g6, oS_p6, oP_ck, oP_g0, oP_p0, oP_g1, oP_p1, oP_g2, oP_p2, oP_g3, oP_p3, oP_g4, oP_p4, oP_g5, oP_p5, oP_g6, oP_p6, oP_g7, oP_p7, oP_g8, oP_p8, oP_g9, oP_p9, oP_g10, oP_p10, oP_g11, oP_p11, oP_g12, oP_p12, oR_ck, oR_g0, oR_p0, oR_g1, oR_p1, oR_g2, oR_p2, oR_g3, oR_p3, oG_ck, oG_g0, oG_p0, oG_g1, oG_p1, oG_g2, oG_p2, oW_ck, oW_g0, oW_p0, oW_g1, oW_p1, oW_g2, oW_p2, oB_ck, oB_g0, oB_p0, oB_g1, oB_p1, oB_g2, oB_p2, oB_g3, oB_p3, oB_g4, oB_p4, oB_g5, oB_p5, oB_g6, oB_p6, oC_ck, oC_g0, oC_p0, oC_g1, oC_p1, oC_g2, oC_p2, oC_g3, oC_p3, oC_g4, oC_p4, oC_g5, oC_p5, oC_g6, oC_p6, oH_ck, oH_g0, oH_p0, oH_g1, oH_p1, oH_g2, oH_p2, oH_g3, oH_p3, oM_ck, oM_g0, oM_p0, oM_g1, oM_p1, oM_g2, oM_p2, oM_g3, oM_p3, oM_g4, oM_p4, oM_g5, oM_p5, oM_g6, oM_p6, oM_g7, oM_p7, oM_g8, oM_p8, oM_g9, oM_p9, oM_g10, oM_p10, oM_g11, oM_p11, oM_g12, oM_p12, oM_g13, oM_p13, oM_g14, oM_p14, oM_g15, oM_p15, oM_g16, oM_p16, oM_g17, oM_p17, oM_g18, oM_p18, oM_g19, oM_p19, oM_g20, oM_p20, oM_g21, oM_p21, oM_g22, oM_p22, oM_g23, oM_p23, oM_g24, oM_p24, oM_g25, oM_p25, oM_g26, oM_p26, oM_g27, oM_p27, oM_g28, oM_p28, oM_g29, oM_p29, bv0, bv1, bv2, bw_o, bw_po, bw_k1, bw_k2, bw_k3, bw_k4, bw_r1, bw_r2, bw_r3, hS, l1', hlt, if_true, f3, g1, g2, q2, c, hsw, nI_add]
    · have ihk := ih (b + 1) (by omega) (by omega) f hf l1
      rw [if_neg c, ← ihk]
      cases up with
      | true =>
        rw [swB_t] at c
        have u : upI true = 1 := rfl
        rw [u]
        simp only [m93_21, m93_22, m93_25, m93_28, m93_29, m93_32, m93_33, m93_36, m93_38, m93_39, m93_40, m93_43, m93_44, m93_45, m93_74, m93_77, ob_some, pushr_s, pushr_n, iget_eq, gf_eq, pf_eq, ck_eq, alen_eq, rget_eq, iset_eq, Option.bind_some, Option.map_some, Option.elim_some, hput_at, ↓reduceIte, Nat.reduceEqDiff, Nat.reduceAdd, ne_eq, not_false_eq_true, oS_ck, oS_g0, oS_p0, oS_g1, oS_p1, oS_g2, oS_p2, oS_g3, oS_p3, oS_g4, oS_p4, oS_g5, oS_p5, oS_g6, oS_p6, oP_ck, oP_g0, oP_p0, oP_g1, oP_p1, oP_g2, oP_p2, oP_g3, oP_p3, oP_g4, oP_p4, oP_g5, oP_p5, oP_g6, oP_p6, oP_g7, oP_p7, oP_g8, oP_p8, oP_g9, oP_p9, oP_g10, oP_p10, oP_g11, oP_p11, oP_g12, oP_p12, oR_ck, oR_g0, oR_p0, oR_g1, oR_p1, oR_g2, oR_p2, oR_g3, oR_p3, oG_ck, oG_g0, oG_p0, oG_g1, oG_p1, oG_g2, oG_p2, oW_ck, oW_g0, oW_p0, oW_g1, oW_p1, oW_g2, oW_p2, oB_ck, oB_g0, oB_p0, oB_g1, oB_p1, oB_g2, oB_p2, oB_g3, oB_p3, oB_g4, oB_p4, oB_g5, oB_p5, oB_g6, oB_p6, oC_ck, oC_g0, oC_p0, oC_g1, oC_p1, oC_g2, oC_p2, oC_g3, oC_p3, oC_g4, oC_p4, oC_g5, oC_p5, oC_g6, oC_p6, oH_ck, oH_g0, oH_p0, oH_g1, oH_p1, oH_g2, oH_p2, oH_g3, oH_p3, oM_ck, oM_g0, oM_p0, oM_g1, oM_p1, oM_g2, oM_p2, oM_g3, oM_p3, oM_g4, oM_p4, oM_g5, oM_p5, oM_g6, oM_p6, oM_g7, oM_p7, oM_g8, oM_p8, oM_g9, oM_p9, oM_g10, oM_p10, oM_g11, oM_p11, oM_g12, oM_p12, oM_g13, oM_p13, oM_g14, oM_p14, oM_g15, oM_p15, oM_g16, oM_p16, oM_g17, oM_p17, oM_g18, oM_p18, oM_g19, oM_p19, oM_g20, oM_p20, oM_g21, oM_p21, oM_g22, oM_p22, oM_g23, oM_p23, oM_g24, oM_p24, oM_g25, oM_p25, oM_g26, oM_p26, oM_g27, oM_p27, oM_g28, oM_p28, oM_g29, oM_p29, bv0, bv1, bv2, bw_o, bw_po, bw_k1, bw_k2, bw_k3, bw_k4, bw_r1, bw_r2, bw_r3, hS, l1', hlt, if_true, t0, if_false, f3, g1, g2, q1, c, nI_add]
      | false =>
        rw [swB_f] at c
        have u : upI false = 0 := rfl
        rw [u]
        simp only [m93_21, m93_22, m93_25, m93_28, m93_29, m93_51, m93_52, m93_55, m93_57, m93_58, m93_59, m93_62, m93_63, m93_64, m93_74, m93_77, ob_some, pushr_s, pushr_n, iget_eq, gf_eq, pf_eq, ck_eq, alen_eq, rget_eq, iset_eq, Option.bind_some, Option.map_some, Option.elim_some, hput_at, ↓reduceIte, Nat.reduceEqDiff, Nat.reduceAdd, ne_eq, not_false_eq_true, oS_ck, oS_g0, oS_p0, oS_g1, oS_p1, oS_g2, oS_p2, oS_g3, oS_p3, oS_g4, oS_p4, oS_g5, oS_p5, oS_g6, oS_p6, oP_ck, oP_g0, oP_p0, oP_g1, oP_p1, oP_g2, oP_p2, oP_g3, oP_p3, oP_g4, oP_p4, oP_g5, oP_p5, oP_g6, oP_p6, oP_g7, oP_p7, oP_g8, oP_p8, oP_g9, oP_p9, oP_g10, oP_p10, oP_g11, oP_p11, oP_g12, oP_p12, oR_ck, oR_g0, oR_p0, oR_g1, oR_p1, oR_g2, oR_p2, oR_g3, oR_p3, oG_ck, oG_g0, oG_p0, oG_g1, oG_p1, oG_g2, oG_p2, oW_ck, oW_g0, oW_p0, oW_g1, oW_p1, oW_g2, oW_p2, oB_ck, oB_g0, oB_p0, oB_g1, oB_p1, oB_g2, oB_p2, oB_g3, oB_p3, oB_g4, oB_p4, oB_g5, oB_p5, oB_g6, oB_p6, oC_ck, oC_g0, oC_p0, oC_g1, oC_p1, oC_g2, oC_p2, oC_g3, oC_p3, oC_g4, oC_p4, oC_g5, oC_p5, oC_g6, oC_p6, oH_ck, oH_g0, oH_p0, oH_g1, oH_p1, oH_g2, oH_p2, oH_g3, oH_p3, oM_ck, oM_g0, oM_p0, oM_g1, oM_p1, oM_g2, oM_p2, oM_g3, oM_p3, oM_g4, oM_p4, oM_g5, oM_p5, oM_g6, oM_p6, oM_g7, oM_p7, oM_g8, oM_p8, oM_g9, oM_p9, oM_g10, oM_p10, oM_g11, oM_p11, oM_g12, oM_p12, oM_g13, oM_p13, oM_g14, oM_p14, oM_g15, oM_p15, oM_g16, oM_p16, oM_g17, oM_p17, oM_g18, oM_p18, oM_g19, oM_p19, oM_g20, oM_p20, oM_g21, oM_p21, oM_g22, oM_p22, oM_g23, oM_p23, oM_g24, oM_p24, oM_g25, oM_p25, oM_g26, oM_p26, oM_g27, oM_p27, oM_g28, oM_p28, oM_g29, oM_p29, bv0, bv1, bv2, bw_o, bw_po, bw_k1, bw_k2, bw_k3, bw_k4, bw_r1, bw_r2, bw_r3, hS, l1', hlt, if_true, if_false, f3, g1, g2, q2, c, nI_add]
theorem sort_outer {up : Bool} (hn : n ≤ 6) (hS : S 2 = nI n) : ∀ k a, k + a = n → ∀ f : Nat → Nat, (∀ j, f j < 100000) → ∀ l1 l4,
    Ev 93 (6, [some (.ref 39), l1, some (.int (nI (upI up))), some (.int (nI a)), l4], [], z, bw h V S (fup A 3 f)) Q = Q none z (bw h V S (fup A 3 (ouS up n k f))) := by
  intro k
  induction k with
  | zero =>
    intro a ha f hf l1 l4
    have e : a = n := by omega
    subst e
    rw [m93_6, ouS]
    simp only [m93_7, m93_8, m93_11, m93_86, ob_some, pushr_s, pushr_n, iget_eq, gf_eq, pf_eq, ck_eq, alen_eq, rget_eq, iset_eq, Option.bind_some, Option.map_some, Option.elim_some, hput_at, ↓reduceIte, Nat.reduceEqDiff, Nat.reduceAdd, ne_eq, not_false_eq_true, oS_ck, oS_g0, oS_p0, oS_g1, oS_p1, oS_g2, oS_p2, oS_g3, oS_p3, oS_g4, oS_p4, oS_g5, oS_p5, oS_g6, oS_p6, oP_ck, oP_g0, oP_p0, oP_g1, oP_p1, oP_g2, oP_p2, oP_g3, oP_p3, oP_g4, oP_p4, oP_g5, oP_p5, oP_g6, oP_p6, oP_g7, oP_p7, oP_g8, oP_p8, oP_g9, oP_p9, oP_g10, oP_p10, oP_g11, oP_p11, oP_g12, oP_p12, oR_ck, oR_g0, oR_p0, oR_g1, oR_p1, oR_g2, oR_p2, oR_g3, oR_p3, oG_ck, oG_g0, oG_p0, oG_g1, oG_p1, oG_g2, oG_p2, oW_ck, oW_g0, oW_p0, oW_g1, oW_p1, oW_g2, oW_p2, oB_ck, oB_g0, oB_p0, oB_g1, oB_p1, oB_g2, oB_p2, oB_g3, oB_p3, oB_g4, oB_p4, oB_g5, oB_p5, oB_g6, oB_p6, oC_ck, oC_g0, oC_p0, oC_g1, oC_p1, oC_g2, oC_p2, oC_g3, oC_p3, oC_g4, oC_p4, oC_g5, oC_p5, oC_g6, oC_p6, oH_ck, oH_g0, oH_p0, oH_g1, oH_p1, oH_g2, oH_p2, oH_g3, oH_p3, oM_ck, oM_g0, oM_p0, oM_g1, oM_p1, oM_g2, oM_p2, oM_g3, oM_p3, oM_g4, oM_p4, oM_g5, oM_p5, oM_g6, oM_p6, oM_g7, oM_p7, oM_g8, oM_p8, oM_g9, oM_p9, oM_g10, oM_p10, oM_g11, oM_p11, oM_g12, oM_p12, oM_g13, oM_p13, oM_g14, oM_p14, oM_g15, oM_p15, oM_g16, oM_p16, oM_g17, oM_p17, oM_g18, oM_p18, oM_g19, oM_p19, oM_g20, oM_p20, oM_g21, oM_p21, oM_g22, oM_p22, oM_g23, oM_p23, oM_g24, oM_p24, oM_g25, oM_p25, oM_g26, oM_p26, oM_g27, oM_p27, oM_g28, oM_p28, oM_g29, oM_p29, bv0, bv1, bv2, bw_o, bw_po, bw_k1, bw_k2, bw_k3, bw_k4, bw_r1, bw_r2, bw_r3, hS, nlt (a := a) (b := a) (by omega) (by omega), Nat.lt_irrefl, if_false]
  | succ k ih =>
    intro a ha f hf l1 l4
    have hlt : a < n := by omega
    have e1 : n - (k + 1) = a := by omega
    have hi := sort_inner (h := h) (V := V) (A := A) z Q (up := up) (a := a) hn hS k (a + 1) (by omega) (by omega) f hf l1
    have ihk := ih (a + 1) (by omega) (inS up a n k f) (inS_bd k f hf) l1 (some (.int (nI n)))
    rw [ouS, e1, ← ihk, m93_6]
    simp only [m93_7, m93_8, m93_11, m93_14, m93_15, m93_16, m93_17, ob_some, pushr_s, pushr_n, iget_eq, gf_eq, pf_eq, ck_eq, alen_eq, rget_eq, iset_eq, Option.bind_some, Option.map_some, Option.elim_some, hput_at, ↓reduceIte, Nat.reduceEqDiff, Nat.reduceAdd, ne_eq, not_false_eq_true, oS_ck, oS_g0, oS_p0, oS_g1, oS_p1, oS_g2, oS_p2, oS_g3, oS_p3, oS_g4, oS_p4, oS_g5, oS_p5, oS_g6, oS_p6, oP_ck, oP_g0, oP_p0, oP_g1, oP_p1, oP_g2, oP_p2, oP_g3, oP_p3, oP_g4, oP_p4, oP_g5, oP_p5, oP_g6, oP_p6, oP_g7, oP_p7, oP_g8, oP_p8, oP_g9, oP_p9, oP_g10, oP_p10, oP_g11, oP_p11, oP_g12, oP_p12, oR_ck, oR_g0, oR_p0, oR_g1, oR_p1, oR_g2, oR_p2, oR_g3, oR_p3, oG_ck, oG_g0, oG_p0, oG_g1, oG_p1, oG_g2, oG_p2, oW_ck, oW_g0, oW_p0, oW_g1, oW_p1, oW_g2, oW_p2, oB_ck, oB_g0, oB_p0, oB_g1, oB_p1, oB_g2, oB_p2, oB_g3, oB_p3, oB_g4, oB_p4, oB_g5, oB_p5, oB_g6, oB_p6, oC_ck, oC_g0, oC_p0, oC_g1, oC_p1, oC_g2, oC_p2, oC_g3, oC_p3, oC_g4, oC_p4, oC_g5, oC_p5, oC_g6, oC_p6, oH_ck, oH_g0, oH_p0, oH_g1, oH_p1, oH_g2, oH_p2, oH_g3, oH_p3, oM_ck, oM_g0, oM_p0, oM_g1, oM_p1, oM_g2, oM_p2, oM_g3, oM_p3, oM_g4, oM_p4, oM_g5, oM_p5, oM_g6, oM_p6, oM_g7, oM_p7, oM_g8, oM_p8, oM_g9, oM_p9, oM_g10, oM_p10, oM_g11, oM_p11, oM_g12, oM_p12, oM_g13, oM_p13, oM_g14, oM_p14, oM_g15, oM_p15, oM_g16, oM_p16, oM_g17, oM_p17, oM_g18, oM_p18, oM_g19, oM_p19, oM_g20, oM_p20, oM_g21, oM_p21, oM_g22, oM_p22, oM_g23, oM_p23, oM_g24, oM_p24, oM_g25, oM_p25, oM_g26, oM_p26, oM_g27, oM_p27, oM_g28, oM_p28, oM_g29, oM_p29, bv0, bv1, bv2, bw_o, bw_po, bw_k1, bw_k2, bw_k3, bw_k4, bw_r1, bw_r2, bw_r3, hS, nlt (a := a) (b := n) (by omega) (by omega), hlt, if_true, nI_add, hi]
    simp only [m93_80, m93_83, nI_add]
theorem max0 {i : Nat} (hi : i < 100000) : (if nI 0 < nI i then nI i else nI 0) = nI i := by
  have e := nlt (a := 0) (b := i) (by decide) (by omega)
  by_cases c : 0 < i
  · rw [if_pos (by rw [e]; exact c)]
  · rw [if_neg (by rw [e]; exact c), show i = 0 by omega]
theorem sort_eq {up : Bool} {i : Nat} (hn : n ≤ 6) (hS : S 2 = nI n) (hi : i ≤ n) (hf : ∀ j, A 3 j < 100000) : Ev 93 (0, [some (.ref 39), some (.int (nI i)), some (.int (nI (upI up))), none, none], [], z, bw h V S A) Q = Q none z (bw h V S (fup A 3 (soF up n i (A 3)))) := by
  have hl := sort_outer (h := h) (V := V) (A := A) z Q (up := up) hn hS (n - i) i (by omega) (A 3) hf (some (.int (nI i))) none
  rw [fup_id] at hl
  unfold soF
  rw [← hl]
  simp only [m93_0, m93_1, m93_2, m93_5, max0 (i := i) (by omega)]
theorem take_eq {d : Nat} : Ev 89 (0, [some (.ref 39), some (.int (nI d))], [], z, bw h V S A) Q = Q none z (bw h V (bv (S 0) (nI d) (S 2)) (fup A 1 (A 3))) := by
  have c := cpE_AI (n := 6) (A 3) (A 1) (by decide)
  simp only [m89_0, m89_1, m89_2, m89_5, m89_6, m89_9, m89_10, m89_11, m89_14, m89_15, m89_17, m89_20, ob_some, pushr_s, pushr_n, iget_eq, gf_eq, pf_eq, ck_eq, alen_eq, rget_eq, iset_eq, Option.bind_some, Option.map_some, Option.elim_some, hput_at, ↓reduceIte, Nat.reduceEqDiff, Nat.reduceAdd, ne_eq, not_false_eq_true, oS_ck, oS_g0, oS_p0, oS_g1, oS_p1, oS_g2, oS_p2, oS_g3, oS_p3, oS_g4, oS_p4, oS_g5, oS_p5, oS_g6, oS_p6, oP_ck, oP_g0, oP_p0, oP_g1, oP_p1, oP_g2, oP_p2, oP_g3, oP_p3, oP_g4, oP_p4, oP_g5, oP_p5, oP_g6, oP_p6, oP_g7, oP_p7, oP_g8, oP_p8, oP_g9, oP_p9, oP_g10, oP_p10, oP_g11, oP_p11, oP_g12, oP_p12, oR_ck, oR_g0, oR_p0, oR_g1, oR_p1, oR_g2, oR_p2, oR_g3, oR_p3, oG_ck, oG_g0, oG_p0, oG_g1, oG_p1, oG_g2, oG_p2, oW_ck, oW_g0, oW_p0, oW_g1, oW_p1, oW_g2, oW_p2, oB_ck, oB_g0, oB_p0, oB_g1, oB_p1, oB_g2, oB_p2, oB_g3, oB_p3, oB_g4, oB_p4, oB_g5, oB_p5, oB_g6, oB_p6, oC_ck, oC_g0, oC_p0, oC_g1, oC_p1, oC_g2, oC_p2, oC_g3, oC_p3, oC_g4, oC_p4, oC_g5, oC_p5, oC_g6, oC_p6, oH_ck, oH_g0, oH_p0, oH_g1, oH_p1, oH_g2, oH_p2, oH_g3, oH_p3, oM_ck, oM_g0, oM_p0, oM_g1, oM_p1, oM_g2, oM_p2, oM_g3, oM_p3, oM_g4, oM_p4, oM_g5, oM_p5, oM_g6, oM_p6, oM_g7, oM_p7, oM_g8, oM_p8, oM_g9, oM_p9, oM_g10, oM_p10, oM_g11, oM_p11, oM_g12, oM_p12, oM_g13, oM_p13, oM_g14, oM_p14, oM_g15, oM_p15, oM_g16, oM_p16, oM_g17, oM_p17, oM_g18, oM_p18, oM_g19, oM_p19, oM_g20, oM_p20, oM_g21, oM_p21, oM_g22, oM_p22, oM_g23, oM_p23, oM_g24, oM_p24, oM_g25, oM_p25, oM_g26, oM_p26, oM_g27, oM_p27, oM_g28, oM_p28, oM_g29, oM_p29, zget_eq, zset_eq, jget_eq, jset_eq, hcpy_eq, bv0, bv1, bv2, bw_o, bw_po, bw_k1, bw_k2, bw_k3, bw_k4, bw_r1, bw_r2, bw_r3, c]
theorem next_p {p : Option Value} (hn : n ≤ 6) (hS : S 2 = nI n) (hf : ∀ j, A 3 j < 100000) : ∀ m k, m + k = n - 1 → ∀ l3,
    Ev 92 (5, [some (.ref 39), some (.int (cN4 (pvF (A 3) k))), some (.int (nI k)), l3], [], z, bw h V S A) Q = Ev 92 (40, [some (.ref 39), some (.int (cN4 (pvF (A 3) (n - 1)))), some (.int (nI (n - 1))), l3], [], z, bw h V S A) Q := by
  intro m
  induction m with
  | zero =>
    intro k hk l3
    have e : k = n - 1 := by omega
    subst e
    have hlt : ¬ n - 1 + 1 < n := by omega
    rw [m92_5]
    simp only [m92_6, m92_7, m92_8, m92_9, m92_12, ob_some, pushr_s, pushr_n, iget_eq, gf_eq, pf_eq, ck_eq, alen_eq, rget_eq, iset_eq, Option.bind_some, Option.map_some, Option.elim_some, hput_at, ↓reduceIte, Nat.reduceEqDiff, Nat.reduceAdd, ne_eq, not_false_eq_true, oS_ck, oS_g0, oS_p0, oS_g1, oS_p1, oS_g2, oS_p2, oS_g3, oS_p3, oS_g4, oS_p4, oS_g5, oS_p5, oS_g6, oS_p6, oP_ck, oP_g0, oP_p0, oP_g1, oP_p1, oP_g2, oP_p2, oP_g3, oP_p3, oP_g4, oP_p4, oP_g5, oP_p5, oP_g6, oP_p6, oP_g7, oP_p7, oP_g8, oP_p8, oP_g9, oP_p9, oP_g10, oP_p10, oP_g11, oP_p11, oP_g12, oP_p12, oR_ck, oR_g0, oR_p0, oR_g1, oR_p1, oR_g2, oR_p2, oR_g3, oR_p3, oG_ck, oG_g0, oG_p0, oG_g1, oG_p1, oG_g2, oG_p2, oW_ck, oW_g0, oW_p0, oW_g1, oW_p1, oW_g2, oW_p2, oB_ck, oB_g0, oB_p0, oB_g1, oB_p1, oB_g2, oB_p2, oB_g3, oB_p3, oB_g4, oB_p4, oB_g5, oB_p5, oB_g6, oB_p6, oC_ck, oC_g0, oC_p0, oC_g1, oC_p1, oC_g2, oC_p2, oC_g3, oC_p3, oC_g4, oC_p4, oC_g5, oC_p5, oC_g6, oC_p6, oH_ck, oH_g0, oH_p0, oH_g1, oH_p1, oH_g2, oH_p2, oH_g3, oH_p3, oM_ck, oM_g0, oM_p0, oM_g1, oM_p1, oM_g2, oM_p2, oM_g3, oM_p3, oM_g4, oM_p4, oM_g5, oM_p5, oM_g6, oM_p6, oM_g7, oM_p7, oM_g8, oM_p8, oM_g9, oM_p9, oM_g10, oM_p10, oM_g11, oM_p11, oM_g12, oM_p12, oM_g13, oM_p13, oM_g14, oM_p14, oM_g15, oM_p15, oM_g16, oM_p16, oM_g17, oM_p17, oM_g18, oM_p18, oM_g19, oM_p19, oM_g20, oM_p20, oM_g21, oM_p21, oM_g22, oM_p22, oM_g23, oM_p23, oM_g24, oM_p24, oM_g25, oM_p25, oM_g26, oM_p26, oM_g27, oM_p27, oM_g28, oM_p28, oM_g29, oM_p29, bv0, bv1, bv2, bw_o, bw_po, bw_k1, bw_k2, bw_k3, bw_k4, bw_r1, bw_r2, bw_r3, hS, nI_add, nlt (a := n - 1 + 1) (b := n) (by omega) (by omega), hlt, if_false]
  | succ m ih =>
    intro k hk l3
    have hlt : k + 1 < n := by omega
    have ihk := ih (k + 1) (by omega) l3
    have g1 := igE_AI (n := 6) (j := k) (A 3) (by omega) (by decide)
    have g2 := igE_AI (n := 6) (j := k + 1) (A 3) (by omega) (by decide)
    have q := nlt (a := A 3 k) (b := A 3 (k + 1)) (by have := hf k; omega) (by have := hf (k + 1); omega)
    rw [← ihk, pvF, m92_5]
    by_cases c : A 3 k < A 3 (k + 1)
    · rw [if_pos c, cN4_lt (c := k) (by omega)]
      simp only [m92_6, m92_7, m92_8, m92_9, m92_12, m92_15, m92_16, m92_19, m92_20, m92_21, m92_22, m92_25, m92_26, m92_27, m92_28, m92_29, m92_32, m92_33, m92_34, m92_37, ob_some, pushr_s, pushr_n, iget_eq, gf_eq, pf_eq, ck_eq, alen_eq, rget_eq, iset_eq, Option.bind_some, Option.map_some, Option.elim_some, hput_at, ↓reduceIte, Nat.reduceEqDiff, Nat.reduceAdd, ne_eq, not_false_eq_true, oS_ck, oS_g0, oS_p0, oS_g1, oS_p1, oS_g2, oS_p2, oS_g3, oS_p3, oS_g4, oS_p4, oS_g5, oS_p5, oS_g6, oS_p6, oP_ck, oP_g0, oP_p0, oP_g1, oP_p1, oP_g2, oP_p2, oP_g3, oP_p3, oP_g4, oP_p4, oP_g5, oP_p5, oP_g6, oP_p6, oP_g7, oP_p7, oP_g8, oP_p8, oP_g9, oP_p9, oP_g10, oP_p10, oP_g11, oP_p11, oP_g12, oP_p12, oR_ck, oR_g0, oR_p0, oR_g1, oR_p1, oR_g2, oR_p2, oR_g3, oR_p3, oG_ck, oG_g0, oG_p0, oG_g1, oG_p1, oG_g2, oG_p2, oW_ck, oW_g0, oW_p0, oW_g1, oW_p1, oW_g2, oW_p2, oB_ck, oB_g0, oB_p0, oB_g1, oB_p1, oB_g2, oB_p2, oB_g3, oB_p3, oB_g4, oB_p4, oB_g5, oB_p5, oB_g6, oB_p6, oC_ck, oC_g0, oC_p0, oC_g1, oC_p1, oC_g2, oC_p2, oC_g3, oC_p3, oC_g4, oC_p4, oC_g5, oC_p5, oC_g6, oC_p6, oH_ck, oH_g0, oH_p0, oH_g1, oH_p1, oH_g2, oH_p2, oH_g3, oH_p3, oM_ck, oM_g0, oM_p0, oM_g1, oM_p1, oM_g2, oM_p2, oM_g3, oM_p3, oM_g4, oM_p4, oM_g5, oM_p5, oM_g6, oM_p6, oM_g7, oM_p7, oM_g8, oM_p8, oM_g9, oM_p9, oM_g10, oM_p10, oM_g11, oM_p11, oM_g12, oM_p12, oM_g13, oM_p13, oM_g14, oM_p14, oM_g15, oM_p15, oM_g16, oM_p16, oM_g17, oM_p17, oM_g18, oM_p18, oM_g19, oM_p19, oM_g20, oM_p20, oM_g21, oM_p21, oM_g22, oM_p22, oM_g23, oM_p23, oM_g24, oM_p24, oM_g25, oM_p25, oM_g26, oM_p26, oM_g27, oM_p27, oM_g28, oM_p28, oM_g29, oM_p29, bv0, bv1, bv2, bw_o, bw_po, bw_k1, bw_k2, bw_k3, bw_k4, bw_r1, bw_r2, bw_r3, hS, nI_add, nlt (a := k + 1) (b := n) (by omega) (by omega), hlt, if_true, g1, g2, q, c]
    · rw [if_neg c]
      simp only [m92_6, m92_7, m92_8, m92_9, m92_12, m92_15, m92_16, m92_19, m92_20, m92_21, m92_22, m92_25, m92_26, m92_27, m92_28, m92_29, m92_34, m92_37, ob_some, pushr_s, pushr_n, iget_eq, gf_eq, pf_eq, ck_eq, alen_eq, rget_eq, iset_eq, Option.bind_some, Option.map_some, Option.elim_some, hput_at, ↓reduceIte, Nat.reduceEqDiff, Nat.reduceAdd, ne_eq, not_false_eq_true, oS_ck, oS_g0, oS_p0, oS_g1, oS_p1, oS_g2, oS_p2, oS_g3, oS_p3, oS_g4, oS_p4, oS_g5, oS_p5, oS_g6, oS_p6, oP_ck, oP_g0, oP_p0, oP_g1, oP_p1, oP_g2, oP_p2, oP_g3, oP_p3, oP_g4, oP_p4, oP_g5, oP_p5, oP_g6, oP_p6, oP_g7, oP_p7, oP_g8, oP_p8, oP_g9, oP_p9, oP_g10, oP_p10, oP_g11, oP_p11, oP_g12, oP_p12, oR_ck, oR_g0, oR_p0, oR_g1, oR_p1, oR_g2, oR_p2, oR_g3, oR_p3, oG_ck, oG_g0, oG_p0, oG_g1, oG_p1, oG_g2, oG_p2, oW_ck, oW_g0, oW_p0, oW_g1, oW_p1, oW_g2, oW_p2, oB_ck, oB_g0, oB_p0, oB_g1, oB_p1, oB_g2, oB_p2, oB_g3, oB_p3, oB_g4, oB_p4, oB_g5, oB_p5, oB_g6, oB_p6, oC_ck, oC_g0, oC_p0, oC_g1, oC_p1, oC_g2, oC_p2, oC_g3, oC_p3, oC_g4, oC_p4, oC_g5, oC_p5, oC_g6, oC_p6, oH_ck, oH_g0, oH_p0, oH_g1, oH_p1, oH_g2, oH_p2, oH_g3, oH_p3, oM_ck, oM_g0, oM_p0, oM_g1, oM_p1, oM_g2, oM_p2, oM_g3, oM_p3, oM_g4, oM_p4, oM_g5, oM_p5, oM_g6, oM_p6, oM_g7, oM_p7, oM_g8, oM_p8, oM_g9, oM_p9, oM_g10, oM_p10, oM_g11, oM_p11, oM_g12, oM_p12, oM_g13, oM_p13, oM_g14, oM_p14, oM_g15, oM_p15, oM_g16, oM_p16, oM_g17, oM_p17, oM_g18, oM_p18, oM_g19, oM_p19, oM_g20, oM_p20, oM_g21, oM_p21, oM_g22, oM_p22, oM_g23, oM_p23, oM_g24, oM_p24, oM_g25, oM_p25, oM_g26, oM_p26, oM_g27, oM_p27, oM_g28, oM_p28, oM_g29, oM_p29, bv0, bv1, bv2, bw_o, bw_po, bw_k1, bw_k2, bw_k3, bw_k4, bw_r1, bw_r2, bw_r3, hS, nI_add, nlt (a := k + 1) (b := n) (by omega) (by omega), hlt, if_true, g1, g2, q, c, if_false]
theorem next_h {p : Nat} (hn : n ≤ 6) (hS : S 2 = nI n) (hp : p + 1 < n) (hf : ∀ j, A 3 j < 100000) : ∀ r m, r + m = n - (p + 2) →
    Ev 92 (55, [some (.ref 39), some (.int (nI p)), some (.int (nI (hiF (A 3) p m))), some (.int (nI (p + 2 + m)))], [], z, bw h V S A) Q = Ev 92 (86, [some (.ref 39), some (.int (nI p)), some (.int (nI (hiF (A 3) p (n - (p + 2))))), some (.int (nI n))], [], z, bw h V S A) Q := by
  intro r
  induction r with
  | zero =>
    intro m hm
    have e : m = n - (p + 2) := by omega
    have e2 : p + 2 + m = n := by omega
    rw [e2, e, m92_55]
    simp only [m92_56, m92_57, m92_60, ob_some, pushr_s, pushr_n, iget_eq, gf_eq, pf_eq, ck_eq, alen_eq, rget_eq, iset_eq, Option.bind_some, Option.map_some, Option.elim_some, hput_at, ↓reduceIte, Nat.reduceEqDiff, Nat.reduceAdd, ne_eq, not_false_eq_true, oS_ck, oS_g0, oS_p0, oS_g1, oS_p1, oS_g2, oS_p2, oS_g3, oS_p3, oS_g4, oS_p4, oS_g5, oS_p5, oS_g6, oS_p6, oP_ck, oP_g0, oP_p0, oP_g1, oP_p1, oP_g2, oP_p2, oP_g3, oP_p3, oP_g4, oP_p4, oP_g5, oP_p5, oP_g6, oP_p6, oP_g7, oP_p7, oP_g8, oP_p8, oP_g9, oP_p9, oP_g10, oP_p10, oP_g11, oP_p11, oP_g12, oP_p12, oR_ck, oR_g0, oR_p0, oR_g1, oR_p1, oR_g2, oR_p2, oR_g3, oR_p3, oG_ck, oG_g0, oG_p0, oG_g1, oG_p1, oG_g2, oG_p2, oW_ck, oW_g0, oW_p0, oW_g1, oW_p1, oW_g2, oW_p2, oB_ck, oB_g0, oB_p0, oB_g1, oB_p1, oB_g2, oB_p2, oB_g3, oB_p3, oB_g4, oB_p4, oB_g5, oB_p5, oB_g6, oB_p6, oC_ck, oC_g0, oC_p0, oC_g1, oC_p1, oC_g2, oC_p2, oC_g3, oC_p3, oC_g4, oC_p4, oC_g5, oC_p5, oC_g6, oC_p6, oH_ck, oH_g0, oH_p0, oH_g1, oH_p1, oH_g2, oH_p2, oH_g3, oH_p3, oM_ck, oM_g0, oM_p0, oM_g1, oM_p1, oM_g2, oM_p2, oM_g3, oM_p3, oM_g4, oM_p4, oM_g5, oM_p5, oM_g6, oM_p6, oM_g7, oM_p7, oM_g8, oM_p8, oM_g9, oM_p9, oM_g10, oM_p10, oM_g11, oM_p11, oM_g12, oM_p12, oM_g13, oM_p13, oM_g14, oM_p14, oM_g15, oM_p15, oM_g16, oM_p16, oM_g17, oM_p17, oM_g18, oM_p18, oM_g19, oM_p19, oM_g20, oM_p20, oM_g21, oM_p21, oM_g22, oM_p22, oM_g23, oM_p23, oM_g24, oM_p24, oM_g25, oM_p25, oM_g26, oM_p26, oM_g27, oM_p27, oM_g28, oM_p28, oM_g29, oM_p29, bv0, bv1, bv2, bw_o, bw_po, bw_k1, bw_k2, bw_k3, bw_k4, bw_r1, bw_r2, bw_r3, hS, nlt (a := n) (b := n) (by omega) (by omega), Nat.lt_irrefl, if_false]
  | succ r ih =>
    intro m hm
    have hlt : p + 2 + m < n := by omega
    have ihk := ih (m + 1) (by omega)
    have g1 := igE_AI (n := 6) (j := p) (A 3) (by omega) (by decide)
    have g2 := igE_AI (n := 6) (j := p + 2 + m) (A 3) (by omega) (by decide)
    have q := nlt (a := A 3 p) (b := A 3 (p + 2 + m)) (by have := hf p; omega) (by have := hf (p + 2 + m); omega)
    rw [← ihk, hiF, m92_55]
    by_cases c : A 3 p < A 3 (p + 2 + m)
    · rw [if_pos c]
      simp only [m92_56, m92_57, m92_60, m92_63, m92_64, m92_67, m92_68, m92_69, m92_70, m92_73, m92_74, m92_75, m92_78, m92_79, m92_80, m92_83, ob_some, pushr_s, pushr_n, iget_eq, gf_eq, pf_eq, ck_eq, alen_eq, rget_eq, iset_eq, Option.bind_some, Option.map_some, Option.elim_some, hput_at, ↓reduceIte, Nat.reduceEqDiff, Nat.reduceAdd, ne_eq, not_false_eq_true, oS_ck, oS_g0, oS_p0, oS_g1, oS_p1, oS_g2, oS_p2, oS_g3, oS_p3, oS_g4, oS_p4, oS_g5, oS_p5, oS_g6, oS_p6, oP_ck, oP_g0, oP_p0, oP_g1, oP_p1, oP_g2, oP_p2, oP_g3, oP_p3, oP_g4, oP_p4, oP_g5, oP_p5, oP_g6, oP_p6, oP_g7, oP_p7, oP_g8, oP_p8, oP_g9, oP_p9, oP_g10, oP_p10, oP_g11, oP_p11, oP_g12, oP_p12, oR_ck, oR_g0, oR_p0, oR_g1, oR_p1, oR_g2, oR_p2, oR_g3, oR_p3, oG_ck, oG_g0, oG_p0, oG_g1, oG_p1, oG_g2, oG_p2, oW_ck, oW_g0, oW_p0, oW_g1, oW_p1, oW_g2, oW_p2, oB_ck, oB_g0, oB_p0, oB_g1, oB_p1, oB_g2, oB_p2, oB_g3, oB_p3, oB_g4, oB_p4, oB_g5, oB_p5, oB_g6, oB_p6, oC_ck, oC_g0, oC_p0, oC_g1, oC_p1, oC_g2, oC_p2, oC_g3, oC_p3, oC_g4, oC_p4, oC_g5, oC_p5, oC_g6, oC_p6, oH_ck, oH_g0, oH_p0, oH_g1, oH_p1, oH_g2, oH_p2, oH_g3, oH_p3, oM_ck, oM_g0, oM_p0, oM_g1, oM_p1, oM_g2, oM_p2, oM_g3, oM_p3, oM_g4, oM_p4, oM_g5, oM_p5, oM_g6, oM_p6, oM_g7, oM_p7, oM_g8, oM_p8, oM_g9, oM_p9, oM_g10, oM_p10, oM_g11, oM_p11, oM_g12, oM_p12, oM_g13, oM_p13, oM_g14, oM_p14, oM_g15, oM_p15, oM_g16, oM_p16, oM_g17, oM_p17, oM_g18, oM_p18, oM_g19, oM_p19, oM_g20, oM_p20, oM_g21, oM_p21, oM_g22, oM_p22, oM_g23, oM_p23, oM_g24, oM_p24, oM_g25, oM_p25, oM_g26, oM_p26, oM_g27, oM_p27, oM_g28, oM_p28, oM_g29, oM_p29, bv0, bv1, bv2, bw_o, bw_po, bw_k1, bw_k2, bw_k3, bw_k4, bw_r1, bw_r2, bw_r3, hS, nI_add, nlt (a := p + 2 + m) (b := n) (by omega) (by omega), hlt, if_true, g1, g2, q, c]
      rfl
    · rw [if_neg c]
      simp only [m92_56, m92_57, m92_60, m92_63, m92_64, m92_67, m92_68, m92_69, m92_70, m92_73, m92_74, m92_75, m92_80, m92_83, ob_some, pushr_s, pushr_n, iget_eq, gf_eq, pf_eq, ck_eq, alen_eq, rget_eq, iset_eq, Option.bind_some, Option.map_some, Option.elim_some, hput_at, ↓reduceIte, Nat.reduceEqDiff, Nat.reduceAdd, ne_eq, not_false_eq_true, oS_ck, oS_g0, oS_p0, oS_g1, oS_p1, oS_g2, oS_p2, oS_g3, oS_p3, oS_g4, oS_p4, oS_g5, oS_p5, oS_g6, oS_p6, oP_ck, oP_g0, oP_p0, oP_g1, oP_p1, oP_g2, oP_p2, oP_g3, oP_p3, oP_g4, oP_p4, oP_g5, oP_p5, oP_g6, oP_p6, oP_g7, oP_p7, oP_g8, oP_p8, oP_g9, oP_p9, oP_g10, oP_p10, oP_g11, oP_p11, oP_g12, oP_p12, oR_ck, oR_g0, oR_p0, oR_g1, oR_p1, oR_g2, oR_p2, oR_g3, oR_p3, oG_ck, oG_g0, oG_p0, oG_g1, oG_p1, oG_g2, oG_p2, oW_ck, oW_g0, oW_p0, oW_g1, oW_p1, oW_g2, oW_p2, oB_ck, oB_g0, oB_p0, oB_g1, oB_p1, oB_g2, oB_p2, oB_g3, oB_p3, oB_g4, oB_p4, oB_g5, oB_p5, oB_g6, oB_p6, oC_ck, oC_g0, oC_p0, oC_g1, oC_p1, oC_g2, oC_p2, oC_g3, oC_p3, oC_g4, oC_p4, oC_g5, oC_p5, oC_g6, oC_p6, oH_ck, oH_g0, oH_p0, oH_g1, oH_p1, oH_g2, oH_p2, oH_g3, oH_p3, oM_ck, oM_g0, oM_p0, oM_g1, oM_p1, oM_g2, oM_p2, oM_g3, oM_p3, oM_g4, oM_p4, oM_g5, oM_p5, oM_g6, oM_p6, oM_g7, oM_p7, oM_g8, oM_p8, oM_g9, oM_p9, oM_g10, oM_p10, oM_g11, oM_p11, oM_g12, oM_p12, oM_g13, oM_p13, oM_g14, oM_p14, oM_g15, oM_p15, oM_g16, oM_p16, oM_g17, oM_p17, oM_g18, oM_p18, oM_g19, oM_p19, oM_g20, oM_p20, oM_g21, oM_p21, oM_g22, oM_p22, oM_g23, oM_p23, oM_g24, oM_p24, oM_g25, oM_p25, oM_g26, oM_p26, oM_g27, oM_p27, oM_g28, oM_p28, oM_g29, oM_p29, bv0, bv1, bv2, bw_o, bw_po, bw_k1, bw_k2, bw_k3, bw_k4, bw_r1, bw_r2, bw_r3, hS, nI_add, nlt (a := p + 2 + m) (b := n) (by omega) (by omega), hlt, if_true, g1, g2, q, c, if_false]
      rfl
theorem nextOrder_eq (hn : n ≤ 6) (hS : S 2 = nI n) (hf : ∀ j, A 3 j < 100000) : Ev 92 (0, [some (.ref 39), none, none, none], [], z, bw h V S A) Q = Q (some (.int (cN4 (pvF (A 3) (n - 1))))) z (if pvF (A 3) (n - 1) = 10 then bw h V S A else bw h V S (fup A 3 (nxF n (pvF (A 3) (n - 1)) (A 3)))) := by
  have h1 := next_p (h := h) (V := V) z Q (p := none) hn hS hf (n - 1) 0 (by omega) none
  have e0 : pvF (A 3) 0 = 10 := rfl
  rw [e0, cN4_10] at h1
  have l40 : ((-4 : Int32) < nI 0) = True := eq_true (by decide)
  by_cases c : pvF (A 3) (n - 1) = 10
  · rw [if_pos c]
    rw [c, cN4_10] at h1 ⊢
    simp only [m92_0, m92_2, m92_3, m92_4, h1]
    simp only [m92_40, m92_41, m92_44, m92_46, l40, if_true]
  · rw [if_neg c]
    rcases pvF_spec (A 3) (n - 1) (by omega) with ⟨i1, i2⟩ | ⟨i1, i2, i3⟩
    · exact absurd i1 c
    · generalize pvF (A 3) (n - 1) = p at c h1 i1 i2 i3 ⊢
      rw [cN4_lt (by omega)] at h1 ⊢
      have lp : ¬ nI p < nI 0 := nI_not_neg (by omega)
      obtain ⟨b1, b2', b3, b4⟩ := hiF_spec i2 (n - (p + 2))
      have h2 := next_h (h := h) (V := V) z Q (p := p) hn hS (by omega) hf (n - (p + 2)) 0 (by omega)
      have hsw := fun Q => swap_eq (h := h) (V := V) (S := S) (A := A) z Q (a := p) (b := hiF (A 3) p (n - (p + 2))) (by omega) (by omega)
      have hso := fun Q => sort_eq (h := h) (V := V) (S := S) (A := fup A 3 (swF (A 3) p (hiF (A 3) p (n - (p + 2))))) z Q (up := true) (i := p + 1) hn hS (by omega) (fun j => swF_bd hf j)
      have f3 : ∀ f, fup A 3 f 3 = f := fun f => rfl
      have u : upI true = 1 := rfl
      have e2 : hiF (A 3) p 0 = p + 1 := rfl
      rw [e2, Nat.add_zero] at h2
      simp only [f3, fup_fup, u] at hso
      have e3 : soF true n (p + 1) (swF (A 3) p (hiF (A 3) p (n - (p + 2)))) = nxF n p (A 3) := rfl
      rw [e3] at hso
      simp only [m92_0, m92_2, m92_3, m92_4, h1]
      simp only [m92_40, m92_41, m92_47, m92_48, m92_49, m92_50, m92_51, m92_52, m92_53, m92_54, lp, if_false, nI_add, h2]
      simp only [m92_86, m92_87, m92_88, m92_89, m92_92, m92_93, m92_94, m92_95, m92_96, m92_97, m92_100, m92_101, ob_some, pushr_s, pushr_n, iget_eq, gf_eq, pf_eq, ck_eq, alen_eq, rget_eq, iset_eq, Option.bind_some, Option.map_some, Option.elim_some, hput_at, ↓reduceIte, Nat.reduceEqDiff, Nat.reduceAdd, ne_eq, not_false_eq_true, oS_ck, oS_g0, oS_p0, oS_g1, oS_p1, oS_g2, oS_p2, oS_g3, oS_p3, oS_g4, oS_p4, oS_g5, oS_p5, oS_g6, oS_p6, oP_ck, oP_g0, oP_p0, oP_g1, oP_p1, oP_g2, oP_p2, oP_g3, oP_p3, oP_g4, oP_p4, oP_g5, oP_p5, oP_g6, oP_p6, oP_g7, oP_p7, oP_g8, oP_p8, oP_g9, oP_p9, oP_g10, oP_p10, oP_g11, oP_p11, oP_g12, oP_p12, oR_ck, oR_g0, oR_p0, oR_g1, oR_p1, oR_g2, oR_p2, oR_g3, oR_p3, oG_ck, oG_g0, oG_p0, oG_g1, oG_p1, oG_g2, oG_p2, oW_ck, oW_g0, oW_p0, oW_g1, oW_p1, oW_g2, oW_p2, oB_ck, oB_g0, oB_p0, oB_g1, oB_p1, oB_g2, oB_p2, oB_g3, oB_p3, oB_g4, oB_p4, oB_g5, oB_p5, oB_g6, oB_p6, oC_ck, oC_g0, oC_p0, oC_g1, oC_p1, oC_g2, oC_p2, oC_g3, oC_p3, oC_g4, oC_p4, oC_g5, oC_p5, oC_g6, oC_p6, oH_ck, oH_g0, oH_p0, oH_g1, oH_p1, oH_g2, oH_p2, oH_g3, oH_p3, oM_ck, oM_g0, oM_p0, oM_g1, oM_p1, oM_g2, oM_p2, oM_g3, oM_p3, oM_g4, oM_p4, oM_g5, oM_p5, oM_g6, oM_p6, oM_g7, oM_p7, oM_g8, oM_p8, oM_g9, oM_p9, oM_g10, oM_p10, oM_g11, oM_p11, oM_g12, oM_p12, oM_g13, oM_p13, oM_g14, oM_p14, oM_g15, oM_p15, oM_g16, oM_p16, oM_g17, oM_p17, oM_g18, oM_p18, oM_g19, oM_p19, oM_g20, oM_p20, oM_g21, oM_p21, oM_g22, oM_p22, oM_g23, oM_p23, oM_g24, oM_p24, oM_g25, oM_p25, oM_g26, oM_p26, oM_g27, oM_p27, oM_g28, oM_p28, oM_g29, oM_p29, bv0, bv1, bv2, bw_o, bw_po, bw_k1, bw_k2, bw_k3, bw_k4, bw_r1, bw_r2, bw_r3, hsw, hso, nI_add]
end BEST
