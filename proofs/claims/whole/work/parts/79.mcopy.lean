/-! the reference: no siege, rows copied, kept and back -/
def wallF (b c : Nat) (f : Nat → Nat) : Nat → Nat := fun j => if 10 * b ≤ j ∧ j < 10 * b + c then 10 else f j
theorem wallF_0 (b : Nat) (f : Nat → Nat) : wallF b 0 f = f := by
  funext j
  exact if_neg (by omega)
theorem wallF_step (b c : Nat) (f : Nat → Nat) : fup (wallF b c f) (10 * b + c) 10 = wallF b (c + 1) f := by
  funext j
  rw [fup_at]
  unfold wallF
  by_cases q : j = 10 * b + c
  · rw [if_pos q, if_pos (by omega)]
  · rw [if_neg q]
    by_cases q2 : 10 * b ≤ j ∧ j < 10 * b + c
    · rw [if_pos q2, if_pos (by omega)]
    · rw [if_neg q2, if_neg (by omega)]
theorem mnoSiege_loop {h : Hp} {S : Nat → Int32} {A : Nat → Nat → Nat} {W : Mw} {b : Nat} (hb : b ≤ 1) (f : Nat → Nat) (z : Zc) (Q : Option Value → Zc → Hp → Prop) : ∀ n c, n + c = 10 → Ev 36 (30, [some (.ref 78), some (.int (nI b)), some (.int (nI c))], [], z, mset h S (fup A 9 (wallF b c f)) W) Q = Q none z (mset h S (fup A 9 (wallF b 10 f)) W) := by
  have f9 : ∀ f, fup A 9 f 9 = f := fun f => rfl
  intro n
  induction n with
  | zero =>
    intro c hc
    have e : c = 10 := by omega
    subst e
    rw [m36_30]
    simp only [m36_0, m36_1, m36_4, m36_5, m36_6, m36_7, m36_8, m36_11, m36_12, m36_13, m36_14, m36_15, m36_18, m36_19, m36_20, m36_21, m36_22, m36_25, m36_26, m36_27, m36_28, m36_29, m36_31, m36_33, m36_36, m36_37, m36_40, m36_42, m36_43, m36_44, m36_45, m36_46, m36_48, m36_49, m36_52, m36_55, nlt (a := 10) (b := 10) (by decide) (by decide), Nat.lt_irrefl, if_false]
  | succ n ih =>
    intro c hc
    have hlt : c < 10 := by omega
    have a1 := isE_AI (n := 20) (j := 10 * b + c) (wallF b c f) 10 (by omega) (by decide)
    have ihk := ih (c + 1) (by omega)
    rw [m36_30]
    simp only [m36_0, m36_1, m36_4, m36_5, m36_6, m36_7, m36_8, m36_11, m36_12, m36_13, m36_14, m36_15, m36_18, m36_19, m36_20, m36_21, m36_22, m36_25, m36_26, m36_27, m36_28, m36_29, m36_31, m36_33, m36_36, m36_37, m36_40, m36_42, m36_43, m36_44, m36_45, m36_46, m36_48, m36_49, m36_52, m36_55, ob_some, pushr_s, pushr_n, iget_eq, gf_eq, pf_eq, ck_eq, alen_eq, rget_eq, iset_eq, Option.bind_some, Option.map_some, Option.elim_some, hput_at, ↓reduceIte, Nat.reduceEqDiff, Nat.reduceAdd, ne_eq, not_false_eq_true, oS_ck, oS_g0, oS_p0, oS_g1, oS_p1, oS_g2, oS_p2, oS_g3, oS_p3, oS_g4, oS_p4, oS_g5, oS_p5, oS_g6, oS_p6, oP_ck, oP_g0, oP_p0, oP_g1, oP_p1, oP_g2, oP_p2, oP_g3, oP_p3, oP_g4, oP_p4, oP_g5, oP_p5, oP_g6, oP_p6, oP_g7, oP_p7, oP_g8, oP_p8, oP_g9, oP_p9, oP_g10, oP_p10, oP_g11, oP_p11, oP_g12, oP_p12, oR_ck, oR_g0, oR_p0, oR_g1, oR_p1, oR_g2, oR_p2, oR_g3, oR_p3, oG_ck, oG_g0, oG_p0, oG_g1, oG_p1, oG_g2, oG_p2, oW_ck, oW_g0, oW_p0, oW_g1, oW_p1, oW_g2, oW_p2, oB_ck, oB_g0, oB_p0, oB_g1, oB_p1, oB_g2, oB_p2, oB_g3, oB_p3, oB_g4, oB_p4, oB_g5, oB_p5, oB_g6, oB_p6, oC_ck, oC_g0, oC_p0, oC_g1, oC_p1, oC_g2, oC_p2, oC_g3, oC_p3, oC_g4, oC_p4, oC_g5, oC_p5, oC_g6, oC_p6, oH_ck, oH_g0, oH_p0, oH_g1, oH_p1, oH_g2, oH_p2, oH_g3, oH_p3, oM_ck, oM_g0, oM_p0, oM_g1, oM_p1, oM_g2, oM_p2, oM_g3, oM_p3, oM_g4, oM_p4, oM_g5, oM_p5, oM_g6, oM_p6, oM_g7, oM_p7, oM_g8, oM_p8, oM_g9, oM_p9, oM_g10, oM_p10, oM_g11, oM_p11, oM_g12, oM_p12, oM_g13, oM_p13, oM_g14, oM_p14, oM_g15, oM_p15, oM_g16, oM_p16, oM_g17, oM_p17, oM_g18, oM_p18, oM_g19, oM_p19, oM_g20, oM_p20, oM_g21, oM_p21, oM_g22, oM_p22, oM_g23, oM_p23, oM_g24, oM_p24, oM_g25, oM_p25, oM_g26, oM_p26, oM_g27, oM_p27, oM_g28, oM_p28, oM_g29, oM_p29, mv0, mv1, mv2, mv3, mv4, mv5, mv6, mset_o, mset_po, mset_k1, mset_r1, mset_k2, mset_r2, mset_k3, mset_r3, mset_k4, mset_r4, mset_k5, mset_r5, mset_k6, mset_r6, mset_k7, mset_r7, mset_k8, mset_r8, mset_k9, mset_r9, mset_k10, mset_r10, mset_k11, mset_r11, mset_k12, mset_r12, mset_k13, mset_r13, mset_k14, mset_r14, mset_k15, mset_r15, mset_k16, mset_r16, mset_k17, mset_r17, mset_k18, mset_r18, mset_k19, mset_r19, mset_k20, mset_r20, mset_k21, mset_r21, mset_k22, mset_r22, mset_k23, mset_r23, nlt (a := c) (b := 10) (by omega) (by decide), hlt, if_true, pk_mul, nI_add, f9, a1, fup_fup, wallF_step]
    exact ihk
def nsA (A : Nat → Nat → Nat) (b : Nat) : Nat → Nat → Nat := fup (fup (fup (fup (fup A 2 (fup (A 2) b 0)) 6 (fup (A 6) b 0)) 10 (fup (A 10) b 2)) 11 (fup (A 11) b 0)) 9 (wallF b 10 (A 9))
theorem mnoSiege_eq {h : Hp} {S : Nat → Int32} {A : Nat → Nat → Nat} {W : Mw} {b : Nat} (hb : b ≤ 1) (z : Zc) (Q : Option Value → Zc → Hp → Prop) : Ev 36 (0, [some (.ref 78), some (.int (nI b)), none], [], z, mset h S A W) Q = Q none z (mset h S (nsA A b) W) := by
  have a0 := fun s v => isE_AI (n := 2) (j := b) s v (by omega) (by decide)
  have hl := mnoSiege_loop (h := h) (S := S) (A := fup (fup (fup (fup A 2 (fup (A 2) b 0)) 6 (fup (A 6) b 0)) 10 (fup (A 10) b 2)) 11 (fup (A 11) b 0)) (W := W) hb (A 9) z Q 10 0 rfl
  rw [wallF_0] at hl
  have e9 : fup (fup (fup (fup (fup A 2 (fup (A 2) b 0)) 6 (fup (A 6) b 0)) 10 (fup (A 10) b 2)) 11 (fup (A 11) b 0)) 9 (A 9) = fup (fup (fup (fup A 2 (fup (A 2) b 0)) 6 (fup (A 6) b 0)) 10 (fup (A 10) b 2)) 11 (fup (A 11) b 0) := by
    funext k
    rw [fup_at]
    split
    · rename_i q; rw [q]; rfl
    · rfl
  rw [e9] at hl
  have f6 : ∀ f, fup A 2 f 6 = A 6 := fun f => rfl
  have f10 : ∀ f g, fup (fup A 2 f) 6 g 10 = A 10 := fun f g => rfl
  have f11 : ∀ f g k, fup (fup (fup A 2 f) 6 g) 10 k 11 = A 11 := fun f g k => rfl
  unfold nsA
  refine Eq.trans ?_ hl
  simp only [m36_0, m36_1, m36_4, m36_5, m36_6, m36_7, m36_8, m36_11, m36_12, m36_13, m36_14, m36_15, m36_18, m36_19, m36_20, m36_21, m36_22, m36_25, m36_26, m36_27, m36_28, m36_29, m36_31, m36_33, m36_36, m36_37, m36_40, m36_42, m36_43, m36_44, m36_45, m36_46, m36_48, m36_49, m36_52, m36_55, ob_some, pushr_s, pushr_n, iget_eq, gf_eq, pf_eq, ck_eq, alen_eq, rget_eq, iset_eq, Option.bind_some, Option.map_some, Option.elim_some, hput_at, ↓reduceIte, Nat.reduceEqDiff, Nat.reduceAdd, ne_eq, not_false_eq_true, oS_ck, oS_g0, oS_p0, oS_g1, oS_p1, oS_g2, oS_p2, oS_g3, oS_p3, oS_g4, oS_p4, oS_g5, oS_p5, oS_g6, oS_p6, oP_ck, oP_g0, oP_p0, oP_g1, oP_p1, oP_g2, oP_p2, oP_g3, oP_p3, oP_g4, oP_p4, oP_g5, oP_p5, oP_g6, oP_p6, oP_g7, oP_p7, oP_g8, oP_p8, oP_g9, oP_p9, oP_g10, oP_p10, oP_g11, oP_p11, oP_g12, oP_p12, oR_ck, oR_g0, oR_p0, oR_g1, oR_p1, oR_g2, oR_p2, oR_g3, oR_p3, oG_ck, oG_g0, oG_p0, oG_g1, oG_p1, oG_g2, oG_p2, oW_ck, oW_g0, oW_p0, oW_g1, oW_p1, oW_g2, oW_p2, oB_ck, oB_g0, oB_p0, oB_g1, oB_p1, oB_g2, oB_p2, oB_g3, oB_p3, oB_g4, oB_p4, oB_g5, oB_p5, oB_g6, oB_p6, oC_ck, oC_g0, oC_p0, oC_g1, oC_p1, oC_g2, oC_p2, oC_g3, oC_p3, oC_g4, oC_p4, oC_g5, oC_p5, oC_g6, oC_p6, oH_ck, oH_g0, oH_p0, oH_g1, oH_p1, oH_g2, oH_p2, oH_g3, oH_p3, oM_ck, oM_g0, oM_p0, oM_g1, oM_p1, oM_g2, oM_p2, oM_g3, oM_p3, oM_g4, oM_p4, oM_g5, oM_p5, oM_g6, oM_p6, oM_g7, oM_p7, oM_g8, oM_p8, oM_g9, oM_p9, oM_g10, oM_p10, oM_g11, oM_p11, oM_g12, oM_p12, oM_g13, oM_p13, oM_g14, oM_p14, oM_g15, oM_p15, oM_g16, oM_p16, oM_g17, oM_p17, oM_g18, oM_p18, oM_g19, oM_p19, oM_g20, oM_p20, oM_g21, oM_p21, oM_g22, oM_p22, oM_g23, oM_p23, oM_g24, oM_p24, oM_g25, oM_p25, oM_g26, oM_p26, oM_g27, oM_p27, oM_g28, oM_p28, oM_g29, oM_p29, mv0, mv1, mv2, mv3, mv4, mv5, mv6, mset_o, mset_po, mset_k1, mset_r1, mset_k2, mset_r2, mset_k3, mset_r3, mset_k4, mset_r4, mset_k5, mset_r5, mset_k6, mset_r6, mset_k7, mset_r7, mset_k8, mset_r8, mset_k9, mset_r9, mset_k10, mset_r10, mset_k11, mset_r11, mset_k12, mset_r12, mset_k13, mset_r13, mset_k14, mset_r14, mset_k15, mset_r15, mset_k16, mset_r16, mset_k17, mset_r17, mset_k18, mset_r18, mset_k19, mset_r19, mset_k20, mset_r20, mset_k21, mset_r21, mset_k22, mset_r22, mset_k23, mset_r23, a0, f6, f10, f11]
/-- m places from m * a on put at m * b, the first n of them -/
def copyF (m a b n : Nat) (f : Nat → Nat) : Nat → Nat := fun j => if m * b ≤ j ∧ j < m * b + n then f (m * a + (j - m * b)) else f j
theorem copyF_0 (m a b : Nat) (f : Nat → Nat) : copyF m a b 0 f = f := by
  funext j
  exact if_neg (by omega)
theorem copyF_in {m a b n j : Nat} (f : Nat → Nat) (h : j < n) : copyF m a b n f (m * b + j) = f (m * a + j) := by
  unfold copyF
  rw [if_pos (by omega), Nat.add_sub_cancel_left]
theorem copyF_out {m a b n j : Nat} (f : Nat → Nat) (h : ¬ (m * b ≤ j ∧ j < m * b + n)) : copyF m a b n f j = f j := if_neg h
theorem copyF_step {m a b i : Nat} (f : Nat → Nat) (hd : ¬ (m * b ≤ m * a + i ∧ m * a + i < m * b + i)) : fup (copyF m a b i f) (m * b + i) (copyF m a b i f (m * a + i)) = copyF m a b (i + 1) f := by
  rw [copyF_out f hd]
  funext j
  rw [fup_at]
  unfold copyF
  by_cases q : j = m * b + i
  · rw [if_pos q, if_pos (by omega), q, Nat.add_sub_cancel_left]
  · rw [if_neg q]
    by_cases q2 : m * b ≤ j ∧ j < m * b + i
    · rw [if_pos q2, if_pos (by omega)]
    · rw [if_neg q2, if_neg (by omega)]
theorem mcopy_loop2 {h : Hp} {S : Nat → Int32} {A : Nat → Nat → Nat} {W : Mw} {a b : Nat} (ha : a ≤ 3) (hb : b ≤ 3) (hab : a ≠ b) (f : Nat → Nat) (z : Zc) (Q : Option Value → Zc → Hp → Prop) : ∀ n i, n + i = 3 → Ev 44 (38, [some (.ref 78), some (.int (nI a)), some (.int (nI b)), some (.int (nI i))], [], z, mset h S (fup A 14 (copyF 3 a b i f)) W) Q = Q none z (mset h S (fup A 14 (copyF 3 a b 3 f)) W) := by
  have f9 : ∀ f, fup A 14 f 14 = f := fun f => rfl
  intro n
  induction n with
  | zero =>
    intro i hi
    have e : i = 3 := by omega
    subst e
    rw [m44_38]
    simp only [m44_0, m44_1, m44_3, m44_5, m44_8, m44_9, m44_12, m44_14, m44_15, m44_16, m44_17, m44_18, m44_19, m44_22, m44_24, m44_25, m44_26, m44_27, m44_28, m44_29, m44_30, m44_33, m44_36, m44_37, m44_39, m44_40, m44_43, m44_44, m44_47, m44_48, m44_49, m44_50, m44_51, m44_52, m44_53, m44_56, m44_57, m44_58, m44_59, m44_60, m44_61, m44_62, m44_63, m44_66, m44_69, nlt (a := 3) (b := 3) (by decide) (by decide), Nat.lt_irrefl, if_false]
  | succ n ih =>
    intro i hi
    have hlt : i < 3 := by omega
    have g1 := igE_AI (n := 12) (j := 3 * a + i) (copyF 3 a b i f) (by omega) (by decide)
    have a1 := fun v => isE_AI (n := 12) (j := 3 * b + i) (copyF 3 a b i f) v (by omega) (by decide)
    have es := copyF_step (m := 3) (a := a) (b := b) (i := i) f (by omega)
    have ihk := ih (i + 1) (by omega)
    rw [m44_38]
    simp only [m44_0, m44_1, m44_3, m44_5, m44_8, m44_9, m44_12, m44_14, m44_15, m44_16, m44_17, m44_18, m44_19, m44_22, m44_24, m44_25, m44_26, m44_27, m44_28, m44_29, m44_30, m44_33, m44_36, m44_37, m44_39, m44_40, m44_43, m44_44, m44_47, m44_48, m44_49, m44_50, m44_51, m44_52, m44_53, m44_56, m44_57, m44_58, m44_59, m44_60, m44_61, m44_62, m44_63, m44_66, m44_69, ob_some, pushr_s, pushr_n, iget_eq, gf_eq, pf_eq, ck_eq, alen_eq, rget_eq, iset_eq, Option.bind_some, Option.map_some, Option.elim_some, hput_at, ↓reduceIte, Nat.reduceEqDiff, Nat.reduceAdd, ne_eq, not_false_eq_true, oS_ck, oS_g0, oS_p0, oS_g1, oS_p1, oS_g2, oS_p2, oS_g3, oS_p3, oS_g4, oS_p4, oS_g5, oS_p5, oS_g6, oS_p6, oP_ck, oP_g0, oP_p0, oP_g1, oP_p1, oP_g2, oP_p2, oP_g3, oP_p3, oP_g4, oP_p4, oP_g5, oP_p5, oP_g6, oP_p6, oP_g7, oP_p7, oP_g8, oP_p8, oP_g9, oP_p9, oP_g10, oP_p10, oP_g11, oP_p11, oP_g12, oP_p12, oR_ck, oR_g0, oR_p0, oR_g1, oR_p1, oR_g2, oR_p2, oR_g3, oR_p3, oG_ck, oG_g0, oG_p0, oG_g1, oG_p1, oG_g2, oG_p2, oW_ck, oW_g0, oW_p0, oW_g1, oW_p1, oW_g2, oW_p2, oB_ck, oB_g0, oB_p0, oB_g1, oB_p1, oB_g2, oB_p2, oB_g3, oB_p3, oB_g4, oB_p4, oB_g5, oB_p5, oB_g6, oB_p6, oC_ck, oC_g0, oC_p0, oC_g1, oC_p1, oC_g2, oC_p2, oC_g3, oC_p3, oC_g4, oC_p4, oC_g5, oC_p5, oC_g6, oC_p6, oH_ck, oH_g0, oH_p0, oH_g1, oH_p1, oH_g2, oH_p2, oH_g3, oH_p3, oM_ck, oM_g0, oM_p0, oM_g1, oM_p1, oM_g2, oM_p2, oM_g3, oM_p3, oM_g4, oM_p4, oM_g5, oM_p5, oM_g6, oM_p6, oM_g7, oM_p7, oM_g8, oM_p8, oM_g9, oM_p9, oM_g10, oM_p10, oM_g11, oM_p11, oM_g12, oM_p12, oM_g13, oM_p13, oM_g14, oM_p14, oM_g15, oM_p15, oM_g16, oM_p16, oM_g17, oM_p17, oM_g18, oM_p18, oM_g19, oM_p19, oM_g20, oM_p20, oM_g21, oM_p21, oM_g22, oM_p22, oM_g23, oM_p23, oM_g24, oM_p24, oM_g25, oM_p25, oM_g26, oM_p26, oM_g27, oM_p27, oM_g28, oM_p28, oM_g29, oM_p29, mv0, mv1, mv2, mv3, mv4, mv5, mv6, mset_o, mset_po, mset_k1, mset_r1, mset_k2, mset_r2, mset_k3, mset_r3, mset_k4, mset_r4, mset_k5, mset_r5, mset_k6, mset_r6, mset_k7, mset_r7, mset_k8, mset_r8, mset_k9, mset_r9, mset_k10, mset_r10, mset_k11, mset_r11, mset_k12, mset_r12, mset_k13, mset_r13, mset_k14, mset_r14, mset_k15, mset_r15, mset_k16, mset_r16, mset_k17, mset_r17, mset_k18, mset_r18, mset_k19, mset_r19, mset_k20, mset_r20, mset_k21, mset_r21, mset_k22, mset_r22, mset_k23, mset_r23, nlt (a := i) (b := 3) (by omega) (by decide), hlt, if_true, pk_mul, nI_add, f9, g1, a1, fup_fup, es]
    exact ihk
theorem mcopy_loop1 {h : Hp} {S : Nat → Int32} {A : Nat → Nat → Nat} {W : Mw} {a b : Nat} (ha : a ≤ 3) (hb : b ≤ 3) (hab : a ≠ b) (f : Nat → Nat) (z : Zc) (Q : Option Value → Zc → Hp → Prop) : ∀ n i, n + i = 6 → Ev 44 (2, [some (.ref 78), some (.int (nI a)), some (.int (nI b)), some (.int (nI i))], [], z, mset h S (fup A 13 (copyF 6 a b i f)) W) Q = Ev 44 (36, [some (.ref 78), some (.int (nI a)), some (.int (nI b)), some (.int (nI 6))], [], z, mset h S (fup A 13 (copyF 6 a b 6 f)) W) Q := by
  have f9 : ∀ f, fup A 13 f 13 = f := fun f => rfl
  intro n
  induction n with
  | zero =>
    intro i hi
    have e : i = 6 := by omega
    subst e
    rw [m44_2]
    simp only [m44_3, m44_5, nlt (a := 6) (b := 6) (by decide) (by decide), Nat.lt_irrefl, if_false]
  | succ n ih =>
    intro i hi
    have hlt : i < 6 := by omega
    have g1 := igE_AI (n := 24) (j := 6 * a + i) (copyF 6 a b i f) (by omega) (by decide)
    have a1 := fun v => isE_AI (n := 24) (j := 6 * b + i) (copyF 6 a b i f) v (by omega) (by decide)
    have es := copyF_step (m := 6) (a := a) (b := b) (i := i) f (by omega)
    have ihk := ih (i + 1) (by omega)
    rw [m44_2]
    simp only [m44_3, m44_5, m44_8, m44_9, m44_12, m44_14, m44_15, m44_16, m44_17, m44_18, m44_19, m44_22, m44_24, m44_25, m44_26, m44_27, m44_28, m44_29, m44_30, m44_33, ob_some, pushr_s, pushr_n, iget_eq, gf_eq, pf_eq, ck_eq, alen_eq, rget_eq, iset_eq, Option.bind_some, Option.map_some, Option.elim_some, hput_at, ↓reduceIte, Nat.reduceEqDiff, Nat.reduceAdd, ne_eq, not_false_eq_true, oS_ck, oS_g0, oS_p0, oS_g1, oS_p1, oS_g2, oS_p2, oS_g3, oS_p3, oS_g4, oS_p4, oS_g5, oS_p5, oS_g6, oS_p6, oP_ck, oP_g0, oP_p0, oP_g1, oP_p1, oP_g2, oP_p2, oP_g3, oP_p3, oP_g4, oP_p4, oP_g5, oP_p5, oP_g6, oP_p6, oP_g7, oP_p7, oP_g8, oP_p8, oP_g9, oP_p9, oP_g10, oP_p10, oP_g11, oP_p11, oP_g12, oP_p12, oR_ck, oR_g0, oR_p0, oR_g1, oR_p1, oR_g2, oR_p2, oR_g3, oR_p3, oG_ck, oG_g0, oG_p0, oG_g1, oG_p1, oG_g2, oG_p2, oW_ck, oW_g0, oW_p0, oW_g1, oW_p1, oW_g2, oW_p2, oB_ck, oB_g0, oB_p0, oB_g1, oB_p1, oB_g2, oB_p2, oB_g3, oB_p3, oB_g4, oB_p4, oB_g5, oB_p5, oB_g6, oB_p6, oC_ck, oC_g0, oC_p0, oC_g1, oC_p1, oC_g2, oC_p2, oC_g3, oC_p3, oC_g4, oC_p4, oC_g5, oC_p5, oC_g6, oC_p6, oH_ck, oH_g0, oH_p0, oH_g1, oH_p1, oH_g2, oH_p2, oH_g3, oH_p3, oM_ck, oM_g0, oM_p0, oM_g1, oM_p1, oM_g2, oM_p2, oM_g3, oM_p3, oM_g4, oM_p4, oM_g5, oM_p5, oM_g6, oM_p6, oM_g7, oM_p7, oM_g8, oM_p8, oM_g9, oM_p9, oM_g10, oM_p10, oM_g11, oM_p11, oM_g12, oM_p12, oM_g13, oM_p13, oM_g14, oM_p14, oM_g15, oM_p15, oM_g16, oM_p16, oM_g17, oM_p17, oM_g18, oM_p18, oM_g19, oM_p19, oM_g20, oM_p20, oM_g21, oM_p21, oM_g22, oM_p22, oM_g23, oM_p23, oM_g24, oM_p24, oM_g25, oM_p25, oM_g26, oM_p26, oM_g27, oM_p27, oM_g28, oM_p28, oM_g29, oM_p29, mv0, mv1, mv2, mv3, mv4, mv5, mv6, mset_o, mset_po, mset_k1, mset_r1, mset_k2, mset_r2, mset_k3, mset_r3, mset_k4, mset_r4, mset_k5, mset_r5, mset_k6, mset_r6, mset_k7, mset_r7, mset_k8, mset_r8, mset_k9, mset_r9, mset_k10, mset_r10, mset_k11, mset_r11, mset_k12, mset_r12, mset_k13, mset_r13, mset_k14, mset_r14, mset_k15, mset_r15, mset_k16, mset_r16, mset_k17, mset_r17, mset_k18, mset_r18, mset_k19, mset_r19, mset_k20, mset_r20, mset_k21, mset_r21, mset_k22, mset_r22, mset_k23, mset_r23, nlt (a := i) (b := 6) (by omega) (by decide), hlt, if_true, pk_mul, nI_add, f9, g1, a1, fup_fup, es]
    exact ihk
def cpA (A : Nat → Nat → Nat) (a b : Nat) : Nat → Nat → Nat := fup (fup A 13 (copyF 6 a b 6 (A 13))) 14 (copyF 3 a b 3 (A 14))
theorem mcopy_eq {h : Hp} {S : Nat → Int32} {A : Nat → Nat → Nat} {W : Mw} {a b : Nat} (ha : a ≤ 3) (hb : b ≤ 3) (hab : a ≠ b) (z : Zc) (Q : Option Value → Zc → Hp → Prop) : Ev 44 (0, [some (.ref 78), some (.int (nI a)), some (.int (nI b)), none], [], z, mset h S A W) Q = Q none z (mset h S (cpA A a b) W) := by
  have h1 := mcopy_loop1 (h := h) (S := S) (A := A) (W := W) ha hb hab (A 13) z Q 6 0 rfl
  have h2 := mcopy_loop2 (h := h) (S := S) (A := fup A 13 (copyF 6 a b 6 (A 13))) (W := W) ha hb hab (A 14) z Q 3 0 rfl
  rw [copyF_0] at h1 h2
  have e1 : fup A 13 (A 13) = A := fup_id A 13
  have e2 : fup (fup A 13 (copyF 6 a b 6 (A 13))) 14 (A 14) = fup A 13 (copyF 6 a b 6 (A 13)) := by
    funext k
    rw [fup_at]
    split
    · rename_i q; rw [q]; rfl
    · rfl
  rw [e1] at h1
  rw [e2] at h2
  unfold cpA
  rw [← h2]
  simp only [m44_0, m44_1, h1]
  simp only [m44_36, m44_37]
theorem mkeep_good {h : Hp} {S : Nat → Int32} {A : Nat → Nat → Nat} {W : Mw} {k : Nat} (hk : S 1 = nI k) (hk2 : k < 2) (z : Zc) (Q : Option Value → Zc → Hp → Prop) : Ev 82 (0, [some (.ref 78)], [], z, mset h S A W) Q = Q (some (.int (nI (k + 1)))) z (mset h (mv (S 0) (nI (k + 1)) (S 2) (S 3) (S 4) (S 5) (S 6)) (cpA A 0 (1 + (k + 1))) W) := by
  have n0 : (nI k = nI 2) = False := by rw [neq (by omega) (by decide)]; exact eq_false (by omega)
  have hc := fun S Q => mcopy_eq (h := h) (S := S) (A := A) (W := W) (a := 0) (b := 1 + (k + 1)) (by decide) (by omega) (by omega) z Q
  simp only [m82_0, m82_1, m82_4, m82_5, m82_8, m82_10, m82_11, m82_12, m82_13, m82_16, m82_17, m82_18, m82_21, m82_22, m82_23, m82_24, m82_25, m82_28, m82_29, m82_32, m82_33, m82_36, ob_some, pushr_s, pushr_n, iget_eq, gf_eq, pf_eq, ck_eq, alen_eq, rget_eq, iset_eq, Option.bind_some, Option.map_some, Option.elim_some, hput_at, ↓reduceIte, Nat.reduceEqDiff, Nat.reduceAdd, ne_eq, not_false_eq_true, oS_ck, oS_g0, oS_p0, oS_g1, oS_p1, oS_g2, oS_p2, oS_g3, oS_p3, oS_g4, oS_p4, oS_g5, oS_p5, oS_g6, oS_p6, oP_ck, oP_g0, oP_p0, oP_g1, oP_p1, oP_g2, oP_p2, oP_g3, oP_p3, oP_g4, oP_p4, oP_g5, oP_p5, oP_g6, oP_p6, oP_g7, oP_p7, oP_g8, oP_p8, oP_g9, oP_p9, oP_g10, oP_p10, oP_g11, oP_p11, oP_g12, oP_p12, oR_ck, oR_g0, oR_p0, oR_g1, oR_p1, oR_g2, oR_p2, oR_g3, oR_p3, oG_ck, oG_g0, oG_p0, oG_g1, oG_p1, oG_g2, oG_p2, oW_ck, oW_g0, oW_p0, oW_g1, oW_p1, oW_g2, oW_p2, oB_ck, oB_g0, oB_p0, oB_g1, oB_p1, oB_g2, oB_p2, oB_g3, oB_p3, oB_g4, oB_p4, oB_g5, oB_p5, oB_g6, oB_p6, oC_ck, oC_g0, oC_p0, oC_g1, oC_p1, oC_g2, oC_p2, oC_g3, oC_p3, oC_g4, oC_p4, oC_g5, oC_p5, oC_g6, oC_p6, oH_ck, oH_g0, oH_p0, oH_g1, oH_p1, oH_g2, oH_p2, oH_g3, oH_p3, oM_ck, oM_g0, oM_p0, oM_g1, oM_p1, oM_g2, oM_p2, oM_g3, oM_p3, oM_g4, oM_p4, oM_g5, oM_p5, oM_g6, oM_p6, oM_g7, oM_p7, oM_g8, oM_p8, oM_g9, oM_p9, oM_g10, oM_p10, oM_g11, oM_p11, oM_g12, oM_p12, oM_g13, oM_p13, oM_g14, oM_p14, oM_g15, oM_p15, oM_g16, oM_p16, oM_g17, oM_p17, oM_g18, oM_p18, oM_g19, oM_p19, oM_g20, oM_p20, oM_g21, oM_p21, oM_g22, oM_p22, oM_g23, oM_p23, oM_g24, oM_p24, oM_g25, oM_p25, oM_g26, oM_p26, oM_g27, oM_p27, oM_g28, oM_p28, oM_g29, oM_p29, mv0, mv1, mv2, mv3, mv4, mv5, mv6, mset_o, mset_po, mset_k1, mset_r1, mset_k2, mset_r2, mset_k3, mset_r3, mset_k4, mset_r4, mset_k5, mset_r5, mset_k6, mset_r6, mset_k7, mset_r7, mset_k8, mset_r8, mset_k9, mset_r9, mset_k10, mset_r10, mset_k11, mset_r11, mset_k12, mset_r12, mset_k13, mset_r13, mset_k14, mset_r14, mset_k15, mset_r15, mset_k16, mset_r16, mset_k17, mset_r17, mset_k18, mset_r18, mset_k19, mset_r19, mset_k20, mset_r20, mset_k21, mset_r21, mset_k22, mset_r22, mset_k23, mset_r23, hk, n0, if_false, nI_add, hc]
theorem mkeep_bad {h : Hp} {S : Nat → Int32} {A : Nat → Nat → Nat} {W : Mw} (hk : S 1 = nI 2) (z : Zc) (Q : Option Value → Zc → Hp → Prop) : Ev 82 (0, [some (.ref 78)], [], z, mset h S A W) Q = Q (some (.int (-3))) z (mset h S A W) := by
  simp only [m82_0, m82_1, m82_4, m82_5, m82_8, m82_10, m82_11, m82_12, m82_13, m82_16, m82_17, m82_18, m82_21, m82_22, m82_23, m82_24, m82_25, m82_28, m82_29, m82_32, m82_33, m82_36, ob_some, pushr_s, pushr_n, iget_eq, gf_eq, pf_eq, ck_eq, alen_eq, rget_eq, iset_eq, Option.bind_some, Option.map_some, Option.elim_some, hput_at, ↓reduceIte, Nat.reduceEqDiff, Nat.reduceAdd, ne_eq, not_false_eq_true, oS_ck, oS_g0, oS_p0, oS_g1, oS_p1, oS_g2, oS_p2, oS_g3, oS_p3, oS_g4, oS_p4, oS_g5, oS_p5, oS_g6, oS_p6, oP_ck, oP_g0, oP_p0, oP_g1, oP_p1, oP_g2, oP_p2, oP_g3, oP_p3, oP_g4, oP_p4, oP_g5, oP_p5, oP_g6, oP_p6, oP_g7, oP_p7, oP_g8, oP_p8, oP_g9, oP_p9, oP_g10, oP_p10, oP_g11, oP_p11, oP_g12, oP_p12, oR_ck, oR_g0, oR_p0, oR_g1, oR_p1, oR_g2, oR_p2, oR_g3, oR_p3, oG_ck, oG_g0, oG_p0, oG_g1, oG_p1, oG_g2, oG_p2, oW_ck, oW_g0, oW_p0, oW_g1, oW_p1, oW_g2, oW_p2, oB_ck, oB_g0, oB_p0, oB_g1, oB_p1, oB_g2, oB_p2, oB_g3, oB_p3, oB_g4, oB_p4, oB_g5, oB_p5, oB_g6, oB_p6, oC_ck, oC_g0, oC_p0, oC_g1, oC_p1, oC_g2, oC_p2, oC_g3, oC_p3, oC_g4, oC_p4, oC_g5, oC_p5, oC_g6, oC_p6, oH_ck, oH_g0, oH_p0, oH_g1, oH_p1, oH_g2, oH_p2, oH_g3, oH_p3, oM_ck, oM_g0, oM_p0, oM_g1, oM_p1, oM_g2, oM_p2, oM_g3, oM_p3, oM_g4, oM_p4, oM_g5, oM_p5, oM_g6, oM_p6, oM_g7, oM_p7, oM_g8, oM_p8, oM_g9, oM_p9, oM_g10, oM_p10, oM_g11, oM_p11, oM_g12, oM_p12, oM_g13, oM_p13, oM_g14, oM_p14, oM_g15, oM_p15, oM_g16, oM_p16, oM_g17, oM_p17, oM_g18, oM_p18, oM_g19, oM_p19, oM_g20, oM_p20, oM_g21, oM_p21, oM_g22, oM_p22, oM_g23, oM_p23, oM_g24, oM_p24, oM_g25, oM_p25, oM_g26, oM_p26, oM_g27, oM_p27, oM_g28, oM_p28, oM_g29, oM_p29, mv0, mv1, mv2, mv3, mv4, mv5, mv6, mset_o, mset_po, mset_k1, mset_r1, mset_k2, mset_r2, mset_k3, mset_r3, mset_k4, mset_r4, mset_k5, mset_r5, mset_k6, mset_r6, mset_k7, mset_r7, mset_k8, mset_r8, mset_k9, mset_r9, mset_k10, mset_r10, mset_k11, mset_r11, mset_k12, mset_r12, mset_k13, mset_r13, mset_k14, mset_r14, mset_k15, mset_r15, mset_k16, mset_r16, mset_k17, mset_r17, mset_k18, mset_r18, mset_k19, mset_r19, mset_k20, mset_r20, mset_k21, mset_r21, mset_k22, mset_r22, mset_k23, mset_r23, hk, if_true]
theorem mback_good {h : Hp} {S : Nat → Int32} {A : Nat → Nat → Nat} {W : Mw} {k : Nat} (hk : S 1 = nI (k + 1)) (hk2 : k < 2) (z : Zc) (Q : Option Value → Zc → Hp → Prop) : Ev 83 (0, [some (.ref 78)], [], z, mset h S A W) Q = Q (some (.int (nI k))) z (mset h (mv (S 0) (nI k) (nI 0) (S 3) (S 4) (S 5) (S 6)) (cpA A (1 + (k + 1)) 0) W) := by
  have n0 : (nI (k + 1) = nI 0) = False := by rw [neq (by omega) (by decide)]; exact eq_false (by omega)
  have hc := fun S Q => mcopy_eq (h := h) (S := S) (A := A) (W := W) (a := 1 + (k + 1)) (b := 0) (by omega) (by decide) (by omega) z Q
  have hs : nI (k + 1) - nI 1 = nI k := ksub k
  simp only [m83_0, m83_1, m83_4, m83_7, m83_9, m83_10, m83_11, m83_12, m83_13, m83_16, m83_17, m83_18, m83_21, m83_22, m83_23, m83_26, m83_27, m83_28, m83_31, m83_32, m83_33, m83_36, m83_37, m83_40, ob_some, pushr_s, pushr_n, iget_eq, gf_eq, pf_eq, ck_eq, alen_eq, rget_eq, iset_eq, Option.bind_some, Option.map_some, Option.elim_some, hput_at, ↓reduceIte, Nat.reduceEqDiff, Nat.reduceAdd, ne_eq, not_false_eq_true, oS_ck, oS_g0, oS_p0, oS_g1, oS_p1, oS_g2, oS_p2, oS_g3, oS_p3, oS_g4, oS_p4, oS_g5, oS_p5, oS_g6, oS_p6, oP_ck, oP_g0, oP_p0, oP_g1, oP_p1, oP_g2, oP_p2, oP_g3, oP_p3, oP_g4, oP_p4, oP_g5, oP_p5, oP_g6, oP_p6, oP_g7, oP_p7, oP_g8, oP_p8, oP_g9, oP_p9, oP_g10, oP_p10, oP_g11, oP_p11, oP_g12, oP_p12, oR_ck, oR_g0, oR_p0, oR_g1, oR_p1, oR_g2, oR_p2, oR_g3, oR_p3, oG_ck, oG_g0, oG_p0, oG_g1, oG_p1, oG_g2, oG_p2, oW_ck, oW_g0, oW_p0, oW_g1, oW_p1, oW_g2, oW_p2, oB_ck, oB_g0, oB_p0, oB_g1, oB_p1, oB_g2, oB_p2, oB_g3, oB_p3, oB_g4, oB_p4, oB_g5, oB_p5, oB_g6, oB_p6, oC_ck, oC_g0, oC_p0, oC_g1, oC_p1, oC_g2, oC_p2, oC_g3, oC_p3, oC_g4, oC_p4, oC_g5, oC_p5, oC_g6, oC_p6, oH_ck, oH_g0, oH_p0, oH_g1, oH_p1, oH_g2, oH_p2, oH_g3, oH_p3, oM_ck, oM_g0, oM_p0, oM_g1, oM_p1, oM_g2, oM_p2, oM_g3, oM_p3, oM_g4, oM_p4, oM_g5, oM_p5, oM_g6, oM_p6, oM_g7, oM_p7, oM_g8, oM_p8, oM_g9, oM_p9, oM_g10, oM_p10, oM_g11, oM_p11, oM_g12, oM_p12, oM_g13, oM_p13, oM_g14, oM_p14, oM_g15, oM_p15, oM_g16, oM_p16, oM_g17, oM_p17, oM_g18, oM_p18, oM_g19, oM_p19, oM_g20, oM_p20, oM_g21, oM_p21, oM_g22, oM_p22, oM_g23, oM_p23, oM_g24, oM_p24, oM_g25, oM_p25, oM_g26, oM_p26, oM_g27, oM_p27, oM_g28, oM_p28, oM_g29, oM_p29, mv0, mv1, mv2, mv3, mv4, mv5, mv6, mset_o, mset_po, mset_k1, mset_r1, mset_k2, mset_r2, mset_k3, mset_r3, mset_k4, mset_r4, mset_k5, mset_r5, mset_k6, mset_r6, mset_k7, mset_r7, mset_k8, mset_r8, mset_k9, mset_r9, mset_k10, mset_r10, mset_k11, mset_r11, mset_k12, mset_r12, mset_k13, mset_r13, mset_k14, mset_r14, mset_k15, mset_r15, mset_k16, mset_r16, mset_k17, mset_r17, mset_k18, mset_r18, mset_k19, mset_r19, mset_k20, mset_r20, mset_k21, mset_r21, mset_k22, mset_r22, mset_k23, mset_r23, hk, n0, if_false, nI_add, hc, hs]
theorem mback_bad {h : Hp} {S : Nat → Int32} {A : Nat → Nat → Nat} {W : Mw} (hk : S 1 = nI 0) (z : Zc) (Q : Option Value → Zc → Hp → Prop) : Ev 83 (0, [some (.ref 78)], [], z, mset h S A W) Q = Q (some (.int (-2))) z (mset h S A W) := by
  simp only [m83_0, m83_1, m83_4, m83_7, m83_9, m83_10, m83_11, m83_12, m83_13, m83_16, m83_17, m83_18, m83_21, m83_22, m83_23, m83_26, m83_27, m83_28, m83_31, m83_32, m83_33, m83_36, m83_37, m83_40, ob_some, pushr_s, pushr_n, iget_eq, gf_eq, pf_eq, ck_eq, alen_eq, rget_eq, iset_eq, Option.bind_some, Option.map_some, Option.elim_some, hput_at, ↓reduceIte, Nat.reduceEqDiff, Nat.reduceAdd, ne_eq, not_false_eq_true, oS_ck, oS_g0, oS_p0, oS_g1, oS_p1, oS_g2, oS_p2, oS_g3, oS_p3, oS_g4, oS_p4, oS_g5, oS_p5, oS_g6, oS_p6, oP_ck, oP_g0, oP_p0, oP_g1, oP_p1, oP_g2, oP_p2, oP_g3, oP_p3, oP_g4, oP_p4, oP_g5, oP_p5, oP_g6, oP_p6, oP_g7, oP_p7, oP_g8, oP_p8, oP_g9, oP_p9, oP_g10, oP_p10, oP_g11, oP_p11, oP_g12, oP_p12, oR_ck, oR_g0, oR_p0, oR_g1, oR_p1, oR_g2, oR_p2, oR_g3, oR_p3, oG_ck, oG_g0, oG_p0, oG_g1, oG_p1, oG_g2, oG_p2, oW_ck, oW_g0, oW_p0, oW_g1, oW_p1, oW_g2, oW_p2, oB_ck, oB_g0, oB_p0, oB_g1, oB_p1, oB_g2, oB_p2, oB_g3, oB_p3, oB_g4, oB_p4, oB_g5, oB_p5, oB_g6, oB_p6, oC_ck, oC_g0, oC_p0, oC_g1, oC_p1, oC_g2, oC_p2, oC_g3, oC_p3, oC_g4, oC_p4, oC_g5, oC_p5, oC_g6, oC_p6, oH_ck, oH_g0, oH_p0, oH_g1, oH_p1, oH_g2, oH_p2, oH_g3, oH_p3, oM_ck, oM_g0, oM_p0, oM_g1, oM_p1, oM_g2, oM_p2, oM_g3, oM_p3, oM_g4, oM_p4, oM_g5, oM_p5, oM_g6, oM_p6, oM_g7, oM_p7, oM_g8, oM_p8, oM_g9, oM_p9, oM_g10, oM_p10, oM_g11, oM_p11, oM_g12, oM_p12, oM_g13, oM_p13, oM_g14, oM_p14, oM_g15, oM_p15, oM_g16, oM_p16, oM_g17, oM_p17, oM_g18, oM_p18, oM_g19, oM_p19, oM_g20, oM_p20, oM_g21, oM_p21, oM_g22, oM_p22, oM_g23, oM_p23, oM_g24, oM_p24, oM_g25, oM_p25, oM_g26, oM_p26, oM_g27, oM_p27, oM_g28, oM_p28, oM_g29, oM_p29, mv0, mv1, mv2, mv3, mv4, mv5, mv6, mset_o, mset_po, mset_k1, mset_r1, mset_k2, mset_r2, mset_k3, mset_r3, mset_k4, mset_r4, mset_k5, mset_r5, mset_k6, mset_r6, mset_k7, mset_r7, mset_k8, mset_r8, mset_k9, mset_r9, mset_k10, mset_r10, mset_k11, mset_r11, mset_k12, mset_r12, mset_k13, mset_r13, mset_k14, mset_r14, mset_k15, mset_r15, mset_k16, mset_r16, mset_k17, mset_r17, mset_k18, mset_r18, mset_k19, mset_r19, mset_k20, mset_r20, mset_k21, mset_r21, mset_k22, mset_r22, mset_k23, mset_r23, hk, if_true]
