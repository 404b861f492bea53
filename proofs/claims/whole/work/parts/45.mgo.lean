/-! the reference: days -/
abbrev Mw : Type := Nat → Nat → Int64
def sX (S : Nat → Int32) (X : Dy) : Nat → Int32 := fun i => if i = 4 then nI X.1.2 else if i = 5 then dN X.2.1 else if i = 6 then cN4 X.2.2 else S i
def aX (A : Nat → Nat → Nat) (X : Dy) : Nat → Nat → Nat := fup A 17 X.1.1
def gX (h : Hp) (S : Nat → Int32) (A : Nat → Nat → Nat) (W : Mw) (X : Dy) : Hp := mset h (sX S X) (aX A X) W
theorem gX_of {h : Hp} {S S2 : Nat → Int32} {A A2 : Nat → Nat → Nat} {W : Mw} (X : Dy) (h4 : S2 4 = nI X.1.2) (h5 : S2 5 = dN X.2.1) (h6 : S2 6 = cN4 X.2.2) (hS : S2 0 = S 0 ∧ S2 1 = S 1 ∧ S2 2 = S 2 ∧ S2 3 = S 3) (h17 : A2 17 = X.1.1) (hA : ∀ k, k ≠ 17 → A2 k = A k) : mset h S2 A2 W = gX h S A W X := by
  obtain ⟨s0, s1, s2, s3⟩ := hS
  refine mset_congr h (fun i hi => ?_) (fun k k1 k9 => ?_) (fun _ _ => rfl)
  · have c : i = 0 ∨ i = 1 ∨ i = 2 ∨ i = 3 ∨ i = 4 ∨ i = 5 ∨ i = 6 := by omega
    rcases c with rfl | rfl | rfl | rfl | rfl | rfl | rfl <;> assumption
  · by_cases c : k = 17
    · subst c; exact h17
    · rw [hA k c]; exact (fup_ne _ _ c).symm
theorem gX_ch (h : Hp) (S : Nat → Int32) (A : Nat → Nat → Nat) (W : Mw) (X : Dy) : gX h S A W X = mset h (sX S X) (aX A X) W := rfl
theorem aX_17 (A : Nat → Nat → Nat) (X : Dy) : aX A X 17 = X.1.1 := rfl
theorem aX_6 (A : Nat → Nat → Nat) (X : Dy) : aX A X 6 = A 6 := rfl
theorem aX_9 (A : Nat → Nat → Nat) (X : Dy) : aX A X 9 = A 9 := rfl
theorem aX_4 (A : Nat → Nat → Nat) (X : Dy) : aX A X 4 = A 4 := rfl
theorem aX_7 (A : Nat → Nat → Nat) (X : Dy) : aX A X 7 = A 7 := rfl
theorem aX_8 (A : Nat → Nat → Nat) (X : Dy) : aX A X 8 = A 8 := rfl
theorem aX_13 (A : Nat → Nat → Nat) (X : Dy) : aX A X 13 = A 13 := rfl
theorem aX_10 (A : Nat → Nat → Nat) (X : Dy) : aX A X 10 = A 10 := rfl
theorem sX_4 (S : Nat → Int32) (X : Dy) : sX S X 4 = nI X.1.2 := rfl
theorem sX_5 (S : Nat → Int32) (X : Dy) : sX S X 5 = dN X.2.1 := rfl
theorem sX_6 (S : Nat → Int32) (X : Dy) : sX S X 6 = cN4 X.2.2 := rfl
theorem MP_aX (A : Nat → Nat → Nat) (X : Dy) : MP (aX A X) = MP A := rfl
theorem sheep_sub3 {a b : Nat} (ha : a < 100000) (hb : b < 100000) : (if nI b < nI a then nI a - nI b else nI 0) = nI (a - b) := by
  have e := nlt (a := b) (b := a) (by omega) (by omega)
  by_cases c : b < a
  · rw [if_pos (by rw [e]; exact c), pk_sub (by omega)]
  · rw [if_neg (by rw [e]; exact c), show a - b = 0 by omega]
theorem mweaken_eq {h : Hp} {S : Nat → Int32} {A : Nat → Nat → Nat} {W : Mw} {X : Dy} {c bl : Nat} (hc : c < 100) (hb : bl < 100000) (hs : c < 10 → X.1.1 c < 100000) (z : Zc) (Q : Option Value → Zc → Hp → Prop) : Ev 55 (0, [some (.ref 78), some (.int (nI c)), some (.int (nI bl))], [], z, gX h S A W X) Q = Q none z (gX h S A W ((weakS X.1.1 c bl, X.1.2), X.2)) := by
  have l1 := nlt (a := c) (b := 10) (by omega) (by decide)
  by_cases c1 : c < 10
  · have hs := hs c1
    have a1 := igE_AI (n := 10) (j := c) X.1.1 c1 (by decide)
    have a2 := isE_AI (n := 10) (j := c) X.1.1 (X.1.1 c - bl) c1 (by decide)
    have l2 := nlt (a := bl) (b := X.1.1 c) (by omega) (by omega)
    have e0 := sheep_sub3 hs hb
    have fin : Q none z (mset h (sX S X) (fup (aX A X) 17 (fup X.1.1 c (X.1.1 c - bl))) W) = Q none z (gX h S A W ((weakS X.1.1 c bl, X.1.2), X.2)) := by
      refine congrArg (Q none z) ?_
      exact gX_of _ rfl rfl rfl ⟨rfl, rfl, rfl, rfl⟩ (by show fup X.1.1 c (X.1.1 c - bl) = weakS X.1.1 c bl; exact (if_pos c1).symm) (fun k hk => by rw [fup_ne _ _ hk]; exact fup_ne _ _ hk)
    by_cases c2 : bl < X.1.1 c
    · have e1 : nI (X.1.1 c) - nI bl = nI (X.1.1 c - bl) := pk_sub (by omega)
      rw [← fin]
      simp only [gX_ch, m55_0, m55_1, m55_3, m55_6, m55_7, m55_10, m55_11, m55_12, m55_15, m55_16, m55_17, m55_18, m55_21, m55_22, m55_25, m55_26, m55_27, m55_28, m55_29, m55_32, m55_33, m55_34, ob_some, pushr_s, pushr_n, iget_eq, gf_eq, pf_eq, ck_eq, alen_eq, rget_eq, iset_eq, Option.bind_some, Option.map_some, Option.elim_some, hput_at, ↓reduceIte, Nat.reduceEqDiff, Nat.reduceAdd, ne_eq, not_false_eq_true, oS_ck, oS_g0, oS_p0, oS_g1, oS_p1, oS_g2, oS_p2, oS_g3, oS_p3, oS_g4, oS_p4, oS_g5, oS_p5, oS_g6, oS_p6, oP_ck, oP_g0, oP_p0, oP_g1, oP_p1, oP_g2, oP_p2, oP_g3, oP_p3, oP_g4, oP_p4, oP_g5, oP_p5, oP_g6, oP_p6, oP_g7, oP_p7, oP_g8, oP_p8, oP_g9, oP_p9, oP_g10, oP_p10, oP_g11, oP_p11, oP_g12, oP_p12, oR_ck, oR_g0, oR_p0, oR_g1, oR_p1, oR_g2, oR_p2, oR_g3, oR_p3, oG_ck, oG_g0, oG_p0, oG_g1, oG_p1, oG_g2, oG_p2, oW_ck, oW_g0, oW_p0, oW_g1, oW_p1, oW_g2, oW_p2, oB_ck, oB_g0, oB_p0, oB_g1, oB_p1, oB_g2, oB_p2, oB_g3, oB_p3, oB_g4, oB_p4, oB_g5, oB_p5, oB_g6, oB_p6, oC_ck, oC_g0, oC_p0, oC_g1, oC_p1, oC_g2, oC_p2, oC_g3, oC_p3, oC_g4, oC_p4, oC_g5, oC_p5, oC_g6, oC_p6, oH_ck, oH_g0, oH_p0, oH_g1, oH_p1, oH_g2, oH_p2, oH_g3, oH_p3, oM_ck, oM_g0, oM_p0, oM_g1, oM_p1, oM_g2, oM_p2, oM_g3, oM_p3, oM_g4, oM_p4, oM_g5, oM_p5, oM_g6, oM_p6, oM_g7, oM_p7, oM_g8, oM_p8, oM_g9, oM_p9, oM_g10, oM_p10, oM_g11, oM_p11, oM_g12, oM_p12, oM_g13, oM_p13, oM_g14, oM_p14, oM_g15, oM_p15, oM_g16, oM_p16, oM_g17, oM_p17, oM_g18, oM_p18, oM_g19, oM_p19, oM_g20, oM_p20, oM_g21, oM_p21, oM_g22, oM_p22, oM_g23, oM_p23, oM_g24, oM_p24, oM_g25, oM_p25, oM_g26, oM_p26, oM_g27, oM_p27, oM_g28, oM_p28, oM_g29, oM_p29, mv0, mv1, mv2, mv3, mv4, mv5, mv6, mset_o, mset_po, mset_k1, mset_r1, mset_k2, mset_r2, mset_k3, mset_r3, mset_k4, mset_r4, mset_k5, mset_r5, mset_k6, mset_r6, mset_k7, mset_r7, mset_k8, mset_r8, mset_k9, mset_r9, mset_k10, mset_r10, mset_k11, mset_r11, mset_k12, mset_r12, mset_k13, mset_r13, mset_k14, mset_r14, mset_k15, mset_r15, mset_k16, mset_r16, mset_k17, mset_r17, mset_k18, mset_r18, mset_k19, mset_r19, mset_k20, mset_r20, mset_k21, mset_r21, mset_k22, mset_r22, mset_k23, mset_r23, aX_17, aX_6, aX_9, aX_4, aX_7, aX_8, aX_13, aX_10, sX_4, sX_5, sX_6, l1, c1, if_true, a1, l2, c2, e1, a2]
    · have e1 : X.1.1 c - bl = 0 := by omega
      rw [e1] at a2 fin
      rw [← fin]
      simp only [gX_ch, m55_0, m55_1, m55_3, m55_6, m55_7, m55_10, m55_11, m55_12, m55_15, m55_16, m55_17, m55_18, m55_21, m55_22, m55_25, m55_26, m55_27, m55_28, m55_29, m55_32, m55_33, m55_34, ob_some, pushr_s, pushr_n, iget_eq, gf_eq, pf_eq, ck_eq, alen_eq, rget_eq, iset_eq, Option.bind_some, Option.map_some, Option.elim_some, hput_at, ↓reduceIte, Nat.reduceEqDiff, Nat.reduceAdd, ne_eq, not_false_eq_true, oS_ck, oS_g0, oS_p0, oS_g1, oS_p1, oS_g2, oS_p2, oS_g3, oS_p3, oS_g4, oS_p4, oS_g5, oS_p5, oS_g6, oS_p6, oP_ck, oP_g0, oP_p0, oP_g1, oP_p1, oP_g2, oP_p2, oP_g3, oP_p3, oP_g4, oP_p4, oP_g5, oP_p5, oP_g6, oP_p6, oP_g7, oP_p7, oP_g8, oP_p8, oP_g9, oP_p9, oP_g10, oP_p10, oP_g11, oP_p11, oP_g12, oP_p12, oR_ck, oR_g0, oR_p0, oR_g1, oR_p1, oR_g2, oR_p2, oR_g3, oR_p3, oG_ck, oG_g0, oG_p0, oG_g1, oG_p1, oG_g2, oG_p2, oW_ck, oW_g0, oW_p0, oW_g1, oW_p1, oW_g2, oW_p2, oB_ck, oB_g0, oB_p0, oB_g1, oB_p1, oB_g2, oB_p2, oB_g3, oB_p3, oB_g4, oB_p4, oB_g5, oB_p5, oB_g6, oB_p6, oC_ck, oC_g0, oC_p0, oC_g1, oC_p1, oC_g2, oC_p2, oC_g3, oC_p3, oC_g4, oC_p4, oC_g5, oC_p5, oC_g6, oC_p6, oH_ck, oH_g0, oH_p0, oH_g1, oH_p1, oH_g2, oH_p2, oH_g3, oH_p3, oM_ck, oM_g0, oM_p0, oM_g1, oM_p1, oM_g2, oM_p2, oM_g3, oM_p3, oM_g4, oM_p4, oM_g5, oM_p5, oM_g6, oM_p6, oM_g7, oM_p7, oM_g8, oM_p8, oM_g9, oM_p9, oM_g10, oM_p10, oM_g11, oM_p11, oM_g12, oM_p12, oM_g13, oM_p13, oM_g14, oM_p14, oM_g15, oM_p15, oM_g16, oM_p16, oM_g17, oM_p17, oM_g18, oM_p18, oM_g19, oM_p19, oM_g20, oM_p20, oM_g21, oM_p21, oM_g22, oM_p22, oM_g23, oM_p23, oM_g24, oM_p24, oM_g25, oM_p25, oM_g26, oM_p26, oM_g27, oM_p27, oM_g28, oM_p28, oM_g29, oM_p29, mv0, mv1, mv2, mv3, mv4, mv5, mv6, mset_o, mset_po, mset_k1, mset_r1, mset_k2, mset_r2, mset_k3, mset_r3, mset_k4, mset_r4, mset_k5, mset_r5, mset_k6, mset_r6, mset_k7, mset_r7, mset_k8, mset_r8, mset_k9, mset_r9, mset_k10, mset_r10, mset_k11, mset_r11, mset_k12, mset_r12, mset_k13, mset_r13, mset_k14, mset_r14, mset_k15, mset_r15, mset_k16, mset_r16, mset_k17, mset_r17, mset_k18, mset_r18, mset_k19, mset_r19, mset_k20, mset_r20, mset_k21, mset_r21, mset_k22, mset_r22, mset_k23, mset_r23, aX_17, aX_6, aX_9, aX_4, aX_7, aX_8, aX_13, aX_10, sX_4, sX_5, sX_6, l1, c1, if_true, if_false, a1, l2, c2, a2]
  · have e : weakS X.1.1 c bl = X.1.1 := if_neg c1
    rw [e]
    simp only [gX_ch, m55_0, m55_1, m55_3, m55_6, m55_7, m55_10, m55_11, m55_12, m55_15, m55_16, m55_17, m55_18, m55_21, m55_22, m55_25, m55_26, m55_27, m55_28, m55_29, m55_32, m55_33, m55_34, l1, c1, if_false]
set_option maxHeartbeats 1000000 in
theorem mthrow_eq {h : Hp} {S : Nat → Int32} {A : Nat → Nat → Nat} {W : Mw} {X : Dy} (hV : Valid (MP A)) {i : Nat} (hi : i < A 6 0) (hs : ∀ c, c < 10 → X.1.1 c < 100000) (hr : X.1.2 < 100000) (z : Zc) (Q : Option Value → Zc → Hp → Prop) : Ev 56 (0, [some (.ref 78), some (.int (nI i)), none, none, none], [], z, gX h S A W X) Q = Q none z (gX h S A W (strikeS (MP A) X.1 i (A 13 i), X.2)) := by
  have hV' := hV
  obtain ⟨v0, v1, v2, v3, v4, v5, v6, v7⟩ := hV
  obtain ⟨u1, u2, u3, u4, u5⟩ := v5 i hi
  have u1 : A 7 i < A 2 0 := u1
  have u4 : 1 ≤ A 13 i := u4
  have u5 : A 13 i ≤ 20 := u5
  have v0 : A 2 0 ≤ 3 := v0
  have v1 : A 6 0 ≤ 6 := v1
  have k3 : A 4 (A 7 i) ≤ 3 := (v4 (A 7 i) u1).2.2.2.1
  have hfar := fun Q => mfarOf_eq (h := h) (S := sX S X) (A := aX A X) (W := W) hV' (i := i) (w := A 13 i) hi u5 u4 z Q
  rw [MP_aX] at hfar
  have hfl := farN_le hV' hi (A 13 i)
  have hca := fun h Q => mcellOf_eq (far := farN (MP A) i (A 13 i)) (by omega) z h Q
  have a1 := igE_AI (n := 24) (j := i) (A 13) (by omega) (by decide)
  have a2 := igE_AI (n := 12) (j := i) (A 7) (by omega) (by decide)
  have a3 := igE_AI (n := 6) (j := A 7 i) (A 4) (by omega) (by decide)
  have l2 := neq (a := A 4 (A 7 i)) (b := 2) (by omega) (by decide)
  have hd2 : ¬ nI 2 = 0 := by decide
  by_cases hc : cellOf (farN (MP A) i (A 13 i)) = 10
  · have est : strikeS (MP A) X.1 i (A 13 i) = X.1 := if_pos hc
    rw [est]
    have l4 : (-4 : Int32) < nI 0 := by decide
    simp only [gX_ch, m56_0, m56_1, m56_2, m56_3, m56_6, m56_7, m56_8, m56_11, m56_12, m56_13, m56_16, m56_17, m56_18, m56_21, m56_22, m56_25, m56_26, m56_27, m56_28, m56_29, m56_30, m56_31, m56_33, m56_34, m56_35, m56_37, m56_40, m56_41, m56_44, m56_45, m56_48, m56_49, m56_50, m56_51, m56_52, m56_55, m56_56, m56_57, m56_58, m56_59, m56_61, m56_62, m56_63, m56_66, m56_67, m56_68, m56_71, m56_72, m56_75, m56_76, m56_77, m56_78, m56_81, ob_some, pushr_s, pushr_n, iget_eq, gf_eq, pf_eq, ck_eq, alen_eq, rget_eq, iset_eq, Option.bind_some, Option.map_some, Option.elim_some, hput_at, ↓reduceIte, Nat.reduceEqDiff, Nat.reduceAdd, ne_eq, not_false_eq_true, oS_ck, oS_g0, oS_p0, oS_g1, oS_p1, oS_g2, oS_p2, oS_g3, oS_p3, oS_g4, oS_p4, oS_g5, oS_p5, oS_g6, oS_p6, oP_ck, oP_g0, oP_p0, oP_g1, oP_p1, oP_g2, oP_p2, oP_g3, oP_p3, oP_g4, oP_p4, oP_g5, oP_p5, oP_g6, oP_p6, oP_g7, oP_p7, oP_g8, oP_p8, oP_g9, oP_p9, oP_g10, oP_p10, oP_g11, oP_p11, oP_g12, oP_p12, oR_ck, oR_g0, oR_p0, oR_g1, oR_p1, oR_g2, oR_p2, oR_g3, oR_p3, oG_ck, oG_g0, oG_p0, oG_g1, oG_p1, oG_g2, oG_p2, oW_ck, oW_g0, oW_p0, oW_g1, oW_p1, oW_g2, oW_p2, oB_ck, oB_g0, oB_p0, oB_g1, oB_p1, oB_g2, oB_p2, oB_g3, oB_p3, oB_g4, oB_p4, oB_g5, oB_p5, oB_g6, oB_p6, oC_ck, oC_g0, oC_p0, oC_g1, oC_p1, oC_g2, oC_p2, oC_g3, oC_p3, oC_g4, oC_p4, oC_g5, oC_p5, oC_g6, oC_p6, oH_ck, oH_g0, oH_p0, oH_g1, oH_p1, oH_g2, oH_p2, oH_g3, oH_p3, oM_ck, oM_g0, oM_p0, oM_g1, oM_p1, oM_g2, oM_p2, oM_g3, oM_p3, oM_g4, oM_p4, oM_g5, oM_p5, oM_g6, oM_p6, oM_g7, oM_p7, oM_g8, oM_p8, oM_g9, oM_p9, oM_g10, oM_p10, oM_g11, oM_p11, oM_g12, oM_p12, oM_g13, oM_p13, oM_g14, oM_p14, oM_g15, oM_p15, oM_g16, oM_p16, oM_g17, oM_p17, oM_g18, oM_p18, oM_g19, oM_p19, oM_g20, oM_p20, oM_g21, oM_p21, oM_g22, oM_p22, oM_g23, oM_p23, oM_g24, oM_p24, oM_g25, oM_p25, oM_g26, oM_p26, oM_g27, oM_p27, oM_g28, oM_p28, oM_g29, oM_p29, mv0, mv1, mv2, mv3, mv4, mv5, mv6, mset_o, mset_po, mset_k1, mset_r1, mset_k2, mset_r2, mset_k3, mset_r3, mset_k4, mset_r4, mset_k5, mset_r5, mset_k6, mset_r6, mset_k7, mset_r7, mset_k8, mset_r8, mset_k9, mset_r9, mset_k10, mset_r10, mset_k11, mset_r11, mset_k12, mset_r12, mset_k13, mset_r13, mset_k14, mset_r14, mset_k15, mset_r15, mset_k16, mset_r16, mset_k17, mset_r17, mset_k18, mset_r18, mset_k19, mset_r19, mset_k20, mset_r20, mset_k21, mset_r21, mset_k22, mset_r22, mset_k23, mset_r23, aX_17, aX_6, aX_9, aX_4, aX_7, aX_8, aX_13, aX_10, sX_4, sX_5, sX_6, a1, hfar, hca, hc, cN4_10, l4, if_true]
  · have hc10 : cellOf (farN (MP A) i (A 13 i)) < 10 := by have := cellOf_le (farN (MP A) i (A 13 i)); omega
    have l4 := cN4_lt hc10
    have l5 : ¬ nI (cellOf (farN (MP A) i (A 13 i))) < nI 0 := nI_not_neg (by omega)
    have hdv : nI (A 13 i + farN (MP A) i (A 13 i)) / nI 2 = nI ((A 13 i + farN (MP A) i (A 13 i)) / 2) := pk_div (by omega) (by decide) (by decide)
    have hdv2 : nI ((A 13 i + farN (MP A) i (A 13 i)) / 2) / nI 2 = nI ((A 13 i + farN (MP A) i (A 13 i)) / 2 / 2) := pk_div (by omega) (by decide) (by decide)
    have hwk := fun Q => mweaken_eq (h := h) (S := S) (A := A) (W := W) (X := X) (c := cellOf (farN (MP A) i (A 13 i))) (bl := (A 13 i + farN (MP A) i (A 13 i)) / 2) (by omega) (by omega) (fun hc => hs _ hc) z Q
    have hwk2 := fun Q => mweaken_eq (h := h) (S := S) (A := A) (W := W) (X := ((weakS X.1.1 (cellOf (farN (MP A) i (A 13 i))) ((A 13 i + farN (MP A) i (A 13 i)) / 2), X.1.2), X.2)) (c := cellOf (farN (MP A) i (A 13 i)) + 1) (bl := (A 13 i + farN (MP A) i (A 13 i)) / 2 / 2) (by omega) (by omega) (fun hc => by have := weakS_le X.1.1 (cellOf (farN (MP A) i (A 13 i))) ((A 13 i + farN (MP A) i (A 13 i)) / 2) (cellOf (farN (MP A) i (A 13 i)) + 1); have := hs _ hc; dsimp only; omega) z Q
    have fin : ∀ s, Q none z (mset h (mv (sX S ((s, X.1.2), X.2) 0) (sX S ((s, X.1.2), X.2) 1) (sX S ((s, X.1.2), X.2) 2) (sX S ((s, X.1.2), X.2) 3) (nI (X.1.2 + A 13 i)) (dN X.2.1) (cN4 X.2.2)) (aX A ((s, X.1.2), X.2)) W) = Q none z (gX h S A W ((s, X.1.2 + A 13 i), X.2)) := fun s => by
      refine congrArg (Q none z) ?_
      exact gX_of _ rfl rfl rfl ⟨rfl, rfl, rfl, rfl⟩ rfl (fun k hk => fup_ne _ _ hk)
    by_cases hk : A 4 (A 7 i) = 2
    · have est : strikeS (MP A) X.1 i (A 13 i) = (weakS (weakS X.1.1 (cellOf (farN (MP A) i (A 13 i))) ((A 13 i + farN (MP A) i (A 13 i)) / 2)) (cellOf (farN (MP A) i (A 13 i)) + 1) ((A 13 i + farN (MP A) i (A 13 i)) / 2 / 2), X.1.2 + A 13 i) := by
        unfold strikeS
        rw [if_neg hc]
        exact congrArg (fun q => (q, X.1.2 + A 13 i)) (if_pos hk)
      rw [est]
      simp only [gX_ch] at hwk hwk2
      simp only [gX_ch, m56_0, m56_1, m56_2, m56_3, m56_6, m56_7, m56_8, m56_11, m56_12, m56_13, m56_16, m56_17, m56_18, m56_21, m56_22, m56_25, m56_26, m56_27, m56_28, m56_29, m56_30, m56_31, m56_33, m56_34, m56_35, m56_37, m56_40, m56_41, m56_44, m56_45, m56_48, m56_49, m56_50, m56_51, m56_52, m56_55, m56_56, m56_57, m56_58, m56_59, m56_61, m56_62, m56_63, m56_66, m56_67, m56_68, m56_71, m56_72, m56_75, m56_76, m56_77, m56_78, m56_81, ob_some, pushr_s, pushr_n, iget_eq, gf_eq, pf_eq, ck_eq, alen_eq, rget_eq, iset_eq, Option.bind_some, Option.map_some, Option.elim_some, hput_at, ↓reduceIte, Nat.reduceEqDiff, Nat.reduceAdd, ne_eq, not_false_eq_true, oS_ck, oS_g0, oS_p0, oS_g1, oS_p1, oS_g2, oS_p2, oS_g3, oS_p3, oS_g4, oS_p4, oS_g5, oS_p5, oS_g6, oS_p6, oP_ck, oP_g0, oP_p0, oP_g1, oP_p1, oP_g2, oP_p2, oP_g3, oP_p3, oP_g4, oP_p4, oP_g5, oP_p5, oP_g6, oP_p6, oP_g7, oP_p7, oP_g8, oP_p8, oP_g9, oP_p9, oP_g10, oP_p10, oP_g11, oP_p11, oP_g12, oP_p12, oR_ck, oR_g0, oR_p0, oR_g1, oR_p1, oR_g2, oR_p2, oR_g3, oR_p3, oG_ck, oG_g0, oG_p0, oG_g1, oG_p1, oG_g2, oG_p2, oW_ck, oW_g0, oW_p0, oW_g1, oW_p1, oW_g2, oW_p2, oB_ck, oB_g0, oB_p0, oB_g1, oB_p1, oB_g2, oB_p2, oB_g3, oB_p3, oB_g4, oB_p4, oB_g5, oB_p5, oB_g6, oB_p6, oC_ck, oC_g0, oC_p0, oC_g1, oC_p1, oC_g2, oC_p2, oC_g3, oC_p3, oC_g4, oC_p4, oC_g5, oC_p5, oC_g6, oC_p6, oH_ck, oH_g0, oH_p0, oH_g1, oH_p1, oH_g2, oH_p2, oH_g3, oH_p3, oM_ck, oM_g0, oM_p0, oM_g1, oM_p1, oM_g2, oM_p2, oM_g3, oM_p3, oM_g4, oM_p4, oM_g5, oM_p5, oM_g6, oM_p6, oM_g7, oM_p7, oM_g8, oM_p8, oM_g9, oM_p9, oM_g10, oM_p10, oM_g11, oM_p11, oM_g12, oM_p12, oM_g13, oM_p13, oM_g14, oM_p14, oM_g15, oM_p15, oM_g16, oM_p16, oM_g17, oM_p17, oM_g18, oM_p18, oM_g19, oM_p19, oM_g20, oM_p20, oM_g21, oM_p21, oM_g22, oM_p22, oM_g23, oM_p23, oM_g24, oM_p24, oM_g25, oM_p25, oM_g26, oM_p26, oM_g27, oM_p27, oM_g28, oM_p28, oM_g29, oM_p29, mv0, mv1, mv2, mv3, mv4, mv5, mv6, mset_o, mset_po, mset_k1, mset_r1, mset_k2, mset_r2, mset_k3, mset_r3, mset_k4, mset_r4, mset_k5, mset_r5, mset_k6, mset_r6, mset_k7, mset_r7, mset_k8, mset_r8, mset_k9, mset_r9, mset_k10, mset_r10, mset_k11, mset_r11, mset_k12, mset_r12, mset_k13, mset_r13, mset_k14, mset_r14, mset_k15, mset_r15, mset_k16, mset_r16, mset_k17, mset_r17, mset_k18, mset_r18, mset_k19, mset_r19, mset_k20, mset_r20, mset_k21, mset_r21, mset_k22, mset_r22, mset_k23, mset_r23, aX_17, aX_6, aX_9, aX_4, aX_7, aX_8, aX_13, aX_10, sX_4, sX_5, sX_6, a1, a2, a3, hfar, hca, l4, l5, if_false, nI_add, hd2, hdv, hwk, l2, hk, if_true, hdv2, hwk2]
      exact fin _
    · have est : strikeS (MP A) X.1 i (A 13 i) = (weakS X.1.1 (cellOf (farN (MP A) i (A 13 i))) ((A 13 i + farN (MP A) i (A 13 i)) / 2), X.1.2 + A 13 i) := by
        unfold strikeS
        rw [if_neg hc]
        exact congrArg (fun q => (q, X.1.2 + A 13 i)) (if_neg hk)
      rw [est]
      simp only [gX_ch] at hwk
      simp only [gX_ch, m56_0, m56_1, m56_2, m56_3, m56_6, m56_7, m56_8, m56_11, m56_12, m56_13, m56_16, m56_17, m56_18, m56_21, m56_22, m56_25, m56_26, m56_27, m56_28, m56_29, m56_30, m56_31, m56_33, m56_34, m56_35, m56_37, m56_40, m56_41, m56_44, m56_45, m56_48, m56_49, m56_50, m56_51, m56_52, m56_55, m56_56, m56_57, m56_58, m56_59, m56_61, m56_62, m56_63, m56_66, m56_67, m56_68, m56_71, m56_72, m56_75, m56_76, m56_77, m56_78, m56_81, ob_some, pushr_s, pushr_n, iget_eq, gf_eq, pf_eq, ck_eq, alen_eq, rget_eq, iset_eq, Option.bind_some, Option.map_some, Option.elim_some, hput_at, ↓reduceIte, Nat.reduceEqDiff, Nat.reduceAdd, ne_eq, not_false_eq_true, oS_ck, oS_g0, oS_p0, oS_g1, oS_p1, oS_g2, oS_p2, oS_g3, oS_p3, oS_g4, oS_p4, oS_g5, oS_p5, oS_g6, oS_p6, oP_ck, oP_g0, oP_p0, oP_g1, oP_p1, oP_g2, oP_p2, oP_g3, oP_p3, oP_g4, oP_p4, oP_g5, oP_p5, oP_g6, oP_p6, oP_g7, oP_p7, oP_g8, oP_p8, oP_g9, oP_p9, oP_g10, oP_p10, oP_g11, oP_p11, oP_g12, oP_p12, oR_ck, oR_g0, oR_p0, oR_g1, oR_p1, oR_g2, oR_p2, oR_g3, oR_p3, oG_ck, oG_g0, oG_p0, oG_g1, oG_p1, oG_g2, oG_p2, oW_ck, oW_g0, oW_p0, oW_g1, oW_p1, oW_g2, oW_p2, oB_ck, oB_g0, oB_p0, oB_g1, oB_p1, oB_g2, oB_p2, oB_g3, oB_p3, oB_g4, oB_p4, oB_g5, oB_p5, oB_g6, oB_p6, oC_ck, oC_g0, oC_p0, oC_g1, oC_p1, oC_g2, oC_p2, oC_g3, oC_p3, oC_g4, oC_p4, oC_g5, oC_p5, oC_g6, oC_p6, oH_ck, oH_g0, oH_p0, oH_g1, oH_p1, oH_g2, oH_p2, oH_g3, oH_p3, oM_ck, oM_g0, oM_p0, oM_g1, oM_p1, oM_g2, oM_p2, oM_g3, oM_p3, oM_g4, oM_p4, oM_g5, oM_p5, oM_g6, oM_p6, oM_g7, oM_p7, oM_g8, oM_p8, oM_g9, oM_p9, oM_g10, oM_p10, oM_g11, oM_p11, oM_g12, oM_p12, oM_g13, oM_p13, oM_g14, oM_p14, oM_g15, oM_p15, oM_g16, oM_p16, oM_g17, oM_p17, oM_g18, oM_p18, oM_g19, oM_p19, oM_g20, oM_p20, oM_g21, oM_p21, oM_g22, oM_p22, oM_g23, oM_p23, oM_g24, oM_p24, oM_g25, oM_p25, oM_g26, oM_p26, oM_g27, oM_p27, oM_g28, oM_p28, oM_g29, oM_p29, mv0, mv1, mv2, mv3, mv4, mv5, mv6, mset_o, mset_po, mset_k1, mset_r1, mset_k2, mset_r2, mset_k3, mset_r3, mset_k4, mset_r4, mset_k5, mset_r5, mset_k6, mset_r6, mset_k7, mset_r7, mset_k8, mset_r8, mset_k9, mset_r9, mset_k10, mset_r10, mset_k11, mset_r11, mset_k12, mset_r12, mset_k13, mset_r13, mset_k14, mset_r14, mset_k15, mset_r15, mset_k16, mset_r16, mset_k17, mset_r17, mset_k18, mset_r18, mset_k19, mset_r19, mset_k20, mset_r20, mset_k21, mset_r21, mset_k22, mset_r22, mset_k23, mset_r23, aX_17, aX_6, aX_9, aX_4, aX_7, aX_8, aX_13, aX_10, sX_4, sX_5, sX_6, a1, a2, a3, hfar, hca, l4, l5, if_false, nI_add, hd2, hdv, hwk, l2, hk]
      exact fin _
