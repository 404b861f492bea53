/-! the reference: rows laid, an order taken by its code -/
theorem mhas_eq {u a : Nat} (hu : u < 64) (ha : a < 8) (z : Zc) (h : Hp) (Q : Option Value → Zc → Hp → Prop) : Ev 35 (0, [some (.int (nI u)), some (.int (nI a))], [], z, h) Q = Q (some (.int (b2 (u / 2 ^ a % 2 = 1)))) z h := by
  have hb := has_bits u hu a ha
  have hm : u / 2 ^ a % 2 < 2 := Nat.mod_lt _ (by decide)
  have q := neq (a := u / 2 ^ a % 2) (b := 1) (by omega) (by decide)
  by_cases c : u / 2 ^ a % 2 = 1
  · rw [b2_t c]
    simp only [m35_0, m35_1, m35_2, m35_3, m35_4, m35_5, m35_6, m35_9, m35_10, m35_13, m35_14_0, m35_14_1, m35_14_b, hb, q, c, if_true]
  · rw [b2_f c]
    simp only [m35_0, m35_1, m35_2, m35_3, m35_4, m35_5, m35_6, m35_9, m35_10, m35_13, m35_14_0, m35_14_1, m35_14_b, hb, q, c, if_false]
section TAKE
variable {h : Hp} {S : Nat → Int32} {A : Nat → Nat → Nat} {W : Mw}
theorem mlay_rows_day {P0 : Pl} (hP0 : MP A = P0) (hV : Valid P0) {d : Nat} (hd : d ≤ 30) (X : Nat → Nat) (l4 : Option Value) (z : Zc) (Q : Option Value → Zc → Hp → Prop) : ∀ m i, m + i = P0 0 1 → ∀ l : List Nat, l.length + (dyR P0 d (P0 0 1) m).length ≤ 6 →
    Ev 64 (12, [some (.ref 78), some (.int (nI l.length)), some (.int (nI d)), some (.int (nI i)), l4], [], z, mset h S (fup A 18 (apL l X)) W) Q = Ev 64 (48, [some (.ref 78), some (.int (nI (l ++ dyR P0 d (P0 0 1) m).length)), some (.int (nI d)), some (.int (nI (P0 0 1))), l4], [], z, mset h S (fup A 18 (apL (l ++ dyR P0 d (P0 0 1) m) X)) W) Q := by
  have v1 := hV.2.1
  have v5 := hV.2.2.2.2.2.1
  have e61 : A 6 0 = P0 0 1 := by rw [← hP0]; rfl
  have e8 : A 8 = P0 6 := by rw [← hP0]; rfl
  have a0 := igE_AI (n := 2) (j := 0) (A 6) (by decide) (by decide)
  rw [e61] at a0
  have f6 : ∀ f, fup A 18 f 6 = A 6 := fun f => rfl
  have f8 : ∀ f, fup A 18 f 8 = P0 6 := fun f => e8
  have f18 : ∀ f, fup A 18 f 18 = f := fun f => rfl
  intro m
  induction m with
  | zero =>
    intro i hi l hl
    have e : i = P0 0 1 := by omega
    subst e
    rw [m64_12, dyR, List.append_nil]
    simp only [m64_13, m64_14, m64_17, m64_18, m64_19, ob_some, pushr_s, pushr_n, iget_eq, gf_eq, pf_eq, ck_eq, alen_eq, rget_eq, iset_eq, Option.bind_some, Option.map_some, Option.elim_some, hput_at, ↓reduceIte, Nat.reduceEqDiff, Nat.reduceAdd, ne_eq, not_false_eq_true, oS_ck, oS_g0, oS_p0, oS_g1, oS_p1, oS_g2, oS_p2, oS_g3, oS_p3, oS_g4, oS_p4, oS_g5, oS_p5, oS_g6, oS_p6, oP_ck, oP_g0, oP_p0, oP_g1, oP_p1, oP_g2, oP_p2, oP_g3, oP_p3, oP_g4, oP_p4, oP_g5, oP_p5, oP_g6, oP_p6, oP_g7, oP_p7, oP_g8, oP_p8, oP_g9, oP_p9, oP_g10, oP_p10, oP_g11, oP_p11, oP_g12, oP_p12, oR_ck, oR_g0, oR_p0, oR_g1, oR_p1, oR_g2, oR_p2, oR_g3, oR_p3, oG_ck, oG_g0, oG_p0, oG_g1, oG_p1, oG_g2, oG_p2, oW_ck, oW_g0, oW_p0, oW_g1, oW_p1, oW_g2, oW_p2, oB_ck, oB_g0, oB_p0, oB_g1, oB_p1, oB_g2, oB_p2, oB_g3, oB_p3, oB_g4, oB_p4, oB_g5, oB_p5, oB_g6, oB_p6, oC_ck, oC_g0, oC_p0, oC_g1, oC_p1, oC_g2, oC_p2, oC_g3, oC_p3, oC_g4, oC_p4, oC_g5, oC_p5, oC_g6, oC_p6, oH_ck, oH_g0, oH_p0, oH_g1, oH_p1, oH_g2, oH_p2, oH_g3, oH_p3, oM_ck, oM_g0, oM_p0, oM_g1, oM_p1, oM_g2, oM_p2, oM_g3, oM_p3, oM_g4, oM_p4, oM_g5, oM_p5, oM_g6, oM_p6, oM_g7, oM_p7, oM_g8, oM_p8, oM_g9, oM_p9, oM_g10, oM_p10, oM_g11, oM_p11, oM_g12, oM_p12, oM_g13, oM_p13, oM_g14, oM_p14, oM_g15, oM_p15, oM_g16, oM_p16, oM_g17, oM_p17, oM_g18, oM_p18, oM_g19, oM_p19, oM_g20, oM_p20, oM_g21, oM_p21, oM_g22, oM_p22, oM_g23, oM_p23, oM_g24, oM_p24, oM_g25, oM_p25, oM_g26, oM_p26, oM_g27, oM_p27, oM_g28, oM_p28, oM_g29, oM_p29, mv0, mv1, mv2, mv3, mv4, mv5, mv6, mset_o, mset_po, mset_k1, mset_r1, mset_k2, mset_r2, mset_k3, mset_r3, mset_k4, mset_r4, mset_k5, mset_r5, mset_k6, mset_r6, mset_k7, mset_r7, mset_k8, mset_r8, mset_k9, mset_r9, mset_k10, mset_r10, mset_k11, mset_r11, mset_k12, mset_r12, mset_k13, mset_r13, mset_k14, mset_r14, mset_k15, mset_r15, mset_k16, mset_r16, mset_k17, mset_r17, mset_k18, mset_r18, mset_k19, mset_r19, mset_k20, mset_r20, mset_k21, mset_r21, mset_k22, mset_r22, mset_k23, mset_r23, f6, a0, nlt (a := P0 0 1) (b := P0 0 1) (by omega) (by omega), Nat.lt_irrefl, if_false]
  | succ m ih =>
    intro i hi l hl
    have hlt : i < P0 0 1 := by omega
    have e1 : P0 0 1 - (m + 1) = i := by omega
    obtain ⟨-, -, u3, -, -⟩ := v5 i hlt
    have g6 := igE_AI (n := 12) (j := i) (P0 6) (by omega) (by decide)
    have l1 := nlt (a := i) (b := P0 0 1) (by omega) (by omega)
    have l2 := neq (a := P0 6 i) (b := d) (by omega) (by omega)
    rw [dyR, e1] at hl ⊢
    rw [m64_12]
    by_cases c : P0 6 i = d
    · rw [if_pos c] at hl ⊢
      rw [List.length_cons] at hl
      have p2 := isE_AI (n := 6) (j := l.length) (apL l X) i (by omega) (by decide)
      rw [apL_snoc] at p2
      have ihk := ih (i + 1) (by omega) (l ++ [i]) (by rw [List.length_append]; show l.length + 1 + _ ≤ 6; omega)
      rw [List.append_assoc, List.singleton_append] at ihk
      have el : (l ++ [i]).length = l.length + 1 := by rw [List.length_append]; rfl
      rw [el] at ihk
      rw [← ihk]
      simp only [m64_13, m64_14, m64_17, m64_18, m64_19, m64_22, m64_23, m64_26, m64_27, m64_28, m64_29, m64_32, m64_33, m64_36, m64_37, m64_38, m64_39, m64_42, m64_45, ob_some, pushr_s, pushr_n, iget_eq, gf_eq, pf_eq, ck_eq, alen_eq, rget_eq, iset_eq, Option.bind_some, Option.map_some, Option.elim_some, hput_at, ↓reduceIte, Nat.reduceEqDiff, Nat.reduceAdd, ne_eq, not_false_eq_true, oS_ck, oS_g0, oS_p0, oS_g1, oS_p1, oS_g2, oS_p2, oS_g3, oS_p3, oS_g4, oS_p4, oS_g5, oS_p5, oS_g6, oS_p6, oP_ck, oP_g0, oP_p0, oP_g1, oP_p1, oP_g2, oP_p2, oP_g3, oP_p3, oP_g4, oP_p4, oP_g5, oP_p5, oP_g6, oP_p6, oP_g7, oP_p7, oP_g8, oP_p8, oP_g9, oP_p9, oP_g10, oP_p10, oP_g11, oP_p11, oP_g12, oP_p12, oR_ck, oR_g0, oR_p0, oR_g1, oR_p1, oR_g2, oR_p2, oR_g3, oR_p3, oG_ck, oG_g0, oG_p0, oG_g1, oG_p1, oG_g2, oG_p2, oW_ck, oW_g0, oW_p0, oW_g1, oW_p1, oW_g2, oW_p2, oB_ck, oB_g0, oB_p0, oB_g1, oB_p1, oB_g2, oB_p2, oB_g3, oB_p3, oB_g4, oB_p4, oB_g5, oB_p5, oB_g6, oB_p6, oC_ck, oC_g0, oC_p0, oC_g1, oC_p1, oC_g2, oC_p2, oC_g3, oC_p3, oC_g4, oC_p4, oC_g5, oC_p5, oC_g6, oC_p6, oH_ck, oH_g0, oH_p0, oH_g1, oH_p1, oH_g2, oH_p2, oH_g3, oH_p3, oM_ck, oM_g0, oM_p0, oM_g1, oM_p1, oM_g2, oM_p2, oM_g3, oM_p3, oM_g4, oM_p4, oM_g5, oM_p5, oM_g6, oM_p6, oM_g7, oM_p7, oM_g8, oM_p8, oM_g9, oM_p9, oM_g10, oM_p10, oM_g11, oM_p11, oM_g12, oM_p12, oM_g13, oM_p13, oM_g14, oM_p14, oM_g15, oM_p15, oM_g16, oM_p16, oM_g17, oM_p17, oM_g18, oM_p18, oM_g19, oM_p19, oM_g20, oM_p20, oM_g21, oM_p21, oM_g22, oM_p22, oM_g23, oM_p23, oM_g24, oM_p24, oM_g25, oM_p25, oM_g26, oM_p26, oM_g27, oM_p27, oM_g28, oM_p28, oM_g29, oM_p29, mv0, mv1, mv2, mv3, mv4, mv5, mv6, mset_o, mset_po, mset_k1, mset_r1, mset_k2, mset_r2, mset_k3, mset_r3, mset_k4, mset_r4, mset_k5, mset_r5, mset_k6, mset_r6, mset_k7, mset_r7, mset_k8, mset_r8, mset_k9, mset_r9, mset_k10, mset_r10, mset_k11, mset_r11, mset_k12, mset_r12, mset_k13, mset_r13, mset_k14, mset_r14, mset_k15, mset_r15, mset_k16, mset_r16, mset_k17, mset_r17, mset_k18, mset_r18, mset_k19, mset_r19, mset_k20, mset_r20, mset_k21, mset_r21, mset_k22, mset_r22, mset_k23, mset_r23, f6, f8, f18, a0, g6, l1, l2, hlt, if_true, c, p2, fup_fup, nI_add]
    · rw [if_neg c] at hl ⊢
      have ihk := ih (i + 1) (by omega) l hl
      rw [← ihk]
      simp only [m64_13, m64_14, m64_17, m64_18, m64_19, m64_22, m64_23, m64_26, m64_27, m64_28, m64_29, m64_42, m64_45, ob_some, pushr_s, pushr_n, iget_eq, gf_eq, pf_eq, ck_eq, alen_eq, rget_eq, iset_eq, Option.bind_some, Option.map_some, Option.elim_some, hput_at, ↓reduceIte, Nat.reduceEqDiff, Nat.reduceAdd, ne_eq, not_false_eq_true, oS_ck, oS_g0, oS_p0, oS_g1, oS_p1, oS_g2, oS_p2, oS_g3, oS_p3, oS_g4, oS_p4, oS_g5, oS_p5, oS_g6, oS_p6, oP_ck, oP_g0, oP_p0, oP_g1, oP_p1, oP_g2, oP_p2, oP_g3, oP_p3, oP_g4, oP_p4, oP_g5, oP_p5, oP_g6, oP_p6, oP_g7, oP_p7, oP_g8, oP_p8, oP_g9, oP_p9, oP_g10, oP_p10, oP_g11, oP_p11, oP_g12, oP_p12, oR_ck, oR_g0, oR_p0, oR_g1, oR_p1, oR_g2, oR_p2, oR_g3, oR_p3, oG_ck, oG_g0, oG_p0, oG_g1, oG_p1, oG_g2, oG_p2, oW_ck, oW_g0, oW_p0, oW_g1, oW_p1, oW_g2, oW_p2, oB_ck, oB_g0, oB_p0, oB_g1, oB_p1, oB_g2, oB_p2, oB_g3, oB_p3, oB_g4, oB_p4, oB_g5, oB_p5, oB_g6, oB_p6, oC_ck, oC_g0, oC_p0, oC_g1, oC_p1, oC_g2, oC_p2, oC_g3, oC_p3, oC_g4, oC_p4, oC_g5, oC_p5, oC_g6, oC_p6, oH_ck, oH_g0, oH_p0, oH_g1, oH_p1, oH_g2, oH_p2, oH_g3, oH_p3, oM_ck, oM_g0, oM_p0, oM_g1, oM_p1, oM_g2, oM_p2, oM_g3, oM_p3, oM_g4, oM_p4, oM_g5, oM_p5, oM_g6, oM_p6, oM_g7, oM_p7, oM_g8, oM_p8, oM_g9, oM_p9, oM_g10, oM_p10, oM_g11, oM_p11, oM_g12, oM_p12, oM_g13, oM_p13, oM_g14, oM_p14, oM_g15, oM_p15, oM_g16, oM_p16, oM_g17, oM_p17, oM_g18, oM_p18, oM_g19, oM_p19, oM_g20, oM_p20, oM_g21, oM_p21, oM_g22, oM_p22, oM_g23, oM_p23, oM_g24, oM_p24, oM_g25, oM_p25, oM_g26, oM_p26, oM_g27, oM_p27, oM_g28, oM_p28, oM_g29, oM_p29, mv0, mv1, mv2, mv3, mv4, mv5, mv6, mset_o, mset_po, mset_k1, mset_r1, mset_k2, mset_r2, mset_k3, mset_r3, mset_k4, mset_r4, mset_k5, mset_r5, mset_k6, mset_r6, mset_k7, mset_r7, mset_k8, mset_r8, mset_k9, mset_r9, mset_k10, mset_r10, mset_k11, mset_r11, mset_k12, mset_r12, mset_k13, mset_r13, mset_k14, mset_r14, mset_k15, mset_r15, mset_k16, mset_r16, mset_k17, mset_r17, mset_k18, mset_r18, mset_k19, mset_r19, mset_k20, mset_r20, mset_k21, mset_r21, mset_k22, mset_r22, mset_k23, mset_r23, f6, f8, a0, g6, l1, l2, hlt, if_true, c, if_false, nI_add]
theorem mlay_rows_days {P0 : Pl} (hP0 : MP A = P0) (hV : Valid P0) (X : Nat → Nat) (l4 : Option Value) (z : Zc) (Q : Option Value → Zc → Hp → Prop) : ∀ M, M ≤ 30 → ∀ (l : List Nat) l3, l.length + (orR P0 (P0 0 1) M).length ≤ 6 →
    Ev 64 (4, [some (.ref 78), some (.int (nI l.length)), some (.int (nI (31 - M))), l3, l4], [], z, mset h S (fup A 18 (apL l X)) W) Q = Ev 64 (54, [some (.ref 78), some (.int (nI (l ++ orR P0 (P0 0 1) M).length)), some (.int (nI 31)), if M = 0 then l3 else some (.int (nI (P0 0 1))), l4], [], z, mset h S (fup A 18 (apL (l ++ orR P0 (P0 0 1) M) X)) W) Q := by
  intro M
  induction M with
  | zero =>
    intro hM l l3 hl
    rw [orR, List.append_nil, Nat.sub_zero, m64_4, if_pos rfl]
    simp only [m64_5, m64_7, nlt (a := 30) (b := 31) (by decide) (by decide), Nat.reduceLT, if_true]
  | succ M ih =>
    intro hM l l3 hl
    rw [orR, List.length_append] at hl
    have ed : 31 - (M + 1) = 30 - M := by omega
    have hd := mlay_rows_day (h := h) (S := S) (W := W) hP0 hV (d := 30 - M) (by omega) X l4 z Q (P0 0 1) 0 (by omega) l (by omega)
    have ihk := ih (by omega) (l ++ dyR P0 (30 - M) (P0 0 1) (P0 0 1)) (some (.int (nI (P0 0 1)))) (by rw [List.length_append]; omega)
    have e3 : (if M = 0 then some (.int (nI (P0 0 1))) else some (.int (nI (P0 0 1))) : Option Value) = some (.int (nI (P0 0 1))) := by split <;> rfl
    rw [e3, show 31 - M = 30 - M + 1 by omega, List.append_assoc] at ihk
    rw [orR, if_neg (by omega : ¬ M + 1 = 0), ← ihk, ed, m64_4]
    have hl30 : ¬ 30 < 30 - M := by omega
    simp only [m64_5, m64_7, m64_10, m64_11, nlt (a := 30) (b := 30 - M) (by decide) (by omega), hl30, if_false, hd]
    simp only [m64_48, m64_51, nI_add]
theorem mins_loop {n k : Nat} (hn : n ≤ 6) (hk : k < n) (z : Zc) (Q : Option Value → Zc → Hp → Prop) : ∀ j, j ≤ k → ∀ (f : Nat → Nat) l4, (∀ x, x ≤ k → f x < 100000) → ∃ y4 j2, ∀ Q, Ev 64 (75, [some (.ref 78), some (.int (nI n)), some (.int (nI k)), some (.int (nI j)), l4], [], z, mset h S (fup A 19 f) W) Q = Ev 64 (134, [some (.ref 78), some (.int (nI n)), some (.int (nI k)), some (.int j2), y4], [], z, mset h S (fup A 19 (insJ j f)) W) Q := by
  have f19 : ∀ f, fup A 19 f 19 = f := fun f => rfl
  intro j
  induction j with
  | zero =>
    intro hj f l4 hf
    have t0 : (nI 0 < nI 0) = False := eq_false (by decide)
    refine ⟨l4, nI 0, fun Q => ?_⟩
    rw [m64_75, insJ]
    simp only [m64_76, t0, if_false]
  | succ j ih =>
    intro hj f l4 hf
    have t0 : (nI 0 < nI (j + 1)) = True := by rw [nlt (by decide) (by omega)]; exact eq_true (by omega)
    have g1 := igE_AI (n := 6) (j := j + 1) f (by omega) (by decide)
    have g0 := igE_AI (n := 6) (j := j) f (by omega) (by decide)
    have q := nlt (a := f (j + 1)) (b := f j) (by have := hf (j + 1) hj; omega) (by have := hf j (by omega); omega)
    by_cases c : f (j + 1) < f j
    · have p1 := isE_AI (n := 6) (j := j + 1) f (f j) (by omega) (by decide)
      have p0 := isE_AI (n := 6) (j := j) (fup f (j + 1) (f j)) (f (j + 1)) (by omega) (by decide)
      have e : fup (fup f (j + 1) (f j)) j (f (j + 1)) = swF f (j + 1) j := rfl
      rw [e] at p0
      obtain ⟨y4, j2, ihk⟩ := ih (by omega) (swF f (j + 1) j) (some (.int (nI (f (j + 1))))) (fun x hx => by
        by_cases x1 : x = j + 1
        · rw [x1, swF_a f (by omega)]; exact hf j (by omega)
        · by_cases x2 : x = j
          · rw [x2, swF_b]; exact hf (j + 1) hj
          · rw [swF_ne f x1 x2]; exact hf x hx)
      have dec : nI (j + 1) + -1 = nI j := dec_nI (by omega)
      refine ⟨y4, j2, fun Q => ?_⟩
      rw [insJ, if_pos c, ← ihk Q, m64_75]
      simp only [m64_76, m64_79, m64_80, m64_83, m64_84, m64_85, m64_86, m64_89, m64_90, m64_91, m64_92, m64_93, m64_96, m64_97, m64_100, m64_101, m64_102, m64_104, m64_105, m64_108, m64_109, m64_110, m64_113, m64_114, m64_115, m64_116, m64_117, m64_118, m64_119, m64_122, m64_123, m64_124, m64_125, m64_127, m64_128, m64_131, ob_some, pushr_s, pushr_n, iget_eq, gf_eq, pf_eq, ck_eq, alen_eq, rget_eq, iset_eq, Option.bind_some, Option.map_some, Option.elim_some, hput_at, ↓reduceIte, Nat.reduceEqDiff, Nat.reduceAdd, ne_eq, not_false_eq_true, oS_ck, oS_g0, oS_p0, oS_g1, oS_p1, oS_g2, oS_p2, oS_g3, oS_p3, oS_g4, oS_p4, oS_g5, oS_p5, oS_g6, oS_p6, oP_ck, oP_g0, oP_p0, oP_g1, oP_p1, oP_g2, oP_p2, oP_g3, oP_p3, oP_g4, oP_p4, oP_g5, oP_p5, oP_g6, oP_p6, oP_g7, oP_p7, oP_g8, oP_p8, oP_g9, oP_p9, oP_g10, oP_p10, oP_g11, oP_p11, oP_g12, oP_p12, oR_ck, oR_g0, oR_p0, oR_g1, oR_p1, oR_g2, oR_p2, oR_g3, oR_p3, oG_ck, oG_g0, oG_p0, oG_g1, oG_p1, oG_g2, oG_p2, oW_ck, oW_g0, oW_p0, oW_g1, oW_p1, oW_g2, oW_p2, oB_ck, oB_g0, oB_p0, oB_g1, oB_p1, oB_g2, oB_p2, oB_g3, oB_p3, oB_g4, oB_p4, oB_g5, oB_p5, oB_g6, oB_p6, oC_ck, oC_g0, oC_p0, oC_g1, oC_p1, oC_g2, oC_p2, oC_g3, oC_p3, oC_g4, oC_p4, oC_g5, oC_p5, oC_g6, oC_p6, oH_ck, oH_g0, oH_p0, oH_g1, oH_p1, oH_g2, oH_p2, oH_g3, oH_p3, oM_ck, oM_g0, oM_p0, oM_g1, oM_p1, oM_g2, oM_p2, oM_g3, oM_p3, oM_g4, oM_p4, oM_g5, oM_p5, oM_g6, oM_p6, oM_g7, oM_p7, oM_g8, oM_p8, oM_g9, oM_p9, oM_g10, oM_p10, oM_g11, oM_p11, oM_g12, oM_p12, oM_g13, oM_p13, oM_g14, oM_p14, oM_g15, oM_p15, oM_g16, oM_p16, oM_g17, oM_p17, oM_g18, oM_p18, oM_g19, oM_p19, oM_g20, oM_p20, oM_g21, oM_p21, oM_g22, oM_p22, oM_g23, oM_p23, oM_g24, oM_p24, oM_g25, oM_p25, oM_g26, oM_p26, oM_g27, oM_p27, oM_g28, oM_p28, oM_g29, oM_p29, mv0, mv1, mv2, mv3, mv4, mv5, mv6, mset_o, mset_po, mset_k1, mset_r1, mset_k2, mset_r2, mset_k3, mset_r3, mset_k4, mset_r4, mset_k5, mset_r5, mset_k6, mset_r6, mset_k7, mset_r7, mset_k8, mset_r8, mset_k9, mset_r9, mset_k10, mset_r10, mset_k11, mset_r11, mset_k12, mset_r12, mset_k13, mset_r13, mset_k14, mset_r14, mset_k15, mset_r15, mset_k16, mset_r16, mset_k17, mset_r17, mset_k18, mset_r18, mset_k19, mset_r19, mset_k20, mset_r20, mset_k21, mset_r21, mset_k22, mset_r22, mset_k23, mset_r23, t0, if_true, ksub, f19, g1, g0, q, c, p1, p0, fup_fup, dec]
    · refine ⟨l4, nI (j + 1), fun Q => ?_⟩
      rw [insJ, if_neg c, m64_75]
      simp only [m64_76, m64_79, m64_80, m64_83, m64_84, m64_85, m64_86, m64_89, m64_90, m64_91, m64_92, m64_93, ob_some, pushr_s, pushr_n, iget_eq, gf_eq, pf_eq, ck_eq, alen_eq, rget_eq, iset_eq, Option.bind_some, Option.map_some, Option.elim_some, hput_at, ↓reduceIte, Nat.reduceEqDiff, Nat.reduceAdd, ne_eq, not_false_eq_true, oS_ck, oS_g0, oS_p0, oS_g1, oS_p1, oS_g2, oS_p2, oS_g3, oS_p3, oS_g4, oS_p4, oS_g5, oS_p5, oS_g6, oS_p6, oP_ck, oP_g0, oP_p0, oP_g1, oP_p1, oP_g2, oP_p2, oP_g3, oP_p3, oP_g4, oP_p4, oP_g5, oP_p5, oP_g6, oP_p6, oP_g7, oP_p7, oP_g8, oP_p8, oP_g9, oP_p9, oP_g10, oP_p10, oP_g11, oP_p11, oP_g12, oP_p12, oR_ck, oR_g0, oR_p0, oR_g1, oR_p1, oR_g2, oR_p2, oR_g3, oR_p3, oG_ck, oG_g0, oG_p0, oG_g1, oG_p1, oG_g2, oG_p2, oW_ck, oW_g0, oW_p0, oW_g1, oW_p1, oW_g2, oW_p2, oB_ck, oB_g0, oB_p0, oB_g1, oB_p1, oB_g2, oB_p2, oB_g3, oB_p3, oB_g4, oB_p4, oB_g5, oB_p5, oB_g6, oB_p6, oC_ck, oC_g0, oC_p0, oC_g1, oC_p1, oC_g2, oC_p2, oC_g3, oC_p3, oC_g4, oC_p4, oC_g5, oC_p5, oC_g6, oC_p6, oH_ck, oH_g0, oH_p0, oH_g1, oH_p1, oH_g2, oH_p2, oH_g3, oH_p3, oM_ck, oM_g0, oM_p0, oM_g1, oM_p1, oM_g2, oM_p2, oM_g3, oM_p3, oM_g4, oM_p4, oM_g5, oM_p5, oM_g6, oM_p6, oM_g7, oM_p7, oM_g8, oM_p8, oM_g9, oM_p9, oM_g10, oM_p10, oM_g11, oM_p11, oM_g12, oM_p12, oM_g13, oM_p13, oM_g14, oM_p14, oM_g15, oM_p15, oM_g16, oM_p16, oM_g17, oM_p17, oM_g18, oM_p18, oM_g19, oM_p19, oM_g20, oM_p20, oM_g21, oM_p21, oM_g22, oM_p22, oM_g23, oM_p23, oM_g24, oM_p24, oM_g25, oM_p25, oM_g26, oM_p26, oM_g27, oM_p27, oM_g28, oM_p28, oM_g29, oM_p29, mv0, mv1, mv2, mv3, mv4, mv5, mv6, mset_o, mset_po, mset_k1, mset_r1, mset_k2, mset_r2, mset_k3, mset_r3, mset_k4, mset_r4, mset_k5, mset_r5, mset_k6, mset_r6, mset_k7, mset_r7, mset_k8, mset_r8, mset_k9, mset_r9, mset_k10, mset_r10, mset_k11, mset_r11, mset_k12, mset_r12, mset_k13, mset_r13, mset_k14, mset_r14, mset_k15, mset_r15, mset_k16, mset_r16, mset_k17, mset_r17, mset_k18, mset_r18, mset_k19, mset_r19, mset_k20, mset_r20, mset_k21, mset_r21, mset_k22, mset_r22, mset_k23, mset_r23, t0, if_true, ksub, f19, g1, g0, q, c, if_false]
theorem mins_rows {n : Nat} (hn : n ≤ 6) (w : Nat → Nat) (hw : A 13 = w) (hwb : ∀ x, x < n → w x < 100000) (f0 : Nat → Nat) (z : Zc) (Q : Option Value → Zc → Hp → Prop) : ∀ m k, m + k = n → ∀ l3 l4, Ev 64 (56, [some (.ref 78), some (.int (nI n)), some (.int (nI k)), l3, l4], [], z, mset h S (fup A 19 (isK w k f0)) W) Q = Q none z (mset h S (fup A 19 (isK w n f0)) W) := by
  have f19 : ∀ f, fup A 19 f 19 = f := fun f => rfl
  have f13 : ∀ f, fup A 19 f 13 = w := fun f => hw
  intro m
  induction m with
  | zero =>
    intro k hk l3 l4
    have e : k = n := by omega
    subst e
    rw [m64_56]
    simp only [m64_57, m64_58, m64_140, nlt (a := k) (b := k) (by omega) (by omega), Nat.lt_irrefl, if_false]
  | succ m ih =>
    intro k hk l3 l4
    have hlt : k < n := by omega
    have g1 := igE_AI (n := 24) (j := k) w (by omega) (by decide)
    have p1 := isE_AI (n := 6) (j := k) (isK w k f0) (w k) (by omega) (by decide)
    have hb : ∀ x, x ≤ k → fup (isK w k f0) k (w k) x < 100000 := fun x hx => by
      by_cases c : x = k
      · rw [c, fup_self]; exact hwb k hlt
      · rw [fup_ne _ _ c]
        exact prm_vals (p := fun y => y < 100000) (isK_spec w f0 k).2 (fun j hj => hwb j (by omega)) x (by omega)
    obtain ⟨y4, j2, hi⟩ := mins_loop (h := h) (S := S) (A := A) (W := W) hn hlt z Q k (Nat.le_refl _) (fup (isK w k f0) k (w k)) l4 hb
    have ihk := ih (k + 1) (by omega) (some (.int j2)) y4
    rw [← ihk, m64_56]
    simp only [m64_57, m64_58, m64_61, m64_62, m64_65, m64_66, m64_67, m64_70, m64_71, m64_72, m64_73, m64_74, ob_some, pushr_s, pushr_n, iget_eq, gf_eq, pf_eq, ck_eq, alen_eq, rget_eq, iset_eq, Option.bind_some, Option.map_some, Option.elim_some, hput_at, ↓reduceIte, Nat.reduceEqDiff, Nat.reduceAdd, ne_eq, not_false_eq_true, oS_ck, oS_g0, oS_p0, oS_g1, oS_p1, oS_g2, oS_p2, oS_g3, oS_p3, oS_g4, oS_p4, oS_g5, oS_p5, oS_g6, oS_p6, oP_ck, oP_g0, oP_p0, oP_g1, oP_p1, oP_g2, oP_p2, oP_g3, oP_p3, oP_g4, oP_p4, oP_g5, oP_p5, oP_g6, oP_p6, oP_g7, oP_p7, oP_g8, oP_p8, oP_g9, oP_p9, oP_g10, oP_p10, oP_g11, oP_p11, oP_g12, oP_p12, oR_ck, oR_g0, oR_p0, oR_g1, oR_p1, oR_g2, oR_p2, oR_g3, oR_p3, oG_ck, oG_g0, oG_p0, oG_g1, oG_p1, oG_g2, oG_p2, oW_ck, oW_g0, oW_p0, oW_g1, oW_p1, oW_g2, oW_p2, oB_ck, oB_g0, oB_p0, oB_g1, oB_p1, oB_g2, oB_p2, oB_g3, oB_p3, oB_g4, oB_p4, oB_g5, oB_p5, oB_g6, oB_p6, oC_ck, oC_g0, oC_p0, oC_g1, oC_p1, oC_g2, oC_p2, oC_g3, oC_p3, oC_g4, oC_p4, oC_g5, oC_p5, oC_g6, oC_p6, oH_ck, oH_g0, oH_p0, oH_g1, oH_p1, oH_g2, oH_p2, oH_g3, oH_p3, oM_ck, oM_g0, oM_p0, oM_g1, oM_p1, oM_g2, oM_p2, oM_g3, oM_p3, oM_g4, oM_p4, oM_g5, oM_p5, oM_g6, oM_p6, oM_g7, oM_p7, oM_g8, oM_p8, oM_g9, oM_p9, oM_g10, oM_p10, oM_g11, oM_p11, oM_g12, oM_p12, oM_g13, oM_p13, oM_g14, oM_p14, oM_g15, oM_p15, oM_g16, oM_p16, oM_g17, oM_p17, oM_g18, oM_p18, oM_g19, oM_p19, oM_g20, oM_p20, oM_g21, oM_p21, oM_g22, oM_p22, oM_g23, oM_p23, oM_g24, oM_p24, oM_g25, oM_p25, oM_g26, oM_p26, oM_g27, oM_p27, oM_g28, oM_p28, oM_g29, oM_p29, mv0, mv1, mv2, mv3, mv4, mv5, mv6, mset_o, mset_po, mset_k1, mset_r1, mset_k2, mset_r2, mset_k3, mset_r3, mset_k4, mset_r4, mset_k5, mset_r5, mset_k6, mset_r6, mset_k7, mset_r7, mset_k8, mset_r8, mset_k9, mset_r9, mset_k10, mset_r10, mset_k11, mset_r11, mset_k12, mset_r12, mset_k13, mset_r13, mset_k14, mset_r14, mset_k15, mset_r15, mset_k16, mset_r16, mset_k17, mset_r17, mset_k18, mset_r18, mset_k19, mset_r19, mset_k20, mset_r20, mset_k21, mset_r21, mset_k22, mset_r22, mset_k23, mset_r23, nlt (a := k) (b := n) (by omega) (by omega), hlt, if_true, f13, f19, g1, p1, fup_fup, hi]
    simp only [m64_134, m64_137, nI_add]
    rfl
/-- the rows laid: thrown, sorted -/
def lrA (A : Nat → Nat → Nat) : Nat → Nat → Nat := fup (fup A 18 (apL (thL (MP A)) (A 18))) 19 (isK (A 13) (A 6 0) (A 19))
theorem mlayRow_eq (hV : Valid (MP A)) (z : Zc) (Q : Option Value → Zc → Hp → Prop) : Ev 64 (0, [some (.ref 78), none, none, none, none], [], z, mset h S A W) Q = Q none z (mset h S (lrA A) W) := by
  have v1 : A 6 0 ≤ 6 := hV.2.1
  have hl := thL_len hV
  have hd := mlay_rows_days (h := h) (S := S) (A := A) (W := W) rfl hV (A 18) none z Q 30 (Nat.le_refl _) [] none (by
    have : (orR (MP A) (MP A 0 1) 30).length = MP A 0 1 := hl
    rw [this]
    show 0 + A 6 0 ≤ 6
    omega)
  have e0 : fup A 18 (apL [] (A 18)) = A := fup_id A 18
  have e1 : orR (MP A) (MP A 0 1) 30 = thL (MP A) := rfl
  have e2 : MP A 0 1 = A 6 0 := rfl
  rw [e0, if_neg (by decide), List.nil_append, e1, hl, e2] at hd
  have en : nI ([] : List Nat).length = nI 0 := rfl
  rw [en] at hd
  have hi := mins_rows (h := h) (S := S) (A := fup A 18 (apL (thL (MP A)) (A 18))) (W := W) (n := A 6 0) v1 (A 13) rfl (fun x hx => by
    have := (hV.2.2.2.2.2.1 x hx).2.2.2.2
    have e : MP A 7 x = A 13 x := rfl
    omega) (A 19) z Q (A 6 0) 0 (by omega) (some (.int (nI (A 6 0)))) none
  have e3 : isK (A 13) 0 (A 19) = A 19 := rfl
  have e4 : fup (fup A 18 (apL (thL (MP A)) (A 18))) 19 (A 19) = fup A 18 (apL (thL (MP A)) (A 18)) := by
    funext k
    rw [fup_at]
    split
    · rename_i q; rw [q]; rfl
    · rfl
  rw [e3, e4] at hi
  unfold lrA
  rw [← hi]
  simp only [m64_0, m64_1, m64_2, m64_3]
  refine hd.trans ?_
  simp only [m64_54, m64_55]
theorem mwh_loop {l1 l2 l4 l5 : Option Value} {x5 : Int32} (h5 : l5 = some (.int x5)) {u : Nat} (hu : u < 64) (hp : Hp) (z : Zc) (Q : Option Value → Zc → Hp → Prop) : ∀ m s a r, a + m ≤ 8 → s < 100000 → whF m u s a = some r → Ev 65 (62, [some (.ref 78), l1, l2, some (.int (nI u)), l4, l5, some (.int (nI s)), some (.int (nI a))], [], z, hp) Q = Ev 65 (101, [some (.ref 78), l1, l2, some (.int (nI u)), l4, l5, some (.int (nI 0)), some (.int (nI r))], [], z, hp) Q := by
  subst h5
  intro m
  induction m with
  | zero => intro s a r _ _ hw; rw [whF] at hw; cases hw
  | succ m ih =>
    intro s a r ha hs hw
    have hh := fun Q => mhas_eq hu (a := a) (by omega) z hp Q
    have t0 := nlt (a := 0) (b := s) (by decide) (by omega)
    rw [whF] at hw
    rw [m65_62]
    by_cases c1 : u / 2 ^ a % 2 = 1
    · rw [if_pos (Or.inl c1), if_pos c1] at hw
      have e0 : nI s - nI 0 = nI s := pk_sub (a := s) (b := 0) (Nat.zero_le _)
      rw [← ih s (a + 1) r (by omega) hs hw]
      simp only [m65_63, m65_65, m65_68, m65_76, m65_78, m65_79, m65_81, m65_84, m65_87, m65_88, m65_92, m65_93, m65_95, m65_98, hh, pushr_s, bt c1, if_false, e0, nI_add]
    · by_cases c2 : 0 < s
      · rw [if_pos (Or.inr c2), if_neg c1] at hw
        have e0 : nI s - nI 1 = nI (s - 1) := pk_sub c2
        rw [← ih (s - 1) (a + 1) r (by omega) (by omega) hw]
        simp only [m65_63, m65_65, m65_68, m65_71, m65_73, m65_76, m65_78, m65_79, m65_81, m65_84, m65_91, m65_92, m65_93, m65_95, m65_98, hh, pushr_s, bf c1, if_true, t0, c2, e0, nI_add]
      · have hne : ¬ (u / 2 ^ a % 2 = 1 ∨ 0 < s) := fun q => q.elim c1 c2
        rw [if_neg hne] at hw
        cases hw
        have es : s = 0 := by omega
        subst es
        have t00 : (nI 0 < nI 0) = False := eq_false (by decide)
        simp only [m65_63, m65_65, m65_68, m65_71, m65_73, hh, pushr_s, bf c1, if_true, t00, if_false]
def tkF (ro so : Nat → Nat) : Nat → List Nat → (Nat → Nat) → Nat → Nat
  | _, [], w => w
  | k, a :: l, w => tkF ro so (k + 1) l (fup w (ro k) (so a))
theorem nI_rem {a b : Nat} (ha : a < 100000) (hb : b < 100000) (h0 : 0 < b) : nI a - nI a / nI b * nI b = nI (a % b) := by
  have e1 : nI a / nI b = nI (a / b) := pk_div (by omega) (by omega) (by omega)
  have hm := Nat.div_mul_le_self a b
  have hd := Nat.div_add_mod a b
  rw [Nat.mul_comm] at hd
  rw [e1, pk_mul, pk_sub hm]
  exact congrArg nI (by omega)
theorem mtake_loop {n : Nat} (hn : n ≤ 6) (h6 : A 6 0 = n) (hro : ∀ k, k < n → A 18 k < 24) (z : Zc) (Q : Option Value → Zc → Hp → Prop) : ∀ m k left used ways (L : List Nat) (w : Nat → Nat) l6 l7, m + k = n → toF m left used ways = some L → used < 64 → left < 100000 → ways < 100000 →
    Ev 65 (37, [some (.ref 78), none, some (.int (nI left)), some (.int (nI used)), some (.int (nI ways)), some (.int (nI k)), l6, l7], [], z, mset h S (fup A 13 w) W) Q = Q none z (mset h S (fup A 13 (tkF (A 18) (A 19) k L w)) W) := by
  have a0 := igE_AI (n := 2) (j := 0) (A 6) (by decide) (by decide)
  rw [h6] at a0
  have f6 : ∀ f, fup A 13 f 6 = A 6 := fun f => rfl
  have f13 : ∀ f, fup A 13 f 13 = f := fun f => rfl
  have f18 : ∀ f, fup A 13 f 18 = A 18 := fun f => rfl
  have f19 : ∀ f, fup A 13 f 19 = A 19 := fun f => rfl
  intro m
  induction m with
  | zero =>
    intro k left used ways L w l6 l7 hk ht hu hl hw
    have e : k = n := by omega
    subst e
    rw [toF] at ht
    cases ht
    rw [m65_37, tkF]
    simp only [m65_39, m65_40, m65_43, m65_44, m65_45, m65_180, ob_some, pushr_s, pushr_n, iget_eq, gf_eq, pf_eq, ck_eq, alen_eq, rget_eq, iset_eq, Option.bind_some, Option.map_some, Option.elim_some, hput_at, ↓reduceIte, Nat.reduceEqDiff, Nat.reduceAdd, ne_eq, not_false_eq_true, oS_ck, oS_g0, oS_p0, oS_g1, oS_p1, oS_g2, oS_p2, oS_g3, oS_p3, oS_g4, oS_p4, oS_g5, oS_p5, oS_g6, oS_p6, oP_ck, oP_g0, oP_p0, oP_g1, oP_p1, oP_g2, oP_p2, oP_g3, oP_p3, oP_g4, oP_p4, oP_g5, oP_p5, oP_g6, oP_p6, oP_g7, oP_p7, oP_g8, oP_p8, oP_g9, oP_p9, oP_g10, oP_p10, oP_g11, oP_p11, oP_g12, oP_p12, oR_ck, oR_g0, oR_p0, oR_g1, oR_p1, oR_g2, oR_p2, oR_g3, oR_p3, oG_ck, oG_g0, oG_p0, oG_g1, oG_p1, oG_g2, oG_p2, oW_ck, oW_g0, oW_p0, oW_g1, oW_p1, oW_g2, oW_p2, oB_ck, oB_g0, oB_p0, oB_g1, oB_p1, oB_g2, oB_p2, oB_g3, oB_p3, oB_g4, oB_p4, oB_g5, oB_p5, oB_g6, oB_p6, oC_ck, oC_g0, oC_p0, oC_g1, oC_p1, oC_g2, oC_p2, oC_g3, oC_p3, oC_g4, oC_p4, oC_g5, oC_p5, oC_g6, oC_p6, oH_ck, oH_g0, oH_p0, oH_g1, oH_p1, oH_g2, oH_p2, oH_g3, oH_p3, oM_ck, oM_g0, oM_p0, oM_g1, oM_p1, oM_g2, oM_p2, oM_g3, oM_p3, oM_g4, oM_p4, oM_g5, oM_p5, oM_g6, oM_p6, oM_g7, oM_p7, oM_g8, oM_p8, oM_g9, oM_p9, oM_g10, oM_p10, oM_g11, oM_p11, oM_g12, oM_p12, oM_g13, oM_p13, oM_g14, oM_p14, oM_g15, oM_p15, oM_g16, oM_p16, oM_g17, oM_p17, oM_g18, oM_p18, oM_g19, oM_p19, oM_g20, oM_p20, oM_g21, oM_p21, oM_g22, oM_p22, oM_g23, oM_p23, oM_g24, oM_p24, oM_g25, oM_p25, oM_g26, oM_p26, oM_g27, oM_p27, oM_g28, oM_p28, oM_g29, oM_p29, mv0, mv1, mv2, mv3, mv4, mv5, mv6, mset_o, mset_po, mset_k1, mset_r1, mset_k2, mset_r2, mset_k3, mset_r3, mset_k4, mset_r4, mset_k5, mset_r5, mset_k6, mset_r6, mset_k7, mset_r7, mset_k8, mset_r8, mset_k9, mset_r9, mset_k10, mset_r10, mset_k11, mset_r11, mset_k12, mset_r12, mset_k13, mset_r13, mset_k14, mset_r14, mset_k15, mset_r15, mset_k16, mset_r16, mset_k17, mset_r17, mset_k18, mset_r18, mset_k19, mset_r19, mset_k20, mset_r20, mset_k21, mset_r21, mset_k22, mset_r22, mset_k23, mset_r23, f6, a0, nlt (a := k) (b := k) (by omega) (by omega), Nat.lt_irrefl, if_false]
  | succ m ih =>
    intro k left used ways L w l6 l7 hk ht hu hl hw
    have hlt : k < n := by omega
    rw [toF] at ht
    by_cases w0 : ways = 0
    · rw [if_pos w0] at ht; cases ht
    · rw [if_neg w0] at ht
      cases hwh : whF 8 used (left / ways) 0 with
      | none => rw [hwh] at ht; cases ht
      | some a =>
        rw [hwh] at ht
        dsimp only at ht
        by_cases a6 : 6 ≤ a
        · rw [if_pos a6] at ht; cases ht
        · rw [if_neg a6] at ht
          cases hto : toF m (left % ways) (used ||| 2 ^ a) (if m = 0 then 1 else ways / m) with
          | none => rw [hto] at ht; cases ht
          | some L2 =>
            rw [hto] at ht
            cases ht
            have hdl := Nat.div_le_self left ways
            have hml := Nat.mod_le left ways
            have hwm := Nat.div_le_self ways m
            have hw2 : (if m = 0 then 1 else ways / m) < 100000 := by split <;> omega
            obtain ⟨o1, o2⟩ := or_bits used hu a (by omega)
            have hloop := fun l1 l2 l4 => mwh_loop (l1 := l1) (l2 := l2) (l4 := l4) (l5 := some (.int (nI k))) rfl hu (mset h S (fup A 13 w) W) z Q 8 (left / ways) 0 a (Nat.le_refl _) (by omega) hwh
            have d0 : ¬ nI ways = 0 := nI_ne0 (by omega) (by omega)
            have ed : nI left / nI ways = nI (left / ways) := pk_div (by omega) (by omega) (by omega)
            have er := nI_rem (a := left) (b := ways) hl hw (by omega)
            rw [ed] at er
            have g18 := igE_AI (n := 6) (j := k) (A 18) (by omega) (by decide)
            have g19 := igE_AI (n := 6) (j := a) (A 19) (by omega) (by decide)
            have p13 := isE_AI (n := 24) (j := A 18 k) w (A 19 a) (hro k hlt) (by decide)
            have ihk := ih (k + 1) (left % ways) (used ||| 2 ^ a) (if m = 0 then 1 else ways / m) L2 (fup w (A 18 k) (A 19 a)) (some (.int (nI 0))) (some (.int (nI a))) (by omega) hto o2 (by omega) hw2
            rw [tkF, ← ihk, m65_37]
            simp only [m65_39, m65_40, m65_43, m65_44, m65_45, m65_48, m65_49, m65_51, m65_52, m65_54, m65_55, m65_57, m65_58, m65_59, m65_60, ob_some, pushr_s, pushr_n, iget_eq, gf_eq, pf_eq, ck_eq, alen_eq, rget_eq, iset_eq, Option.bind_some, Option.map_some, Option.elim_some, hput_at, ↓reduceIte, Nat.reduceEqDiff, Nat.reduceAdd, ne_eq, not_false_eq_true, oS_ck, oS_g0, oS_p0, oS_g1, oS_p1, oS_g2, oS_p2, oS_g3, oS_p3, oS_g4, oS_p4, oS_g5, oS_p5, oS_g6, oS_p6, oP_ck, oP_g0, oP_p0, oP_g1, oP_p1, oP_g2, oP_p2, oP_g3, oP_p3, oP_g4, oP_p4, oP_g5, oP_p5, oP_g6, oP_p6, oP_g7, oP_p7, oP_g8, oP_p8, oP_g9, oP_p9, oP_g10, oP_p10, oP_g11, oP_p11, oP_g12, oP_p12, oR_ck, oR_g0, oR_p0, oR_g1, oR_p1, oR_g2, oR_p2, oR_g3, oR_p3, oG_ck, oG_g0, oG_p0, oG_g1, oG_p1, oG_g2, oG_p2, oW_ck, oW_g0, oW_p0, oW_g1, oW_p1, oW_g2, oW_p2, oB_ck, oB_g0, oB_p0, oB_g1, oB_p1, oB_g2, oB_p2, oB_g3, oB_p3, oB_g4, oB_p4, oB_g5, oB_p5, oB_g6, oB_p6, oC_ck, oC_g0, oC_p0, oC_g1, oC_p1, oC_g2, oC_p2, oC_g3, oC_p3, oC_g4, oC_p4, oC_g5, oC_p5, oC_g6, oC_p6, oH_ck, oH_g0, oH_p0, oH_g1, oH_p1, oH_g2, oH_p2, oH_g3, oH_p3, oM_ck, oM_g0, oM_p0, oM_g1, oM_p1, oM_g2, oM_p2, oM_g3, oM_p3, oM_g4, oM_p4, oM_g5, oM_p5, oM_g6, oM_p6, oM_g7, oM_p7, oM_g8, oM_p8, oM_g9, oM_p9, oM_g10, oM_p10, oM_g11, oM_p11, oM_g12, oM_p12, oM_g13, oM_p13, oM_g14, oM_p14, oM_g15, oM_p15, oM_g16, oM_p16, oM_g17, oM_p17, oM_g18, oM_p18, oM_g19, oM_p19, oM_g20, oM_p20, oM_g21, oM_p21, oM_g22, oM_p22, oM_g23, oM_p23, oM_g24, oM_p24, oM_g25, oM_p25, oM_g26, oM_p26, oM_g27, oM_p27, oM_g28, oM_p28, oM_g29, oM_p29, mv0, mv1, mv2, mv3, mv4, mv5, mv6, mset_o, mset_po, mset_k1, mset_r1, mset_k2, mset_r2, mset_k3, mset_r3, mset_k4, mset_r4, mset_k5, mset_r5, mset_k6, mset_r6, mset_k7, mset_r7, mset_k8, mset_r8, mset_k9, mset_r9, mset_k10, mset_r10, mset_k11, mset_r11, mset_k12, mset_r12, mset_k13, mset_r13, mset_k14, mset_r14, mset_k15, mset_r15, mset_k16, mset_r16, mset_k17, mset_r17, mset_k18, mset_r18, mset_k19, mset_r19, mset_k20, mset_r20, mset_k21, mset_r21, mset_k22, mset_r22, mset_k23, mset_r23, f6, a0, nlt (a := k) (b := n) (by omega) (by omega), hlt, if_true, d0, not_false_eq_true, ed, er, hloop]
            have hnk : nI n - nI 1 = nI (n - 1) := pk_sub (by omega)
            have hnk2 : nI (n - 1) - nI k = nI (n - 1 - k) := pk_sub (by omega)
            have em : n - 1 - k = m := by omega
            rw [em] at hnk2
            have q1 := nlt (a := k + 1) (b := n) (by omega) (by omega)
            have q2 := nlt (a := 0) (b := m) (by decide) (by omega)
            by_cases m0 : m = 0
            · have c1 : ¬ k + 1 < n := by omega
              rw [if_pos m0]
              simp only [m65_101, m65_102, m65_103, m65_105, m65_106, m65_107, m65_108, m65_109, m65_112, m65_113, m65_116, m65_118, m65_119, m65_120, m65_123, m65_125, m65_126, m65_127, m65_129, m65_130, m65_131, m65_132, m65_135, m65_136, m65_137, m65_171, m65_172, m65_174, m65_177, ob_some, pushr_s, pushr_n, iget_eq, gf_eq, pf_eq, ck_eq, alen_eq, rget_eq, iset_eq, Option.bind_some, Option.map_some, Option.elim_some, hput_at, ↓reduceIte, Nat.reduceEqDiff, Nat.reduceAdd, ne_eq, not_false_eq_true, oS_ck, oS_g0, oS_p0, oS_g1, oS_p1, oS_g2, oS_p2, oS_g3, oS_p3, oS_g4, oS_p4, oS_g5, oS_p5, oS_g6, oS_p6, oP_ck, oP_g0, oP_p0, oP_g1, oP_p1, oP_g2, oP_p2, oP_g3, oP_p3, oP_g4, oP_p4, oP_g5, oP_p5, oP_g6, oP_p6, oP_g7, oP_p7, oP_g8, oP_p8, oP_g9, oP_p9, oP_g10, oP_p10, oP_g11, oP_p11, oP_g12, oP_p12, oR_ck, oR_g0, oR_p0, oR_g1, oR_p1, oR_g2, oR_p2, oR_g3, oR_p3, oG_ck, oG_g0, oG_p0, oG_g1, oG_p1, oG_g2, oG_p2, oW_ck, oW_g0, oW_p0, oW_g1, oW_p1, oW_g2, oW_p2, oB_ck, oB_g0, oB_p0, oB_g1, oB_p1, oB_g2, oB_p2, oB_g3, oB_p3, oB_g4, oB_p4, oB_g5, oB_p5, oB_g6, oB_p6, oC_ck, oC_g0, oC_p0, oC_g1, oC_p1, oC_g2, oC_p2, oC_g3, oC_p3, oC_g4, oC_p4, oC_g5, oC_p5, oC_g6, oC_p6, oH_ck, oH_g0, oH_p0, oH_g1, oH_p1, oH_g2, oH_p2, oH_g3, oH_p3, oM_ck, oM_g0, oM_p0, oM_g1, oM_p1, oM_g2, oM_p2, oM_g3, oM_p3, oM_g4, oM_p4, oM_g5, oM_p5, oM_g6, oM_p6, oM_g7, oM_p7, oM_g8, oM_p8, oM_g9, oM_p9, oM_g10, oM_p10, oM_g11, oM_p11, oM_g12, oM_p12, oM_g13, oM_p13, oM_g14, oM_p14, oM_g15, oM_p15, oM_g16, oM_p16, oM_g17, oM_p17, oM_g18, oM_p18, oM_g19, oM_p19, oM_g20, oM_p20, oM_g21, oM_p21, oM_g22, oM_p22, oM_g23, oM_p23, oM_g24, oM_p24, oM_g25, oM_p25, oM_g26, oM_p26, oM_g27, oM_p27, oM_g28, oM_p28, oM_g29, oM_p29, mv0, mv1, mv2, mv3, mv4, mv5, mv6, mset_o, mset_po, mset_k1, mset_r1, mset_k2, mset_r2, mset_k3, mset_r3, mset_k4, mset_r4, mset_k5, mset_r5, mset_k6, mset_r6, mset_k7, mset_r7, mset_k8, mset_r8, mset_k9, mset_r9, mset_k10, mset_r10, mset_k11, mset_r11, mset_k12, mset_r12, mset_k13, mset_r13, mset_k14, mset_r14, mset_k15, mset_r15, mset_k16, mset_r16, mset_k17, mset_r17, mset_k18, mset_r18, mset_k19, mset_r19, mset_k20, mset_r20, mset_k21, mset_r21, mset_k22, mset_r22, mset_k23, mset_r23, o1, f6, f13, f18, f19, a0, g18, g19, p13, fup_fup, nI_add, q1, c1, if_false]
            · have c1 : k + 1 < n := by omega
              have c2 : 0 < m := by omega
              have dm : ¬ nI m = 0 := nI_ne0 (by omega) (by omega)
              have ew : nI ways / nI m = nI (ways / m) := pk_div (by omega) (by omega) (by omega)
              rw [if_neg m0]
              simp only [m65_101, m65_102, m65_103, m65_105, m65_106, m65_107, m65_108, m65_109, m65_112, m65_113, m65_116, m65_118, m65_119, m65_120, m65_123, m65_125, m65_126, m65_127, m65_129, m65_130, m65_131, m65_132, m65_135, m65_136, m65_137, m65_140, m65_141, m65_144, m65_145, m65_146, m65_147, m65_148, m65_150, m65_151, m65_154, m65_156, m65_157, m65_160, m65_161, m65_162, m65_163, m65_164, m65_166, m65_167, m65_168, m65_172, m65_174, m65_177, ob_some, pushr_s, pushr_n, iget_eq, gf_eq, pf_eq, ck_eq, alen_eq, rget_eq, iset_eq, Option.bind_some, Option.map_some, Option.elim_some, hput_at, ↓reduceIte, Nat.reduceEqDiff, Nat.reduceAdd, ne_eq, not_false_eq_true, oS_ck, oS_g0, oS_p0, oS_g1, oS_p1, oS_g2, oS_p2, oS_g3, oS_p3, oS_g4, oS_p4, oS_g5, oS_p5, oS_g6, oS_p6, oP_ck, oP_g0, oP_p0, oP_g1, oP_p1, oP_g2, oP_p2, oP_g3, oP_p3, oP_g4, oP_p4, oP_g5, oP_p5, oP_g6, oP_p6, oP_g7, oP_p7, oP_g8, oP_p8, oP_g9, oP_p9, oP_g10, oP_p10, oP_g11, oP_p11, oP_g12, oP_p12, oR_ck, oR_g0, oR_p0, oR_g1, oR_p1, oR_g2, oR_p2, oR_g3, oR_p3, oG_ck, oG_g0, oG_p0, oG_g1, oG_p1, oG_g2, oG_p2, oW_ck, oW_g0, oW_p0, oW_g1, oW_p1, oW_g2, oW_p2, oB_ck, oB_g0, oB_p0, oB_g1, oB_p1, oB_g2, oB_p2, oB_g3, oB_p3, oB_g4, oB_p4, oB_g5, oB_p5, oB_g6, oB_p6, oC_ck, oC_g0, oC_p0, oC_g1, oC_p1, oC_g2, oC_p2, oC_g3, oC_p3, oC_g4, oC_p4, oC_g5, oC_p5, oC_g6, oC_p6, oH_ck, oH_g0, oH_p0, oH_g1, oH_p1, oH_g2, oH_p2, oH_g3, oH_p3, oM_ck, oM_g0, oM_p0, oM_g1, oM_p1, oM_g2, oM_p2, oM_g3, oM_p3, oM_g4, oM_p4, oM_g5, oM_p5, oM_g6, oM_p6, oM_g7, oM_p7, oM_g8, oM_p8, oM_g9, oM_p9, oM_g10, oM_p10, oM_g11, oM_p11, oM_g12, oM_p12, oM_g13, oM_p13, oM_g14, oM_p14, oM_g15, oM_p15, oM_g16, oM_p16, oM_g17, oM_p17, oM_g18, oM_p18, oM_g19, oM_p19, oM_g20, oM_p20, oM_g21, oM_p21, oM_g22, oM_p22, oM_g23, oM_p23, oM_g24, oM_p24, oM_g25, oM_p25, oM_g26, oM_p26, oM_g27, oM_p27, oM_g28, oM_p28, oM_g29, oM_p29, mv0, mv1, mv2, mv3, mv4, mv5, mv6, mset_o, mset_po, mset_k1, mset_r1, mset_k2, mset_r2, mset_k3, mset_r3, mset_k4, mset_r4, mset_k5, mset_r5, mset_k6, mset_r6, mset_k7, mset_r7, mset_k8, mset_r8, mset_k9, mset_r9, mset_k10, mset_r10, mset_k11, mset_r11, mset_k12, mset_r12, mset_k13, mset_r13, mset_k14, mset_r14, mset_k15, mset_r15, mset_k16, mset_r16, mset_k17, mset_r17, mset_k18, mset_r18, mset_k19, mset_r19, mset_k20, mset_r20, mset_k21, mset_r21, mset_k22, mset_r22, mset_k23, mset_r23, o1, f6, f13, f18, f19, a0, g18, g19, p13, fup_fup, nI_add, q1, c1, if_true, hnk, hnk2, q2, c2, dm, not_false_eq_true, ew]
theorem mtake_ways {n : Nat} (hn : n ≤ 6) (h6 : A 6 0 = n) (l2 l3 : Option Value) (y3 : Int32) (h3 : l3 = some (.int y3)) (l6 l7 : Option Value) (z : Zc) (Q : Option Value → Zc → Hp → Prop) : ∀ m k, m + k = n → 2 ≤ k → Ev 65 (10, [some (.ref 78), none, l2, l3, some (.int (nI (fac (k - 1)))), some (.int (nI k)), l6, l7], [], z, mset h S A W) Q = Ev 65 (34, [some (.ref 78), none, l2, l3, some (.int (nI (fac (n - 1)))), some (.int (nI n)), l6, l7], [], z, mset h S A W) Q := by
  subst h3
  have a0 := igE_AI (n := 2) (j := 0) (A 6) (by decide) (by decide)
  rw [h6] at a0
  intro m
  induction m with
  | zero =>
    intro k hk h2
    have e : k = n := by omega
    subst e
    rw [m65_10]
    simp only [m65_12, m65_13, m65_16, m65_17, m65_18, ob_some, pushr_s, pushr_n, iget_eq, gf_eq, pf_eq, ck_eq, alen_eq, rget_eq, iset_eq, Option.bind_some, Option.map_some, Option.elim_some, hput_at, ↓reduceIte, Nat.reduceEqDiff, Nat.reduceAdd, ne_eq, not_false_eq_true, oS_ck, oS_g0, oS_p0, oS_g1, oS_p1, oS_g2, oS_p2, oS_g3, oS_p3, oS_g4, oS_p4, oS_g5, oS_p5, oS_g6, oS_p6, oP_ck, oP_g0, oP_p0, oP_g1, oP_p1, oP_g2, oP_p2, oP_g3, oP_p3, oP_g4, oP_p4, oP_g5, oP_p5, oP_g6, oP_p6, oP_g7, oP_p7, oP_g8, oP_p8, oP_g9, oP_p9, oP_g10, oP_p10, oP_g11, oP_p11, oP_g12, oP_p12, oR_ck, oR_g0, oR_p0, oR_g1, oR_p1, oR_g2, oR_p2, oR_g3, oR_p3, oG_ck, oG_g0, oG_p0, oG_g1, oG_p1, oG_g2, oG_p2, oW_ck, oW_g0, oW_p0, oW_g1, oW_p1, oW_g2, oW_p2, oB_ck, oB_g0, oB_p0, oB_g1, oB_p1, oB_g2, oB_p2, oB_g3, oB_p3, oB_g4, oB_p4, oB_g5, oB_p5, oB_g6, oB_p6, oC_ck, oC_g0, oC_p0, oC_g1, oC_p1, oC_g2, oC_p2, oC_g3, oC_p3, oC_g4, oC_p4, oC_g5, oC_p5, oC_g6, oC_p6, oH_ck, oH_g0, oH_p0, oH_g1, oH_p1, oH_g2, oH_p2, oH_g3, oH_p3, oM_ck, oM_g0, oM_p0, oM_g1, oM_p1, oM_g2, oM_p2, oM_g3, oM_p3, oM_g4, oM_p4, oM_g5, oM_p5, oM_g6, oM_p6, oM_g7, oM_p7, oM_g8, oM_p8, oM_g9, oM_p9, oM_g10, oM_p10, oM_g11, oM_p11, oM_g12, oM_p12, oM_g13, oM_p13, oM_g14, oM_p14, oM_g15, oM_p15, oM_g16, oM_p16, oM_g17, oM_p17, oM_g18, oM_p18, oM_g19, oM_p19, oM_g20, oM_p20, oM_g21, oM_p21, oM_g22, oM_p22, oM_g23, oM_p23, oM_g24, oM_p24, oM_g25, oM_p25, oM_g26, oM_p26, oM_g27, oM_p27, oM_g28, oM_p28, oM_g29, oM_p29, mv0, mv1, mv2, mv3, mv4, mv5, mv6, mset_o, mset_po, mset_k1, mset_r1, mset_k2, mset_r2, mset_k3, mset_r3, mset_k4, mset_r4, mset_k5, mset_r5, mset_k6, mset_r6, mset_k7, mset_r7, mset_k8, mset_r8, mset_k9, mset_r9, mset_k10, mset_r10, mset_k11, mset_r11, mset_k12, mset_r12, mset_k13, mset_r13, mset_k14, mset_r14, mset_k15, mset_r15, mset_k16, mset_r16, mset_k17, mset_r17, mset_k18, mset_r18, mset_k19, mset_r19, mset_k20, mset_r20, mset_k21, mset_r21, mset_k22, mset_r22, mset_k23, mset_r23, a0, nlt (a := k) (b := k) (by omega) (by omega), Nat.lt_irrefl, if_false]
  | succ m ih =>
    intro k hk h2
    have hlt : k < n := by omega
    have e : fac (k - 1) * k = fac (k + 1 - 1) := by
      rw [Nat.add_sub_cancel]
      have : k = (k - 1) + 1 := by omega
      rw [this, fac, Nat.add_sub_cancel, Nat.mul_comm]
    rw [← ih (k + 1) (by omega) (by omega), ← e, m65_10]
    simp only [m65_12, m65_13, m65_16, m65_17, m65_18, m65_21, m65_23, m65_25, m65_26, m65_28, m65_31, ob_some, pushr_s, pushr_n, iget_eq, gf_eq, pf_eq, ck_eq, alen_eq, rget_eq, iset_eq, Option.bind_some, Option.map_some, Option.elim_some, hput_at, ↓reduceIte, Nat.reduceEqDiff, Nat.reduceAdd, ne_eq, not_false_eq_true, oS_ck, oS_g0, oS_p0, oS_g1, oS_p1, oS_g2, oS_p2, oS_g3, oS_p3, oS_g4, oS_p4, oS_g5, oS_p5, oS_g6, oS_p6, oP_ck, oP_g0, oP_p0, oP_g1, oP_p1, oP_g2, oP_p2, oP_g3, oP_p3, oP_g4, oP_p4, oP_g5, oP_p5, oP_g6, oP_p6, oP_g7, oP_p7, oP_g8, oP_p8, oP_g9, oP_p9, oP_g10, oP_p10, oP_g11, oP_p11, oP_g12, oP_p12, oR_ck, oR_g0, oR_p0, oR_g1, oR_p1, oR_g2, oR_p2, oR_g3, oR_p3, oG_ck, oG_g0, oG_p0, oG_g1, oG_p1, oG_g2, oG_p2, oW_ck, oW_g0, oW_p0, oW_g1, oW_p1, oW_g2, oW_p2, oB_ck, oB_g0, oB_p0, oB_g1, oB_p1, oB_g2, oB_p2, oB_g3, oB_p3, oB_g4, oB_p4, oB_g5, oB_p5, oB_g6, oB_p6, oC_ck, oC_g0, oC_p0, oC_g1, oC_p1, oC_g2, oC_p2, oC_g3, oC_p3, oC_g4, oC_p4, oC_g5, oC_p5, oC_g6, oC_p6, oH_ck, oH_g0, oH_p0, oH_g1, oH_p1, oH_g2, oH_p2, oH_g3, oH_p3, oM_ck, oM_g0, oM_p0, oM_g1, oM_p1, oM_g2, oM_p2, oM_g3, oM_p3, oM_g4, oM_p4, oM_g5, oM_p5, oM_g6, oM_p6, oM_g7, oM_p7, oM_g8, oM_p8, oM_g9, oM_p9, oM_g10, oM_p10, oM_g11, oM_p11, oM_g12, oM_p12, oM_g13, oM_p13, oM_g14, oM_p14, oM_g15, oM_p15, oM_g16, oM_p16, oM_g17, oM_p17, oM_g18, oM_p18, oM_g19, oM_p19, oM_g20, oM_p20, oM_g21, oM_p21, oM_g22, oM_p22, oM_g23, oM_p23, oM_g24, oM_p24, oM_g25, oM_p25, oM_g26, oM_p26, oM_g27, oM_p27, oM_g28, oM_p28, oM_g29, oM_p29, mv0, mv1, mv2, mv3, mv4, mv5, mv6, mset_o, mset_po, mset_k1, mset_r1, mset_k2, mset_r2, mset_k3, mset_r3, mset_k4, mset_r4, mset_k5, mset_r5, mset_k6, mset_r6, mset_k7, mset_r7, mset_k8, mset_r8, mset_k9, mset_r9, mset_k10, mset_r10, mset_k11, mset_r11, mset_k12, mset_r12, mset_k13, mset_r13, mset_k14, mset_r14, mset_k15, mset_r15, mset_k16, mset_r16, mset_k17, mset_r17, mset_k18, mset_r18, mset_k19, mset_r19, mset_k20, mset_r20, mset_k21, mset_r21, mset_k22, mset_r22, mset_k23, mset_r23, a0, nlt (a := k) (b := n) (by omega) (by omega), hlt, if_true, pk_mul, nI_add]
theorem mtake_eq {n c : Nat} (hn : n ≤ 6) (h6 : A 6 0 = n) (hro : ∀ k, k < n → A 18 k < 24) (hc : c < fac n) (hc2 : c < 1000) (z : Zc) (Q : Option Value → Zc → Hp → Prop) : Ev 65 (0, [some (.ref 78), some (.int (nI c)), none, none, none, none, none, none], [], z, mset h S A W) Q = Q none z (mset h S (fup A 13 (tkF (A 18) (A 19) 0 (arrL n (List.range n) c) (A 13))) W) := by
  have hf : fac (n - 1) < 1000 := by
    have h6 : n = 0 ∨ n = 1 ∨ n = 2 ∨ n = 3 ∨ n = 4 ∨ n = 5 ∨ n = 6 := by omega
    rcases h6 with e | e | e | e | e | e | e <;> (rw [e]; decide)
  have hl := mtake_loop (h := h) (S := S) (A := A) (W := W) hn h6 hro z Q n 0 c 0 (fac (n - 1)) (arrL n (List.range n) c) (A 13) none none (by omega) (toF_eq hn hc) (by decide) (by omega) (by omega)
  rw [fup_id] at hl
  have a0 := igE_AI (n := 2) (j := 0) (A 6) (by decide) (by decide)
  rw [h6] at a0
  have step : ∀ k5, Ev 65 (34, [some (.ref 78), none, some (.int (nI c)), some (.int (nI 0)), some (.int (nI (fac (n - 1)))), some (.int (nI k5)), none, none], [], z, mset h S A W) Q = Q none z (mset h S (fup A 13 (tkF (A 18) (A 19) 0 (arrL n (List.range n) c) (A 13))) W) := by
    intro k5
    rw [← hl]
    simp only [m65_34, m65_35]
  simp only [m65_0, m65_1, m65_2, m65_3, m65_4, m65_5, m65_7, m65_8]
  by_cases c2 : 2 ≤ n
  · have hw := mtake_ways (h := h) (S := S) (A := A) (W := W) hn h6 (some (.int (nI c))) _ (nI 0) rfl none none z Q (n - 2) 2 (by omega) (Nat.le_refl _)
    have e : fac (2 - 1) = 1 := rfl
    rw [e] at hw
    exact hw.trans (step n)
  · have e : fac (n - 1) = 1 := by
      have e2 : n - 1 = 0 := by omega
      rw [e2]
      rfl
    have s2 := step 2
    rw [e] at s2
    rw [m65_10]
    have q : ¬ 2 < n := by omega
    simp only [m65_12, m65_13, m65_16, m65_17, m65_18, ob_some, pushr_s, pushr_n, iget_eq, gf_eq, pf_eq, ck_eq, alen_eq, rget_eq, iset_eq, Option.bind_some, Option.map_some, Option.elim_some, hput_at, ↓reduceIte, Nat.reduceEqDiff, Nat.reduceAdd, ne_eq, not_false_eq_true, oS_ck, oS_g0, oS_p0, oS_g1, oS_p1, oS_g2, oS_p2, oS_g3, oS_p3, oS_g4, oS_p4, oS_g5, oS_p5, oS_g6, oS_p6, oP_ck, oP_g0, oP_p0, oP_g1, oP_p1, oP_g2, oP_p2, oP_g3, oP_p3, oP_g4, oP_p4, oP_g5, oP_p5, oP_g6, oP_p6, oP_g7, oP_p7, oP_g8, oP_p8, oP_g9, oP_p9, oP_g10, oP_p10, oP_g11, oP_p11, oP_g12, oP_p12, oR_ck, oR_g0, oR_p0, oR_g1, oR_p1, oR_g2, oR_p2, oR_g3, oR_p3, oG_ck, oG_g0, oG_p0, oG_g1, oG_p1, oG_g2, oG_p2, oW_ck, oW_g0, oW_p0, oW_g1, oW_p1, oW_g2, oW_p2, oB_ck, oB_g0, oB_p0, oB_g1, oB_p1, oB_g2, oB_p2, oB_g3, oB_p3, oB_g4, oB_p4, oB_g5, oB_p5, oB_g6, oB_p6, oC_ck, oC_g0, oC_p0, oC_g1, oC_p1, oC_g2, oC_p2, oC_g3, oC_p3, oC_g4, oC_p4, oC_g5, oC_p5, oC_g6, oC_p6, oH_ck, oH_g0, oH_p0, oH_g1, oH_p1, oH_g2, oH_p2, oH_g3, oH_p3, oM_ck, oM_g0, oM_p0, oM_g1, oM_p1, oM_g2, oM_p2, oM_g3, oM_p3, oM_g4, oM_p4, oM_g5, oM_p5, oM_g6, oM_p6, oM_g7, oM_p7, oM_g8, oM_p8, oM_g9, oM_p9, oM_g10, oM_p10, oM_g11, oM_p11, oM_g12, oM_p12, oM_g13, oM_p13, oM_g14, oM_p14, oM_g15, oM_p15, oM_g16, oM_p16, oM_g17, oM_p17, oM_g18, oM_p18, oM_g19, oM_p19, oM_g20, oM_p20, oM_g21, oM_p21, oM_g22, oM_p22, oM_g23, oM_p23, oM_g24, oM_p24, oM_g25, oM_p25, oM_g26, oM_p26, oM_g27, oM_p27, oM_g28, oM_p28, oM_g29, oM_p29, mv0, mv1, mv2, mv3, mv4, mv5, mv6, mset_o, mset_po, mset_k1, mset_r1, mset_k2, mset_r2, mset_k3, mset_r3, mset_k4, mset_r4, mset_k5, mset_r5, mset_k6, mset_r6, mset_k7, mset_r7, mset_k8, mset_r8, mset_k9, mset_r9, mset_k10, mset_r10, mset_k11, mset_r11, mset_k12, mset_r12, mset_k13, mset_r13, mset_k14, mset_r14, mset_k15, mset_r15, mset_k16, mset_r16, mset_k17, mset_r17, mset_k18, mset_r18, mset_k19, mset_r19, mset_k20, mset_r20, mset_k21, mset_r21, mset_k22, mset_r22, mset_k23, mset_r23, a0, nlt (a := 2) (b := n) (by decide) (by omega), q, if_false]
    exact s2
end TAKE
