/-! the class: order -/
def apL (l : List Nat) (f : Nat → Nat) : Nat → Nat := fun j => l.getD j (f j)
theorem apL_nil (f : Nat → Nat) : apL [] f = f := rfl
theorem apL_snoc (l : List Nat) (f : Nat → Nat) (x : Nat) : fup (apL l f) l.length x = apL (l ++ [x]) f := by
  funext j
  rw [fup_at]
  unfold apL
  rw [List.getD_eq_getElem?_getD, List.getD_eq_getElem?_getD]
  by_cases c : j = l.length
  · rw [if_pos c, c, List.getElem?_append_right (Nat.le_refl _), Nat.sub_self]
    rfl
  · rw [if_neg c]
    by_cases c2 : j < l.length
    · rw [List.getElem?_append_left c2]
    · rw [List.getElem?_eq_none (by omega), List.getElem?_eq_none (by rw [List.length_append]; show l.length + 1 ≤ j; omega)]
def r23 (A : Nat → Nat → Nat) (X Y : Nat → Nat) : Nat → Nat → Nat := fup (fup A 2 X) 3 Y
theorem r23_2 (A : Nat → Nat → Nat) (X Y Z : Nat → Nat) : fup (r23 A X Y) 2 Z = r23 A Z Y := by
  funext k
  unfold r23
  rw [fup_at, fup_at, fup_at, fup_at, fup_at]
  by_cases c : k = 2
  · subst c; rfl
  · rw [if_neg c, if_neg c, if_neg c]
theorem r23_3 (A : Nat → Nat → Nat) (X Y Z : Nat → Nat) : fup (r23 A X Y) 3 Z = r23 A X Z := fup_fup _ _ _ _
theorem lineUp_day {h : Hp} {P : Pl} {V : Wv} {A : Nat → Nat → Nat} (hP : PlanC h 15 P) (hV : Valid P) {s0 s1 : Int32} {d : Nat} (hd : d ≤ 30) (X Y : Nat → Nat) (z : Zc) (Q : Option Value → Zc → Hp → Prop) : ∀ m i, m + i = P 0 1 → ∀ l : List Nat, l.length + (dyR P d (P 0 1) m).length ≤ 6 →
    Ev 88 (15, [some (.ref 39), some (.ref 15), some (.int (nI d)), some (.int (nI i))], [], z, bw h V (bv s0 s1 (nI l.length)) (r23 A (apL l X) (apL (l.map (P 7)) Y))) Q = Ev 88 (83, [some (.ref 39), some (.ref 15), some (.int (nI d)), some (.int (nI (P 0 1)))], [], z, bw h V (bv s0 s1 (nI (l ++ dyR P d (P 0 1) m).length)) (r23 A (apL (l ++ dyR P d (P 0 1) m) X) (apL ((l ++ dyR P d (P 0 1) m).map (P 7)) Y))) Q := by
  have v1 := hV.2.1
  have v5 := hV.2.2.2.2.2.1
  intro m
  induction m with
  | zero =>
    intro i hi l hl
    have e : i = P 0 1 := by omega
    subst e
    have kp := (bw_P hP V (bv s0 s1 (nI l.length)) (r23 A (apL l X) (apL (l.map (P 7)) Y))).2.1
    rw [m88_15, dyR, List.append_nil]
    simp only [m88_16, m88_17, m88_20, ob_some, pushr_s, pushr_n, iget_eq, gf_eq, pf_eq, ck_eq, alen_eq, rget_eq, iset_eq, Option.bind_some, Option.map_some, Option.elim_some, hput_at, ↓reduceIte, Nat.reduceEqDiff, Nat.reduceAdd, ne_eq, not_false_eq_true, oS_ck, oS_g0, oS_p0, oS_g1, oS_p1, oS_g2, oS_p2, oS_g3, oS_p3, oS_g4, oS_p4, oS_g5, oS_p5, oS_g6, oS_p6, oP_ck, oP_g0, oP_p0, oP_g1, oP_p1, oP_g2, oP_p2, oP_g3, oP_p3, oP_g4, oP_p4, oP_g5, oP_p5, oP_g6, oP_p6, oP_g7, oP_p7, oP_g8, oP_p8, oP_g9, oP_p9, oP_g10, oP_p10, oP_g11, oP_p11, oP_g12, oP_p12, oR_ck, oR_g0, oR_p0, oR_g1, oR_p1, oR_g2, oR_p2, oR_g3, oR_p3, oG_ck, oG_g0, oG_p0, oG_g1, oG_p1, oG_g2, oG_p2, oW_ck, oW_g0, oW_p0, oW_g1, oW_p1, oW_g2, oW_p2, oB_ck, oB_g0, oB_p0, oB_g1, oB_p1, oB_g2, oB_p2, oB_g3, oB_p3, oB_g4, oB_p4, oB_g5, oB_p5, oB_g6, oB_p6, oC_ck, oC_g0, oC_p0, oC_g1, oC_p1, oC_g2, oC_p2, oC_g3, oC_p3, oC_g4, oC_p4, oC_g5, oC_p5, oC_g6, oC_p6, oH_ck, oH_g0, oH_p0, oH_g1, oH_p1, oH_g2, oH_p2, oH_g3, oH_p3, oM_ck, oM_g0, oM_p0, oM_g1, oM_p1, oM_g2, oM_p2, oM_g3, oM_p3, oM_g4, oM_p4, oM_g5, oM_p5, oM_g6, oM_p6, oM_g7, oM_p7, oM_g8, oM_p8, oM_g9, oM_p9, oM_g10, oM_p10, oM_g11, oM_p11, oM_g12, oM_p12, oM_g13, oM_p13, oM_g14, oM_p14, oM_g15, oM_p15, oM_g16, oM_p16, oM_g17, oM_p17, oM_g18, oM_p18, oM_g19, oM_p19, oM_g20, oM_p20, oM_g21, oM_p21, oM_g22, oM_p22, oM_g23, oM_p23, oM_g24, oM_p24, oM_g25, oM_p25, oM_g26, oM_p26, oM_g27, oM_p27, oM_g28, oM_p28, oM_g29, oM_p29, kp, nlt (a := P 0 1) (b := P 0 1) (by omega) (by omega), Nat.lt_irrefl, if_false]
  | succ m ih =>
    intro i hi l hl
    have hlt : i < P 0 1 := by omega
    have e1 : P 0 1 - (m + 1) = i := by omega
    obtain ⟨-, -, u3, -, u5⟩ := v5 i hlt
    have kp := fun V S A => (bw_P hP V S A).2.1
    have kp6 := fun V S A => (bw_P hP V S A).2.2.2.2.2.2.2.1
    have kp7 := fun V S A => (bw_P hP V S A).2.2.2.2.2.2.2.2.1
    have g6 := igE_AI (n := 6) (j := i) (P 6) (by omega) (by decide)
    have g7 := igE_AI (n := 6) (j := i) (P 7) (by omega) (by decide)
    have l1 := nlt (a := i) (b := P 0 1) (by omega) (by omega)
    have l2 := neq (a := P 6 i) (b := d) (by omega) (by omega)
    rw [dyR, e1] at hl ⊢
    rw [m88_15]
    by_cases c : P 6 i = d
    · rw [if_pos c] at hl ⊢
      rw [List.length_cons] at hl
      have l6 : l.length < 6 := by omega
      have p2 := isE_AI (n := 6) (j := l.length) (apL l X) i l6 (by decide)
      have p3 := isE_AI (n := 6) (j := l.length) (apL (l.map (P 7)) Y) (P 7 i) l6 (by decide)
      rw [apL_snoc] at p2
      have e3 : fup (apL (l.map (P 7)) Y) l.length (P 7 i) = apL ((l ++ [i]).map (P 7)) Y := by
        have := apL_snoc (l.map (P 7)) Y (P 7 i)
        rw [List.length_map] at this
        rw [this, List.map_append]
        rfl
      rw [e3] at p3
      have q2 : ∀ X Y, r23 A X Y 2 = X := fun X Y => rfl
      have q3 : ∀ X Y, r23 A X Y 3 = Y := fun X Y => rfl
      have ihk := ih (i + 1) (by omega) (l ++ [i]) (by rw [List.length_append]; show l.length + 1 + _ ≤ 6; omega)
      rw [List.append_assoc, List.singleton_append] at ihk
      have el : (l ++ [i]).length = l.length + 1 := by rw [List.length_append]; rfl
      rw [el] at ihk
      rw [← ihk]
      simp only [m88_16, m88_17, m88_20, m88_23, m88_24, m88_27, m88_28, m88_29, m88_30, m88_33, m88_34, m88_37, m88_39, m88_42, m88_43, m88_46, m88_47, m88_50, m88_51, m88_52, m88_53, m88_56, m88_57, m88_60, m88_61, m88_64, m88_65, m88_66, m88_67, m88_68, m88_69, m88_72, m88_73, m88_74, m88_77, m88_80, ob_some, pushr_s, pushr_n, iget_eq, gf_eq, pf_eq, ck_eq, alen_eq, rget_eq, iset_eq, Option.bind_some, Option.map_some, Option.elim_some, hput_at, ↓reduceIte, Nat.reduceEqDiff, Nat.reduceAdd, ne_eq, not_false_eq_true, oS_ck, oS_g0, oS_p0, oS_g1, oS_p1, oS_g2, oS_p2, oS_g3, oS_p3, oS_g4, oS_p4, oS_g5, oS_p5, oS_g6, oS_p6, oP_ck, oP_g0, oP_p0, oP_g1, oP_p1, oP_g2, oP_p2, oP_g3, oP_p3, oP_g4, oP_p4, oP_g5, oP_p5, oP_g6, oP_p6, oP_g7, oP_p7, oP_g8, oP_p8, oP_g9, oP_p9, oP_g10, oP_p10, oP_g11, oP_p11, oP_g12, oP_p12, oR_ck, oR_g0, oR_p0, oR_g1, oR_p1, oR_g2, oR_p2, oR_g3, oR_p3, oG_ck, oG_g0, oG_p0, oG_g1, oG_p1, oG_g2, oG_p2, oW_ck, oW_g0, oW_p0, oW_g1, oW_p1, oW_g2, oW_p2, oB_ck, oB_g0, oB_p0, oB_g1, oB_p1, oB_g2, oB_p2, oB_g3, oB_p3, oB_g4, oB_p4, oB_g5, oB_p5, oB_g6, oB_p6, oC_ck, oC_g0, oC_p0, oC_g1, oC_p1, oC_g2, oC_p2, oC_g3, oC_p3, oC_g4, oC_p4, oC_g5, oC_p5, oC_g6, oC_p6, oH_ck, oH_g0, oH_p0, oH_g1, oH_p1, oH_g2, oH_p2, oH_g3, oH_p3, oM_ck, oM_g0, oM_p0, oM_g1, oM_p1, oM_g2, oM_p2, oM_g3, oM_p3, oM_g4, oM_p4, oM_g5, oM_p5, oM_g6, oM_p6, oM_g7, oM_p7, oM_g8, oM_p8, oM_g9, oM_p9, oM_g10, oM_p10, oM_g11, oM_p11, oM_g12, oM_p12, oM_g13, oM_p13, oM_g14, oM_p14, oM_g15, oM_p15, oM_g16, oM_p16, oM_g17, oM_p17, oM_g18, oM_p18, oM_g19, oM_p19, oM_g20, oM_p20, oM_g21, oM_p21, oM_g22, oM_p22, oM_g23, oM_p23, oM_g24, oM_p24, oM_g25, oM_p25, oM_g26, oM_p26, oM_g27, oM_p27, oM_g28, oM_p28, oM_g29, oM_p29, bv0, bv1, bv2, bw_o, bw_po, bw_k1, bw_k2, bw_k3, bw_k4, bw_r1, bw_r2, bw_r3, kp, kp6, kp7, g6, g7, l1, l2, hlt, if_true, c, nlt (a := l.length) (b := 6) (by omega) (by decide), l6, q2, q3, p2, p3, r23_2, r23_3, nI_add]
    · rw [if_neg c] at hl ⊢
      have ihk := ih (i + 1) (by omega) l hl
      rw [← ihk]
      simp only [m88_16, m88_17, m88_20, m88_23, m88_24, m88_27, m88_28, m88_29, m88_30, m88_77, m88_80, ob_some, pushr_s, pushr_n, iget_eq, gf_eq, pf_eq, ck_eq, alen_eq, rget_eq, iset_eq, Option.bind_some, Option.map_some, Option.elim_some, hput_at, ↓reduceIte, Nat.reduceEqDiff, Nat.reduceAdd, ne_eq, not_false_eq_true, oS_ck, oS_g0, oS_p0, oS_g1, oS_p1, oS_g2, oS_p2, oS_g3, oS_p3, oS_g4, oS_p4, oS_g5, oS_p5, oS_g6, oS_p6, oP_ck, oP_g0, oP_p0, oP_g1, oP_p1, oP_g2, oP_p2, oP_g3, oP_p3, oP_g4, oP_p4, oP_g5, oP_p5, oP_g6, oP_p6, oP_g7, oP_p7, oP_g8, oP_p8, oP_g9, oP_p9, oP_g10, oP_p10, oP_g11, oP_p11, oP_g12, oP_p12, oR_ck, oR_g0, oR_p0, oR_g1, oR_p1, oR_g2, oR_p2, oR_g3, oR_p3, oG_ck, oG_g0, oG_p0, oG_g1, oG_p1, oG_g2, oG_p2, oW_ck, oW_g0, oW_p0, oW_g1, oW_p1, oW_g2, oW_p2, oB_ck, oB_g0, oB_p0, oB_g1, oB_p1, oB_g2, oB_p2, oB_g3, oB_p3, oB_g4, oB_p4, oB_g5, oB_p5, oB_g6, oB_p6, oC_ck, oC_g0, oC_p0, oC_g1, oC_p1, oC_g2, oC_p2, oC_g3, oC_p3, oC_g4, oC_p4, oC_g5, oC_p5, oC_g6, oC_p6, oH_ck, oH_g0, oH_p0, oH_g1, oH_p1, oH_g2, oH_p2, oH_g3, oH_p3, oM_ck, oM_g0, oM_p0, oM_g1, oM_p1, oM_g2, oM_p2, oM_g3, oM_p3, oM_g4, oM_p4, oM_g5, oM_p5, oM_g6, oM_p6, oM_g7, oM_p7, oM_g8, oM_p8, oM_g9, oM_p9, oM_g10, oM_p10, oM_g11, oM_p11, oM_g12, oM_p12, oM_g13, oM_p13, oM_g14, oM_p14, oM_g15, oM_p15, oM_g16, oM_p16, oM_g17, oM_p17, oM_g18, oM_p18, oM_g19, oM_p19, oM_g20, oM_p20, oM_g21, oM_p21, oM_g22, oM_p22, oM_g23, oM_p23, oM_g24, oM_p24, oM_g25, oM_p25, oM_g26, oM_p26, oM_g27, oM_p27, oM_g28, oM_p28, oM_g29, oM_p29, kp, kp6, g6, l1, l2, hlt, if_true, c, if_false, nI_add]
theorem lineUp_days {h : Hp} {P : Pl} {V : Wv} {A : Nat → Nat → Nat} (hP : PlanC h 15 P) (hV : Valid P) {s0 s1 : Int32} (X Y : Nat → Nat) (z : Zc) (Q : Option Value → Zc → Hp → Prop) : ∀ M, M ≤ 30 → ∀ (l : List Nat) l3, l.length + (orR P (P 0 1) M).length ≤ 6 →
    Ev 88 (7, [some (.ref 39), some (.ref 15), some (.int (nI (31 - M))), l3], [], z, bw h V (bv s0 s1 (nI l.length)) (r23 A (apL l X) (apL (l.map (P 7)) Y))) Q = Ev 88 (89, [some (.ref 39), some (.ref 15), some (.int (nI 31)), if M = 0 then l3 else some (.int (nI (P 0 1)))], [], z, bw h V (bv s0 s1 (nI (l ++ orR P (P 0 1) M).length)) (r23 A (apL (l ++ orR P (P 0 1) M) X) (apL ((l ++ orR P (P 0 1) M).map (P 7)) Y))) Q := by
  intro M
  induction M with
  | zero =>
    intro hM l l3 hl
    rw [orR, List.append_nil, Nat.sub_zero, m88_7, if_pos rfl]
    simp only [m88_8, m88_10, nlt (a := 30) (b := 31) (by decide) (by decide), Nat.reduceLT, if_true]
  | succ M ih =>
    intro hM l l3 hl
    rw [orR, List.length_append] at hl
    have ed : 31 - (M + 1) = 30 - M := by omega
    have hd := lineUp_day (h := h) (V := V) (A := A) hP hV (s0 := s0) (s1 := s1) (d := 30 - M) (by omega) X Y z Q (P 0 1) 0 (by omega) l (by omega)
    have ihk := ih (by omega) (l ++ dyR P (30 - M) (P 0 1) (P 0 1)) (some (.int (nI (P 0 1)))) (by rw [List.length_append]; omega)
    have e3 : (if M = 0 then some (.int (nI (P 0 1))) else some (.int (nI (P 0 1))) : Option Value) = some (.int (nI (P 0 1))) := by split <;> rfl
    rw [e3, show 31 - M = 30 - M + 1 by omega, List.append_assoc] at ihk
    rw [orR, if_neg (by omega : ¬ M + 1 = 0), ← ihk, ed, m88_7]
    have hl30 : ¬ 30 < 30 - M := by omega
    simp only [m88_8, m88_10, m88_13, m88_14, nlt (a := 30) (b := 30 - M) (by decide) (by omega), hl30, if_false, hd]
    simp only [m88_83, m88_86, nI_add]
/-- the rows at first: thrown, and tried from the lowest on -/
def row0 (P : Pl) (Y : Nat → Nat) : Nat → Nat := soF true (P 0 1) 0 (apL ((thL P).map (P 7)) Y)
theorem apL_bd {l : List Nat} {f : Nat → Nat} {m : Nat} (h1 : ∀ x, x ∈ l → x < m) (h2 : ∀ j, f j < m) : ∀ j, apL l f j < m := fun j => by
  unfold apL
  rw [List.getD_eq_getElem?_getD]
  cases hq : l[j]? with
  | none => exact h2 j
  | some x => exact h1 x (List.mem_of_getElem? hq)
theorem thL_w {P : Pl} (hV : Valid P) : ∀ x, x ∈ (thL P).map (P 7) → x < 100000 := fun x hx => by
  obtain ⟨i, hi, e⟩ := List.mem_map.mp hx
  have := hV.2.2.2.2.2.1 i (orR_mem 30 i (Nat.le_refl _) hi).1
  omega
theorem lineUp_eq {h : Hp} {P : Pl} {V : Wv} {A : Nat → Nat → Nat} (hP : PlanC h 15 P) (hV : Valid P) {s0 s1 s2 : Int32} (hA : ∀ j, A 3 j < 100000) (z : Zc) (Q : Option Value → Zc → Hp → Prop) :
    Ev 88 (0, [some (.ref 39), some (.ref 15), none, none], [], z, bw h V (bv s0 s1 s2) A) Q = Q none z (bw h V (bv s0 s1 (nI (P 0 1))) (r23 A (apL (thL P) (A 2)) (row0 P (A 3)))) := by
  have v1 := hV.2.1
  have hl := thL_len hV
  have e0 : A = r23 A (apL [] (A 2)) (apL (([] : List Nat).map (P 7)) (A 3)) := by
    unfold r23
    rw [List.map_nil, apL_nil, apL_nil, fup_id]
    exact (fup_id A 3).symm
  have hd := lineUp_days (h := h) (V := V) (A := A) hP hV (s0 := s0) (s1 := s1) (A 2) (A 3) z Q 30 (Nat.le_refl _) [] none (by
    have : (orR P (P 0 1) 30).length = P 0 1 := hl
    rw [this]
    show 0 + P 0 1 ≤ 6
    omega)
  rw [← e0, if_neg (by decide), List.nil_append] at hd
  have e1 : orR P (P 0 1) 30 = thL P := rfl
  rw [e1, hl] at hd
  have hso := fun Q => sort_eq (h := h) (V := V) (S := bv s0 s1 (nI (P 0 1))) (A := r23 A (apL (thL P) (A 2)) (apL ((thL P).map (P 7)) (A 3))) (n := P 0 1) z Q (up := true) (i := 0) v1 rfl (Nat.zero_le _) (apL_bd (thL_w hV) hA)
  rw [r23_3] at hso
  have u : upI true = 1 := rfl
  rw [u] at hso
  simp only [m88_0, m88_1, m88_2, m88_5, m88_6, ob_some, pushr_s, pushr_n, iget_eq, gf_eq, pf_eq, ck_eq, alen_eq, rget_eq, iset_eq, Option.bind_some, Option.map_some, Option.elim_some, hput_at, ↓reduceIte, Nat.reduceEqDiff, Nat.reduceAdd, ne_eq, not_false_eq_true, oS_ck, oS_g0, oS_p0, oS_g1, oS_p1, oS_g2, oS_p2, oS_g3, oS_p3, oS_g4, oS_p4, oS_g5, oS_p5, oS_g6, oS_p6, oP_ck, oP_g0, oP_p0, oP_g1, oP_p1, oP_g2, oP_p2, oP_g3, oP_p3, oP_g4, oP_p4, oP_g5, oP_p5, oP_g6, oP_p6, oP_g7, oP_p7, oP_g8, oP_p8, oP_g9, oP_p9, oP_g10, oP_p10, oP_g11, oP_p11, oP_g12, oP_p12, oR_ck, oR_g0, oR_p0, oR_g1, oR_p1, oR_g2, oR_p2, oR_g3, oR_p3, oG_ck, oG_g0, oG_p0, oG_g1, oG_p1, oG_g2, oG_p2, oW_ck, oW_g0, oW_p0, oW_g1, oW_p1, oW_g2, oW_p2, oB_ck, oB_g0, oB_p0, oB_g1, oB_p1, oB_g2, oB_p2, oB_g3, oB_p3, oB_g4, oB_p4, oB_g5, oB_p5, oB_g6, oB_p6, oC_ck, oC_g0, oC_p0, oC_g1, oC_p1, oC_g2, oC_p2, oC_g3, oC_p3, oC_g4, oC_p4, oC_g5, oC_p5, oC_g6, oC_p6, oH_ck, oH_g0, oH_p0, oH_g1, oH_p1, oH_g2, oH_p2, oH_g3, oH_p3, oM_ck, oM_g0, oM_p0, oM_g1, oM_p1, oM_g2, oM_p2, oM_g3, oM_p3, oM_g4, oM_p4, oM_g5, oM_p5, oM_g6, oM_p6, oM_g7, oM_p7, oM_g8, oM_p8, oM_g9, oM_p9, oM_g10, oM_p10, oM_g11, oM_p11, oM_g12, oM_p12, oM_g13, oM_p13, oM_g14, oM_p14, oM_g15, oM_p15, oM_g16, oM_p16, oM_g17, oM_p17, oM_g18, oM_p18, oM_g19, oM_p19, oM_g20, oM_p20, oM_g21, oM_p21, oM_g22, oM_p22, oM_g23, oM_p23, oM_g24, oM_p24, oM_g25, oM_p25, oM_g26, oM_p26, oM_g27, oM_p27, oM_g28, oM_p28, oM_g29, oM_p29, bv0, bv1, bv2, bw_o, bw_po, bw_k1, bw_k2, bw_k3, bw_k4, bw_r1, bw_r2, bw_r3]
  have en : nI ([] : List Nat).length = nI 0 := rfl
  rw [en] at hd
  refine hd.trans ?_
  simp only [m88_89, m88_90, m88_91, m88_92, m88_95, pushr_n, hso]
  rfl
theorem tryF_day {ok : Nat → Bool} {dy : Nat → Nat} {day n m : Nat} (h : ∀ k, k < n → dy k ≤ m) : ∀ r, r ≤ n → (tryF ok dy day n r).2 ≤ m
  | 0, _ => Nat.zero_le _
  | r + 1, hr => by
    rw [tryF]
    split
    · exact Nat.zero_le _
    · split
      · exact h _ (by omega)
      · exact tryF_day h r (by omega)
theorem prm_vals {n : Nat} {f g : Nat → Nat} (h : PrmF n f g) {p : Nat → Prop} (hg : ∀ j, j < n → p (g j)) : ∀ j, j < n → p (f j) := fun j hj => by
  obtain ⟨i, -, i2, i3⟩ := prm_in h (a := 0) (fun i hi => by omega) (Nat.zero_le j) hj
  rw [← i3]
  exact hg i i2
theorem nxF_bd {n p m : Nat} {f : Nat → Nat} (h : ∀ j, f j < m) : ∀ j, nxF n p f j < m := ouS_bd _ _ (swF_bd h)
theorem find_loop {h : Hp} {P : Pl} (hP : PlanC h 15 P) (hV : Valid P) (z : Zc) : ∀ t, t ≤ 1000 → ∀ (p : Nat) (a : Nat → Nat) (day : Nat) (w : Nat → Nat) (V : Wv) (A : Nat → Nat → Nat) l4, p ≤ P 0 1 → (∀ j, j < P 0 1 → 1 ≤ a j ∧ a j ≤ 20) → (∀ j, a j < 100000) → day ≤ 30 → A 3 = a → A 1 = w → (∀ k, k < P 0 1 → A 2 k = thK P k) → (∀ j, j ≤ p → j < P 0 1 → V j = (P 8, ahW P a j)) →
    ∃ V2 A2, A2 1 = (seF (okB P) (dyK P) (P 0 1) t p a day w).2 ∧ (∀ j, A2 3 j < 100000) ∧ (seF (okB P) (dyK P) (P 0 1) t p a day w).1 ≤ 30 ∧ ∀ Q, Ev 87 (58, [some (.ref 39), some (.ref 15), some (.int (cN4 p)), some (.int (nI (1000 - t))), l4], [], z, bw h V (bv (nI 1) (dN day) (nI (P 0 1))) A) Q = Q none z (bw h V2 (bv (nI 1) (dN (seF (okB P) (dyK P) (P 0 1) t p a day w).1) (nI (P 0 1))) A2) := by
  have v1 := hV.2.1
  intro t
  induction t with
  | zero =>
    intro ht p a day w V A l4 hp ha hb hday h3 h1 h2 hv
    refine ⟨V, A, h1, fun j => by rw [h3]; exact hb j, hday, fun Q => ?_⟩
    rw [m87_58, Nat.sub_zero]
    simp only [m87_59, m87_62, m87_97, nlt (a := 1000) (b := 1000) (by decide) (by decide), Nat.lt_irrefl, if_false]
    rfl
  | succ t ih =>
    intro ht p a day w V A l4 hp ha hb hday h3 h1 h2 hv
    have hRw : RwO P a (bv (nI 1) (dN day) (nI (P 0 1))) A := ⟨rfl, h2, fun k _ => by rw [h3]⟩
    have epn : P 0 1 - (P 0 1 - p) = p := by omega
    obtain ⟨V2, i1, i2⟩ := tryFrom_loop hP hV ha z (S := bv (nI 1) (dN day) (nI (P 0 1))) (A := A) (day := day) hday rfl hRw (P 0 1 - p) (by omega) V none (fun j j1 j2 => hv j (by omega) j2)
    rw [epn] at i2
    have hspec := tryF_spec (ok := okB P a) (dy := dyK P) (day := day) (n := P 0 1) (dyK_mono hV) (fun k hk => (dyK_pos hV k hk).1) (P 0 1 - p)
    have hd30 := tryF_day (ok := okB P a) (dy := dyK P) (day := day) (n := P 0 1) (m := 30) (fun k hk => (dyK_pos hV k hk).2) (P 0 1 - p) (by omega)
    have hm : (tryF (okB P a) (dyK P) day (P 0 1) (P 0 1 - p)).1 ≤ P 0 1 := by
      have : ∀ r, r ≤ P 0 1 → (tryF (okB P a) (dyK P) day (P 0 1) r).1 ≤ P 0 1 := by
        intro r
        induction r with
        | zero => intro _; exact Nat.le_refl _
        | succ r ih2 =>
          intro hr
          rw [tryF]
          split
          · exact Nat.sub_le _ _
          · split
            · show P 0 1 - (r + 1) + 1 ≤ P 0 1
              omega
            · exact ih2 (by omega)
      exact this _ (by omega)
    rw [seF]
    generalize tryF (okB P a) (dyK P) day (P 0 1) (P 0 1 - p) = r at i1 i2 hspec hd30 hm
    obtain ⟨m, d⟩ := r
    dsimp only at i1 i2 hspec hd30 hm ⊢
    -- the heap behind the try
    have hheap : (if d = 0 then bw h V2 (bv (nI 1) (dN day) (nI (P 0 1))) A else bw h V2 (bv (bv (nI 1) (dN day) (nI (P 0 1)) 0) (nI d) (bv (nI 1) (dN day) (nI (P 0 1)) 2)) (fup A 1 (A 3))) = bw h V2 (bv (nI 1) (dN (if d = 0 then day else d)) (nI (P 0 1))) (fup A 1 (if d = 0 then w else a)) := by
      by_cases c : d = 0
      · rw [if_pos c, if_pos c, if_pos c, ← h1, fup_id]
      · rw [if_neg c, if_neg c, if_neg c, dN_pos c, h3]
        rfl
    rw [hheap] at i2
    have hday2 : (if d = 0 then day else d) ≤ 30 := by split <;> assumption
    have f3 : fup A 1 (if d = 0 then w else a) 3 = a := h3
    have hso := fun Q => sort_eq (h := h) (V := V2) (S := bv (nI 1) (dN (if d = 0 then day else d)) (nI (P 0 1))) (A := fup A 1 (if d = 0 then w else a)) (n := P 0 1) z Q (up := false) (i := m) v1 rfl hm (fun j => by rw [f3]; exact hb j)
    rw [f3] at hso
    have u : upI false = 0 := rfl
    rw [u] at hso
    have hgb : ∀ j, soF false (P 0 1) m a j < 100000 := ouS_bd _ _ hb
    have hga : PrmF (P 0 1) (soF false (P 0 1) m a) a := (soF_spec (up := false) a hm).2.2
    have hg2 : ∀ j, j < m → soF false (P 0 1) m a j = a j := fun j hj => (soF_spec (up := false) a hm).2.1 j (Or.inl hj)
    have hdsc := soF_dsc (n := P 0 1) (i := m) a hm
    generalize soF false (P 0 1) m a = g at hso hgb hga hg2 hdsc
    have g3 : fup (fup A 1 (if d = 0 then w else a)) 3 g 3 = g := fup_self _ _ _
    have hno := fun Q => nextOrder_eq (h := h) (V := V2) (S := bv (nI 1) (dN (if d = 0 then day else d)) (nI (P 0 1))) (A := fup (fup A 1 (if d = 0 then w else a)) 3 g) (n := P 0 1) z Q v1 rfl (fun j => by rw [g3]; exact hgb j)
    rw [g3, fup_fup] at hno
    have lp := cN4_ne (c := p) (by omega)
    have lt1 : 1000 - (t + 1) < 1000 := by omega
    have l1000 := nlt (a := 1000 - (t + 1)) (b := 1000) (by omega) (by decide)
    have et : 1000 - (t + 1) + 1 = 1000 - t := by omega
    have mx := max0 (i := p) (by omega)
    have hcp : cN4 p = nI p := cN4_lt (by omega)
    -- as far as the next order
    have step : ∀ Q, Ev 87 (58, [some (.ref 39), some (.ref 15), some (.int (cN4 p)), some (.int (nI (1000 - (t + 1)))), l4], [], z, bw h V (bv (nI 1) (dN day) (nI (P 0 1))) A) Q = Ev 87 (58, [some (.ref 39), some (.ref 15), some (.int (cN4 (pvF g (P 0 1 - 1)))), some (.int (nI (1000 - t))), some (.int (nI m))], [], z, if pvF g (P 0 1 - 1) = 10 then bw h V2 (bv (nI 1) (dN (if d = 0 then day else d)) (nI (P 0 1))) (fup (fup A 1 (if d = 0 then w else a)) 3 g) else bw h V2 (bv (nI 1) (dN (if d = 0 then day else d)) (nI (P 0 1))) (fup (fup A 1 (if d = 0 then w else a)) 3 (nxF (P 0 1) (pvF g (P 0 1 - 1)) g))) Q := by
      intro Q
      rw [m87_58]
      simp only [m87_59, m87_62, m87_65, m87_66, m87_68, m87_71, m87_72, m87_73, m87_74, ob_some, pushr_s, pushr_n, iget_eq, gf_eq, pf_eq, ck_eq, alen_eq, rget_eq, iset_eq, Option.bind_some, Option.map_some, Option.elim_some, hput_at, ↓reduceIte, Nat.reduceEqDiff, Nat.reduceAdd, ne_eq, not_false_eq_true, oS_ck, oS_g0, oS_p0, oS_g1, oS_p1, oS_g2, oS_p2, oS_g3, oS_p3, oS_g4, oS_p4, oS_g5, oS_p5, oS_g6, oS_p6, oP_ck, oP_g0, oP_p0, oP_g1, oP_p1, oP_g2, oP_p2, oP_g3, oP_p3, oP_g4, oP_p4, oP_g5, oP_p5, oP_g6, oP_p6, oP_g7, oP_p7, oP_g8, oP_p8, oP_g9, oP_p9, oP_g10, oP_p10, oP_g11, oP_p11, oP_g12, oP_p12, oR_ck, oR_g0, oR_p0, oR_g1, oR_p1, oR_g2, oR_p2, oR_g3, oR_p3, oG_ck, oG_g0, oG_p0, oG_g1, oG_p1, oG_g2, oG_p2, oW_ck, oW_g0, oW_p0, oW_g1, oW_p1, oW_g2, oW_p2, oB_ck, oB_g0, oB_p0, oB_g1, oB_p1, oB_g2, oB_p2, oB_g3, oB_p3, oB_g4, oB_p4, oB_g5, oB_p5, oB_g6, oB_p6, oC_ck, oC_g0, oC_p0, oC_g1, oC_p1, oC_g2, oC_p2, oC_g3, oC_p3, oC_g4, oC_p4, oC_g5, oC_p5, oC_g6, oC_p6, oH_ck, oH_g0, oH_p0, oH_g1, oH_p1, oH_g2, oH_p2, oH_g3, oH_p3, oM_ck, oM_g0, oM_p0, oM_g1, oM_p1, oM_g2, oM_p2, oM_g3, oM_p3, oM_g4, oM_p4, oM_g5, oM_p5, oM_g6, oM_p6, oM_g7, oM_p7, oM_g8, oM_p8, oM_g9, oM_p9, oM_g10, oM_p10, oM_g11, oM_p11, oM_g12, oM_p12, oM_g13, oM_p13, oM_g14, oM_p14, oM_g15, oM_p15, oM_g16, oM_p16, oM_g17, oM_p17, oM_g18, oM_p18, oM_g19, oM_p19, oM_g20, oM_p20, oM_g21, oM_p21, oM_g22, oM_p22, oM_g23, oM_p23, oM_g24, oM_p24, oM_g25, oM_p25, oM_g26, oM_p26, oM_g27, oM_p27, oM_g28, oM_p28, oM_g29, oM_p29, bv0, bv1, bv2, bw_o, bw_po, bw_k1, bw_k2, bw_k3, bw_k4, bw_r1, bw_r2, bw_r3, l1000, lt1, if_true, lp, if_false]
      simp only [m90_0, m90_1, m90_2, m90_5, hcp, mx, i2]
      simp only [m87_77, m87_79, m87_80, m87_82, m87_83, m87_86, m87_87, m87_90, m87_91, m87_94, ob_some, pushr_s, pushr_n, iget_eq, gf_eq, pf_eq, ck_eq, alen_eq, rget_eq, iset_eq, Option.bind_some, Option.map_some, Option.elim_some, hput_at, ↓reduceIte, Nat.reduceEqDiff, Nat.reduceAdd, ne_eq, not_false_eq_true, oS_ck, oS_g0, oS_p0, oS_g1, oS_p1, oS_g2, oS_p2, oS_g3, oS_p3, oS_g4, oS_p4, oS_g5, oS_p5, oS_g6, oS_p6, oP_ck, oP_g0, oP_p0, oP_g1, oP_p1, oP_g2, oP_p2, oP_g3, oP_p3, oP_g4, oP_p4, oP_g5, oP_p5, oP_g6, oP_p6, oP_g7, oP_p7, oP_g8, oP_p8, oP_g9, oP_p9, oP_g10, oP_p10, oP_g11, oP_p11, oP_g12, oP_p12, oR_ck, oR_g0, oR_p0, oR_g1, oR_p1, oR_g2, oR_p2, oR_g3, oR_p3, oG_ck, oG_g0, oG_p0, oG_g1, oG_p1, oG_g2, oG_p2, oW_ck, oW_g0, oW_p0, oW_g1, oW_p1, oW_g2, oW_p2, oB_ck, oB_g0, oB_p0, oB_g1, oB_p1, oB_g2, oB_p2, oB_g3, oB_p3, oB_g4, oB_p4, oB_g5, oB_p5, oB_g6, oB_p6, oC_ck, oC_g0, oC_p0, oC_g1, oC_p1, oC_g2, oC_p2, oC_g3, oC_p3, oC_g4, oC_p4, oC_g5, oC_p5, oC_g6, oC_p6, oH_ck, oH_g0, oH_p0, oH_g1, oH_p1, oH_g2, oH_p2, oH_g3, oH_p3, oM_ck, oM_g0, oM_p0, oM_g1, oM_p1, oM_g2, oM_p2, oM_g3, oM_p3, oM_g4, oM_p4, oM_g5, oM_p5, oM_g6, oM_p6, oM_g7, oM_p7, oM_g8, oM_p8, oM_g9, oM_p9, oM_g10, oM_p10, oM_g11, oM_p11, oM_g12, oM_p12, oM_g13, oM_p13, oM_g14, oM_p14, oM_g15, oM_p15, oM_g16, oM_p16, oM_g17, oM_p17, oM_g18, oM_p18, oM_g19, oM_p19, oM_g20, oM_p20, oM_g21, oM_p21, oM_g22, oM_p22, oM_g23, oM_p23, oM_g24, oM_p24, oM_g25, oM_p25, oM_g26, oM_p26, oM_g27, oM_p27, oM_g28, oM_p28, oM_g29, oM_p29, bv0, bv1, bv2, bw_o, bw_po, bw_k1, bw_k2, bw_k3, bw_k4, bw_r1, bw_r2, bw_r3, hso, hno, nI_add, et]
    by_cases cp : pvF g (P 0 1 - 1) = 10
    · rw [if_pos cp]
      have e1 : (if d = 0 then (day, w) else (d, a)) = (if d = 0 then day else d, if d = 0 then w else a) := by split <;> rfl
      rw [e1]
      refine ⟨V2, fup (fup A 1 (if d = 0 then w else a)) 3 g, rfl, fun j => by rw [fup_self]; exact hgb j, hday2, fun Q => ?_⟩
      rw [step, if_pos cp, cp, cN4_10, m87_58]
      have l4' : ((-4 : Int32) = -4) = True := eq_true rfl
      have lx := nlt (a := 1000 - t) (b := 1000) (by omega) (by decide)
      by_cases ct : 1000 - t < 1000
      · simp only [m87_59, m87_62, m87_65, m87_66, m87_68, m87_97, lx, ct, if_true, l4']
      · simp only [m87_59, m87_62, m87_97, lx, ct, if_false]
    · rw [if_neg cp]
      obtain ⟨x1, x2, x3, x4, x5, x6⟩ := next_spec (n := P 0 1) (by omega) rfl cp
      have hpm : pvF g (P 0 1 - 1) < m := by
        rcases Nat.lt_or_ge (pvF g (P 0 1 - 1)) m with q | q
        · exact q
        · have h1' := hdsc (pvF g (P 0 1 - 1)) (pvF g (P 0 1 - 1) + 1) q (Nat.lt_succ_self _) x1
          rcases pvF_spec g (P 0 1 - 1) (by omega) with ⟨y1, y2⟩ | ⟨y1, y2, y3⟩
          · omega
          · omega
      obtain ⟨V3, A3, k1, k2, k3, k4⟩ := ih (by omega) (pvF g (P 0 1 - 1)) (nxF (P 0 1) (pvF g (P 0 1 - 1)) g) (if d = 0 then day else d) (if d = 0 then w else a) V2 (fup (fup A 1 (if d = 0 then w else a)) 3 (nxF (P 0 1) (pvF g (P 0 1 - 1)) g)) (some (.int (nI m))) (by omega) (prm_vals (p := fun x => 1 ≤ x ∧ x ≤ 20) (x2.trans hga) ha) (nxF_bd hgb) hday2 (fup_self _ _ _) rfl (fun k hk => h2 k hk) (fun j j1 j2 => by
        rw [i1 j (by omega)]
        exact congrArg (Prod.mk (P 8)) (ahW_cg j (fun i hi => ((x3 i (by omega)).trans (hg2 i (by omega))).symm)))
      refine ⟨V3, A3, k1, k2, k3, fun Q => ?_⟩
      rw [step, if_neg cp]
      exact k4 Q
