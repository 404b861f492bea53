/-! days run through -/
def runF (P : Pl) : Nat → Dy
  | 0 => ((P 8, 0), 0, 10)
  | d + 1 => passS (P 8) P (d + 1) (runF P d)
theorem runF_ok {P : Pl} (hV : Valid P) : ∀ d, WB (P 8) (runF P d).1.1 ∧ (runF P d).1.2 ≤ 120 * d ∧ (runF P d).2.1 ≤ d ∧ (runF P d).2.2 ≤ 10
  | 0 => ⟨fun c hc => ⟨Nat.le_refl _, hV.2.2.2.2.2.2.1 c hc⟩, Nat.le_refl _, Nat.le_refl _, Nat.le_refl _⟩
  | d + 1 => by
    obtain ⟨h1, h2, h3, h4⟩ := runF_ok hV d
    rw [runF]
    unfold passS
    refine ⟨?_, ?_, ?_, ?_⟩
    · exact WB.mendedN _ _ (h1.less (fun c => thrD_le P (d + 1) _ _ c))
    · refine Nat.le_trans (mendN_ru _ _ _) ?_
      have := thrD_ru hV (d + 1) (P 0 1) (runF P d).1 (Nat.le_refl _)
      have := hV.2.1
      omega
    · show (if _ then _ else _ : Nat × Nat).1 ≤ _
      split
      · exact Nat.le_refl _
      · omega
    · show (if _ then _ else _ : Nat × Nat).2 ≤ _
      split
      · rcases opF_le (thrD P (d + 1) (P 0 1) (runF P d).1).1 10 (Nat.le_refl _) with e | e
        · show opF _ 10 ≤ 10
          omega
        · show opF _ 10 ≤ 10
          omega
      · exact h4
theorem runF_mono (P : Pl) {d : Nat} (h : (runF P d).2.1 ≠ 0) : ∀ n, (runF P (d + n)).2.1 = (runF P d).2.1
  | 0 => rfl
  | n + 1 => by
    have ih := runF_mono P h n
    rw [← Nat.add_assoc, runF]
    unfold passS
    rw [if_neg (fun q => h (by rw [← ih]; exact q.1))]
    exact ih
theorem run_loop {p g t : Nat} {P : Pl} (hV : Valid P) (hd : p + 9 < g ∨ g + 3 < p) (ht : t ≤ 30) (z : Zc) (Q : Option Value → Zc → Hp → Prop) :
    ∀ n d, n + d = t → ∀ (h : Hp), PlanC h p P → SiegeC h g (P 8) (runF P d) →
    Ev 124 (7, [some (.ref g), some (.ref p), some (.int (nI t)), some (.int (nI (d + 1)))], [], z, h) Q = Q none z (gset h g (P 8) (runF P t)) := by
  intro n
  induction n with
  | zero =>
    intro d hd h hP hg
    have e : d = t := by omega
    subst e
    rw [m124_7, hg.id]
    simp only [m124_0, m124_1, m124_2, m124_5, m124_6, m124_8, m124_9, m124_12, m124_13, m124_14, m124_15, m124_18, m124_21, m124_24, nlt (a := d) (b := d + 1) (by omega) (by omega), Nat.lt_succ_self, if_true]
  | succ n ih =>
    intro d hdt h hP hg
    obtain ⟨r1, r2, r3, r4⟩ := runF_ok hV d
    have hg1 := hg.2.1
    have hp := pass_eq (d := d + 1) hP hV hg hd (by omega) (by omega) r1 (by omega) (by omega) r4
    have hC := gset_C h hg.1 (P 8) (runF P (d + 1))
    have ihk := ih (d + 1) (by omega) (gset h g (P 8) (runF P (d + 1))) (hP.keepG hd _ _) hC
    rw [gset_gset] at ihk
    rw [m124_7]
    simp only [m124_0, m124_1, m124_2, m124_5, m124_6, m124_8, m124_9, m124_12, m124_13, m124_14, m124_15, m124_18, m124_21, m124_24, ob_some, pushr_s, pushr_n, iget_eq, gf_eq, pf_eq, ck_eq, alen_eq, rget_eq, iset_eq, Option.bind_some, Option.map_some, Option.elim_some, hput_at, ↓reduceIte, Nat.reduceEqDiff, Nat.reduceAdd, ne_eq, not_false_eq_true, oS_ck, oS_g0, oS_p0, oS_g1, oS_p1, oS_g2, oS_p2, oS_g3, oS_p3, oS_g4, oS_p4, oS_g5, oS_p5, oS_g6, oS_p6, oP_ck, oP_g0, oP_p0, oP_g1, oP_p1, oP_g2, oP_p2, oP_g3, oP_p3, oP_g4, oP_p4, oP_g5, oP_p5, oP_g6, oP_p6, oP_g7, oP_p7, oP_g8, oP_p8, oP_g9, oP_p9, oP_g10, oP_p10, oP_g11, oP_p11, oP_g12, oP_p12, oR_ck, oR_g0, oR_p0, oR_g1, oR_p1, oR_g2, oR_p2, oR_g3, oR_p3, oG_ck, oG_g0, oG_p0, oG_g1, oG_p1, oG_g2, oG_p2, oW_ck, oW_g0, oW_p0, oW_g1, oW_p1, oW_g2, oW_p2, oB_ck, oB_g0, oB_p0, oB_g1, oB_p1, oB_g2, oB_p2, oB_g3, oB_p3, oB_g4, oB_p4, oB_g5, oB_p5, oB_g6, oB_p6, oC_ck, oC_g0, oC_p0, oC_g1, oC_p1, oC_g2, oC_p2, oC_g3, oC_p3, oC_g4, oC_p4, oC_g5, oC_p5, oC_g6, oC_p6, oH_ck, oH_g0, oH_p0, oH_g1, oH_p1, oH_g2, oH_p2, oH_g3, oH_p3, oM_ck, oM_g0, oM_p0, oM_g1, oM_p1, oM_g2, oM_p2, oM_g3, oM_p3, oM_g4, oM_p4, oM_g5, oM_p5, oM_g6, oM_p6, oM_g7, oM_p7, oM_g8, oM_p8, oM_g9, oM_p9, oM_g10, oM_p10, oM_g11, oM_p11, oM_g12, oM_p12, oM_g13, oM_p13, oM_g14, oM_p14, oM_g15, oM_p15, oM_g16, oM_p16, oM_g17, oM_p17, oM_g18, oM_p18, oM_g19, oM_p19, oM_g20, oM_p20, oM_g21, oM_p21, oM_g22, oM_p22, oM_g23, oM_p23, oM_g24, oM_p24, oM_g25, oM_p25, oM_g26, oM_p26, oM_g27, oM_p27, oM_g28, oM_p28, oM_g29, oM_p29, nlt (a := t) (b := d + 1) (by omega) (by omega), show ¬ t < d + 1 by omega, if_false, hg1, hp, nI_add]
    exact ihk
theorem run_eq {h : Hp} {p g t : Nat} {P : Pl} {f : Nat → Nat} {X : Dy} (hP : PlanC h p P) (hV : Valid P) (hg : SiegeC h g f X) (hd : p + 9 < g ∨ g + 3 < p) (ht : t ≤ 30) (z : Zc) (Q : Option Value → Zc → Hp → Prop) : Ev 124 (0, [some (.ref g), some (.ref p), some (.int (nI t)), none], [], z, h) Q = Q none z (gset h g (P 8) (runF P t)) := by
  have hg1 := hg.2.1
  have hb := begin_eq hP hg hd
  have hC := gset_C h hg.1 (P 8) (runF P 0)
  have hl := run_loop hV hd ht z Q t 0 (by omega) (gset h g (P 8) (runF P 0)) (hP.keepG hd _ _) hC
  rw [gset_gset] at hl
  simp only [m124_0, m124_1, m124_2, m124_5, m124_6, m124_8, m124_9, m124_12, m124_13, m124_14, m124_15, m124_18, m124_21, m124_24, ob_some, pushr_s, pushr_n, iget_eq, gf_eq, pf_eq, ck_eq, alen_eq, rget_eq, iset_eq, Option.bind_some, Option.map_some, Option.elim_some, hput_at, ↓reduceIte, Nat.reduceEqDiff, Nat.reduceAdd, ne_eq, not_false_eq_true, oS_ck, oS_g0, oS_p0, oS_g1, oS_p1, oS_g2, oS_p2, oS_g3, oS_p3, oS_g4, oS_p4, oS_g5, oS_p5, oS_g6, oS_p6, oP_ck, oP_g0, oP_p0, oP_g1, oP_p1, oP_g2, oP_p2, oP_g3, oP_p3, oP_g4, oP_p4, oP_g5, oP_p5, oP_g6, oP_p6, oP_g7, oP_p7, oP_g8, oP_p8, oP_g9, oP_p9, oP_g10, oP_p10, oP_g11, oP_p11, oP_g12, oP_p12, oR_ck, oR_g0, oR_p0, oR_g1, oR_p1, oR_g2, oR_p2, oR_g3, oR_p3, oG_ck, oG_g0, oG_p0, oG_g1, oG_p1, oG_g2, oG_p2, oW_ck, oW_g0, oW_p0, oW_g1, oW_p1, oW_g2, oW_p2, oB_ck, oB_g0, oB_p0, oB_g1, oB_p1, oB_g2, oB_p2, oB_g3, oB_p3, oB_g4, oB_p4, oB_g5, oB_p5, oB_g6, oB_p6, oC_ck, oC_g0, oC_p0, oC_g1, oC_p1, oC_g2, oC_p2, oC_g3, oC_p3, oC_g4, oC_p4, oC_g5, oC_p5, oC_g6, oC_p6, oH_ck, oH_g0, oH_p0, oH_g1, oH_p1, oH_g2, oH_p2, oH_g3, oH_p3, oM_ck, oM_g0, oM_p0, oM_g1, oM_p1, oM_g2, oM_p2, oM_g3, oM_p3, oM_g4, oM_p4, oM_g5, oM_p5, oM_g6, oM_p6, oM_g7, oM_p7, oM_g8, oM_p8, oM_g9, oM_p9, oM_g10, oM_p10, oM_g11, oM_p11, oM_g12, oM_p12, oM_g13, oM_p13, oM_g14, oM_p14, oM_g15, oM_p15, oM_g16, oM_p16, oM_g17, oM_p17, oM_g18, oM_p18, oM_g19, oM_p19, oM_g20, oM_p20, oM_g21, oM_p21, oM_g22, oM_p22, oM_g23, oM_p23, oM_g24, oM_p24, oM_g25, oM_p25, oM_g26, oM_p26, oM_g27, oM_p27, oM_g28, oM_p28, oM_g29, oM_p29, hg1, hb]
  exact hl
def stopF (P : Pl) : Nat → Nat → Nat
  | 0, d => d
  | n + 1, d => if (runF P d).2.1 = 0 then stopF P n (d + 1) else d
theorem stopF_iff (P : Pl) : ∀ n d, (runF P (stopF P n d)).2.1 = 0 ↔ (runF P (d + n)).2.1 = 0
  | 0, d => Iff.rfl
  | n + 1, d => by
    rw [stopF]
    split
    · have := stopF_iff P n (d + 1)
      rwa [show d + 1 + n = d + (n + 1) by omega] at this
    · rename_i q
      rw [runF_mono P q]
theorem stopF_le (P : Pl) : ∀ n d, stopF P n d ≤ d + n
  | 0, d => Nat.le_refl _
  | n + 1, d => by
    rw [stopF]
    split
    · have := stopF_le P n (d + 1); omega
    · omega
theorem breachesBy_loop {p g t : Nat} {P : Pl} (hV : Valid P) (hd : p + 9 < g ∨ g + 3 < p) (ht : t ≤ 30) (z : Zc) (Q : Option Value → Zc → Hp → Prop) :
    ∀ n d, n + d = t → ∀ (h : Hp), PlanC h p P → SiegeC h g (P 8) (runF P d) →
    Ev 125 (7, [some (.ref g), some (.ref p), some (.int (nI t)), some (.int (nI (d + 1)))], [], z, h) Q = Q (some (.int (b2 (¬ (runF P (stopF P n d)).2.1 = 0)))) z (gset h g (P 8) (runF P (stopF P n d))) := by
  intro n
  induction n with
  | zero =>
    intro d hdt h hP hg
    have e : d = t := by omega
    subst e
    obtain ⟨r1, r2, r3, r4⟩ := runF_ok hV d
    have hg1 := hg.2.1
    have l1 := dN_eq (d := (runF P d).2.1) (by omega)
    rw [m125_7, stopF, hg.id]
    by_cases c : (runF P d).2.1 = 0
    · rw [b2_f (fun q => q c)]
      simp only [m125_0, m125_1, m125_2, m125_5, m125_6, m125_8, m125_9, m125_12, m125_13, m125_16, m125_18, m125_21, m125_22, m125_23, m125_24, m125_27, m125_30, m125_33, m125_34, m125_37, m125_39, m125_42, m125_43, m125_46, m125_47_0, m125_47_1, m125_47_b, ob_some, pushr_s, pushr_n, iget_eq, gf_eq, pf_eq, ck_eq, alen_eq, rget_eq, iset_eq, Option.bind_some, Option.map_some, Option.elim_some, hput_at, ↓reduceIte, Nat.reduceEqDiff, Nat.reduceAdd, ne_eq, not_false_eq_true, oS_ck, oS_g0, oS_p0, oS_g1, oS_p1, oS_g2, oS_p2, oS_g3, oS_p3, oS_g4, oS_p4, oS_g5, oS_p5, oS_g6, oS_p6, oP_ck, oP_g0, oP_p0, oP_g1, oP_p1, oP_g2, oP_p2, oP_g3, oP_p3, oP_g4, oP_p4, oP_g5, oP_p5, oP_g6, oP_p6, oP_g7, oP_p7, oP_g8, oP_p8, oP_g9, oP_p9, oP_g10, oP_p10, oP_g11, oP_p11, oP_g12, oP_p12, oR_ck, oR_g0, oR_p0, oR_g1, oR_p1, oR_g2, oR_p2, oR_g3, oR_p3, oG_ck, oG_g0, oG_p0, oG_g1, oG_p1, oG_g2, oG_p2, oW_ck, oW_g0, oW_p0, oW_g1, oW_p1, oW_g2, oW_p2, oB_ck, oB_g0, oB_p0, oB_g1, oB_p1, oB_g2, oB_p2, oB_g3, oB_p3, oB_g4, oB_p4, oB_g5, oB_p5, oB_g6, oB_p6, oC_ck, oC_g0, oC_p0, oC_g1, oC_p1, oC_g2, oC_p2, oC_g3, oC_p3, oC_g4, oC_p4, oC_g5, oC_p5, oC_g6, oC_p6, oH_ck, oH_g0, oH_p0, oH_g1, oH_p1, oH_g2, oH_p2, oH_g3, oH_p3, oM_ck, oM_g0, oM_p0, oM_g1, oM_p1, oM_g2, oM_p2, oM_g3, oM_p3, oM_g4, oM_p4, oM_g5, oM_p5, oM_g6, oM_p6, oM_g7, oM_p7, oM_g8, oM_p8, oM_g9, oM_p9, oM_g10, oM_p10, oM_g11, oM_p11, oM_g12, oM_p12, oM_g13, oM_p13, oM_g14, oM_p14, oM_g15, oM_p15, oM_g16, oM_p16, oM_g17, oM_p17, oM_g18, oM_p18, oM_g19, oM_p19, oM_g20, oM_p20, oM_g21, oM_p21, oM_g22, oM_p22, oM_g23, oM_p23, oM_g24, oM_p24, oM_g25, oM_p25, oM_g26, oM_p26, oM_g27, oM_p27, oM_g28, oM_p28, oM_g29, oM_p29, nlt (a := d) (b := d + 1) (by omega) (by omega), Nat.lt_succ_self, if_true, hg1, l1, c, dN_0t]
    · rw [b2_t c]
      simp only [m125_0, m125_1, m125_2, m125_5, m125_6, m125_8, m125_9, m125_12, m125_13, m125_16, m125_18, m125_21, m125_22, m125_23, m125_24, m125_27, m125_30, m125_33, m125_34, m125_37, m125_39, m125_42, m125_43, m125_46, m125_47_0, m125_47_1, m125_47_b, ob_some, pushr_s, pushr_n, iget_eq, gf_eq, pf_eq, ck_eq, alen_eq, rget_eq, iset_eq, Option.bind_some, Option.map_some, Option.elim_some, hput_at, ↓reduceIte, Nat.reduceEqDiff, Nat.reduceAdd, ne_eq, not_false_eq_true, oS_ck, oS_g0, oS_p0, oS_g1, oS_p1, oS_g2, oS_p2, oS_g3, oS_p3, oS_g4, oS_p4, oS_g5, oS_p5, oS_g6, oS_p6, oP_ck, oP_g0, oP_p0, oP_g1, oP_p1, oP_g2, oP_p2, oP_g3, oP_p3, oP_g4, oP_p4, oP_g5, oP_p5, oP_g6, oP_p6, oP_g7, oP_p7, oP_g8, oP_p8, oP_g9, oP_p9, oP_g10, oP_p10, oP_g11, oP_p11, oP_g12, oP_p12, oR_ck, oR_g0, oR_p0, oR_g1, oR_p1, oR_g2, oR_p2, oR_g3, oR_p3, oG_ck, oG_g0, oG_p0, oG_g1, oG_p1, oG_g2, oG_p2, oW_ck, oW_g0, oW_p0, oW_g1, oW_p1, oW_g2, oW_p2, oB_ck, oB_g0, oB_p0, oB_g1, oB_p1, oB_g2, oB_p2, oB_g3, oB_p3, oB_g4, oB_p4, oB_g5, oB_p5, oB_g6, oB_p6, oC_ck, oC_g0, oC_p0, oC_g1, oC_p1, oC_g2, oC_p2, oC_g3, oC_p3, oC_g4, oC_p4, oC_g5, oC_p5, oC_g6, oC_p6, oH_ck, oH_g0, oH_p0, oH_g1, oH_p1, oH_g2, oH_p2, oH_g3, oH_p3, oM_ck, oM_g0, oM_p0, oM_g1, oM_p1, oM_g2, oM_p2, oM_g3, oM_p3, oM_g4, oM_p4, oM_g5, oM_p5, oM_g6, oM_p6, oM_g7, oM_p7, oM_g8, oM_p8, oM_g9, oM_p9, oM_g10, oM_p10, oM_g11, oM_p11, oM_g12, oM_p12, oM_g13, oM_p13, oM_g14, oM_p14, oM_g15, oM_p15, oM_g16, oM_p16, oM_g17, oM_p17, oM_g18, oM_p18, oM_g19, oM_p19, oM_g20, oM_p20, oM_g21, oM_p21, oM_g22, oM_p22, oM_g23, oM_p23, oM_g24, oM_p24, oM_g25, oM_p25, oM_g26, oM_p26, oM_g27, oM_p27, oM_g28, oM_p28, oM_g29, oM_p29, nlt (a := d) (b := d + 1) (by omega) (by omega), Nat.lt_succ_self, if_true, hg1, l1, c, if_false]
  | succ n ih =>
    intro d hdt h hP hg
    obtain ⟨r1, r2, r3, r4⟩ := runF_ok hV d
    have hg1 := hg.2.1
    have l1 := dN_eq (d := (runF P d).2.1) (by omega)
    rw [m125_7, stopF]
    by_cases c : (runF P d).2.1 = 0
    · have hp := pass_eq (d := d + 1) hP hV hg hd (by omega) (by omega) r1 (by omega) (by omega) r4
      have hC := gset_C h hg.1 (P 8) (runF P (d + 1))
      have ihk := ih (d + 1) (by omega) (gset h g (P 8) (runF P (d + 1))) (hP.keepG hd _ _) hC
      rw [gset_gset] at ihk
      rw [if_pos c]
      simp only [m125_0, m125_1, m125_2, m125_5, m125_6, m125_8, m125_9, m125_12, m125_13, m125_16, m125_18, m125_21, m125_22, m125_23, m125_24, m125_27, m125_30, m125_33, m125_34, m125_37, m125_39, m125_42, m125_43, m125_46, m125_47_0, m125_47_1, m125_47_b, ob_some, pushr_s, pushr_n, iget_eq, gf_eq, pf_eq, ck_eq, alen_eq, rget_eq, iset_eq, Option.bind_some, Option.map_some, Option.elim_some, hput_at, ↓reduceIte, Nat.reduceEqDiff, Nat.reduceAdd, ne_eq, not_false_eq_true, oS_ck, oS_g0, oS_p0, oS_g1, oS_p1, oS_g2, oS_p2, oS_g3, oS_p3, oS_g4, oS_p4, oS_g5, oS_p5, oS_g6, oS_p6, oP_ck, oP_g0, oP_p0, oP_g1, oP_p1, oP_g2, oP_p2, oP_g3, oP_p3, oP_g4, oP_p4, oP_g5, oP_p5, oP_g6, oP_p6, oP_g7, oP_p7, oP_g8, oP_p8, oP_g9, oP_p9, oP_g10, oP_p10, oP_g11, oP_p11, oP_g12, oP_p12, oR_ck, oR_g0, oR_p0, oR_g1, oR_p1, oR_g2, oR_p2, oR_g3, oR_p3, oG_ck, oG_g0, oG_p0, oG_g1, oG_p1, oG_g2, oG_p2, oW_ck, oW_g0, oW_p0, oW_g1, oW_p1, oW_g2, oW_p2, oB_ck, oB_g0, oB_p0, oB_g1, oB_p1, oB_g2, oB_p2, oB_g3, oB_p3, oB_g4, oB_p4, oB_g5, oB_p5, oB_g6, oB_p6, oC_ck, oC_g0, oC_p0, oC_g1, oC_p1, oC_g2, oC_p2, oC_g3, oC_p3, oC_g4, oC_p4, oC_g5, oC_p5, oC_g6, oC_p6, oH_ck, oH_g0, oH_p0, oH_g1, oH_p1, oH_g2, oH_p2, oH_g3, oH_p3, oM_ck, oM_g0, oM_p0, oM_g1, oM_p1, oM_g2, oM_p2, oM_g3, oM_p3, oM_g4, oM_p4, oM_g5, oM_p5, oM_g6, oM_p6, oM_g7, oM_p7, oM_g8, oM_p8, oM_g9, oM_p9, oM_g10, oM_p10, oM_g11, oM_p11, oM_g12, oM_p12, oM_g13, oM_p13, oM_g14, oM_p14, oM_g15, oM_p15, oM_g16, oM_p16, oM_g17, oM_p17, oM_g18, oM_p18, oM_g19, oM_p19, oM_g20, oM_p20, oM_g21, oM_p21, oM_g22, oM_p22, oM_g23, oM_p23, oM_g24, oM_p24, oM_g25, oM_p25, oM_g26, oM_p26, oM_g27, oM_p27, oM_g28, oM_p28, oM_g29, oM_p29, nlt (a := t) (b := d + 1) (by omega) (by omega), show ¬ t < d + 1 by omega, if_false, hg1, l1, c, dN_0t, if_true, hp, nI_add]
      exact ihk
    · rw [if_neg c, b2_t c, hg.id]
      simp only [m125_0, m125_1, m125_2, m125_5, m125_6, m125_8, m125_9, m125_12, m125_13, m125_16, m125_18, m125_21, m125_22, m125_23, m125_24, m125_27, m125_30, m125_33, m125_34, m125_37, m125_39, m125_42, m125_43, m125_46, m125_47_0, m125_47_1, m125_47_b, ob_some, pushr_s, pushr_n, iget_eq, gf_eq, pf_eq, ck_eq, alen_eq, rget_eq, iset_eq, Option.bind_some, Option.map_some, Option.elim_some, hput_at, ↓reduceIte, Nat.reduceEqDiff, Nat.reduceAdd, ne_eq, not_false_eq_true, oS_ck, oS_g0, oS_p0, oS_g1, oS_p1, oS_g2, oS_p2, oS_g3, oS_p3, oS_g4, oS_p4, oS_g5, oS_p5, oS_g6, oS_p6, oP_ck, oP_g0, oP_p0, oP_g1, oP_p1, oP_g2, oP_p2, oP_g3, oP_p3, oP_g4, oP_p4, oP_g5, oP_p5, oP_g6, oP_p6, oP_g7, oP_p7, oP_g8, oP_p8, oP_g9, oP_p9, oP_g10, oP_p10, oP_g11, oP_p11, oP_g12, oP_p12, oR_ck, oR_g0, oR_p0, oR_g1, oR_p1, oR_g2, oR_p2, oR_g3, oR_p3, oG_ck, oG_g0, oG_p0, oG_g1, oG_p1, oG_g2, oG_p2, oW_ck, oW_g0, oW_p0, oW_g1, oW_p1, oW_g2, oW_p2, oB_ck, oB_g0, oB_p0, oB_g1, oB_p1, oB_g2, oB_p2, oB_g3, oB_p3, oB_g4, oB_p4, oB_g5, oB_p5, oB_g6, oB_p6, oC_ck, oC_g0, oC_p0, oC_g1, oC_p1, oC_g2, oC_p2, oC_g3, oC_p3, oC_g4, oC_p4, oC_g5, oC_p5, oC_g6, oC_p6, oH_ck, oH_g0, oH_p0, oH_g1, oH_p1, oH_g2, oH_p2, oH_g3, oH_p3, oM_ck, oM_g0, oM_p0, oM_g1, oM_p1, oM_g2, oM_p2, oM_g3, oM_p3, oM_g4, oM_p4, oM_g5, oM_p5, oM_g6, oM_p6, oM_g7, oM_p7, oM_g8, oM_p8, oM_g9, oM_p9, oM_g10, oM_p10, oM_g11, oM_p11, oM_g12, oM_p12, oM_g13, oM_p13, oM_g14, oM_p14, oM_g15, oM_p15, oM_g16, oM_p16, oM_g17, oM_p17, oM_g18, oM_p18, oM_g19, oM_p19, oM_g20, oM_p20, oM_g21, oM_p21, oM_g22, oM_p22, oM_g23, oM_p23, oM_g24, oM_p24, oM_g25, oM_p25, oM_g26, oM_p26, oM_g27, oM_p27, oM_g28, oM_p28, oM_g29, oM_p29, nlt (a := t) (b := d + 1) (by omega) (by omega), show ¬ t < d + 1 by omega, if_false, hg1, l1, c]
theorem breachesBy_eq {h : Hp} {p g t : Nat} {P : Pl} {f : Nat → Nat} {X : Dy} (hP : PlanC h p P) (hV : Valid P) (hg : SiegeC h g f X) (hd : p + 9 < g ∨ g + 3 < p) (ht : t ≤ 30) (z : Zc) (Q : Option Value → Zc → Hp → Prop) : Ev 125 (0, [some (.ref g), some (.ref p), some (.int (nI t)), none], [], z, h) Q = Q (some (.int (b2 (¬ (runF P t).2.1 = 0)))) z (gset h g (P 8) (runF P (stopF P t 0))) := by
  have hg1 := hg.2.1
  have hb := begin_eq hP hg hd
  have hC := gset_C h hg.1 (P 8) (runF P 0)
  have hl := breachesBy_loop hV hd ht z Q t 0 (by omega) (gset h g (P 8) (runF P 0)) (hP.keepG hd _ _) hC
  have hs := stopF_iff P t 0
  rw [Nat.zero_add] at hs
  rw [gset_gset, show b2 (¬ (runF P (stopF P t 0)).2.1 = 0) = b2 (¬ (runF P t).2.1 = 0) from by
    by_cases c : (runF P t).2.1 = 0
    · rw [b2_f (fun q => q (hs.mpr c)), b2_f (fun q => q c)]
    · rw [b2_t (p := ¬ (runF P (stopF P t 0)).2.1 = 0) (fun q => c (hs.mp q)), b2_t c]] at hl
  simp only [m125_0, m125_1, m125_2, m125_5, m125_6, m125_8, m125_9, m125_12, m125_13, m125_16, m125_18, m125_21, m125_22, m125_23, m125_24, m125_27, m125_30, m125_33, m125_34, m125_37, m125_39, m125_42, m125_43, m125_46, m125_47_0, m125_47_1, m125_47_b, ob_some, pushr_s, pushr_n, iget_eq, gf_eq, pf_eq, ck_eq, alen_eq, rget_eq, iset_eq, Option.bind_some, Option.map_some, Option.elim_some, hput_at, ↓reduceIte, Nat.reduceEqDiff, Nat.reduceAdd, ne_eq, not_false_eq_true, oS_ck, oS_g0, oS_p0, oS_g1, oS_p1, oS_g2, oS_p2, oS_g3, oS_p3, oS_g4, oS_p4, oS_g5, oS_p5, oS_g6, oS_p6, oP_ck, oP_g0, oP_p0, oP_g1, oP_p1, oP_g2, oP_p2, oP_g3, oP_p3, oP_g4, oP_p4, oP_g5, oP_p5, oP_g6, oP_p6, oP_g7, oP_p7, oP_g8, oP_p8, oP_g9, oP_p9, oP_g10, oP_p10, oP_g11, oP_p11, oP_g12, oP_p12, oR_ck, oR_g0, oR_p0, oR_g1, oR_p1, oR_g2, oR_p2, oR_g3, oR_p3, oG_ck, oG_g0, oG_p0, oG_g1, oG_p1, oG_g2, oG_p2, oW_ck, oW_g0, oW_p0, oW_g1, oW_p1, oW_g2, oW_p2, oB_ck, oB_g0, oB_p0, oB_g1, oB_p1, oB_g2, oB_p2, oB_g3, oB_p3, oB_g4, oB_p4, oB_g5, oB_p5, oB_g6, oB_p6, oC_ck, oC_g0, oC_p0, oC_g1, oC_p1, oC_g2, oC_p2, oC_g3, oC_p3, oC_g4, oC_p4, oC_g5, oC_p5, oC_g6, oC_p6, oH_ck, oH_g0, oH_p0, oH_g1, oH_p1, oH_g2, oH_p2, oH_g3, oH_p3, oM_ck, oM_g0, oM_p0, oM_g1, oM_p1, oM_g2, oM_p2, oM_g3, oM_p3, oM_g4, oM_p4, oM_g5, oM_p5, oM_g6, oM_p6, oM_g7, oM_p7, oM_g8, oM_p8, oM_g9, oM_p9, oM_g10, oM_p10, oM_g11, oM_p11, oM_g12, oM_p12, oM_g13, oM_p13, oM_g14, oM_p14, oM_g15, oM_p15, oM_g16, oM_p16, oM_g17, oM_p17, oM_g18, oM_p18, oM_g19, oM_p19, oM_g20, oM_p20, oM_g21, oM_p21, oM_g22, oM_p22, oM_g23, oM_p23, oM_g24, oM_p24, oM_g25, oM_p25, oM_g26, oM_p26, oM_g27, oM_p27, oM_g28, oM_p28, oM_g29, oM_p29, hg1, hb]
  exact hl
