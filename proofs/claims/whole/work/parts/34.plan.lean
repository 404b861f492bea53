/-! plans: rows of small numbers. P 0: engines, stones, menders, rains; 1 arms, 2 flocks, 3 kinds, 4 eaten; 5 throwers, 6 days, 7 weights; 8 strengths; 9 rains' days -/
abbrev Pl : Type := Nat → Nat → Nat
def PlanC (h : Hp) (p : Nat) (P : Pl) : Prop := p ≠ 0 ∧ h p = some (oP (.int (nI (P 0 0))) (.ref (p + 1)) (.ref (p + 2)) (.ref (p + 3)) (.ref (p + 4)) (.int (nI (P 0 1))) (.ref (p + 5)) (.ref (p + 6)) (.ref (p + 7)) (.ref (p + 8)) (.int (nI (P 0 2))) (.int (nI (P 0 3))) (.ref (p + 9))) ∧
  h (p + 1) = some (AI 3 (P 1)) ∧ h (p + 2) = some (AI 3 (P 2)) ∧ h (p + 3) = some (AI 3 (P 3)) ∧ h (p + 4) = some (AI 3 (P 4)) ∧ h (p + 5) = some (AI 6 (P 5)) ∧ h (p + 6) = some (AI 6 (P 6)) ∧ h (p + 7) = some (AI 6 (P 7)) ∧ h (p + 8) = some (AI 10 (P 8)) ∧ h (p + 9) = some (AI 6 (P 9))
theorem PlanC.keep {h : Hp} {p a : Nat} {P : Pl} {e : AE} (hp : PlanC h p P) (ha : a < p ∨ p + 9 < a) : PlanC (hput h a e) p P := by
  obtain ⟨h0, h1, h2, h3, h4, h5, h6, h7, h8, h9, h10⟩ := hp
  refine ⟨h0, ?_, ?_, ?_, ?_, ?_, ?_, ?_, ?_, ?_, ?_⟩ <;> (rw [hput_ne _ _ (by omega)]; assumption)
theorem PlanC.same {h h' : Hp} {p : Nat} {P : Pl} (hp : PlanC h p P) (hs : ∀ j, p ≤ j → j ≤ p + 9 → h' j = h j) : PlanC h' p P := by
  obtain ⟨h0, h1, h2, h3, h4, h5, h6, h7, h8, h9, h10⟩ := hp
  refine ⟨h0, ?_, ?_, ?_, ?_, ?_, ?_, ?_, ?_, ?_, ?_⟩ <;> (rw [hs _ (by omega) (by omega)]; assumption)
/-- a plan as a text can tell it -/
def Valid (P : Pl) : Prop := P 0 0 ≤ 3 ∧ P 0 1 ≤ 6 ∧ P 0 2 ≤ 9 ∧ P 0 3 ≤ 6 ∧ (∀ e, e < P 0 0 → 1 ≤ P 1 e ∧ P 1 e ≤ 9 ∧ P 2 e ≤ 60 ∧ P 3 e ≤ 3 ∧ P 4 e ≤ 9) ∧ (∀ i, i < P 0 1 → P 5 i < P 0 0 ∧ 1 ≤ P 6 i ∧ P 6 i ≤ 30 ∧ 1 ≤ P 7 i ∧ P 7 i ≤ 20) ∧ (∀ c, c < 10 → P 8 c ≤ 60) ∧ ∀ j, j < P 0 3 → P 9 j ≤ 30
theorem hasEngine_eq {h : Hp} {p : Nat} {P : Pl} (hP : PlanC h p P) (e : Int32) (z : Zc) (Q : Option Value → Zc → Hp → Prop) : Ev 109 (0, [some (.ref p), some (.int e)], [], z, h) Q = Q (some (.int (b2 (¬ e < nI 0 ∧ e < nI (P 0 0))))) z h := by
  obtain ⟨h0, h1, -⟩ := hP
  by_cases c1 : e < nI 0
  · rw [b2_f (fun q => q.1 c1)]
    simp only [m109_0, m109_1, m109_4, m109_5, m109_6, m109_9, m109_12, m109_13, m109_16, m109_17_0, m109_17_1, m109_17_b, c1, if_true]
  · by_cases c2 : e < nI (P 0 0)
    · rw [b2_t ⟨c1, c2⟩]
      simp only [m109_0, m109_1, m109_4, m109_5, m109_6, m109_9, m109_12, m109_13, m109_16, m109_17_0, m109_17_1, m109_17_b, c1, if_false, ob_some, pushr_s, pushr_n, iget_eq, gf_eq, pf_eq, ck_eq, alen_eq, rget_eq, iset_eq, Option.bind_some, Option.map_some, Option.elim_some, hput_at, ↓reduceIte, Nat.reduceEqDiff, Nat.reduceAdd, ne_eq, not_false_eq_true, oS_ck, oS_g0, oS_p0, oS_g1, oS_p1, oS_g2, oS_p2, oS_g3, oS_p3, oS_g4, oS_p4, oS_g5, oS_p5, oS_g6, oS_p6, oP_ck, oP_g0, oP_p0, oP_g1, oP_p1, oP_g2, oP_p2, oP_g3, oP_p3, oP_g4, oP_p4, oP_g5, oP_p5, oP_g6, oP_p6, oP_g7, oP_p7, oP_g8, oP_p8, oP_g9, oP_p9, oP_g10, oP_p10, oP_g11, oP_p11, oP_g12, oP_p12, oR_ck, oR_g0, oR_p0, oR_g1, oR_p1, oR_g2, oR_p2, oR_g3, oR_p3, oG_ck, oG_g0, oG_p0, oG_g1, oG_p1, oG_g2, oG_p2, oW_ck, oW_g0, oW_p0, oW_g1, oW_p1, oW_g2, oW_p2, oB_ck, oB_g0, oB_p0, oB_g1, oB_p1, oB_g2, oB_p2, oB_g3, oB_p3, oB_g4, oB_p4, oB_g5, oB_p5, oB_g6, oB_p6, oC_ck, oC_g0, oC_p0, oC_g1, oC_p1, oC_g2, oC_p2, oC_g3, oC_p3, oC_g4, oC_p4, oC_g5, oC_p5, oC_g6, oC_p6, oH_ck, oH_g0, oH_p0, oH_g1, oH_p1, oH_g2, oH_p2, oH_g3, oH_p3, oM_ck, oM_g0, oM_p0, oM_g1, oM_p1, oM_g2, oM_p2, oM_g3, oM_p3, oM_g4, oM_p4, oM_g5, oM_p5, oM_g6, oM_p6, oM_g7, oM_p7, oM_g8, oM_p8, oM_g9, oM_p9, oM_g10, oM_p10, oM_g11, oM_p11, oM_g12, oM_p12, oM_g13, oM_p13, oM_g14, oM_p14, oM_g15, oM_p15, oM_g16, oM_p16, oM_g17, oM_p17, oM_g18, oM_p18, oM_g19, oM_p19, oM_g20, oM_p20, oM_g21, oM_p21, oM_g22, oM_p22, oM_g23, oM_p23, oM_g24, oM_p24, oM_g25, oM_p25, oM_g26, oM_p26, oM_g27, oM_p27, oM_g28, oM_p28, oM_g29, oM_p29, h1, c2, if_true]
    · rw [b2_f (fun q => c2 q.2)]
      simp only [m109_0, m109_1, m109_4, m109_5, m109_6, m109_9, m109_12, m109_13, m109_16, m109_17_0, m109_17_1, m109_17_b, c1, if_false, ob_some, pushr_s, pushr_n, iget_eq, gf_eq, pf_eq, ck_eq, alen_eq, rget_eq, iset_eq, Option.bind_some, Option.map_some, Option.elim_some, hput_at, ↓reduceIte, Nat.reduceEqDiff, Nat.reduceAdd, ne_eq, not_false_eq_true, oS_ck, oS_g0, oS_p0, oS_g1, oS_p1, oS_g2, oS_p2, oS_g3, oS_p3, oS_g4, oS_p4, oS_g5, oS_p5, oS_g6, oS_p6, oP_ck, oP_g0, oP_p0, oP_g1, oP_p1, oP_g2, oP_p2, oP_g3, oP_p3, oP_g4, oP_p4, oP_g5, oP_p5, oP_g6, oP_p6, oP_g7, oP_p7, oP_g8, oP_p8, oP_g9, oP_p9, oP_g10, oP_p10, oP_g11, oP_p11, oP_g12, oP_p12, oR_ck, oR_g0, oR_p0, oR_g1, oR_p1, oR_g2, oR_p2, oR_g3, oR_p3, oG_ck, oG_g0, oG_p0, oG_g1, oG_p1, oG_g2, oG_p2, oW_ck, oW_g0, oW_p0, oW_g1, oW_p1, oW_g2, oW_p2, oB_ck, oB_g0, oB_p0, oB_g1, oB_p1, oB_g2, oB_p2, oB_g3, oB_p3, oB_g4, oB_p4, oB_g5, oB_p5, oB_g6, oB_p6, oC_ck, oC_g0, oC_p0, oC_g1, oC_p1, oC_g2, oC_p2, oC_g3, oC_p3, oC_g4, oC_p4, oC_g5, oC_p5, oC_g6, oC_p6, oH_ck, oH_g0, oH_p0, oH_g1, oH_p1, oH_g2, oH_p2, oH_g3, oH_p3, oM_ck, oM_g0, oM_p0, oM_g1, oM_p1, oM_g2, oM_p2, oM_g3, oM_p3, oM_g4, oM_p4, oM_g5, oM_p5, oM_g6, oM_p6, oM_g7, oM_p7, oM_g8, oM_p8, oM_g9, oM_p9, oM_g10, oM_p10, oM_g11, oM_p11, oM_g12, oM_p12, oM_g13, oM_p13, oM_g14, oM_p14, oM_g15, oM_p15, oM_g16, oM_p16, oM_g17, oM_p17, oM_g18, oM_p18, oM_g19, oM_p19, oM_g20, oM_p20, oM_g21, oM_p21, oM_g22, oM_p22, oM_g23, oM_p23, oM_g24, oM_p24, oM_g25, oM_p25, oM_g26, oM_p26, oM_g27, oM_p27, oM_g28, oM_p28, oM_g29, oM_p29, h1, c2, if_true]
theorem hasStone_eq {h : Hp} {p : Nat} {P : Pl} (hP : PlanC h p P) (e : Int32) (z : Zc) (Q : Option Value → Zc → Hp → Prop) : Ev 110 (0, [some (.ref p), some (.int e)], [], z, h) Q = Q (some (.int (b2 (¬ e < nI 0 ∧ e < nI (P 0 1))))) z h := by
  obtain ⟨h0, h1, -⟩ := hP
  by_cases c1 : e < nI 0
  · rw [b2_f (fun q => q.1 c1)]
    simp only [m110_0, m110_1, m110_4, m110_5, m110_6, m110_9, m110_12, m110_13, m110_16, m110_17_0, m110_17_1, m110_17_b, c1, if_true]
  · by_cases c2 : e < nI (P 0 1)
    · rw [b2_t ⟨c1, c2⟩]
      simp only [m110_0, m110_1, m110_4, m110_5, m110_6, m110_9, m110_12, m110_13, m110_16, m110_17_0, m110_17_1, m110_17_b, c1, if_false, ob_some, pushr_s, pushr_n, iget_eq, gf_eq, pf_eq, ck_eq, alen_eq, rget_eq, iset_eq, Option.bind_some, Option.map_some, Option.elim_some, hput_at, ↓reduceIte, Nat.reduceEqDiff, Nat.reduceAdd, ne_eq, not_false_eq_true, oS_ck, oS_g0, oS_p0, oS_g1, oS_p1, oS_g2, oS_p2, oS_g3, oS_p3, oS_g4, oS_p4, oS_g5, oS_p5, oS_g6, oS_p6, oP_ck, oP_g0, oP_p0, oP_g1, oP_p1, oP_g2, oP_p2, oP_g3, oP_p3, oP_g4, oP_p4, oP_g5, oP_p5, oP_g6, oP_p6, oP_g7, oP_p7, oP_g8, oP_p8, oP_g9, oP_p9, oP_g10, oP_p10, oP_g11, oP_p11, oP_g12, oP_p12, oR_ck, oR_g0, oR_p0, oR_g1, oR_p1, oR_g2, oR_p2, oR_g3, oR_p3, oG_ck, oG_g0, oG_p0, oG_g1, oG_p1, oG_g2, oG_p2, oW_ck, oW_g0, oW_p0, oW_g1, oW_p1, oW_g2, oW_p2, oB_ck, oB_g0, oB_p0, oB_g1, oB_p1, oB_g2, oB_p2, oB_g3, oB_p3, oB_g4, oB_p4, oB_g5, oB_p5, oB_g6, oB_p6, oC_ck, oC_g0, oC_p0, oC_g1, oC_p1, oC_g2, oC_p2, oC_g3, oC_p3, oC_g4, oC_p4, oC_g5, oC_p5, oC_g6, oC_p6, oH_ck, oH_g0, oH_p0, oH_g1, oH_p1, oH_g2, oH_p2, oH_g3, oH_p3, oM_ck, oM_g0, oM_p0, oM_g1, oM_p1, oM_g2, oM_p2, oM_g3, oM_p3, oM_g4, oM_p4, oM_g5, oM_p5, oM_g6, oM_p6, oM_g7, oM_p7, oM_g8, oM_p8, oM_g9, oM_p9, oM_g10, oM_p10, oM_g11, oM_p11, oM_g12, oM_p12, oM_g13, oM_p13, oM_g14, oM_p14, oM_g15, oM_p15, oM_g16, oM_p16, oM_g17, oM_p17, oM_g18, oM_p18, oM_g19, oM_p19, oM_g20, oM_p20, oM_g21, oM_p21, oM_g22, oM_p22, oM_g23, oM_p23, oM_g24, oM_p24, oM_g25, oM_p25, oM_g26, oM_p26, oM_g27, oM_p27, oM_g28, oM_p28, oM_g29, oM_p29, h1, c2, if_true]
    · rw [b2_f (fun q => c2 q.2)]
      simp only [m110_0, m110_1, m110_4, m110_5, m110_6, m110_9, m110_12, m110_13, m110_16, m110_17_0, m110_17_1, m110_17_b, c1, if_false, ob_some, pushr_s, pushr_n, iget_eq, gf_eq, pf_eq, ck_eq, alen_eq, rget_eq, iset_eq, Option.bind_some, Option.map_some, Option.elim_some, hput_at, ↓reduceIte, Nat.reduceEqDiff, Nat.reduceAdd, ne_eq, not_false_eq_true, oS_ck, oS_g0, oS_p0, oS_g1, oS_p1, oS_g2, oS_p2, oS_g3, oS_p3, oS_g4, oS_p4, oS_g5, oS_p5, oS_g6, oS_p6, oP_ck, oP_g0, oP_p0, oP_g1, oP_p1, oP_g2, oP_p2, oP_g3, oP_p3, oP_g4, oP_p4, oP_g5, oP_p5, oP_g6, oP_p6, oP_g7, oP_p7, oP_g8, oP_p8, oP_g9, oP_p9, oP_g10, oP_p10, oP_g11, oP_p11, oP_g12, oP_p12, oR_ck, oR_g0, oR_p0, oR_g1, oR_p1, oR_g2, oR_p2, oR_g3, oR_p3, oG_ck, oG_g0, oG_p0, oG_g1, oG_p1, oG_g2, oG_p2, oW_ck, oW_g0, oW_p0, oW_g1, oW_p1, oW_g2, oW_p2, oB_ck, oB_g0, oB_p0, oB_g1, oB_p1, oB_g2, oB_p2, oB_g3, oB_p3, oB_g4, oB_p4, oB_g5, oB_p5, oB_g6, oB_p6, oC_ck, oC_g0, oC_p0, oC_g1, oC_p1, oC_g2, oC_p2, oC_g3, oC_p3, oC_g4, oC_p4, oC_g5, oC_p5, oC_g6, oC_p6, oH_ck, oH_g0, oH_p0, oH_g1, oH_p1, oH_g2, oH_p2, oH_g3, oH_p3, oM_ck, oM_g0, oM_p0, oM_g1, oM_p1, oM_g2, oM_p2, oM_g3, oM_p3, oM_g4, oM_p4, oM_g5, oM_p5, oM_g6, oM_p6, oM_g7, oM_p7, oM_g8, oM_p8, oM_g9, oM_p9, oM_g10, oM_p10, oM_g11, oM_p11, oM_g12, oM_p12, oM_g13, oM_p13, oM_g14, oM_p14, oM_g15, oM_p15, oM_g16, oM_p16, oM_g17, oM_p17, oM_g18, oM_p18, oM_g19, oM_p19, oM_g20, oM_p20, oM_g21, oM_p21, oM_g22, oM_p22, oM_g23, oM_p23, oM_g24, oM_p24, oM_g25, oM_p25, oM_g26, oM_p26, oM_g27, oM_p27, oM_g28, oM_p28, oM_g29, oM_p29, h1, c2, if_true]
theorem inN {i n : Nat} (hi : i < 100000000) (hn : n < 100000000) : (¬ nI i < nI 0 ∧ nI i < nI n) ↔ i < n := by
  rw [nlt hi hn]
  exact ⟨fun q => q.2, fun q => ⟨nI_not_neg hi, q⟩⟩

def shN (P : Pl) (e d : Nat) : Nat := P 2 e - P 4 e * d
/-- does it rain on day d, as told by the first r of the rows -/
def rainF (f : Nat → Nat) (d : Nat) : Nat → Bool
  | 0 => false
  | r + 1 => rainF f d r || f r == d
theorem rainF_true {f : Nat → Nat} {d : Nat} : ∀ {r : Nat}, rainF f d r = true ↔ ∃ j, j < r ∧ f j = d
  | 0 => ⟨fun h => (by cases h), fun ⟨j, h, _⟩ => (by omega)⟩
  | r + 1 => by
    rw [rainF, Bool.or_eq_true, beq_iff_eq, rainF_true]
    constructor
    · rintro (⟨j, h1, h2⟩ | h)
      · exact ⟨j, by omega, h2⟩
      · exact ⟨r, by omega, h⟩
    · rintro ⟨j, h1, h2⟩
      rcases Nat.lt_or_ge j r with q | q
      · exact Or.inl ⟨j, q, h2⟩
      · have e : j = r := by omega
        subst e
        exact Or.inr h2
theorem rainsOn_loop {h : Hp} {p : Nat} {P : Pl} (hP : PlanC h p P) (hV : Valid P) {d : Nat} (hd : d ≤ 30) (z : Zc) (Q : Option Value → Zc → Hp → Prop) : ∀ n k, n + k = P 0 3 → (∀ j, j < k → P 9 j ≠ d) → Ev 117 (2, [some (.ref p), some (.int (nI d)), some (.int (nI k))], [], z, h) Q = Q (some (.int (b2 (rainF (P 9) d (P 0 3) = true)))) z h := by
  obtain ⟨h0, h1, -, -, -, -, -, -, -, -, h10⟩ := hP
  obtain ⟨-, -, -, v3, -, -, -, v7⟩ := hV
  intro n
  induction n with
  | zero =>
    intro k hk hn
    have hb : ¬ (rainF (P 9) d (P 0 3) = true) := by
      rw [rainF_true]
      rintro ⟨j, j1, j2⟩
      exact hn j (by omega) j2
    rw [b2_f hb, m117_2]
    have hlt : ¬ k < P 0 3 := by omega
    simp only [m117_0, m117_1, m117_3, m117_4, m117_7, m117_10, m117_11, m117_14, m117_15, m117_16, m117_17, m117_20, m117_21_0, m117_21_1, m117_21_b, m117_22, m117_25, m117_28, m117_29_0, m117_29_1, m117_29_b, ob_some, pushr_s, pushr_n, iget_eq, gf_eq, pf_eq, ck_eq, alen_eq, rget_eq, iset_eq, Option.bind_some, Option.map_some, Option.elim_some, hput_at, ↓reduceIte, Nat.reduceEqDiff, Nat.reduceAdd, ne_eq, not_false_eq_true, oS_ck, oS_g0, oS_p0, oS_g1, oS_p1, oS_g2, oS_p2, oS_g3, oS_p3, oS_g4, oS_p4, oS_g5, oS_p5, oS_g6, oS_p6, oP_ck, oP_g0, oP_p0, oP_g1, oP_p1, oP_g2, oP_p2, oP_g3, oP_p3, oP_g4, oP_p4, oP_g5, oP_p5, oP_g6, oP_p6, oP_g7, oP_p7, oP_g8, oP_p8, oP_g9, oP_p9, oP_g10, oP_p10, oP_g11, oP_p11, oP_g12, oP_p12, oR_ck, oR_g0, oR_p0, oR_g1, oR_p1, oR_g2, oR_p2, oR_g3, oR_p3, oG_ck, oG_g0, oG_p0, oG_g1, oG_p1, oG_g2, oG_p2, oW_ck, oW_g0, oW_p0, oW_g1, oW_p1, oW_g2, oW_p2, oB_ck, oB_g0, oB_p0, oB_g1, oB_p1, oB_g2, oB_p2, oB_g3, oB_p3, oB_g4, oB_p4, oB_g5, oB_p5, oB_g6, oB_p6, oC_ck, oC_g0, oC_p0, oC_g1, oC_p1, oC_g2, oC_p2, oC_g3, oC_p3, oC_g4, oC_p4, oC_g5, oC_p5, oC_g6, oC_p6, oH_ck, oH_g0, oH_p0, oH_g1, oH_p1, oH_g2, oH_p2, oH_g3, oH_p3, oM_ck, oM_g0, oM_p0, oM_g1, oM_p1, oM_g2, oM_p2, oM_g3, oM_p3, oM_g4, oM_p4, oM_g5, oM_p5, oM_g6, oM_p6, oM_g7, oM_p7, oM_g8, oM_p8, oM_g9, oM_p9, oM_g10, oM_p10, oM_g11, oM_p11, oM_g12, oM_p12, oM_g13, oM_p13, oM_g14, oM_p14, oM_g15, oM_p15, oM_g16, oM_p16, oM_g17, oM_p17, oM_g18, oM_p18, oM_g19, oM_p19, oM_g20, oM_p20, oM_g21, oM_p21, oM_g22, oM_p22, oM_g23, oM_p23, oM_g24, oM_p24, oM_g25, oM_p25, oM_g26, oM_p26, oM_g27, oM_p27, oM_g28, oM_p28, oM_g29, oM_p29, h1, nlt (a := k) (b := P 0 3) (by omega) (by omega), hlt, if_false]
  | succ n ih =>
    intro k hk hn
    have hlt : k < P 0 3 := by omega
    have hk9 := v7 k hlt
    rw [m117_2]
    simp only [m117_0, m117_1, m117_3, m117_4, m117_7, m117_10, m117_11, m117_14, m117_15, m117_16, m117_17, m117_20, m117_21_0, m117_21_1, m117_21_b, m117_22, m117_25, m117_28, m117_29_0, m117_29_1, m117_29_b, ob_some, pushr_s, pushr_n, iget_eq, gf_eq, pf_eq, ck_eq, alen_eq, rget_eq, iset_eq, Option.bind_some, Option.map_some, Option.elim_some, hput_at, ↓reduceIte, Nat.reduceEqDiff, Nat.reduceAdd, ne_eq, not_false_eq_true, oS_ck, oS_g0, oS_p0, oS_g1, oS_p1, oS_g2, oS_p2, oS_g3, oS_p3, oS_g4, oS_p4, oS_g5, oS_p5, oS_g6, oS_p6, oP_ck, oP_g0, oP_p0, oP_g1, oP_p1, oP_g2, oP_p2, oP_g3, oP_p3, oP_g4, oP_p4, oP_g5, oP_p5, oP_g6, oP_p6, oP_g7, oP_p7, oP_g8, oP_p8, oP_g9, oP_p9, oP_g10, oP_p10, oP_g11, oP_p11, oP_g12, oP_p12, oR_ck, oR_g0, oR_p0, oR_g1, oR_p1, oR_g2, oR_p2, oR_g3, oR_p3, oG_ck, oG_g0, oG_p0, oG_g1, oG_p1, oG_g2, oG_p2, oW_ck, oW_g0, oW_p0, oW_g1, oW_p1, oW_g2, oW_p2, oB_ck, oB_g0, oB_p0, oB_g1, oB_p1, oB_g2, oB_p2, oB_g3, oB_p3, oB_g4, oB_p4, oB_g5, oB_p5, oB_g6, oB_p6, oC_ck, oC_g0, oC_p0, oC_g1, oC_p1, oC_g2, oC_p2, oC_g3, oC_p3, oC_g4, oC_p4, oC_g5, oC_p5, oC_g6, oC_p6, oH_ck, oH_g0, oH_p0, oH_g1, oH_p1, oH_g2, oH_p2, oH_g3, oH_p3, oM_ck, oM_g0, oM_p0, oM_g1, oM_p1, oM_g2, oM_p2, oM_g3, oM_p3, oM_g4, oM_p4, oM_g5, oM_p5, oM_g6, oM_p6, oM_g7, oM_p7, oM_g8, oM_p8, oM_g9, oM_p9, oM_g10, oM_p10, oM_g11, oM_p11, oM_g12, oM_p12, oM_g13, oM_p13, oM_g14, oM_p14, oM_g15, oM_p15, oM_g16, oM_p16, oM_g17, oM_p17, oM_g18, oM_p18, oM_g19, oM_p19, oM_g20, oM_p20, oM_g21, oM_p21, oM_g22, oM_p22, oM_g23, oM_p23, oM_g24, oM_p24, oM_g25, oM_p25, oM_g26, oM_p26, oM_g27, oM_p27, oM_g28, oM_p28, oM_g29, oM_p29, h1, h10, nlt (a := k) (b := P 0 3) (by omega) (by omega), hlt, if_true, igE_AI (n := 6) (j := k) (P 9) (by omega) (by decide), neq (a := P 9 k) (b := d) (by omega) (by omega), nI_1, nI_add]
    by_cases e : P 9 k = d
    · rw [if_pos e, b2_t (rainF_true.mpr ⟨k, hlt, e⟩)]
    · rw [if_neg e]
      refine ih (k + 1) (by omega) (fun j hj => ?_)
      rcases Nat.lt_or_ge j k with q | q
      · exact hn j q
      · have : j = k := by omega
        subst this
        exact e
theorem rainsOn_eq {h : Hp} {p : Nat} {P : Pl} (hP : PlanC h p P) (hV : Valid P) {d : Nat} (hd : d ≤ 30) (z : Zc) (Q : Option Value → Zc → Hp → Prop) : Ev 117 (0, [some (.ref p), some (.int (nI d)), none], [], z, h) Q = Q (some (.int (b2 (rainF (P 9) d (P 0 3) = true)))) z h := by
  simp only [m117_0, m117_1, m117_3, m117_4, m117_7, m117_10, m117_11, m117_14, m117_15, m117_16, m117_17, m117_20, m117_21_0, m117_21_1, m117_21_b, m117_22, m117_25, m117_28, m117_29_0, m117_29_1, m117_29_b]
  exact rainsOn_loop hP hV hd z Q (P 0 3) 0 (by omega) (fun j hj => by omega)
theorem sheep_sub {a b : Nat} (ha : a < 100000) (hb : b < 100000) : (if nI 0 < nI a - nI b then nI a - nI b else nI 0) = nI (a - b) := by
  rcases Nat.lt_or_ge b a with h | h
  · rw [pk_sub (by omega), if_pos (by rw [nlt (by decide) (by omega)]; omega)]
  · rw [show a - b = 0 by omega]
    have e : (nI a - nI b).toInt = (a : Int) - b := pk_sub_toInt (by omega) (by omega)
    have h0 : (nI 0).toInt = 0 := rfl
    rw [if_neg (by rw [Int32.lt_iff_toInt_lt, e, h0]; omega)]
theorem sheepBehind_eq {h : Hp} {p : Nat} {P : Pl} (hP : PlanC h p P) (hV : Valid P) {e d : Nat} (he : e < P 0 0) (hd : d ≤ 30) (z : Zc) (Q : Option Value → Zc → Hp → Prop) : Ev 118 (0, [some (.ref p), some (.int (nI e)), some (.int (nI d)), none], [], z, h) Q = Q (some (.int (nI (shN P e d)))) z h := by
  obtain ⟨h0, h1, -, h3, -, h5, -⟩ := hP
  obtain ⟨v0, -, -, -, v4, -⟩ := hV
  obtain ⟨-, -, w2, -, w4⟩ := v4 e he
  have hm : P 4 e * d ≤ 9 * 30 := Nat.mul_le_mul w4 hd
  unfold shN
  rw [← sheep_sub (a := P 2 e) (b := P 4 e * d) (by omega) (by omega)]
  simp only [m118_0, m118_1, m118_4, m118_5, m118_6, m118_9, m118_12, m118_13, m118_14, m118_15, m118_18, m118_19, m118_20, m118_21, m118_24, m118_25, m118_26, m118_27, m118_28, m118_29, m118_30, m118_31, m118_34, m118_35, m118_38, m118_39, ob_some, pushr_s, pushr_n, iget_eq, gf_eq, pf_eq, ck_eq, alen_eq, rget_eq, iset_eq, Option.bind_some, Option.map_some, Option.elim_some, hput_at, ↓reduceIte, Nat.reduceEqDiff, Nat.reduceAdd, ne_eq, not_false_eq_true, oS_ck, oS_g0, oS_p0, oS_g1, oS_p1, oS_g2, oS_p2, oS_g3, oS_p3, oS_g4, oS_p4, oS_g5, oS_p5, oS_g6, oS_p6, oP_ck, oP_g0, oP_p0, oP_g1, oP_p1, oP_g2, oP_p2, oP_g3, oP_p3, oP_g4, oP_p4, oP_g5, oP_p5, oP_g6, oP_p6, oP_g7, oP_p7, oP_g8, oP_p8, oP_g9, oP_p9, oP_g10, oP_p10, oP_g11, oP_p11, oP_g12, oP_p12, oR_ck, oR_g0, oR_p0, oR_g1, oR_p1, oR_g2, oR_p2, oR_g3, oR_p3, oG_ck, oG_g0, oG_p0, oG_g1, oG_p1, oG_g2, oG_p2, oW_ck, oW_g0, oW_p0, oW_g1, oW_p1, oW_g2, oW_p2, oB_ck, oB_g0, oB_p0, oB_g1, oB_p1, oB_g2, oB_p2, oB_g3, oB_p3, oB_g4, oB_p4, oB_g5, oB_p5, oB_g6, oB_p6, oC_ck, oC_g0, oC_p0, oC_g1, oC_p1, oC_g2, oC_p2, oC_g3, oC_p3, oC_g4, oC_p4, oC_g5, oC_p5, oC_g6, oC_p6, oH_ck, oH_g0, oH_p0, oH_g1, oH_p1, oH_g2, oH_p2, oH_g3, oH_p3, oM_ck, oM_g0, oM_p0, oM_g1, oM_p1, oM_g2, oM_p2, oM_g3, oM_p3, oM_g4, oM_p4, oM_g5, oM_p5, oM_g6, oM_p6, oM_g7, oM_p7, oM_g8, oM_p8, oM_g9, oM_p9, oM_g10, oM_p10, oM_g11, oM_p11, oM_g12, oM_p12, oM_g13, oM_p13, oM_g14, oM_p14, oM_g15, oM_p15, oM_g16, oM_p16, oM_g17, oM_p17, oM_g18, oM_p18, oM_g19, oM_p19, oM_g20, oM_p20, oM_g21, oM_p21, oM_g22, oM_p22, oM_g23, oM_p23, oM_g24, oM_p24, oM_g25, oM_p25, oM_g26, oM_p26, oM_g27, oM_p27, oM_g28, oM_p28, oM_g29, oM_p29, h1, h3, h5, nI_not_neg (n := e) (by omega), if_false, nlt (a := e) (b := P 0 0) (by omega) (by omega), he, if_true, igE_AI (n := 3) (j := e) (P 2) (by omega) (by decide), igE_AI (n := 3) (j := e) (P 4) (by omega) (by decide), pk_mul]
  split <;> rfl
def farN (P : Pl) (i w : Nat) : Nat :=
  distN (P 3 (P 5 i)) (if P 3 (P 5 i) = 1 ∧ rainF (P 9) (P 6 i) (P 0 3) = true then P 1 (P 5 i) * shN P (P 5 i) (P 6 i - 1) / 2 else P 1 (P 5 i) * shN P (P 5 i) (P 6 i - 1)) w
theorem shN_le {P : Pl} (hV : Valid P) {e : Nat} (he : e < P 0 0) (d : Nat) : shN P e d ≤ 60 := by
  obtain ⟨-, -, -, -, v4, -⟩ := hV
  have := (v4 e he).2.2.1
  unfold shN
  omega
theorem pull_le {P : Pl} (hV : Valid P) {e : Nat} (he : e < P 0 0) (d : Nat) : P 1 e * shN P e d ≤ 540 := by
  have h1 := shN_le hV he d
  obtain ⟨-, -, -, -, v4, -⟩ := hV
  have h2 := (v4 e he).2.1
  exact Nat.mul_le_mul h2 h1
theorem farOf_eq {h : Hp} {p : Nat} {P : Pl} (hP : PlanC h p P) (hV : Valid P) {i w : Nat} (hi : i < P 0 1) (hw : w ≤ 20) (hw1 : 1 ≤ w) (z : Zc) (Q : Option Value → Zc → Hp → Prop) : Ev 119 (0, [some (.ref p), some (.int (nI i)), some (.int (nI w)), none, none], [], z, h) Q = Q (some (.int (nI (farN P i w)))) z h := by
  have hS := hasStone_eq hP (nI i)
  have hE := hasEngine_eq hP (nI (P 5 i))
  have hP' := hP
  have hV' := hV
  obtain ⟨h0, h1, h2, h3, h4, h5, h6, h7, h8, h9, h10⟩ := hP
  obtain ⟨v0, v1, v2, v3, v4, v5, v6, v7⟩ := hV
  obtain ⟨u1, u2, u3, -, -⟩ := v5 i hi
  obtain ⟨-, -, -, w4, -⟩ := v4 (P 5 i) u1
  have hb1 : b2 (¬ nI i < nI 0 ∧ nI i < nI (P 0 1)) = nI 1 := b2_t ((inN (by omega) (by omega)).mpr hi)
  have hb2 : b2 (¬ nI (P 5 i) < nI 0 ∧ nI (P 5 i) < nI (P 0 0)) = nI 1 := b2_t ((inN (by omega) (by omega)).mpr u1)
  have hsh := sheepBehind_eq hP' hV' u1 (d := P 6 i - 1) (by omega)
  have hra := rainsOn_eq hP' hV' (d := P 6 i) (by omega)
  have hpl := pull_le hV' u1 (P 6 i - 1)
  have hsub : nI (P 6 i) - nI 1 = nI (P 6 i - 1) := pk_sub u2
  have hdv : nI (P 1 (P 5 i) * shN P (P 5 i) (P 6 i - 1)) / nI 2 = nI (P 1 (P 5 i) * shN P (P 5 i) (P 6 i - 1) / 2) := pk_div (by omega) (by decide) (by decide)
  have hd0 : ¬ nI 2 = 0 := by decide
  have a1 := igE_AI (n := 6) (j := i) (P 5) (by omega) (by decide)
  have a2 := igE_AI (n := 6) (j := i) (P 6) (by omega) (by decide)
  have a3 := igE_AI (n := 3) (j := P 5 i) (P 1) (by omega) (by decide)
  have a4 := igE_AI (n := 3) (j := P 5 i) (P 3) (by omega) (by decide)
  have k1 : (nI 1 = nI 0) = False := eq_false (by decide)
  unfold farN
  by_cases c1 : P 3 (P 5 i) = 1
  · by_cases c2 : rainF (P 9) (P 6 i) (P 0 3) = true
    · rw [if_pos ⟨c1, c2⟩]
      rw [b2_t c2] at hra
      simp only [m119_0, m119_1, m119_2, m119_5, m119_8, m119_9, m119_10, m119_13, m119_14, m119_15, m119_18, m119_21, m119_22, m119_23, m119_24, m119_27, m119_28, m119_29, m119_30, m119_31, m119_34, m119_35, m119_36, m119_37, m119_38, m119_39, m119_42, m119_43, m119_44, m119_45, m119_46, m119_49, m119_50, m119_52, m119_53, m119_56, m119_57, m119_58, m119_59, m119_62, m119_63, m119_64, m119_67, m119_68, m119_69, m119_72, m119_75, m119_77, m119_78, m119_79, m119_81, m119_82, m119_85, m119_86, m119_87, m119_89, m119_90, m119_93, ob_some, pushr_s, pushr_n, iget_eq, gf_eq, pf_eq, ck_eq, alen_eq, rget_eq, iset_eq, Option.bind_some, Option.map_some, Option.elim_some, hput_at, ↓reduceIte, Nat.reduceEqDiff, Nat.reduceAdd, ne_eq, not_false_eq_true, oS_ck, oS_g0, oS_p0, oS_g1, oS_p1, oS_g2, oS_p2, oS_g3, oS_p3, oS_g4, oS_p4, oS_g5, oS_p5, oS_g6, oS_p6, oP_ck, oP_g0, oP_p0, oP_g1, oP_p1, oP_g2, oP_p2, oP_g3, oP_p3, oP_g4, oP_p4, oP_g5, oP_p5, oP_g6, oP_p6, oP_g7, oP_p7, oP_g8, oP_p8, oP_g9, oP_p9, oP_g10, oP_p10, oP_g11, oP_p11, oP_g12, oP_p12, oR_ck, oR_g0, oR_p0, oR_g1, oR_p1, oR_g2, oR_p2, oR_g3, oR_p3, oG_ck, oG_g0, oG_p0, oG_g1, oG_p1, oG_g2, oG_p2, oW_ck, oW_g0, oW_p0, oW_g1, oW_p1, oW_g2, oW_p2, oB_ck, oB_g0, oB_p0, oB_g1, oB_p1, oB_g2, oB_p2, oB_g3, oB_p3, oB_g4, oB_p4, oB_g5, oB_p5, oB_g6, oB_p6, oC_ck, oC_g0, oC_p0, oC_g1, oC_p1, oC_g2, oC_p2, oC_g3, oC_p3, oC_g4, oC_p4, oC_g5, oC_p5, oC_g6, oC_p6, oH_ck, oH_g0, oH_p0, oH_g1, oH_p1, oH_g2, oH_p2, oH_g3, oH_p3, oM_ck, oM_g0, oM_p0, oM_g1, oM_p1, oM_g2, oM_p2, oM_g3, oM_p3, oM_g4, oM_p4, oM_g5, oM_p5, oM_g6, oM_p6, oM_g7, oM_p7, oM_g8, oM_p8, oM_g9, oM_p9, oM_g10, oM_p10, oM_g11, oM_p11, oM_g12, oM_p12, oM_g13, oM_p13, oM_g14, oM_p14, oM_g15, oM_p15, oM_g16, oM_p16, oM_g17, oM_p17, oM_g18, oM_p18, oM_g19, oM_p19, oM_g20, oM_p20, oM_g21, oM_p21, oM_g22, oM_p22, oM_g23, oM_p23, oM_g24, oM_p24, oM_g25, oM_p25, oM_g26, oM_p26, oM_g27, oM_p27, oM_g28, oM_p28, oM_g29, oM_p29, h1, h2, h4, h6, h7, hS, hE, hb1, hb2, k1, if_false, a1, a2, a3, a4, hsub, hsh, pk_mul, neq (a := P 3 (P 5 i)) (b := 1) (by omega) (by decide), c1, if_true, hra, hdv, hd0, not_false_eq_true]
      rw [distance_eq (by decide) (by omega) (by omega) hw1]
      simp only [m119_0, m119_1, m119_2, m119_5, m119_8, m119_9, m119_10, m119_13, m119_14, m119_15, m119_18, m119_21, m119_22, m119_23, m119_24, m119_27, m119_28, m119_29, m119_30, m119_31, m119_34, m119_35, m119_36, m119_37, m119_38, m119_39, m119_42, m119_43, m119_44, m119_45, m119_46, m119_49, m119_50, m119_52, m119_53, m119_56, m119_57, m119_58, m119_59, m119_62, m119_63, m119_64, m119_67, m119_68, m119_69, m119_72, m119_75, m119_77, m119_78, m119_79, m119_81, m119_82, m119_85, m119_86, m119_87, m119_89, m119_90, m119_93, pushr_s]
    · rw [if_neg (fun q => c2 q.2)]
      rw [b2_f c2] at hra
      simp only [m119_0, m119_1, m119_2, m119_5, m119_8, m119_9, m119_10, m119_13, m119_14, m119_15, m119_18, m119_21, m119_22, m119_23, m119_24, m119_27, m119_28, m119_29, m119_30, m119_31, m119_34, m119_35, m119_36, m119_37, m119_38, m119_39, m119_42, m119_43, m119_44, m119_45, m119_46, m119_49, m119_50, m119_52, m119_53, m119_56, m119_57, m119_58, m119_59, m119_62, m119_63, m119_64, m119_67, m119_68, m119_69, m119_72, m119_75, m119_77, m119_78, m119_79, m119_81, m119_82, m119_85, m119_86, m119_87, m119_89, m119_90, m119_93, ob_some, pushr_s, pushr_n, iget_eq, gf_eq, pf_eq, ck_eq, alen_eq, rget_eq, iset_eq, Option.bind_some, Option.map_some, Option.elim_some, hput_at, ↓reduceIte, Nat.reduceEqDiff, Nat.reduceAdd, ne_eq, not_false_eq_true, oS_ck, oS_g0, oS_p0, oS_g1, oS_p1, oS_g2, oS_p2, oS_g3, oS_p3, oS_g4, oS_p4, oS_g5, oS_p5, oS_g6, oS_p6, oP_ck, oP_g0, oP_p0, oP_g1, oP_p1, oP_g2, oP_p2, oP_g3, oP_p3, oP_g4, oP_p4, oP_g5, oP_p5, oP_g6, oP_p6, oP_g7, oP_p7, oP_g8, oP_p8, oP_g9, oP_p9, oP_g10, oP_p10, oP_g11, oP_p11, oP_g12, oP_p12, oR_ck, oR_g0, oR_p0, oR_g1, oR_p1, oR_g2, oR_p2, oR_g3, oR_p3, oG_ck, oG_g0, oG_p0, oG_g1, oG_p1, oG_g2, oG_p2, oW_ck, oW_g0, oW_p0, oW_g1, oW_p1, oW_g2, oW_p2, oB_ck, oB_g0, oB_p0, oB_g1, oB_p1, oB_g2, oB_p2, oB_g3, oB_p3, oB_g4, oB_p4, oB_g5, oB_p5, oB_g6, oB_p6, oC_ck, oC_g0, oC_p0, oC_g1, oC_p1, oC_g2, oC_p2, oC_g3, oC_p3, oC_g4, oC_p4, oC_g5, oC_p5, oC_g6, oC_p6, oH_ck, oH_g0, oH_p0, oH_g1, oH_p1, oH_g2, oH_p2, oH_g3, oH_p3, oM_ck, oM_g0, oM_p0, oM_g1, oM_p1, oM_g2, oM_p2, oM_g3, oM_p3, oM_g4, oM_p4, oM_g5, oM_p5, oM_g6, oM_p6, oM_g7, oM_p7, oM_g8, oM_p8, oM_g9, oM_p9, oM_g10, oM_p10, oM_g11, oM_p11, oM_g12, oM_p12, oM_g13, oM_p13, oM_g14, oM_p14, oM_g15, oM_p15, oM_g16, oM_p16, oM_g17, oM_p17, oM_g18, oM_p18, oM_g19, oM_p19, oM_g20, oM_p20, oM_g21, oM_p21, oM_g22, oM_p22, oM_g23, oM_p23, oM_g24, oM_p24, oM_g25, oM_p25, oM_g26, oM_p26, oM_g27, oM_p27, oM_g28, oM_p28, oM_g29, oM_p29, h1, h2, h4, h6, h7, hS, hE, hb1, hb2, k1, if_false, a1, a2, a3, a4, hsub, hsh, pk_mul, neq (a := P 3 (P 5 i)) (b := 1) (by omega) (by decide), c1, if_true, hra]
      rw [distance_eq (by decide) (by omega) (by omega) hw1]
      simp only [m119_0, m119_1, m119_2, m119_5, m119_8, m119_9, m119_10, m119_13, m119_14, m119_15, m119_18, m119_21, m119_22, m119_23, m119_24, m119_27, m119_28, m119_29, m119_30, m119_31, m119_34, m119_35, m119_36, m119_37, m119_38, m119_39, m119_42, m119_43, m119_44, m119_45, m119_46, m119_49, m119_50, m119_52, m119_53, m119_56, m119_57, m119_58, m119_59, m119_62, m119_63, m119_64, m119_67, m119_68, m119_69, m119_72, m119_75, m119_77, m119_78, m119_79, m119_81, m119_82, m119_85, m119_86, m119_87, m119_89, m119_90, m119_93, pushr_s]
  · rw [if_neg (fun q => c1 q.1)]
    simp only [m119_0, m119_1, m119_2, m119_5, m119_8, m119_9, m119_10, m119_13, m119_14, m119_15, m119_18, m119_21, m119_22, m119_23, m119_24, m119_27, m119_28, m119_29, m119_30, m119_31, m119_34, m119_35, m119_36, m119_37, m119_38, m119_39, m119_42, m119_43, m119_44, m119_45, m119_46, m119_49, m119_50, m119_52, m119_53, m119_56, m119_57, m119_58, m119_59, m119_62, m119_63, m119_64, m119_67, m119_68, m119_69, m119_72, m119_75, m119_77, m119_78, m119_79, m119_81, m119_82, m119_85, m119_86, m119_87, m119_89, m119_90, m119_93, ob_some, pushr_s, pushr_n, iget_eq, gf_eq, pf_eq, ck_eq, alen_eq, rget_eq, iset_eq, Option.bind_some, Option.map_some, Option.elim_some, hput_at, ↓reduceIte, Nat.reduceEqDiff, Nat.reduceAdd, ne_eq, not_false_eq_true, oS_ck, oS_g0, oS_p0, oS_g1, oS_p1, oS_g2, oS_p2, oS_g3, oS_p3, oS_g4, oS_p4, oS_g5, oS_p5, oS_g6, oS_p6, oP_ck, oP_g0, oP_p0, oP_g1, oP_p1, oP_g2, oP_p2, oP_g3, oP_p3, oP_g4, oP_p4, oP_g5, oP_p5, oP_g6, oP_p6, oP_g7, oP_p7, oP_g8, oP_p8, oP_g9, oP_p9, oP_g10, oP_p10, oP_g11, oP_p11, oP_g12, oP_p12, oR_ck, oR_g0, oR_p0, oR_g1, oR_p1, oR_g2, oR_p2, oR_g3, oR_p3, oG_ck, oG_g0, oG_p0, oG_g1, oG_p1, oG_g2, oG_p2, oW_ck, oW_g0, oW_p0, oW_g1, oW_p1, oW_g2, oW_p2, oB_ck, oB_g0, oB_p0, oB_g1, oB_p1, oB_g2, oB_p2, oB_g3, oB_p3, oB_g4, oB_p4, oB_g5, oB_p5, oB_g6, oB_p6, oC_ck, oC_g0, oC_p0, oC_g1, oC_p1, oC_g2, oC_p2, oC_g3, oC_p3, oC_g4, oC_p4, oC_g5, oC_p5, oC_g6, oC_p6, oH_ck, oH_g0, oH_p0, oH_g1, oH_p1, oH_g2, oH_p2, oH_g3, oH_p3, oM_ck, oM_g0, oM_p0, oM_g1, oM_p1, oM_g2, oM_p2, oM_g3, oM_p3, oM_g4, oM_p4, oM_g5, oM_p5, oM_g6, oM_p6, oM_g7, oM_p7, oM_g8, oM_p8, oM_g9, oM_p9, oM_g10, oM_p10, oM_g11, oM_p11, oM_g12, oM_p12, oM_g13, oM_p13, oM_g14, oM_p14, oM_g15, oM_p15, oM_g16, oM_p16, oM_g17, oM_p17, oM_g18, oM_p18, oM_g19, oM_p19, oM_g20, oM_p20, oM_g21, oM_p21, oM_g22, oM_p22, oM_g23, oM_p23, oM_g24, oM_p24, oM_g25, oM_p25, oM_g26, oM_p26, oM_g27, oM_p27, oM_g28, oM_p28, oM_g29, oM_p29, h1, h2, h4, h6, h7, hS, hE, hb1, hb2, k1, if_false, a1, a2, a3, a4, hsub, hsh, pk_mul, neq (a := P 3 (P 5 i)) (b := 1) (by omega) (by decide), c1]
    rw [distance_eq (by omega) (by omega) (by omega) hw1]
    simp only [m119_0, m119_1, m119_2, m119_5, m119_8, m119_9, m119_10, m119_13, m119_14, m119_15, m119_18, m119_21, m119_22, m119_23, m119_24, m119_27, m119_28, m119_29, m119_30, m119_31, m119_34, m119_35, m119_36, m119_37, m119_38, m119_39, m119_42, m119_43, m119_44, m119_45, m119_46, m119_49, m119_50, m119_52, m119_53, m119_56, m119_57, m119_58, m119_59, m119_62, m119_63, m119_64, m119_67, m119_68, m119_69, m119_72, m119_75, m119_77, m119_78, m119_79, m119_81, m119_82, m119_85, m119_86, m119_87, m119_89, m119_90, m119_93, pushr_s]
