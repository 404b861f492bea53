/-! small methods -/
theorem within_eq (v lo hi : Int32) (z : Zc) (h : Hp) (Q : Option Value → Zc → Hp → Prop) : Ev 27 (0, [some (.int v), some (.int lo), some (.int hi)], [], z, h) Q = Q (some (.int (b2 (¬ v < lo ∧ ¬ hi < v)))) z h := by
  by_cases h1 : v < lo
  · simp only [m27_0, m27_1, m27_2, m27_5, m27_6, m27_7, m27_10, m27_11, m27_14, m27_15_0, m27_15_1, m27_15_b, h1, if_true, b2_f (p := ¬ v < lo ∧ ¬ hi < v) (fun q => q.1 h1), true_or]
  · by_cases h2 : hi < v
    · simp only [m27_0, m27_1, m27_2, m27_5, m27_6, m27_7, m27_10, m27_11, m27_14, m27_15_0, m27_15_1, m27_15_b, h1, h2, if_true, if_false, b2_f (p := ¬ v < lo ∧ ¬ hi < v) (fun q => q.2 h2), true_or]
    · simp only [m27_0, m27_1, m27_2, m27_5, m27_6, m27_7, m27_10, m27_11, m27_14, m27_15_0, m27_15_1, m27_15_b, h1, h2, if_true, if_false, b2_t (p := ¬ v < lo ∧ ¬ hi < v) ⟨h1, h2⟩, or_true]
theorem isCell_eq (c : Int32) (z : Zc) (h : Hp) (Q : Option Value → Zc → Hp → Prop) : Ev 28 (0, [some (.int c)], [], z, h) Q = Q (some (.int (b2 (¬ c < nI 0 ∧ c < nI 10)))) z h := by
  by_cases h1 : c < nI 0
  · simp only [m28_0, m28_1, m28_4, m28_5, m28_7, m28_10, m28_11, m28_14, m28_15_0, m28_15_1, m28_15_b, h1, if_true, b2_f (p := ¬ c < nI 0 ∧ c < nI 10) (fun q => q.1 h1), true_or]
  · by_cases h2 : c < nI 10
    · simp only [m28_0, m28_1, m28_4, m28_5, m28_7, m28_10, m28_11, m28_14, m28_15_0, m28_15_1, m28_15_b, h1, h2, if_true, if_false, b2_t (p := ¬ c < nI 0 ∧ c < nI 10) ⟨h1, h2⟩, or_true]
    · simp only [m28_0, m28_1, m28_4, m28_5, m28_7, m28_10, m28_11, m28_14, m28_15_0, m28_15_1, m28_15_b, h1, h2, if_true, if_false, b2_f (p := ¬ c < nI 0 ∧ c < nI 10) (fun q => h2 q.2), true_or]
/-- the weakest of the cells ahead of c that are weaker than at first: 10 is none -/
def weakF (f s : Nat → Nat) : Nat → Nat
  | 0 => 10
  | c + 1 => if s c < f c ∧ (weakF f s c = 10 ∨ s c < s (weakF f s c)) then c else weakF f s c
/-- a cell as the class says it: 10 is none -/
def cN4 (c : Nat) : Int32 := if c = 10 then -4 else nI c
theorem weakF_lt (f s : Nat → Nat) : ∀ c, c ≤ 10 → weakF f s c = 10 ∨ weakF f s c < c
  | 0, _ => Or.inl rfl
  | c + 1, h => by
    rw [weakF]
    split
    · exact Or.inr (Nat.lt_succ_self c)
    · rcases weakF_lt f s c (by omega) with e | e
      · exact Or.inl e
      · exact Or.inr (by omega)
theorem weakest_loop (w a b : Nat) (x2 : Value) (f s : Nat → Nat) (z : Zc) (h : Hp) (Q : Option Value → Zc → Hp → Prop) (hw : h w = some (oW (.ref a) (.ref b) x2)) (ha : h a = some (AI 10 f)) (hb : h b = some (AI 10 s)) (hf : ∀ c, f c < 100000000) (hs : ∀ c, s c < 100000000) :
    ∀ k c, k + c = 10 → Ev 138 (5, [some (.ref w), some (.int (cN4 (weakF f s c))), some (.int (nI c))], [], z, h) Q = Q (some (.int (cN4 (weakF f s 10)))) z h := by
  intro k
  induction k with
  | zero =>
    intro c hc
    have hc : c = 10 := by omega
    subst hc
    simp only [m138_0, m138_2, m138_3, m138_4, m138_6, m138_8, m138_11, m138_12, m138_15, m138_16, m138_17, m138_18, m138_21, m138_22, m138_23, m138_26, m138_27, m138_30, m138_31, m138_34, m138_35, m138_36, m138_37, m138_40, m138_41, m138_42, m138_45, m138_46, m138_47, m138_50, m138_53, m138_54, m138_5, nlt (a := 10) (b := 10) (by decide) (by decide), Nat.lt_irrefl, if_false]
  | succ k ih =>
    intro c hc
    have hlt : c < 10 := by omega
    have hi := ih (c + 1) (by omega)
    rw [m138_5]
    simp only [m138_0, m138_2, m138_3, m138_4, m138_6, m138_8, m138_11, m138_12, m138_15, m138_16, m138_17, m138_18, m138_21, m138_22, m138_23, m138_26, m138_27, m138_30, m138_31, m138_34, m138_35, m138_36, m138_37, m138_40, m138_41, m138_42, m138_45, m138_46, m138_47, m138_50, m138_53, m138_54, nlt (a := c) (b := 10) (by omega) (by decide), hlt, if_true, ob_some, pushr_s, pushr_n, iget_eq, gf_eq, pf_eq, ck_eq, alen_eq, rget_eq, iset_eq, Option.bind_some, Option.map_some, Option.elim_some, hput_at, ↓reduceIte, Nat.reduceEqDiff, Nat.reduceAdd, ne_eq, not_false_eq_true, oS_ck, oS_g0, oS_p0, oS_g1, oS_p1, oS_g2, oS_p2, oS_g3, oS_p3, oS_g4, oS_p4, oS_g5, oS_p5, oS_g6, oS_p6, oS_g7, oS_p7, oS_g8, oS_p8, oP_ck, oP_g0, oP_p0, oP_g1, oP_p1, oP_g2, oP_p2, oP_g3, oP_p3, oP_g4, oP_p4, oP_g5, oP_p5, oP_g6, oP_p6, oP_g7, oP_p7, oP_g8, oP_p8, oP_g9, oP_p9, oP_g10, oP_p10, oP_g11, oP_p11, oP_g12, oP_p12, oR_ck, oR_g0, oR_p0, oR_g1, oR_p1, oR_g2, oR_p2, oR_g3, oR_p3, oR_g4, oR_p4, oG_ck, oG_g0, oG_p0, oG_g1, oG_p1, oG_g2, oG_p2, oW_ck, oW_g0, oW_p0, oW_g1, oW_p1, oW_g2, oW_p2, oB_ck, oB_g0, oB_p0, oB_g1, oB_p1, oB_g2, oB_p2, oB_g3, oB_p3, oB_g4, oB_p4, oB_g5, oB_p5, oB_g6, oB_p6, oC_ck, oC_g0, oC_p0, oC_g1, oC_p1, oC_g2, oC_p2, oC_g3, oC_p3, oC_g4, oC_p4, oC_g5, oC_p5, oC_g6, oC_p6, oH_ck, oH_g0, oH_p0, oH_g1, oH_p1, oH_g2, oH_p2, oH_g3, oH_p3, oM_ck, oM_g0, oM_p0, oM_g1, oM_p1, oM_g2, oM_p2, oM_g3, oM_p3, oM_g4, oM_p4, oM_g5, oM_p5, oM_g6, oM_p6, oM_g7, oM_p7, oM_g8, oM_p8, oM_g9, oM_p9, oM_g10, oM_p10, oM_g11, oM_p11, oM_g12, oM_p12, oM_g13, oM_p13, oM_g14, oM_p14, oM_g15, oM_p15, oM_g16, oM_p16, oM_g17, oM_p17, oM_g18, oM_p18, oM_g19, oM_p19, oM_g20, oM_p20, oM_g21, oM_p21, oM_g22, oM_p22, oM_g23, oM_p23, oM_g24, oM_p24, oM_g25, oM_p25, oM_g26, oM_p26, oM_g27, oM_p27, oM_g28, oM_p28, oM_g29, oM_p29, hw, ha, hb, igE_AI (n := 10) (j := c) _ hlt (by decide), nlt (hs c) (hf c), nI_1]
    by_cases h1 : s c < f c
    · simp only [h1, if_true]
      rcases weakF_lt f s c (by omega) with e | e
      · rw [e]
        sorry
      · sorry
    · simp only [h1, if_false]
      rw [← hi]
      simp only [weakF, h1, false_and, if_false]
