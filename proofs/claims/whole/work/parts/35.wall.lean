/-! walls: strengths at first, strengths, what lies in them -/
def WallC (h : Hp) (w : Nat) (f s : Nat → Nat) (ru : Nat) : Prop := w ≠ 0 ∧ h w = some (oW (.ref (w + 1)) (.ref (w + 2)) (.int (nI ru))) ∧ h (w + 1) = some (AI 10 f) ∧ h (w + 2) = some (AI 10 s)
def wset (h : Hp) (w : Nat) (f s : Nat → Nat) (ru : Nat) : Hp := fun j => if j = w then some (oW (.ref (w + 1)) (.ref (w + 2)) (.int (nI ru))) else if j = w + 1 then some (AI 10 f) else if j = w + 2 then some (AI 10 s) else h j
theorem wset_ne (h : Hp) {w j : Nat} (f s : Nat → Nat) (ru : Nat) (hj : j < w ∨ w + 2 < j) : wset h w f s ru j = h j := by
  unfold wset
  rw [if_neg (by omega), if_neg (by omega), if_neg (by omega)]
theorem wset_C (h : Hp) {w : Nat} (hw : w ≠ 0) (f s : Nat → Nat) (ru : Nat) : WallC (wset h w f s ru) w f s ru := by
  refine ⟨hw, if_pos rfl, ?_, ?_⟩
  · unfold wset
    rw [if_neg (by omega), if_pos rfl]
  · unfold wset
    rw [if_neg (by omega), if_neg (by omega), if_pos rfl]
theorem wset_wset (h : Hp) (w : Nat) (f s f' s' : Nat → Nat) (ru ru' : Nat) : wset (wset h w f s ru) w f' s' ru' = wset h w f' s' ru' := by
  funext j
  unfold wset
  by_cases h1 : j = w
  · simp only [h1, if_true]
  · by_cases h2 : j = w + 1
    · simp only [h2, if_true]
    · by_cases h3 : j = w + 2
      · simp only [h3, if_true]
      · simp only [h1, h2, h3, if_false]
theorem WallC.set_s {h : Hp} {w : Nat} {f s : Nat → Nat} {ru : Nat} (hw : WallC h w f s ru) (s' : Nat → Nat) : hput h (w + 2) (AI 10 s') = wset h w f s' ru := by
  obtain ⟨h0, h1, h2, h3⟩ := hw
  funext j
  unfold wset
  rw [hput_at]
  by_cases c1 : j = w
  · rw [if_neg (by omega), if_pos c1, c1, h1]
  · by_cases c2 : j = w + 1
    · rw [if_neg (by omega), if_neg c1, if_pos c2, c2, h2]
    · by_cases c3 : j = w + 2
      · simp only [c3, if_true]
        rw [if_neg (by omega), if_neg (by omega)]
      · simp only [c1, c2, c3, if_false]
theorem WallC.set_f {h : Hp} {w : Nat} {f s : Nat → Nat} {ru : Nat} (hw : WallC h w f s ru) (f' : Nat → Nat) : hput h (w + 1) (AI 10 f') = wset h w f' s ru := by
  obtain ⟨h0, h1, h2, h3⟩ := hw
  funext j
  unfold wset
  rw [hput_at]
  by_cases c1 : j = w
  · rw [if_neg (by omega), if_pos c1, c1, h1]
  · by_cases c2 : j = w + 1
    · rw [if_pos c2, if_neg c1, if_pos c2]
    · by_cases c3 : j = w + 2
      · rw [if_neg c2, if_neg c1, if_neg c2, if_pos c3, c3, h3]
      · rw [if_neg c2, if_neg c1, if_neg c2, if_neg c3]
theorem WallC.set_r {h : Hp} {w : Nat} {f s : Nat → Nat} {ru : Nat} (hw : WallC h w f s ru) (ru' : Nat) : hput h w (oW (.ref (w + 1)) (.ref (w + 2)) (.int (nI ru'))) = wset h w f s ru' := by
  obtain ⟨h0, h1, h2, h3⟩ := hw
  funext j
  unfold wset
  rw [hput_at]
  by_cases c1 : j = w
  · rw [if_pos c1, if_pos c1]
  · by_cases c2 : j = w + 1
    · rw [if_neg c1, if_neg c1, if_pos c2, c2, h2]
    · by_cases c3 : j = w + 2
      · rw [if_neg c1, if_neg c1, if_neg c2, if_pos c3, c3, h3]
      · rw [if_neg c1, if_neg c1, if_neg c2, if_neg c3]
theorem WallC.id {h : Hp} {w : Nat} {f s : Nat → Nat} {ru : Nat} (hw : WallC h w f s ru) : wset h w f s ru = h := by
  rw [← hw.set_s s]
  exact hput_id h hw.2.2.2
theorem WallC.fresh {h : Hp} {w : Nat} {f s : Nat → Nat} {ru : Nat} (hw : WallC h w f s ru) (f' s' : Nat → Nat) (ru' : Nat) : WallC (wset h w f' s' ru') w f' s' ru' := wset_C h hw.1 f' s' ru'
theorem PlanC.keepW {h : Hp} {p w : Nat} {P : Pl} (hp : PlanC h p P) (hw : p + 9 < w ∨ w + 2 < p) (f s : Nat → Nat) (ru : Nat) : PlanC (wset h w f s ru) p P := hp.same (fun j h1 h2 => wset_ne h f s ru (by omega))
theorem WallC.other {h : Hp} {w v : Nat} {f s : Nat → Nat} {ru : Nat} (hw : WallC h w f s ru) (hv : w + 2 < v ∨ v + 2 < w) (f' s' : Nat → Nat) (ru' : Nat) : WallC (wset h v f' s' ru') w f s ru := by
  obtain ⟨h0, h1, h2, h3⟩ := hw
  exact ⟨h0, by rw [wset_ne _ _ _ _ (by omega)]; exact h1, by rw [wset_ne _ _ _ _ (by omega)]; exact h2, by rw [wset_ne _ _ _ _ (by omega)]; exact h3⟩
-- weaker, weakest, mended
def weakS (s : Nat → Nat) (c bl : Nat) : Nat → Nat := if c < 10 then fup s c (s c - bl) else s
theorem weaken_eq {h : Hp} {w : Nat} {f s : Nat → Nat} {ru : Nat} (hw : WallC h w f s ru) {c bl : Nat} (hc : c < 100) (hb : bl < 100000) (hs : c < 10 → s c < 100000) (z : Zc) (Q : Option Value → Zc → Hp → Prop) : Ev 137 (0, [some (.ref w), some (.int (nI c)), some (.int (nI bl))], [], z, h) Q = Q none z (wset h w f (weakS s c bl) ru) := by
  have hw' := hw
  obtain ⟨h0, h1, h2, h3⟩ := hw
  unfold weakS
  by_cases c1 : c < 10
  · rw [if_pos c1, ← hw'.set_s]
    have w2 : w + 2 ≠ 0 := by omega
    simp only [m137_0, m137_1, m137_4, m137_7, m137_8, m137_11, m137_12, m137_13, m137_14, m137_17, m137_18, m137_19, m137_20, m137_21, m137_24, m137_25, isCell_eq, isCellN (c := c) (by omega), ob_some, pushr_s, pushr_n, iget_eq, gf_eq, pf_eq, ck_eq, alen_eq, rget_eq, iset_eq, Option.bind_some, Option.map_some, Option.elim_some, hput_at, ↓reduceIte, Nat.reduceEqDiff, Nat.reduceAdd, ne_eq, not_false_eq_true, oS_ck, oS_g0, oS_p0, oS_g1, oS_p1, oS_g2, oS_p2, oS_g3, oS_p3, oS_g4, oS_p4, oS_g5, oS_p5, oS_g6, oS_p6, oP_ck, oP_g0, oP_p0, oP_g1, oP_p1, oP_g2, oP_p2, oP_g3, oP_p3, oP_g4, oP_p4, oP_g5, oP_p5, oP_g6, oP_p6, oP_g7, oP_p7, oP_g8, oP_p8, oP_g9, oP_p9, oP_g10, oP_p10, oP_g11, oP_p11, oP_g12, oP_p12, oR_ck, oR_g0, oR_p0, oR_g1, oR_p1, oR_g2, oR_p2, oR_g3, oR_p3, oG_ck, oG_g0, oG_p0, oG_g1, oG_p1, oG_g2, oG_p2, oW_ck, oW_g0, oW_p0, oW_g1, oW_p1, oW_g2, oW_p2, oB_ck, oB_g0, oB_p0, oB_g1, oB_p1, oB_g2, oB_p2, oB_g3, oB_p3, oB_g4, oB_p4, oB_g5, oB_p5, oB_g6, oB_p6, oC_ck, oC_g0, oC_p0, oC_g1, oC_p1, oC_g2, oC_p2, oC_g3, oC_p3, oC_g4, oC_p4, oC_g5, oC_p5, oC_g6, oC_p6, oH_ck, oH_g0, oH_p0, oH_g1, oH_p1, oH_g2, oH_p2, oH_g3, oH_p3, oM_ck, oM_g0, oM_p0, oM_g1, oM_p1, oM_g2, oM_p2, oM_g3, oM_p3, oM_g4, oM_p4, oM_g5, oM_p5, oM_g6, oM_p6, oM_g7, oM_p7, oM_g8, oM_p8, oM_g9, oM_p9, oM_g10, oM_p10, oM_g11, oM_p11, oM_g12, oM_p12, oM_g13, oM_p13, oM_g14, oM_p14, oM_g15, oM_p15, oM_g16, oM_p16, oM_g17, oM_p17, oM_g18, oM_p18, oM_g19, oM_p19, oM_g20, oM_p20, oM_g21, oM_p21, oM_g22, oM_p22, oM_g23, oM_p23, oM_g24, oM_p24, oM_g25, oM_p25, oM_g26, oM_p26, oM_g27, oM_p27, oM_g28, oM_p28, oM_g29, oM_p29, b2_0, c1, not_true_eq_false, if_false, h1, h3, igE_AI (n := 10) (j := c) s c1 (by decide), sheep_sub (hs c1) hb, w2, isE_AI (n := 10) (j := c) s _ c1 (by decide)]
  · rw [if_neg c1, hw'.id]
    simp only [m137_0, m137_1, m137_4, m137_7, m137_8, m137_11, m137_12, m137_13, m137_14, m137_17, m137_18, m137_19, m137_20, m137_21, m137_24, m137_25, isCell_eq, isCellN (c := c) (by omega), ob_some, pushr_s, pushr_n, iget_eq, gf_eq, pf_eq, ck_eq, alen_eq, rget_eq, iset_eq, Option.bind_some, Option.map_some, Option.elim_some, hput_at, ↓reduceIte, Nat.reduceEqDiff, Nat.reduceAdd, ne_eq, not_false_eq_true, oS_ck, oS_g0, oS_p0, oS_g1, oS_p1, oS_g2, oS_p2, oS_g3, oS_p3, oS_g4, oS_p4, oS_g5, oS_p5, oS_g6, oS_p6, oP_ck, oP_g0, oP_p0, oP_g1, oP_p1, oP_g2, oP_p2, oP_g3, oP_p3, oP_g4, oP_p4, oP_g5, oP_p5, oP_g6, oP_p6, oP_g7, oP_p7, oP_g8, oP_p8, oP_g9, oP_p9, oP_g10, oP_p10, oP_g11, oP_p11, oP_g12, oP_p12, oR_ck, oR_g0, oR_p0, oR_g1, oR_p1, oR_g2, oR_p2, oR_g3, oR_p3, oG_ck, oG_g0, oG_p0, oG_g1, oG_p1, oG_g2, oG_p2, oW_ck, oW_g0, oW_p0, oW_g1, oW_p1, oW_g2, oW_p2, oB_ck, oB_g0, oB_p0, oB_g1, oB_p1, oB_g2, oB_p2, oB_g3, oB_p3, oB_g4, oB_p4, oB_g5, oB_p5, oB_g6, oB_p6, oC_ck, oC_g0, oC_p0, oC_g1, oC_p1, oC_g2, oC_p2, oC_g3, oC_p3, oC_g4, oC_p4, oC_g5, oC_p5, oC_g6, oC_p6, oH_ck, oH_g0, oH_p0, oH_g1, oH_p1, oH_g2, oH_p2, oH_g3, oH_p3, oM_ck, oM_g0, oM_p0, oM_g1, oM_p1, oM_g2, oM_p2, oM_g3, oM_p3, oM_g4, oM_p4, oM_g5, oM_p5, oM_g6, oM_p6, oM_g7, oM_p7, oM_g8, oM_p8, oM_g9, oM_p9, oM_g10, oM_p10, oM_g11, oM_p11, oM_g12, oM_p12, oM_g13, oM_p13, oM_g14, oM_p14, oM_g15, oM_p15, oM_g16, oM_p16, oM_g17, oM_p17, oM_g18, oM_p18, oM_g19, oM_p19, oM_g20, oM_p20, oM_g21, oM_p21, oM_g22, oM_p22, oM_g23, oM_p23, oM_g24, oM_p24, oM_g25, oM_p25, oM_g26, oM_p26, oM_g27, oM_p27, oM_g28, oM_p28, oM_g29, oM_p29, b2_0, c1, if_true]
/-- the weakest of the cells ahead of c that are weaker than at first: 10 is none -/
def weakF (f s : Nat → Nat) : Nat → Nat
  | 0 => 10
  | c + 1 => if s c < f c ∧ (weakF f s c = 10 ∨ s c < s (weakF f s c)) then c else weakF f s c
theorem weakF_lt (f s : Nat → Nat) : ∀ c, c ≤ 10 → weakF f s c = 10 ∨ weakF f s c < c
  | 0, _ => Or.inl rfl
  | c + 1, h => by
    rw [weakF]
    split
    · exact Or.inr (Nat.lt_succ_self c)
    · rcases weakF_lt f s c (by omega) with e | e
      · exact Or.inl e
      · exact Or.inr (by omega)
theorem weakF_le (f s : Nat → Nat) : weakF f s 10 ≤ 10 := by
  rcases weakF_lt f s 10 (Nat.le_refl _) with e | e <;> omega
theorem weakF_spec (f s : Nat → Nat) : ∀ c, weakF f s c = 10 ∨ s (weakF f s c) < f (weakF f s c)
  | 0 => Or.inl rfl
  | c + 1 => by
    rw [weakF]
    split
    · rename_i q; exact Or.inr q.1
    · exact weakF_spec f s c
theorem weakest_loop {h : Hp} {w : Nat} {f s : Nat → Nat} {ru : Nat} (hw : WallC h w f s ru) (hf : ∀ c, c < 10 → f c < 100000) (hs : ∀ c, c < 10 → s c < 100000) (z : Zc) (Q : Option Value → Zc → Hp → Prop) :
    ∀ k c, k + c = 10 → Ev 139 (5, [some (.ref w), some (.int (cN4 (weakF f s c))), some (.int (nI c))], [], z, h) Q = Q (some (.int (cN4 (weakF f s 10)))) z h := by
  obtain ⟨h0, h1, h2, h3⟩ := hw
  intro k
  induction k with
  | zero =>
    intro c hc
    have hc : c = 10 := by omega
    subst hc
    rw [m139_5]
    simp only [m139_0, m139_2, m139_3, m139_4, m139_6, m139_8, m139_11, m139_12, m139_15, m139_16, m139_17, m139_18, m139_21, m139_22, m139_23, m139_26, m139_27, m139_30, m139_31, m139_34, m139_35, m139_36, m139_37, m139_40, m139_41, m139_42, m139_45, m139_46, m139_47, m139_50, m139_53, m139_54, nlt (a := 10) (b := 10) (by decide) (by decide), Nat.lt_irrefl, if_false]
  | succ k ih =>
    intro c hc
    have hlt : c < 10 := by omega
    have hi := ih (c + 1) (by omega)
    have a1 := igE_AI (n := 10) (j := c) f hlt (by decide)
    have a2 := igE_AI (n := 10) (j := c) s hlt (by decide)
    have l1 := nlt (a := c) (b := 10) (by omega) (by decide)
    have l2 := nlt (a := s c) (b := f c) (by have := hs c hlt; omega) (by have := hf c hlt; omega)
    rw [m139_5]
    by_cases g1 : s c < f c
    · rcases weakF_lt f s c (by omega) with e | e
      · have e2 : weakF f s (c + 1) = c := by rw [weakF, if_pos ⟨g1, Or.inl e⟩]
        rw [e2, cN4_lt hlt] at hi
        have l3 : (-4 : Int32) < nI 0 := by decide
        simp only [m139_0, m139_2, m139_3, m139_4, m139_6, m139_8, m139_11, m139_12, m139_15, m139_16, m139_17, m139_18, m139_21, m139_22, m139_23, m139_26, m139_27, m139_30, m139_31, m139_34, m139_35, m139_36, m139_37, m139_40, m139_41, m139_42, m139_45, m139_46, m139_47, m139_50, m139_53, m139_54, l1, hlt, if_true, ob_some, pushr_s, pushr_n, iget_eq, gf_eq, pf_eq, ck_eq, alen_eq, rget_eq, iset_eq, Option.bind_some, Option.map_some, Option.elim_some, hput_at, ↓reduceIte, Nat.reduceEqDiff, Nat.reduceAdd, ne_eq, not_false_eq_true, oS_ck, oS_g0, oS_p0, oS_g1, oS_p1, oS_g2, oS_p2, oS_g3, oS_p3, oS_g4, oS_p4, oS_g5, oS_p5, oS_g6, oS_p6, oP_ck, oP_g0, oP_p0, oP_g1, oP_p1, oP_g2, oP_p2, oP_g3, oP_p3, oP_g4, oP_p4, oP_g5, oP_p5, oP_g6, oP_p6, oP_g7, oP_p7, oP_g8, oP_p8, oP_g9, oP_p9, oP_g10, oP_p10, oP_g11, oP_p11, oP_g12, oP_p12, oR_ck, oR_g0, oR_p0, oR_g1, oR_p1, oR_g2, oR_p2, oR_g3, oR_p3, oG_ck, oG_g0, oG_p0, oG_g1, oG_p1, oG_g2, oG_p2, oW_ck, oW_g0, oW_p0, oW_g1, oW_p1, oW_g2, oW_p2, oB_ck, oB_g0, oB_p0, oB_g1, oB_p1, oB_g2, oB_p2, oB_g3, oB_p3, oB_g4, oB_p4, oB_g5, oB_p5, oB_g6, oB_p6, oC_ck, oC_g0, oC_p0, oC_g1, oC_p1, oC_g2, oC_p2, oC_g3, oC_p3, oC_g4, oC_p4, oC_g5, oC_p5, oC_g6, oC_p6, oH_ck, oH_g0, oH_p0, oH_g1, oH_p1, oH_g2, oH_p2, oH_g3, oH_p3, oM_ck, oM_g0, oM_p0, oM_g1, oM_p1, oM_g2, oM_p2, oM_g3, oM_p3, oM_g4, oM_p4, oM_g5, oM_p5, oM_g6, oM_p6, oM_g7, oM_p7, oM_g8, oM_p8, oM_g9, oM_p9, oM_g10, oM_p10, oM_g11, oM_p11, oM_g12, oM_p12, oM_g13, oM_p13, oM_g14, oM_p14, oM_g15, oM_p15, oM_g16, oM_p16, oM_g17, oM_p17, oM_g18, oM_p18, oM_g19, oM_p19, oM_g20, oM_p20, oM_g21, oM_p21, oM_g22, oM_p22, oM_g23, oM_p23, oM_g24, oM_p24, oM_g25, oM_p25, oM_g26, oM_p26, oM_g27, oM_p27, oM_g28, oM_p28, oM_g29, oM_p29, h1, h2, h3, a1, a2, l2, g1, e, cN4_10, l3, nI_add, hi]
      · have m10 : weakF f s c < 10 := by omega
        have a3 := igE_AI (n := 10) (j := weakF f s c) s m10 (by decide)
        have l4 := nlt (a := s c) (b := s (weakF f s c)) (by have := hs c hlt; omega) (by have := hs _ m10; omega)
        have l3 : ¬ nI (weakF f s c) < nI 0 := nI_not_neg (by omega)
        by_cases g2 : s c < s (weakF f s c)
        · have e2 : weakF f s (c + 1) = c := by rw [weakF, if_pos ⟨g1, Or.inr g2⟩]
          rw [e2, cN4_lt hlt] at hi
          simp only [m139_0, m139_2, m139_3, m139_4, m139_6, m139_8, m139_11, m139_12, m139_15, m139_16, m139_17, m139_18, m139_21, m139_22, m139_23, m139_26, m139_27, m139_30, m139_31, m139_34, m139_35, m139_36, m139_37, m139_40, m139_41, m139_42, m139_45, m139_46, m139_47, m139_50, m139_53, m139_54, l1, hlt, if_true, if_false, ob_some, pushr_s, pushr_n, iget_eq, gf_eq, pf_eq, ck_eq, alen_eq, rget_eq, iset_eq, Option.bind_some, Option.map_some, Option.elim_some, hput_at, ↓reduceIte, Nat.reduceEqDiff, Nat.reduceAdd, ne_eq, not_false_eq_true, oS_ck, oS_g0, oS_p0, oS_g1, oS_p1, oS_g2, oS_p2, oS_g3, oS_p3, oS_g4, oS_p4, oS_g5, oS_p5, oS_g6, oS_p6, oP_ck, oP_g0, oP_p0, oP_g1, oP_p1, oP_g2, oP_p2, oP_g3, oP_p3, oP_g4, oP_p4, oP_g5, oP_p5, oP_g6, oP_p6, oP_g7, oP_p7, oP_g8, oP_p8, oP_g9, oP_p9, oP_g10, oP_p10, oP_g11, oP_p11, oP_g12, oP_p12, oR_ck, oR_g0, oR_p0, oR_g1, oR_p1, oR_g2, oR_p2, oR_g3, oR_p3, oG_ck, oG_g0, oG_p0, oG_g1, oG_p1, oG_g2, oG_p2, oW_ck, oW_g0, oW_p0, oW_g1, oW_p1, oW_g2, oW_p2, oB_ck, oB_g0, oB_p0, oB_g1, oB_p1, oB_g2, oB_p2, oB_g3, oB_p3, oB_g4, oB_p4, oB_g5, oB_p5, oB_g6, oB_p6, oC_ck, oC_g0, oC_p0, oC_g1, oC_p1, oC_g2, oC_p2, oC_g3, oC_p3, oC_g4, oC_p4, oC_g5, oC_p5, oC_g6, oC_p6, oH_ck, oH_g0, oH_p0, oH_g1, oH_p1, oH_g2, oH_p2, oH_g3, oH_p3, oM_ck, oM_g0, oM_p0, oM_g1, oM_p1, oM_g2, oM_p2, oM_g3, oM_p3, oM_g4, oM_p4, oM_g5, oM_p5, oM_g6, oM_p6, oM_g7, oM_p7, oM_g8, oM_p8, oM_g9, oM_p9, oM_g10, oM_p10, oM_g11, oM_p11, oM_g12, oM_p12, oM_g13, oM_p13, oM_g14, oM_p14, oM_g15, oM_p15, oM_g16, oM_p16, oM_g17, oM_p17, oM_g18, oM_p18, oM_g19, oM_p19, oM_g20, oM_p20, oM_g21, oM_p21, oM_g22, oM_p22, oM_g23, oM_p23, oM_g24, oM_p24, oM_g25, oM_p25, oM_g26, oM_p26, oM_g27, oM_p27, oM_g28, oM_p28, oM_g29, oM_p29, h1, h2, h3, a1, a2, a3, l2, g1, cN4_lt m10, l3, l4, g2, nI_add, hi]
        · have e2 : weakF f s (c + 1) = weakF f s c := by rw [weakF, if_neg (fun q => q.2.elim (by omega) g2)]
          rw [e2, cN4_lt m10] at hi
          simp only [m139_0, m139_2, m139_3, m139_4, m139_6, m139_8, m139_11, m139_12, m139_15, m139_16, m139_17, m139_18, m139_21, m139_22, m139_23, m139_26, m139_27, m139_30, m139_31, m139_34, m139_35, m139_36, m139_37, m139_40, m139_41, m139_42, m139_45, m139_46, m139_47, m139_50, m139_53, m139_54, l1, hlt, if_true, if_false, ob_some, pushr_s, pushr_n, iget_eq, gf_eq, pf_eq, ck_eq, alen_eq, rget_eq, iset_eq, Option.bind_some, Option.map_some, Option.elim_some, hput_at, ↓reduceIte, Nat.reduceEqDiff, Nat.reduceAdd, ne_eq, not_false_eq_true, oS_ck, oS_g0, oS_p0, oS_g1, oS_p1, oS_g2, oS_p2, oS_g3, oS_p3, oS_g4, oS_p4, oS_g5, oS_p5, oS_g6, oS_p6, oP_ck, oP_g0, oP_p0, oP_g1, oP_p1, oP_g2, oP_p2, oP_g3, oP_p3, oP_g4, oP_p4, oP_g5, oP_p5, oP_g6, oP_p6, oP_g7, oP_p7, oP_g8, oP_p8, oP_g9, oP_p9, oP_g10, oP_p10, oP_g11, oP_p11, oP_g12, oP_p12, oR_ck, oR_g0, oR_p0, oR_g1, oR_p1, oR_g2, oR_p2, oR_g3, oR_p3, oG_ck, oG_g0, oG_p0, oG_g1, oG_p1, oG_g2, oG_p2, oW_ck, oW_g0, oW_p0, oW_g1, oW_p1, oW_g2, oW_p2, oB_ck, oB_g0, oB_p0, oB_g1, oB_p1, oB_g2, oB_p2, oB_g3, oB_p3, oB_g4, oB_p4, oB_g5, oB_p5, oB_g6, oB_p6, oC_ck, oC_g0, oC_p0, oC_g1, oC_p1, oC_g2, oC_p2, oC_g3, oC_p3, oC_g4, oC_p4, oC_g5, oC_p5, oC_g6, oC_p6, oH_ck, oH_g0, oH_p0, oH_g1, oH_p1, oH_g2, oH_p2, oH_g3, oH_p3, oM_ck, oM_g0, oM_p0, oM_g1, oM_p1, oM_g2, oM_p2, oM_g3, oM_p3, oM_g4, oM_p4, oM_g5, oM_p5, oM_g6, oM_p6, oM_g7, oM_p7, oM_g8, oM_p8, oM_g9, oM_p9, oM_g10, oM_p10, oM_g11, oM_p11, oM_g12, oM_p12, oM_g13, oM_p13, oM_g14, oM_p14, oM_g15, oM_p15, oM_g16, oM_p16, oM_g17, oM_p17, oM_g18, oM_p18, oM_g19, oM_p19, oM_g20, oM_p20, oM_g21, oM_p21, oM_g22, oM_p22, oM_g23, oM_p23, oM_g24, oM_p24, oM_g25, oM_p25, oM_g26, oM_p26, oM_g27, oM_p27, oM_g28, oM_p28, oM_g29, oM_p29, h1, h2, h3, a1, a2, a3, l2, g1, cN4_lt m10, l3, l4, g2, nI_add, hi]
    · have e2 : weakF f s (c + 1) = weakF f s c := by rw [weakF, if_neg (fun q => g1 q.1)]
      rw [e2] at hi
      simp only [m139_0, m139_2, m139_3, m139_4, m139_6, m139_8, m139_11, m139_12, m139_15, m139_16, m139_17, m139_18, m139_21, m139_22, m139_23, m139_26, m139_27, m139_30, m139_31, m139_34, m139_35, m139_36, m139_37, m139_40, m139_41, m139_42, m139_45, m139_46, m139_47, m139_50, m139_53, m139_54, l1, hlt, if_true, if_false, ob_some, pushr_s, pushr_n, iget_eq, gf_eq, pf_eq, ck_eq, alen_eq, rget_eq, iset_eq, Option.bind_some, Option.map_some, Option.elim_some, hput_at, ↓reduceIte, Nat.reduceEqDiff, Nat.reduceAdd, ne_eq, not_false_eq_true, oS_ck, oS_g0, oS_p0, oS_g1, oS_p1, oS_g2, oS_p2, oS_g3, oS_p3, oS_g4, oS_p4, oS_g5, oS_p5, oS_g6, oS_p6, oP_ck, oP_g0, oP_p0, oP_g1, oP_p1, oP_g2, oP_p2, oP_g3, oP_p3, oP_g4, oP_p4, oP_g5, oP_p5, oP_g6, oP_p6, oP_g7, oP_p7, oP_g8, oP_p8, oP_g9, oP_p9, oP_g10, oP_p10, oP_g11, oP_p11, oP_g12, oP_p12, oR_ck, oR_g0, oR_p0, oR_g1, oR_p1, oR_g2, oR_p2, oR_g3, oR_p3, oG_ck, oG_g0, oG_p0, oG_g1, oG_p1, oG_g2, oG_p2, oW_ck, oW_g0, oW_p0, oW_g1, oW_p1, oW_g2, oW_p2, oB_ck, oB_g0, oB_p0, oB_g1, oB_p1, oB_g2, oB_p2, oB_g3, oB_p3, oB_g4, oB_p4, oB_g5, oB_p5, oB_g6, oB_p6, oC_ck, oC_g0, oC_p0, oC_g1, oC_p1, oC_g2, oC_p2, oC_g3, oC_p3, oC_g4, oC_p4, oC_g5, oC_p5, oC_g6, oC_p6, oH_ck, oH_g0, oH_p0, oH_g1, oH_p1, oH_g2, oH_p2, oH_g3, oH_p3, oM_ck, oM_g0, oM_p0, oM_g1, oM_p1, oM_g2, oM_p2, oM_g3, oM_p3, oM_g4, oM_p4, oM_g5, oM_p5, oM_g6, oM_p6, oM_g7, oM_p7, oM_g8, oM_p8, oM_g9, oM_p9, oM_g10, oM_p10, oM_g11, oM_p11, oM_g12, oM_p12, oM_g13, oM_p13, oM_g14, oM_p14, oM_g15, oM_p15, oM_g16, oM_p16, oM_g17, oM_p17, oM_g18, oM_p18, oM_g19, oM_p19, oM_g20, oM_p20, oM_g21, oM_p21, oM_g22, oM_p22, oM_g23, oM_p23, oM_g24, oM_p24, oM_g25, oM_p25, oM_g26, oM_p26, oM_g27, oM_p27, oM_g28, oM_p28, oM_g29, oM_p29, h1, h2, h3, a1, a2, l2, g1, nI_add, hi]
theorem weakest_eq {h : Hp} {w : Nat} {f s : Nat → Nat} {ru : Nat} (hw : WallC h w f s ru) (hf : ∀ c, c < 10 → f c < 100000) (hs : ∀ c, c < 10 → s c < 100000) (z : Zc) (Q : Option Value → Zc → Hp → Prop) : Ev 139 (0, [some (.ref w), none, none], [], z, h) Q = Q (some (.int (cN4 (weakF f s 10)))) z h := by
  simp only [m139_0, m139_2, m139_3, m139_4, m139_6, m139_8, m139_11, m139_12, m139_15, m139_16, m139_17, m139_18, m139_21, m139_22, m139_23, m139_26, m139_27, m139_30, m139_31, m139_34, m139_35, m139_36, m139_37, m139_40, m139_41, m139_42, m139_45, m139_46, m139_47, m139_50, m139_53, m139_54]
  exact weakest_loop hw hf hs z Q 10 0 rfl
abbrev Wl : Type := (Nat → Nat) × Nat
def mend1 (f : Nat → Nat) (S : Wl) : Wl := if weakF f S.1 10 = 10 ∨ S.2 = 0 then S else (fup S.1 (weakF f S.1 10) (S.1 (weakF f S.1 10) + 1), S.2 - 1)
def mendN (f : Nat → Nat) : Nat → Wl → Wl
  | 0, S => S
  | n + 1, S => mendN f n (mend1 f S)
theorem mendN_stuck {f : Nat → Nat} {S : Wl} (h : mend1 f S = S) : ∀ n, mendN f n S = S
  | 0 => rfl
  | n + 1 => by rw [mendN, h]; exact mendN_stuck h n
/-- strengths never above those at first -/
def WB (f s : Nat → Nat) : Prop := ∀ c, c < 10 → s c ≤ f c ∧ f c ≤ 60
theorem WB.mended {f : Nat → Nat} {S : Wl} (h : WB f S.1) : WB f (mend1 f S).1 := by
  unfold mend1
  split
  · exact h
  · rename_i q
    intro c hc
    show fup S.1 _ _ c ≤ f c ∧ _
    rw [fup_at]
    have hw := weakF_spec f S.1 10
    have h1 := h c hc
    split
    · rename_i e
      rcases hw with hw | hw
      · exact absurd (Or.inl hw) q
      · rw [← e] at hw ⊢; omega
    · exact h1
theorem mend_loop {w t : Nat} {f : Nat → Nat} (ht : t < 100000) (z : Zc) (Q : Option Value → Zc → Hp → Prop) :
    ∀ n k, n + k = t → ∀ (h : Hp) (s : Nat → Nat) (ru : Nat) (x3 : Option Value), WallC h w f s ru → WB f s → ru < 100000 → Ev 138 (2, [some (.ref w), some (.int (nI t)), some (.int (nI k)), x3], [], z, h) Q = Q none z (wset h w f (mendN f n (s, ru)).1 (mendN f n (s, ru)).2) := by
  intro n
  induction n with
  | zero =>
    intro k hk h s ru x3 hw hb hr
    have hk : k = t := by omega
    subst hk
    rw [m138_2, mendN, hw.id]
    simp only [m138_0, m138_1, m138_3, m138_4, m138_7, m138_8, m138_11, m138_14, m138_15, m138_18, m138_19, m138_20, m138_23, m138_26, m138_27, m138_28, m138_31, m138_32, m138_33, m138_34, m138_35, m138_36, m138_37, m138_38, m138_39, m138_42, m138_43, m138_44, m138_47, m138_50, m138_53, nlt (a := k) (b := k) (by omega) (by omega), Nat.lt_irrefl, if_false]
  | succ n ih =>
    intro k hk h s ru x3 hw hb hr
    have hw' := hw
    obtain ⟨h0, h1, h2, h3⟩ := hw
    have hlt : k < t := by omega
    have l1 := nlt (a := k) (b := t) (by omega) (by omega)
    have l2 := nlt (a := 0) (b := ru) (by decide) (by omega)
    rw [m138_2]
    by_cases g1 : 0 < ru
    · have hm := weakest_eq hw' (fun c hc => by have := hb c hc; omega) (fun c hc => by have := hb c hc; omega) z
      rcases weakF_lt f s 10 (Nat.le_refl _) with e | e
      · have est : mend1 f (s, ru) = (s, ru) := if_pos (Or.inl e)
        rw [mendN, est, mendN_stuck est, hw'.id]
        simp only [m138_0, m138_1, m138_3, m138_4, m138_7, m138_8, m138_11, m138_14, m138_15, m138_18, m138_19, m138_20, m138_23, m138_26, m138_27, m138_28, m138_31, m138_32, m138_33, m138_34, m138_35, m138_36, m138_37, m138_38, m138_39, m138_42, m138_43, m138_44, m138_47, m138_50, m138_53, l1, hlt, if_true, ob_some, pushr_s, pushr_n, iget_eq, gf_eq, pf_eq, ck_eq, alen_eq, rget_eq, iset_eq, Option.bind_some, Option.map_some, Option.elim_some, hput_at, ↓reduceIte, Nat.reduceEqDiff, Nat.reduceAdd, ne_eq, not_false_eq_true, oS_ck, oS_g0, oS_p0, oS_g1, oS_p1, oS_g2, oS_p2, oS_g3, oS_p3, oS_g4, oS_p4, oS_g5, oS_p5, oS_g6, oS_p6, oP_ck, oP_g0, oP_p0, oP_g1, oP_p1, oP_g2, oP_p2, oP_g3, oP_p3, oP_g4, oP_p4, oP_g5, oP_p5, oP_g6, oP_p6, oP_g7, oP_p7, oP_g8, oP_p8, oP_g9, oP_p9, oP_g10, oP_p10, oP_g11, oP_p11, oP_g12, oP_p12, oR_ck, oR_g0, oR_p0, oR_g1, oR_p1, oR_g2, oR_p2, oR_g3, oR_p3, oG_ck, oG_g0, oG_p0, oG_g1, oG_p1, oG_g2, oG_p2, oW_ck, oW_g0, oW_p0, oW_g1, oW_p1, oW_g2, oW_p2, oB_ck, oB_g0, oB_p0, oB_g1, oB_p1, oB_g2, oB_p2, oB_g3, oB_p3, oB_g4, oB_p4, oB_g5, oB_p5, oB_g6, oB_p6, oC_ck, oC_g0, oC_p0, oC_g1, oC_p1, oC_g2, oC_p2, oC_g3, oC_p3, oC_g4, oC_p4, oC_g5, oC_p5, oC_g6, oC_p6, oH_ck, oH_g0, oH_p0, oH_g1, oH_p1, oH_g2, oH_p2, oH_g3, oH_p3, oM_ck, oM_g0, oM_p0, oM_g1, oM_p1, oM_g2, oM_p2, oM_g3, oM_p3, oM_g4, oM_p4, oM_g5, oM_p5, oM_g6, oM_p6, oM_g7, oM_p7, oM_g8, oM_p8, oM_g9, oM_p9, oM_g10, oM_p10, oM_g11, oM_p11, oM_g12, oM_p12, oM_g13, oM_p13, oM_g14, oM_p14, oM_g15, oM_p15, oM_g16, oM_p16, oM_g17, oM_p17, oM_g18, oM_p18, oM_g19, oM_p19, oM_g20, oM_p20, oM_g21, oM_p21, oM_g22, oM_p22, oM_g23, oM_p23, oM_g24, oM_p24, oM_g25, oM_p25, oM_g26, oM_p26, oM_g27, oM_p27, oM_g28, oM_p28, oM_g29, oM_p29, h1, l2, g1, hm, e, cN4_10, isCell_eq, show b2 (¬ (-4 : Int32) < nI 0 ∧ (-4 : Int32) < nI 10) = nI 0 from rfl]
      · have est : mend1 f (s, ru) = (fup s (weakF f s 10) (s (weakF f s 10) + 1), ru - 1) := if_neg (fun q => q.elim (fun q => by have q : weakF f s 10 = 10 := q; omega) (fun q => by have q : ru = 0 := q; omega))
        have hb' : WB f (mend1 f (s, ru)).1 := WB.mended (S := (s, ru)) hb
        have w2 : w + 2 ≠ 0 := by omega
        have a3 := igE_AI (n := 10) (j := weakF f s 10) s e (by decide)
        have a4 := isE_AI (n := 10) (j := weakF f s 10) s (s (weakF f s 10) + 1) e (by decide)
        have k1 : (nI 1 = nI 0) = False := eq_false (by decide)
        have hsub : nI ru - nI 1 = nI (ru - 1) := pk_sub (by omega)
        have n1 : (w = w + 2) = False := eq_false (by omega)
        have ihk := ih (k + 1) (by omega) (wset h w f (mend1 f (s, ru)).1 (mend1 f (s, ru)).2) (mend1 f (s, ru)).1 (mend1 f (s, ru)).2 (some (.int (nI (weakF f s 10)))) (hw'.fresh _ _ _) hb' (by rw [est]; show ru - 1 < _; omega)
        have fin : hput (hput h (w + 2) (AI 10 (fup s (weakF f s 10) (s (weakF f s 10) + 1)))) w (oW (.ref (w + 1)) (.ref (w + 2)) (.int (nI (ru - 1)))) = wset h w f (mend1 f (s, ru)).1 (mend1 f (s, ru)).2 := by
          rw [hw'.set_s, (hw'.fresh f _ ru).set_r, wset_wset, est]
        rw [wset_wset] at ihk
        rw [mendN]
        refine Eq.trans ?_ ihk
        simp only [m138_0, m138_1, m138_3, m138_4, m138_7, m138_8, m138_11, m138_14, m138_15, m138_18, m138_19, m138_20, m138_23, m138_26, m138_27, m138_28, m138_31, m138_32, m138_33, m138_34, m138_35, m138_36, m138_37, m138_38, m138_39, m138_42, m138_43, m138_44, m138_47, m138_50, m138_53, l1, hlt, if_true, if_false, ob_some, pushr_s, pushr_n, iget_eq, gf_eq, pf_eq, ck_eq, alen_eq, rget_eq, iset_eq, Option.bind_some, Option.map_some, Option.elim_some, hput_at, ↓reduceIte, Nat.reduceEqDiff, Nat.reduceAdd, ne_eq, not_false_eq_true, oS_ck, oS_g0, oS_p0, oS_g1, oS_p1, oS_g2, oS_p2, oS_g3, oS_p3, oS_g4, oS_p4, oS_g5, oS_p5, oS_g6, oS_p6, oP_ck, oP_g0, oP_p0, oP_g1, oP_p1, oP_g2, oP_p2, oP_g3, oP_p3, oP_g4, oP_p4, oP_g5, oP_p5, oP_g6, oP_p6, oP_g7, oP_p7, oP_g8, oP_p8, oP_g9, oP_p9, oP_g10, oP_p10, oP_g11, oP_p11, oP_g12, oP_p12, oR_ck, oR_g0, oR_p0, oR_g1, oR_p1, oR_g2, oR_p2, oR_g3, oR_p3, oG_ck, oG_g0, oG_p0, oG_g1, oG_p1, oG_g2, oG_p2, oW_ck, oW_g0, oW_p0, oW_g1, oW_p1, oW_g2, oW_p2, oB_ck, oB_g0, oB_p0, oB_g1, oB_p1, oB_g2, oB_p2, oB_g3, oB_p3, oB_g4, oB_p4, oB_g5, oB_p5, oB_g6, oB_p6, oC_ck, oC_g0, oC_p0, oC_g1, oC_p1, oC_g2, oC_p2, oC_g3, oC_p3, oC_g4, oC_p4, oC_g5, oC_p5, oC_g6, oC_p6, oH_ck, oH_g0, oH_p0, oH_g1, oH_p1, oH_g2, oH_p2, oH_g3, oH_p3, oM_ck, oM_g0, oM_p0, oM_g1, oM_p1, oM_g2, oM_p2, oM_g3, oM_p3, oM_g4, oM_p4, oM_g5, oM_p5, oM_g6, oM_p6, oM_g7, oM_p7, oM_g8, oM_p8, oM_g9, oM_p9, oM_g10, oM_p10, oM_g11, oM_p11, oM_g12, oM_p12, oM_g13, oM_p13, oM_g14, oM_p14, oM_g15, oM_p15, oM_g16, oM_p16, oM_g17, oM_p17, oM_g18, oM_p18, oM_g19, oM_p19, oM_g20, oM_p20, oM_g21, oM_p21, oM_g22, oM_p22, oM_g23, oM_p23, oM_g24, oM_p24, oM_g25, oM_p25, oM_g26, oM_p26, oM_g27, oM_p27, oM_g28, oM_p28, oM_g29, oM_p29, h1, h3, l2, g1, hm, cN4_lt e, isCell_eq, isCellN (c := weakF f s 10) (by omega), b2_t e, k1, a3, nI_add, w2, a4, n1, hsub, fin]
    · have est : mend1 f (s, ru) = (s, ru) := if_pos (Or.inr (show ru = 0 by omega))
      rw [mendN, est, mendN_stuck est, hw'.id]
      simp only [m138_0, m138_1, m138_3, m138_4, m138_7, m138_8, m138_11, m138_14, m138_15, m138_18, m138_19, m138_20, m138_23, m138_26, m138_27, m138_28, m138_31, m138_32, m138_33, m138_34, m138_35, m138_36, m138_37, m138_38, m138_39, m138_42, m138_43, m138_44, m138_47, m138_50, m138_53, l1, hlt, if_true, if_false, ob_some, pushr_s, pushr_n, iget_eq, gf_eq, pf_eq, ck_eq, alen_eq, rget_eq, iset_eq, Option.bind_some, Option.map_some, Option.elim_some, hput_at, ↓reduceIte, Nat.reduceEqDiff, Nat.reduceAdd, ne_eq, not_false_eq_true, oS_ck, oS_g0, oS_p0, oS_g1, oS_p1, oS_g2, oS_p2, oS_g3, oS_p3, oS_g4, oS_p4, oS_g5, oS_p5, oS_g6, oS_p6, oP_ck, oP_g0, oP_p0, oP_g1, oP_p1, oP_g2, oP_p2, oP_g3, oP_p3, oP_g4, oP_p4, oP_g5, oP_p5, oP_g6, oP_p6, oP_g7, oP_p7, oP_g8, oP_p8, oP_g9, oP_p9, oP_g10, oP_p10, oP_g11, oP_p11, oP_g12, oP_p12, oR_ck, oR_g0, oR_p0, oR_g1, oR_p1, oR_g2, oR_p2, oR_g3, oR_p3, oG_ck, oG_g0, oG_p0, oG_g1, oG_p1, oG_g2, oG_p2, oW_ck, oW_g0, oW_p0, oW_g1, oW_p1, oW_g2, oW_p2, oB_ck, oB_g0, oB_p0, oB_g1, oB_p1, oB_g2, oB_p2, oB_g3, oB_p3, oB_g4, oB_p4, oB_g5, oB_p5, oB_g6, oB_p6, oC_ck, oC_g0, oC_p0, oC_g1, oC_p1, oC_g2, oC_p2, oC_g3, oC_p3, oC_g4, oC_p4, oC_g5, oC_p5, oC_g6, oC_p6, oH_ck, oH_g0, oH_p0, oH_g1, oH_p1, oH_g2, oH_p2, oH_g3, oH_p3, oM_ck, oM_g0, oM_p0, oM_g1, oM_p1, oM_g2, oM_p2, oM_g3, oM_p3, oM_g4, oM_p4, oM_g5, oM_p5, oM_g6, oM_p6, oM_g7, oM_p7, oM_g8, oM_p8, oM_g9, oM_p9, oM_g10, oM_p10, oM_g11, oM_p11, oM_g12, oM_p12, oM_g13, oM_p13, oM_g14, oM_p14, oM_g15, oM_p15, oM_g16, oM_p16, oM_g17, oM_p17, oM_g18, oM_p18, oM_g19, oM_p19, oM_g20, oM_p20, oM_g21, oM_p21, oM_g22, oM_p22, oM_g23, oM_p23, oM_g24, oM_p24, oM_g25, oM_p25, oM_g26, oM_p26, oM_g27, oM_p27, oM_g28, oM_p28, oM_g29, oM_p29, h1, l2, g1]
theorem mend_eq {h : Hp} {w t : Nat} {f s : Nat → Nat} {ru : Nat} (hw : WallC h w f s ru) (hb : WB f s) (ht : t < 100000) (hr : ru < 100000) (z : Zc) (Q : Option Value → Zc → Hp → Prop) : Ev 138 (0, [some (.ref w), some (.int (nI t)), none, none], [], z, h) Q = Q none z (wset h w f (mendN f t (s, ru)).1 (mendN f t (s, ru)).2) := by
  simp only [m138_0, m138_1, m138_3, m138_4, m138_7, m138_8, m138_11, m138_14, m138_15, m138_18, m138_19, m138_20, m138_23, m138_26, m138_27, m138_28, m138_31, m138_32, m138_33, m138_34, m138_35, m138_36, m138_37, m138_38, m138_39, m138_42, m138_43, m138_44, m138_47, m138_50, m138_53]
  exact mend_loop ht z Q t 0 (by omega) h s ru none hw hb hr
/-- the lowest cell of strength 0, of the last n: 10 is none -/
def opF (s : Nat → Nat) : Nat → Nat
  | 0 => 10
  | n + 1 => if s (9 - n) = 0 then 9 - n else opF s n
theorem opened_loop {h : Hp} {w : Nat} {f s : Nat → Nat} {ru : Nat} (hw : WallC h w f s ru) (hs : ∀ c, c < 10 → s c < 100000) (z : Zc) (Q : Option Value → Zc → Hp → Prop) :
    ∀ n c, n + c = 10 → Ev 140 (2, [some (.ref w), some (.int (nI c))], [], z, h) Q = Q (some (.int (cN4 (opF s n)))) z h := by
  obtain ⟨h0, h1, h2, h3⟩ := hw
  intro n
  induction n with
  | zero =>
    intro c hc
    have hc : c = 10 := by omega
    subst hc
    rw [m140_2]
    simp only [m140_0, m140_1, m140_3, m140_5, m140_8, m140_9, m140_12, m140_13, m140_14, m140_17, m140_18, m140_19, m140_22, m140_25, m140_27, nlt (a := 10) (b := 10) (by decide) (by decide), Nat.lt_irrefl, if_false, opF, cN4_10]
  | succ n ih =>
    intro c hc
    have hlt : c < 10 := by omega
    have l1 := nlt (a := c) (b := 10) (by omega) (by decide)
    have a1 := igE_AI (n := 10) (j := c) s hlt (by decide)
    have l2 := neq (a := s c) (b := 0) (by have := hs c hlt; omega) (by decide)
    have e9 : 9 - n = c := by omega
    rw [m140_2, opF, e9]
    by_cases g : s c = 0
    · rw [if_pos g, cN4_lt hlt]
      simp only [m140_0, m140_1, m140_3, m140_5, m140_8, m140_9, m140_12, m140_13, m140_14, m140_17, m140_18, m140_19, m140_22, m140_25, m140_27, l1, hlt, if_true, ob_some, pushr_s, pushr_n, iget_eq, gf_eq, pf_eq, ck_eq, alen_eq, rget_eq, iset_eq, Option.bind_some, Option.map_some, Option.elim_some, hput_at, ↓reduceIte, Nat.reduceEqDiff, Nat.reduceAdd, ne_eq, not_false_eq_true, oS_ck, oS_g0, oS_p0, oS_g1, oS_p1, oS_g2, oS_p2, oS_g3, oS_p3, oS_g4, oS_p4, oS_g5, oS_p5, oS_g6, oS_p6, oP_ck, oP_g0, oP_p0, oP_g1, oP_p1, oP_g2, oP_p2, oP_g3, oP_p3, oP_g4, oP_p4, oP_g5, oP_p5, oP_g6, oP_p6, oP_g7, oP_p7, oP_g8, oP_p8, oP_g9, oP_p9, oP_g10, oP_p10, oP_g11, oP_p11, oP_g12, oP_p12, oR_ck, oR_g0, oR_p0, oR_g1, oR_p1, oR_g2, oR_p2, oR_g3, oR_p3, oG_ck, oG_g0, oG_p0, oG_g1, oG_p1, oG_g2, oG_p2, oW_ck, oW_g0, oW_p0, oW_g1, oW_p1, oW_g2, oW_p2, oB_ck, oB_g0, oB_p0, oB_g1, oB_p1, oB_g2, oB_p2, oB_g3, oB_p3, oB_g4, oB_p4, oB_g5, oB_p5, oB_g6, oB_p6, oC_ck, oC_g0, oC_p0, oC_g1, oC_p1, oC_g2, oC_p2, oC_g3, oC_p3, oC_g4, oC_p4, oC_g5, oC_p5, oC_g6, oC_p6, oH_ck, oH_g0, oH_p0, oH_g1, oH_p1, oH_g2, oH_p2, oH_g3, oH_p3, oM_ck, oM_g0, oM_p0, oM_g1, oM_p1, oM_g2, oM_p2, oM_g3, oM_p3, oM_g4, oM_p4, oM_g5, oM_p5, oM_g6, oM_p6, oM_g7, oM_p7, oM_g8, oM_p8, oM_g9, oM_p9, oM_g10, oM_p10, oM_g11, oM_p11, oM_g12, oM_p12, oM_g13, oM_p13, oM_g14, oM_p14, oM_g15, oM_p15, oM_g16, oM_p16, oM_g17, oM_p17, oM_g18, oM_p18, oM_g19, oM_p19, oM_g20, oM_p20, oM_g21, oM_p21, oM_g22, oM_p22, oM_g23, oM_p23, oM_g24, oM_p24, oM_g25, oM_p25, oM_g26, oM_p26, oM_g27, oM_p27, oM_g28, oM_p28, oM_g29, oM_p29, h1, h3, a1, l2, g]
    · rw [if_neg g]
      simp only [m140_0, m140_1, m140_3, m140_5, m140_8, m140_9, m140_12, m140_13, m140_14, m140_17, m140_18, m140_19, m140_22, m140_25, m140_27, l1, hlt, if_true, if_false, ob_some, pushr_s, pushr_n, iget_eq, gf_eq, pf_eq, ck_eq, alen_eq, rget_eq, iset_eq, Option.bind_some, Option.map_some, Option.elim_some, hput_at, ↓reduceIte, Nat.reduceEqDiff, Nat.reduceAdd, ne_eq, not_false_eq_true, oS_ck, oS_g0, oS_p0, oS_g1, oS_p1, oS_g2, oS_p2, oS_g3, oS_p3, oS_g4, oS_p4, oS_g5, oS_p5, oS_g6, oS_p6, oP_ck, oP_g0, oP_p0, oP_g1, oP_p1, oP_g2, oP_p2, oP_g3, oP_p3, oP_g4, oP_p4, oP_g5, oP_p5, oP_g6, oP_p6, oP_g7, oP_p7, oP_g8, oP_p8, oP_g9, oP_p9, oP_g10, oP_p10, oP_g11, oP_p11, oP_g12, oP_p12, oR_ck, oR_g0, oR_p0, oR_g1, oR_p1, oR_g2, oR_p2, oR_g3, oR_p3, oG_ck, oG_g0, oG_p0, oG_g1, oG_p1, oG_g2, oG_p2, oW_ck, oW_g0, oW_p0, oW_g1, oW_p1, oW_g2, oW_p2, oB_ck, oB_g0, oB_p0, oB_g1, oB_p1, oB_g2, oB_p2, oB_g3, oB_p3, oB_g4, oB_p4, oB_g5, oB_p5, oB_g6, oB_p6, oC_ck, oC_g0, oC_p0, oC_g1, oC_p1, oC_g2, oC_p2, oC_g3, oC_p3, oC_g4, oC_p4, oC_g5, oC_p5, oC_g6, oC_p6, oH_ck, oH_g0, oH_p0, oH_g1, oH_p1, oH_g2, oH_p2, oH_g3, oH_p3, oM_ck, oM_g0, oM_p0, oM_g1, oM_p1, oM_g2, oM_p2, oM_g3, oM_p3, oM_g4, oM_p4, oM_g5, oM_p5, oM_g6, oM_p6, oM_g7, oM_p7, oM_g8, oM_p8, oM_g9, oM_p9, oM_g10, oM_p10, oM_g11, oM_p11, oM_g12, oM_p12, oM_g13, oM_p13, oM_g14, oM_p14, oM_g15, oM_p15, oM_g16, oM_p16, oM_g17, oM_p17, oM_g18, oM_p18, oM_g19, oM_p19, oM_g20, oM_p20, oM_g21, oM_p21, oM_g22, oM_p22, oM_g23, oM_p23, oM_g24, oM_p24, oM_g25, oM_p25, oM_g26, oM_p26, oM_g27, oM_p27, oM_g28, oM_p28, oM_g29, oM_p29, h1, h3, a1, l2, g, nI_add]
      exact ih (c + 1) (by omega)
theorem opened_eq {h : Hp} {w : Nat} {f s : Nat → Nat} {ru : Nat} (hw : WallC h w f s ru) (hs : ∀ c, c < 10 → s c < 100000) (z : Zc) (Q : Option Value → Zc → Hp → Prop) : Ev 140 (0, [some (.ref w), none], [], z, h) Q = Q (some (.int (cN4 (opF s 10)))) z h := by
  simp only [m140_0, m140_1, m140_3, m140_5, m140_8, m140_9, m140_12, m140_13, m140_14, m140_17, m140_18, m140_19, m140_22, m140_25, m140_27]
  exact opened_loop hw hs z Q 10 0 rfl
def totF (s : Nat → Nat) : Nat → Nat
  | 0 => 0
  | c + 1 => totF s c + s c
theorem total_loop {h : Hp} {w : Nat} {f s : Nat → Nat} {ru : Nat} (hw : WallC h w f s ru) (z : Zc) (Q : Option Value → Zc → Hp → Prop) :
    ∀ n c, n + c = 10 → Ev 141 (4, [some (.ref w), some (.int (nI (totF s c))), some (.int (nI c))], [], z, h) Q = Q (some (.int (nI (totF s 10)))) z h := by
  obtain ⟨h0, h1, h2, h3⟩ := hw
  intro n
  induction n with
  | zero =>
    intro c hc
    have hc : c = 10 := by omega
    subst hc
    rw [m141_4]
    simp only [m141_0, m141_1, m141_2, m141_3, m141_5, m141_7, m141_10, m141_11, m141_12, m141_15, m141_16, m141_17, m141_18, m141_19, m141_22, m141_25, m141_26, nlt (a := 10) (b := 10) (by decide) (by decide), Nat.lt_irrefl, if_false]
  | succ n ih =>
    intro c hc
    have hlt : c < 10 := by omega
    have l1 := nlt (a := c) (b := 10) (by omega) (by decide)
    have a1 := igE_AI (n := 10) (j := c) s hlt (by decide)
    rw [m141_4]
    simp only [m141_0, m141_1, m141_2, m141_3, m141_5, m141_7, m141_10, m141_11, m141_12, m141_15, m141_16, m141_17, m141_18, m141_19, m141_22, m141_25, m141_26, l1, hlt, if_true, ob_some, pushr_s, pushr_n, iget_eq, gf_eq, pf_eq, ck_eq, alen_eq, rget_eq, iset_eq, Option.bind_some, Option.map_some, Option.elim_some, hput_at, ↓reduceIte, Nat.reduceEqDiff, Nat.reduceAdd, ne_eq, not_false_eq_true, oS_ck, oS_g0, oS_p0, oS_g1, oS_p1, oS_g2, oS_p2, oS_g3, oS_p3, oS_g4, oS_p4, oS_g5, oS_p5, oS_g6, oS_p6, oP_ck, oP_g0, oP_p0, oP_g1, oP_p1, oP_g2, oP_p2, oP_g3, oP_p3, oP_g4, oP_p4, oP_g5, oP_p5, oP_g6, oP_p6, oP_g7, oP_p7, oP_g8, oP_p8, oP_g9, oP_p9, oP_g10, oP_p10, oP_g11, oP_p11, oP_g12, oP_p12, oR_ck, oR_g0, oR_p0, oR_g1, oR_p1, oR_g2, oR_p2, oR_g3, oR_p3, oG_ck, oG_g0, oG_p0, oG_g1, oG_p1, oG_g2, oG_p2, oW_ck, oW_g0, oW_p0, oW_g1, oW_p1, oW_g2, oW_p2, oB_ck, oB_g0, oB_p0, oB_g1, oB_p1, oB_g2, oB_p2, oB_g3, oB_p3, oB_g4, oB_p4, oB_g5, oB_p5, oB_g6, oB_p6, oC_ck, oC_g0, oC_p0, oC_g1, oC_p1, oC_g2, oC_p2, oC_g3, oC_p3, oC_g4, oC_p4, oC_g5, oC_p5, oC_g6, oC_p6, oH_ck, oH_g0, oH_p0, oH_g1, oH_p1, oH_g2, oH_p2, oH_g3, oH_p3, oM_ck, oM_g0, oM_p0, oM_g1, oM_p1, oM_g2, oM_p2, oM_g3, oM_p3, oM_g4, oM_p4, oM_g5, oM_p5, oM_g6, oM_p6, oM_g7, oM_p7, oM_g8, oM_p8, oM_g9, oM_p9, oM_g10, oM_p10, oM_g11, oM_p11, oM_g12, oM_p12, oM_g13, oM_p13, oM_g14, oM_p14, oM_g15, oM_p15, oM_g16, oM_p16, oM_g17, oM_p17, oM_g18, oM_p18, oM_g19, oM_p19, oM_g20, oM_p20, oM_g21, oM_p21, oM_g22, oM_p22, oM_g23, oM_p23, oM_g24, oM_p24, oM_g25, oM_p25, oM_g26, oM_p26, oM_g27, oM_p27, oM_g28, oM_p28, oM_g29, oM_p29, h1, h3, a1, nI_add]
    exact ih (c + 1) (by omega)
theorem total_eq {h : Hp} {w : Nat} {f s : Nat → Nat} {ru : Nat} (hw : WallC h w f s ru) (z : Zc) (Q : Option Value → Zc → Hp → Prop) : Ev 141 (0, [some (.ref w), none, none], [], z, h) Q = Q (some (.int (nI (totF s 10)))) z h := by
  simp only [m141_0, m141_1, m141_2, m141_3, m141_5, m141_7, m141_10, m141_11, m141_12, m141_15, m141_16, m141_17, m141_18, m141_19, m141_22, m141_25, m141_26]
  exact total_loop hw z Q 10 0 rfl
theorem build_eq {h : Hp} {p w : Nat} {P : Pl} {f s : Nat → Nat} {ru : Nat} (hP : PlanC h p P) (hw : WallC h w f s ru) (hd : p + 9 < w ∨ w + 2 < p) (z : Zc) (Q : Option Value → Zc → Hp → Prop) : Ev 135 (0, [some (.ref w), some (.ref p)], [], z, h) Q = Q none z (wset h w (P 8) (P 8) 0) := by
  have hw' := hw
  obtain ⟨h0, h1, h2, h3⟩ := hw
  obtain ⟨p0, p1, p2, p3, p4, p5, p6, p7, p8, p9, p10⟩ := hP
  have e1 := hw'.set_f (P 8)
  have e2 := (hw'.fresh (P 8) s ru).set_s (P 8)
  have e3 := (hw'.fresh (P 8) (P 8) ru).set_r 0
  rw [wset_wset] at e2 e3
  have n1 : p + 8 ≠ 0 := by omega
  have n2 : w + 1 ≠ 0 := by omega
  have n3 : w + 2 ≠ 0 := by omega
  obtain ⟨-, g1, g2, g3⟩ := wset_C h h0 (P 8) s ru
  obtain ⟨-, k1, k2, k3⟩ := wset_C h h0 (P 8) (P 8) ru
  have q1 : wset h w (P 8) s ru p = h p := wset_ne _ _ _ _ (by omega)
  have q8 : wset h w (P 8) s ru (p + 8) = h (p + 8) := wset_ne _ _ _ _ (by omega)
  have c1 := cpE_AI (n := 10) (P 8) f (by decide)
  have c2 := cpE_AI (n := 10) (P 8) s (by decide)
  simp only [m135_0, m135_1, m135_4, m135_5, m135_6, m135_9, m135_10, m135_12, m135_15, m135_16, m135_19, m135_20, m135_21, m135_24, m135_25, m135_27, m135_30, m135_31, m135_32, m135_35, ob_some, gf_eq, pf_eq, hcpy_eq h n1 n2, hcpy_eq (wset h w (P 8) s ru) n1 n3, p1, p9, h1, h2, Option.bind_some, Option.map_some, oS_ck, oS_g0, oS_p0, oS_g1, oS_p1, oS_g2, oS_p2, oS_g3, oS_p3, oS_g4, oS_p4, oS_g5, oS_p5, oS_g6, oS_p6, oP_ck, oP_g0, oP_p0, oP_g1, oP_p1, oP_g2, oP_p2, oP_g3, oP_p3, oP_g4, oP_p4, oP_g5, oP_p5, oP_g6, oP_p6, oP_g7, oP_p7, oP_g8, oP_p8, oP_g9, oP_p9, oP_g10, oP_p10, oP_g11, oP_p11, oP_g12, oP_p12, oR_ck, oR_g0, oR_p0, oR_g1, oR_p1, oR_g2, oR_p2, oR_g3, oR_p3, oG_ck, oG_g0, oG_p0, oG_g1, oG_p1, oG_g2, oG_p2, oW_ck, oW_g0, oW_p0, oW_g1, oW_p1, oW_g2, oW_p2, oB_ck, oB_g0, oB_p0, oB_g1, oB_p1, oB_g2, oB_p2, oB_g3, oB_p3, oB_g4, oB_p4, oB_g5, oB_p5, oB_g6, oB_p6, oC_ck, oC_g0, oC_p0, oC_g1, oC_p1, oC_g2, oC_p2, oC_g3, oC_p3, oC_g4, oC_p4, oC_g5, oC_p5, oC_g6, oC_p6, oH_ck, oH_g0, oH_p0, oH_g1, oH_p1, oH_g2, oH_p2, oH_g3, oH_p3, oM_ck, oM_g0, oM_p0, oM_g1, oM_p1, oM_g2, oM_p2, oM_g3, oM_p3, oM_g4, oM_p4, oM_g5, oM_p5, oM_g6, oM_p6, oM_g7, oM_p7, oM_g8, oM_p8, oM_g9, oM_p9, oM_g10, oM_p10, oM_g11, oM_p11, oM_g12, oM_p12, oM_g13, oM_p13, oM_g14, oM_p14, oM_g15, oM_p15, oM_g16, oM_p16, oM_g17, oM_p17, oM_g18, oM_p18, oM_g19, oM_p19, oM_g20, oM_p20, oM_g21, oM_p21, oM_g22, oM_p22, oM_g23, oM_p23, oM_g24, oM_p24, oM_g25, oM_p25, oM_g26, oM_p26, oM_g27, oM_p27, oM_g28, oM_p28, oM_g29, oM_p29, c1, e1, q1, q8, g1, g3, c2, e2, k1, e3]
theorem wcopy_eq {h : Hp} {v w : Nat} {f s f2 s2 : Nat → Nat} {ru ru2 : Nat} (hw : WallC h w f s ru) (hv : WallC h v f2 s2 ru2) (hd : v + 2 < w ∨ w + 2 < v) (z : Zc) (Q : Option Value → Zc → Hp → Prop) : Ev 136 (0, [some (.ref w), some (.ref v)], [], z, h) Q = Q none z (wset h w f2 s2 ru2) := by
  have hw' := hw
  obtain ⟨h0, h1, h2, h3⟩ := hw
  obtain ⟨v0, v1, v2, v3⟩ := hv
  have e1 := hw'.set_f f2
  have e2 := (hw'.fresh f2 s ru).set_s s2
  have e3 := (hw'.fresh f2 s2 ru).set_r ru2
  rw [wset_wset] at e2 e3
  have n0 : v + 1 ≠ 0 := by omega
  have n1 : v + 2 ≠ 0 := by omega
  have n2 : w + 1 ≠ 0 := by omega
  have n3 : w + 2 ≠ 0 := by omega
  obtain ⟨-, g1, g2, g3⟩ := wset_C h h0 f2 s ru
  obtain ⟨-, k1, k2, k3⟩ := wset_C h h0 f2 s2 ru
  have q1 : wset h w f2 s ru v = h v := wset_ne _ _ _ _ (by omega)
  have q2 : wset h w f2 s ru (v + 2) = h (v + 2) := wset_ne _ _ _ _ (by omega)
  have q3 : wset h w f2 s2 ru v = h v := wset_ne _ _ _ _ (by omega)
  have c1 := cpE_AI (n := 10) f2 f (by decide)
  have c2 := cpE_AI (n := 10) s2 s (by decide)
  simp only [m136_0, m136_1, m136_4, m136_5, m136_6, m136_9, m136_10, m136_12, m136_15, m136_16, m136_19, m136_20, m136_21, m136_24, m136_25, m136_27, m136_30, m136_31, m136_32, m136_35, m136_38, ob_some, gf_eq, pf_eq, hcpy_eq h n0 n2, hcpy_eq (wset h w f2 s ru) n1 n3, v1, v2, v3, h1, h2, Option.bind_some, Option.map_some, oS_ck, oS_g0, oS_p0, oS_g1, oS_p1, oS_g2, oS_p2, oS_g3, oS_p3, oS_g4, oS_p4, oS_g5, oS_p5, oS_g6, oS_p6, oP_ck, oP_g0, oP_p0, oP_g1, oP_p1, oP_g2, oP_p2, oP_g3, oP_p3, oP_g4, oP_p4, oP_g5, oP_p5, oP_g6, oP_p6, oP_g7, oP_p7, oP_g8, oP_p8, oP_g9, oP_p9, oP_g10, oP_p10, oP_g11, oP_p11, oP_g12, oP_p12, oR_ck, oR_g0, oR_p0, oR_g1, oR_p1, oR_g2, oR_p2, oR_g3, oR_p3, oG_ck, oG_g0, oG_p0, oG_g1, oG_p1, oG_g2, oG_p2, oW_ck, oW_g0, oW_p0, oW_g1, oW_p1, oW_g2, oW_p2, oB_ck, oB_g0, oB_p0, oB_g1, oB_p1, oB_g2, oB_p2, oB_g3, oB_p3, oB_g4, oB_p4, oB_g5, oB_p5, oB_g6, oB_p6, oC_ck, oC_g0, oC_p0, oC_g1, oC_p1, oC_g2, oC_p2, oC_g3, oC_p3, oC_g4, oC_p4, oC_g5, oC_p5, oC_g6, oC_p6, oH_ck, oH_g0, oH_p0, oH_g1, oH_p1, oH_g2, oH_p2, oH_g3, oH_p3, oM_ck, oM_g0, oM_p0, oM_g1, oM_p1, oM_g2, oM_p2, oM_g3, oM_p3, oM_g4, oM_p4, oM_g5, oM_p5, oM_g6, oM_p6, oM_g7, oM_p7, oM_g8, oM_p8, oM_g9, oM_p9, oM_g10, oM_p10, oM_g11, oM_p11, oM_g12, oM_p12, oM_g13, oM_p13, oM_g14, oM_p14, oM_g15, oM_p15, oM_g16, oM_p16, oM_g17, oM_p17, oM_g18, oM_p18, oM_g19, oM_p19, oM_g20, oM_p20, oM_g21, oM_p21, oM_g22, oM_p22, oM_g23, oM_p23, oM_g24, oM_p24, oM_g25, oM_p25, oM_g26, oM_p26, oM_g27, oM_p27, oM_g28, oM_p28, oM_g29, oM_p29, c1, e1, q1, q2, q3, g1, g3, c2, e2, k1, e3]
