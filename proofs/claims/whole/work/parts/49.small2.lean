/-! the class: what is asked of a plan -/
theorem leastFlock_loop {h : Hp} {p : Nat} {P : Pl} (hP : PlanC h p P) (hV : Valid P) {e w c : Nat} (he : e < P 0 0) (hw : w ≤ 20) (hw1 : 1 ≤ w) (hc : c < 10) (z : Zc) (Q : Option Value → Zc → Hp → Prop) (T : Prop) (f : Nat → Nat)
    (hf0 : f 0 = 61) (hf : ∀ n, f (n + 1) = if cellOf (distN (P 3 e) (P 1 e * (60 - n)) w) = c then 60 - n else f n)
    (hT : ∀ r, f 61 = r → Q (some (.int (if r = 61 then -4 else nI r))) z h = T) :
    ∀ n s, n + s = 61 → f 61 = f n → Ev 120 (3, [some (.ref p), some (.int (nI e)), some (.int (nI w)), some (.int (nI c)), some (.int (nI s))], [], z, h) Q = T := by
  have hE := hasEngine_eq hP (nI e)
  obtain ⟨v0, v1, v2, v3, v4, v5, v6, v7⟩ := hV
  obtain ⟨w1, w2, -, w4, -⟩ := v4 e he
  have hb2 : b2 (¬ nI e < nI 0 ∧ nI e < nI (P 0 0)) = nI 1 := b2_t ((inN (by omega) (by omega)).mpr he)
  have n10 : (nI 1 = nI 0) = False := eq_false (by decide)
  obtain ⟨h0, h1, h2, h3, h4, -⟩ := hP
  have a3 := igE_AI (n := 3) (j := e) (P 1) (by omega) (by decide)
  have a4 := igE_AI (n := 3) (j := e) (P 3) (by omega) (by decide)
  intro n
  induction n with
  | zero =>
    intro s hs hfn
    have e61 : s = 61 := by omega
    subst e61
    have := hT 61 (by rw [hfn, hf0])
    rw [if_pos rfl] at this
    rw [m120_3, ← this]
    simp only [m120_0, m120_1, m120_4, m120_5, m120_8, m120_11, m120_13, m120_15, m120_18, m120_19, m120_22, m120_23, m120_24, m120_25, m120_28, m120_29, m120_30, m120_32, m120_33, m120_34, m120_37, m120_40, m120_41, m120_44, m120_46, m120_47, m120_50, m120_53, m120_55, ob_some, pushr_s, pushr_n, iget_eq, gf_eq, pf_eq, ck_eq, alen_eq, rget_eq, iset_eq, Option.bind_some, Option.map_some, Option.elim_some, hput_at, ↓reduceIte, Nat.reduceEqDiff, Nat.reduceAdd, ne_eq, not_false_eq_true, oS_ck, oS_g0, oS_p0, oS_g1, oS_p1, oS_g2, oS_p2, oS_g3, oS_p3, oS_g4, oS_p4, oS_g5, oS_p5, oS_g6, oS_p6, oP_ck, oP_g0, oP_p0, oP_g1, oP_p1, oP_g2, oP_p2, oP_g3, oP_p3, oP_g4, oP_p4, oP_g5, oP_p5, oP_g6, oP_p6, oP_g7, oP_p7, oP_g8, oP_p8, oP_g9, oP_p9, oP_g10, oP_p10, oP_g11, oP_p11, oP_g12, oP_p12, oR_ck, oR_g0, oR_p0, oR_g1, oR_p1, oR_g2, oR_p2, oR_g3, oR_p3, oG_ck, oG_g0, oG_p0, oG_g1, oG_p1, oG_g2, oG_p2, oW_ck, oW_g0, oW_p0, oW_g1, oW_p1, oW_g2, oW_p2, oB_ck, oB_g0, oB_p0, oB_g1, oB_p1, oB_g2, oB_p2, oB_g3, oB_p3, oB_g4, oB_p4, oB_g5, oB_p5, oB_g6, oB_p6, oC_ck, oC_g0, oC_p0, oC_g1, oC_p1, oC_g2, oC_p2, oC_g3, oC_p3, oC_g4, oC_p4, oC_g5, oC_p5, oC_g6, oC_p6, oH_ck, oH_g0, oH_p0, oH_g1, oH_p1, oH_g2, oH_p2, oH_g3, oH_p3, oM_ck, oM_g0, oM_p0, oM_g1, oM_p1, oM_g2, oM_p2, oM_g3, oM_p3, oM_g4, oM_p4, oM_g5, oM_p5, oM_g6, oM_p6, oM_g7, oM_p7, oM_g8, oM_p8, oM_g9, oM_p9, oM_g10, oM_p10, oM_g11, oM_p11, oM_g12, oM_p12, oM_g13, oM_p13, oM_g14, oM_p14, oM_g15, oM_p15, oM_g16, oM_p16, oM_g17, oM_p17, oM_g18, oM_p18, oM_g19, oM_p19, oM_g20, oM_p20, oM_g21, oM_p21, oM_g22, oM_p22, oM_g23, oM_p23, oM_g24, oM_p24, oM_g25, oM_p25, oM_g26, oM_p26, oM_g27, oM_p27, oM_g28, oM_p28, oM_g29, oM_p29, h1, hE, hb2, n10, if_false, nlt (a := 60) (b := 61) (by decide) (by decide), Nat.reduceLT, if_true]
  | succ n ih =>
    intro s hs hfn
    have e0 : 60 - n = s := by omega
    have hs60 : ¬ 60 < s := by omega
    have hfs := hf n
    rw [e0] at hfs
    have hm : P 1 e * s ≤ 9 * 60 := Nat.mul_le_mul w2 (by omega)
    have hdi := fun h Q => distance_eq (kd := P 3 e) (pull := P 1 e * s) (w := w) (by omega) (by omega) (by omega) hw1 z h Q
    have hdl := distN_le (P 3 e) (P 1 e * s) w
    have hca := fun h Q => cellAt_eq (far := distN (P 3 e) (P 1 e * s) w) (by omega) z h Q
    have hcl := cellOf_le (distN (P 3 e) (P 1 e * s) w)
    have lc : (cN4 (cellOf (distN (P 3 e) (P 1 e * s) w)) = nI c) = (cellOf (distN (P 3 e) (P 1 e * s) w) = c) := by
      rcases Nat.lt_or_ge (cellOf (distN (P 3 e) (P 1 e * s) w)) 10 with q | q
      · rw [cN4_lt q, neq (by omega) (by omega)]
      · have q10 : cellOf (distN (P 3 e) (P 1 e * s) w) = 10 := by omega
        rw [q10, cN4_10]
        refine propext ⟨fun r => ?_, fun r => by omega⟩
        have h1 : ¬ nI c < nI 0 := nI_not_neg (by omega)
        rw [← r] at h1
        exact absurd (by decide) h1
    rw [m120_3]
    by_cases g : cellOf (distN (P 3 e) (P 1 e * s) w) = c
    · rw [if_pos g] at hfs
      have := hT s (by rw [hfn, hfs])
      rw [if_neg (by omega)] at this
      rw [← this]
      have lg : (cN4 c = nI c) = True := eq_true (cN4_lt hc)
      simp only [m120_0, m120_1, m120_4, m120_5, m120_8, m120_11, m120_13, m120_15, m120_18, m120_19, m120_22, m120_23, m120_24, m120_25, m120_28, m120_29, m120_30, m120_32, m120_33, m120_34, m120_37, m120_40, m120_41, m120_44, m120_46, m120_47, m120_50, m120_53, m120_55, ob_some, pushr_s, pushr_n, iget_eq, gf_eq, pf_eq, ck_eq, alen_eq, rget_eq, iset_eq, Option.bind_some, Option.map_some, Option.elim_some, hput_at, ↓reduceIte, Nat.reduceEqDiff, Nat.reduceAdd, ne_eq, not_false_eq_true, oS_ck, oS_g0, oS_p0, oS_g1, oS_p1, oS_g2, oS_p2, oS_g3, oS_p3, oS_g4, oS_p4, oS_g5, oS_p5, oS_g6, oS_p6, oP_ck, oP_g0, oP_p0, oP_g1, oP_p1, oP_g2, oP_p2, oP_g3, oP_p3, oP_g4, oP_p4, oP_g5, oP_p5, oP_g6, oP_p6, oP_g7, oP_p7, oP_g8, oP_p8, oP_g9, oP_p9, oP_g10, oP_p10, oP_g11, oP_p11, oP_g12, oP_p12, oR_ck, oR_g0, oR_p0, oR_g1, oR_p1, oR_g2, oR_p2, oR_g3, oR_p3, oG_ck, oG_g0, oG_p0, oG_g1, oG_p1, oG_g2, oG_p2, oW_ck, oW_g0, oW_p0, oW_g1, oW_p1, oW_g2, oW_p2, oB_ck, oB_g0, oB_p0, oB_g1, oB_p1, oB_g2, oB_p2, oB_g3, oB_p3, oB_g4, oB_p4, oB_g5, oB_p5, oB_g6, oB_p6, oC_ck, oC_g0, oC_p0, oC_g1, oC_p1, oC_g2, oC_p2, oC_g3, oC_p3, oC_g4, oC_p4, oC_g5, oC_p5, oC_g6, oC_p6, oH_ck, oH_g0, oH_p0, oH_g1, oH_p1, oH_g2, oH_p2, oH_g3, oH_p3, oM_ck, oM_g0, oM_p0, oM_g1, oM_p1, oM_g2, oM_p2, oM_g3, oM_p3, oM_g4, oM_p4, oM_g5, oM_p5, oM_g6, oM_p6, oM_g7, oM_p7, oM_g8, oM_p8, oM_g9, oM_p9, oM_g10, oM_p10, oM_g11, oM_p11, oM_g12, oM_p12, oM_g13, oM_p13, oM_g14, oM_p14, oM_g15, oM_p15, oM_g16, oM_p16, oM_g17, oM_p17, oM_g18, oM_p18, oM_g19, oM_p19, oM_g20, oM_p20, oM_g21, oM_p21, oM_g22, oM_p22, oM_g23, oM_p23, oM_g24, oM_p24, oM_g25, oM_p25, oM_g26, oM_p26, oM_g27, oM_p27, oM_g28, oM_p28, oM_g29, oM_p29, h1, h2, h4, hE, hb2, n10, if_false, nlt (a := 60) (b := s) (by decide) (by omega), hs60, a3, a4, pk_mul, hdi, hca, g, lg, if_true]
    · rw [if_neg g] at hfs
      have ihk := ih (s + 1) (by omega) (by rw [hfn, hfs])
      simp only [m120_0, m120_1, m120_4, m120_5, m120_8, m120_11, m120_13, m120_15, m120_18, m120_19, m120_22, m120_23, m120_24, m120_25, m120_28, m120_29, m120_30, m120_32, m120_33, m120_34, m120_37, m120_40, m120_41, m120_44, m120_46, m120_47, m120_50, m120_53, m120_55, ob_some, pushr_s, pushr_n, iget_eq, gf_eq, pf_eq, ck_eq, alen_eq, rget_eq, iset_eq, Option.bind_some, Option.map_some, Option.elim_some, hput_at, ↓reduceIte, Nat.reduceEqDiff, Nat.reduceAdd, ne_eq, not_false_eq_true, oS_ck, oS_g0, oS_p0, oS_g1, oS_p1, oS_g2, oS_p2, oS_g3, oS_p3, oS_g4, oS_p4, oS_g5, oS_p5, oS_g6, oS_p6, oP_ck, oP_g0, oP_p0, oP_g1, oP_p1, oP_g2, oP_p2, oP_g3, oP_p3, oP_g4, oP_p4, oP_g5, oP_p5, oP_g6, oP_p6, oP_g7, oP_p7, oP_g8, oP_p8, oP_g9, oP_p9, oP_g10, oP_p10, oP_g11, oP_p11, oP_g12, oP_p12, oR_ck, oR_g0, oR_p0, oR_g1, oR_p1, oR_g2, oR_p2, oR_g3, oR_p3, oG_ck, oG_g0, oG_p0, oG_g1, oG_p1, oG_g2, oG_p2, oW_ck, oW_g0, oW_p0, oW_g1, oW_p1, oW_g2, oW_p2, oB_ck, oB_g0, oB_p0, oB_g1, oB_p1, oB_g2, oB_p2, oB_g3, oB_p3, oB_g4, oB_p4, oB_g5, oB_p5, oB_g6, oB_p6, oC_ck, oC_g0, oC_p0, oC_g1, oC_p1, oC_g2, oC_p2, oC_g3, oC_p3, oC_g4, oC_p4, oC_g5, oC_p5, oC_g6, oC_p6, oH_ck, oH_g0, oH_p0, oH_g1, oH_p1, oH_g2, oH_p2, oH_g3, oH_p3, oM_ck, oM_g0, oM_p0, oM_g1, oM_p1, oM_g2, oM_p2, oM_g3, oM_p3, oM_g4, oM_p4, oM_g5, oM_p5, oM_g6, oM_p6, oM_g7, oM_p7, oM_g8, oM_p8, oM_g9, oM_p9, oM_g10, oM_p10, oM_g11, oM_p11, oM_g12, oM_p12, oM_g13, oM_p13, oM_g14, oM_p14, oM_g15, oM_p15, oM_g16, oM_p16, oM_g17, oM_p17, oM_g18, oM_p18, oM_g19, oM_p19, oM_g20, oM_p20, oM_g21, oM_p21, oM_g22, oM_p22, oM_g23, oM_p23, oM_g24, oM_p24, oM_g25, oM_p25, oM_g26, oM_p26, oM_g27, oM_p27, oM_g28, oM_p28, oM_g29, oM_p29, h1, h2, h4, hE, hb2, n10, if_false, nlt (a := 60) (b := s) (by decide) (by omega), hs60, a3, a4, pk_mul, hdi, hca, lc, g, nI_add]
      exact ihk
/-- the fewest sheep of the last n numbers up to 60 that throw w into c: 61 is none -/
def leF (kd am w c : Nat) : Nat → Nat
  | 0 => 61
  | n + 1 => if cellOf (distN kd (am * (60 - n)) w) = c then 60 - n else leF kd am w c n
def l61 (r : Nat) : Int32 := if r = 61 then -4 else nI r
theorem leastFlock_eq {h : Hp} {p : Nat} {P : Pl} (hP : PlanC h p P) (hV : Valid P) {e w c : Nat} (he : e < P 0 0) (hw : w ≤ 20) (hw1 : 1 ≤ w) (hc : c < 10) (z : Zc) (Q : Option Value → Zc → Hp → Prop) : Ev 120 (0, [some (.ref p), some (.int (nI e)), some (.int (nI w)), some (.int (nI c)), none], [], z, h) Q = Q (some (.int (l61 (leF (P 3 e) (P 1 e) w c 61)))) z h := by
  simp only [m120_0, m120_1, m120_4, m120_5, m120_8, m120_11, m120_13, m120_15, m120_18, m120_19, m120_22, m120_23, m120_24, m120_25, m120_28, m120_29, m120_30, m120_32, m120_33, m120_34, m120_37, m120_40, m120_41, m120_44, m120_46, m120_47, m120_50, m120_53, m120_55]
  exact leastFlock_loop hP hV he hw hw1 hc z Q _ (leF (P 3 e) (P 1 e) w c) rfl (fun n => rfl) (fun r hr => by rw [hr]; rfl) 61 0 rfl rfl
