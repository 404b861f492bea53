/-! the class: hold and meal -/
theorem wRow_id (r : Nat) (P : Pl) (e : Nat) : wRow r P e (P r e) = P := by unfold wRow; rw [fup_id, fup_id]
theorem shold_loop {len d : Nat} {P : Pl} (hV : Valid P) (hd : d ≤ 30) (z : Zc) :
    ∀ n s, n + s = 10 → ∀ (H : Hp) (x : Nat), SO H len → PlanC H 25 (wRow 0 P 2 x) → (∃ f X, SiegeC H 35 f X) →
    ∃ h2, (∀ Q, Ev 14 (25, [some (.ref 1), some (.int (nI d)), some (.int (nI s))], [], z, H) Q = Q (some (.int (cN4 (fF (hoT P d) 9 n)))) z h2) ∧ JK h2 ∧ FR H h2 := by
  intro n
  induction n with
  | zero =>
    intro s hs H x hS hP hg
    have e61 : s = 10 := by omega
    subst e61
    refine ⟨H, fun Q => ?_, ⟨⟨_, hP⟩, hg⟩, FR.rfl' H⟩
    rw [m14_25]
    simp only [m14_0, m14_1, m14_2, m14_4, m14_7, m14_10, m14_11, m14_12, m14_13, m14_16, m14_17, m14_20, m14_23, m14_24, m14_26, m14_28, m14_31, m14_32, m14_35, m14_36, m14_39, m14_40, m14_43, m14_44, m14_47, m14_48, m14_51, m14_54, m14_55, m14_56, m14_59, m14_62, m14_64, nlt (a := 9) (b := 10) (by decide) (by decide), Nat.reduceLT, if_true]
    rfl
  | succ n ih =>
    intro s hs H x hS hP hg
    have e0 : 9 - n = s := by omega
    have hs60 : ¬ 9 < s := by omega
    obtain ⟨h2, hb, k1, k2, k3, k4⟩ := sTry (R := wRow 0 P 2 s) (wRow_0_valid hV (by omega)) hd hS hg z
    have hck : ∃ x1 x2 x3, pset H 25 (wRow 0 P 2 s) 35 = some (oG x1 x2 x3) := by
      obtain ⟨f, X, hg⟩ := hg
      exact ⟨_, _, _, siege_ck hg _⟩
    obtain ⟨x1, x2, x3, hck⟩ := hck
    have hr : hput H 25 (poE 25 (wRow 0 P 2 s)) = pset H 25 (wRow 0 P 2 s) := by
      have := pset_obj H 25 (wRow 0 P 2 x) (fup (wRow 0 P 2 x 0) 2 s)
      rw [wRow_again, hP.id] at this
      exact this
    have p1 : H 25 = some (poE 25 (wRow 0 P 2 x)) := hP.2.1
    unfold poE at p1 hr
    have w0 : ∀ y, wRow 0 P 2 y 0 0 = P 0 0 := fun y => rfl
    have w1 : ∀ y, wRow 0 P 2 y 0 1 = P 0 1 := fun y => rfl
    have w2 : ∀ y, wRow 0 P 2 y 0 2 = y := fun y => rfl
    have w3 : ∀ y, wRow 0 P 2 y 0 3 = P 0 3 := fun y => rfl
    simp only [w0, w1, w2, w3, Nat.reduceAdd] at p1 hr
    have hS1 := hS
    unfold SO at hS1
    have q1 : pset H 25 (wRow 0 P 2 s) 1 = H 1 := pset_ne H _ (by omega)
    have lt := nlt (a := 9) (b := s) (by decide) (by omega)
    by_cases g : brk (wRow 0 P 2 s) d = true
    · obtain ⟨h3, hq, j1, j2⟩ := ih (s + 1) (by omega) h2 s k1 k2 k3
      refine ⟨h3, fun Q => ?_, j1, k4.trans j2⟩
      rw [m14_25, fF, e0, if_neg (show ¬ hoT P d s = true from by unfold hoT; rw [g]; decide)]
      simp only [m14_0, m14_1, m14_2, m14_4, m14_7, m14_10, m14_11, m14_12, m14_13, m14_16, m14_17, m14_20, m14_23, m14_24, m14_26, m14_28, m14_31, m14_32, m14_35, m14_36, m14_39, m14_40, m14_43, m14_44, m14_47, m14_48, m14_51, m14_54, m14_55, m14_56, m14_59, m14_62, m14_64, ob_some, pushr_s, pushr_n, iget_eq, gf_eq, pf_eq, ck_eq, alen_eq, rget_eq, iset_eq, Option.bind_some, Option.map_some, Option.elim_some, hput_at, ↓reduceIte, Nat.reduceEqDiff, Nat.reduceAdd, ne_eq, not_false_eq_true, oS_ck, oS_g0, oS_p0, oS_g1, oS_p1, oS_g2, oS_p2, oS_g3, oS_p3, oS_g4, oS_p4, oS_g5, oS_p5, oS_g6, oS_p6, oP_ck, oP_g0, oP_p0, oP_g1, oP_p1, oP_g2, oP_p2, oP_g3, oP_p3, oP_g4, oP_p4, oP_g5, oP_p5, oP_g6, oP_p6, oP_g7, oP_p7, oP_g8, oP_p8, oP_g9, oP_p9, oP_g10, oP_p10, oP_g11, oP_p11, oP_g12, oP_p12, oR_ck, oR_g0, oR_p0, oR_g1, oR_p1, oR_g2, oR_p2, oR_g3, oR_p3, oG_ck, oG_g0, oG_p0, oG_g1, oG_p1, oG_g2, oG_p2, oW_ck, oW_g0, oW_p0, oW_g1, oW_p1, oW_g2, oW_p2, oB_ck, oB_g0, oB_p0, oB_g1, oB_p1, oB_g2, oB_p2, oB_g3, oB_p3, oB_g4, oB_p4, oB_g5, oB_p5, oB_g6, oB_p6, oC_ck, oC_g0, oC_p0, oC_g1, oC_p1, oC_g2, oC_p2, oC_g3, oC_p3, oC_g4, oC_p4, oC_g5, oC_p5, oC_g6, oC_p6, oH_ck, oH_g0, oH_p0, oH_g1, oH_p1, oH_g2, oH_p2, oH_g3, oH_p3, oM_ck, oM_g0, oM_p0, oM_g1, oM_p1, oM_g2, oM_p2, oM_g3, oM_p3, oM_g4, oM_p4, oM_g5, oM_p5, oM_g6, oM_p6, oM_g7, oM_p7, oM_g8, oM_p8, oM_g9, oM_p9, oM_g10, oM_p10, oM_g11, oM_p11, oM_g12, oM_p12, oM_g13, oM_p13, oM_g14, oM_p14, oM_g15, oM_p15, oM_g16, oM_p16, oM_g17, oM_p17, oM_g18, oM_p18, oM_g19, oM_p19, oM_g20, oM_p20, oM_g21, oM_p21, oM_g22, oM_p22, oM_g23, oM_p23, oM_g24, oM_p24, oM_g25, oM_p25, oM_g26, oM_p26, oM_g27, oM_p27, oM_g28, oM_p28, oM_g29, oM_p29, lt, hs60, if_false, hS1, p1, hr, q1, hck, hb, bt g, nI_add]
      exact hq Q
    · refine ⟨h2, fun Q => ?_, ⟨⟨_, k2⟩, k3⟩, k4⟩
      rw [m14_25, fF, e0, if_pos (show hoT P d s = true from by unfold hoT; rw [Bool.eq_false_iff.mpr g]; decide), cN4_lt (by omega)]
      simp only [m14_0, m14_1, m14_2, m14_4, m14_7, m14_10, m14_11, m14_12, m14_13, m14_16, m14_17, m14_20, m14_23, m14_24, m14_26, m14_28, m14_31, m14_32, m14_35, m14_36, m14_39, m14_40, m14_43, m14_44, m14_47, m14_48, m14_51, m14_54, m14_55, m14_56, m14_59, m14_62, m14_64, ob_some, pushr_s, pushr_n, iget_eq, gf_eq, pf_eq, ck_eq, alen_eq, rget_eq, iset_eq, Option.bind_some, Option.map_some, Option.elim_some, hput_at, ↓reduceIte, Nat.reduceEqDiff, Nat.reduceAdd, ne_eq, not_false_eq_true, oS_ck, oS_g0, oS_p0, oS_g1, oS_p1, oS_g2, oS_p2, oS_g3, oS_p3, oS_g4, oS_p4, oS_g5, oS_p5, oS_g6, oS_p6, oP_ck, oP_g0, oP_p0, oP_g1, oP_p1, oP_g2, oP_p2, oP_g3, oP_p3, oP_g4, oP_p4, oP_g5, oP_p5, oP_g6, oP_p6, oP_g7, oP_p7, oP_g8, oP_p8, oP_g9, oP_p9, oP_g10, oP_p10, oP_g11, oP_p11, oP_g12, oP_p12, oR_ck, oR_g0, oR_p0, oR_g1, oR_p1, oR_g2, oR_p2, oR_g3, oR_p3, oG_ck, oG_g0, oG_p0, oG_g1, oG_p1, oG_g2, oG_p2, oW_ck, oW_g0, oW_p0, oW_g1, oW_p1, oW_g2, oW_p2, oB_ck, oB_g0, oB_p0, oB_g1, oB_p1, oB_g2, oB_p2, oB_g3, oB_p3, oB_g4, oB_p4, oB_g5, oB_p5, oB_g6, oB_p6, oC_ck, oC_g0, oC_p0, oC_g1, oC_p1, oC_g2, oC_p2, oC_g3, oC_p3, oC_g4, oC_p4, oC_g5, oC_p5, oC_g6, oC_p6, oH_ck, oH_g0, oH_p0, oH_g1, oH_p1, oH_g2, oH_p2, oH_g3, oH_p3, oM_ck, oM_g0, oM_p0, oM_g1, oM_p1, oM_g2, oM_p2, oM_g3, oM_p3, oM_g4, oM_p4, oM_g5, oM_p5, oM_g6, oM_p6, oM_g7, oM_p7, oM_g8, oM_p8, oM_g9, oM_p9, oM_g10, oM_p10, oM_g11, oM_p11, oM_g12, oM_p12, oM_g13, oM_p13, oM_g14, oM_p14, oM_g15, oM_p15, oM_g16, oM_p16, oM_g17, oM_p17, oM_g18, oM_p18, oM_g19, oM_p19, oM_g20, oM_p20, oM_g21, oM_p21, oM_g22, oM_p22, oM_g23, oM_p23, oM_g24, oM_p24, oM_g25, oM_p25, oM_g26, oM_p26, oM_g27, oM_p27, oM_g28, oM_p28, oM_g29, oM_p29, lt, hs60, if_false, hS1, p1, hr, q1, hck, hb, bf g, if_true]
theorem jk_ck {h : Hp} (hJ : JK h) : ∃ R, h 25 = some (poE 25 R) := ⟨_, (Classical.choose_spec hJ.1).2.1⟩
theorem shold_op {h : Hp} {len : Nat} {P : Pl} (hS : SO h len) (hP : PlanC h 15 P) (hV : Valid P) (hJ : JK h) (d : Int32) (z : Zc) : Sop 14 [some (.ref 1), some (.int d), none] (.int (ansHold P d)) z h := by
  have p1 := hP.2.1
  have hS1 := hS
  unfold SO at hS1
  unfold ansHold
  have ed := rg_c d (lo := 1) (hi := 30) (by decide) (by decide)
  by_cases c2 : rgI d 1 30
  · rw [if_pos c2]
    obtain ⟨d1, d2, d3⟩ := rg_nt c2
    obtain ⟨H, hc, k1, k2, k3, k4⟩ := copy_try hS hP hJ z
    obtain ⟨h2, hq, j1, j2⟩ := shold_loop (d := nt d) hV d3 z 10 0 rfl H (P 0 2) k1 (by rw [wRow_id]; exact k2) k3
    rw [← d1] at hq
    obtain ⟨R, hck⟩ := jk_ck hJ
    unfold poE at hck
    refine ⟨h2, fun Q => ?_, j1, k4.trans j2⟩
    simp only [m14_0, m14_1, m14_2, m14_4, m14_7, m14_10, m14_11, m14_12, m14_13, m14_16, m14_17, m14_20, m14_23, m14_24, m14_26, m14_28, m14_31, m14_32, m14_35, m14_36, m14_39, m14_40, m14_43, m14_44, m14_47, m14_48, m14_51, m14_54, m14_55, m14_56, m14_59, m14_62, m14_64, ob_some, pushr_s, pushr_n, iget_eq, gf_eq, pf_eq, ck_eq, alen_eq, rget_eq, iset_eq, Option.bind_some, Option.map_some, Option.elim_some, hput_at, ↓reduceIte, Nat.reduceEqDiff, Nat.reduceAdd, ne_eq, not_false_eq_true, oS_ck, oS_g0, oS_p0, oS_g1, oS_p1, oS_g2, oS_p2, oS_g3, oS_p3, oS_g4, oS_p4, oS_g5, oS_p5, oS_g6, oS_p6, oP_ck, oP_g0, oP_p0, oP_g1, oP_p1, oP_g2, oP_p2, oP_g3, oP_p3, oP_g4, oP_p4, oP_g5, oP_p5, oP_g6, oP_p6, oP_g7, oP_p7, oP_g8, oP_p8, oP_g9, oP_p9, oP_g10, oP_p10, oP_g11, oP_p11, oP_g12, oP_p12, oR_ck, oR_g0, oR_p0, oR_g1, oR_p1, oR_g2, oR_p2, oR_g3, oR_p3, oG_ck, oG_g0, oG_p0, oG_g1, oG_p1, oG_g2, oG_p2, oW_ck, oW_g0, oW_p0, oW_g1, oW_p1, oW_g2, oW_p2, oB_ck, oB_g0, oB_p0, oB_g1, oB_p1, oB_g2, oB_p2, oB_g3, oB_p3, oB_g4, oB_p4, oB_g5, oB_p5, oB_g6, oB_p6, oC_ck, oC_g0, oC_p0, oC_g1, oC_p1, oC_g2, oC_p2, oC_g3, oC_p3, oC_g4, oC_p4, oC_g5, oC_p5, oC_g6, oC_p6, oH_ck, oH_g0, oH_p0, oH_g1, oH_p1, oH_g2, oH_p2, oH_g3, oH_p3, oM_ck, oM_g0, oM_p0, oM_g1, oM_p1, oM_g2, oM_p2, oM_g3, oM_p3, oM_g4, oM_p4, oM_g5, oM_p5, oM_g6, oM_p6, oM_g7, oM_p7, oM_g8, oM_p8, oM_g9, oM_p9, oM_g10, oM_p10, oM_g11, oM_p11, oM_g12, oM_p12, oM_g13, oM_p13, oM_g14, oM_p14, oM_g15, oM_p15, oM_g16, oM_p16, oM_g17, oM_p17, oM_g18, oM_p18, oM_g19, oM_p19, oM_g20, oM_p20, oM_g21, oM_p21, oM_g22, oM_p22, oM_g23, oM_p23, oM_g24, oM_p24, oM_g25, oM_p25, oM_g26, oM_p26, oM_g27, oM_p27, oM_g28, oM_p28, oM_g29, oM_p29, hS1, p1, within_eq, ed, bt c2, if_false, hck, hc]
    exact hq Q
  · rw [if_neg c2]
    refine ⟨h, fun Q => ?_, hJ, FR.rfl' h⟩
    simp only [m14_0, m14_1, m14_2, m14_4, m14_7, m14_10, m14_11, m14_12, m14_13, m14_16, m14_17, m14_20, m14_23, m14_24, m14_26, m14_28, m14_31, m14_32, m14_35, m14_36, m14_39, m14_40, m14_43, m14_44, m14_47, m14_48, m14_51, m14_54, m14_55, m14_56, m14_59, m14_62, m14_64, ob_some, pushr_s, pushr_n, iget_eq, gf_eq, pf_eq, ck_eq, alen_eq, rget_eq, iset_eq, Option.bind_some, Option.map_some, Option.elim_some, hput_at, ↓reduceIte, Nat.reduceEqDiff, Nat.reduceAdd, ne_eq, not_false_eq_true, oS_ck, oS_g0, oS_p0, oS_g1, oS_p1, oS_g2, oS_p2, oS_g3, oS_p3, oS_g4, oS_p4, oS_g5, oS_p5, oS_g6, oS_p6, oP_ck, oP_g0, oP_p0, oP_g1, oP_p1, oP_g2, oP_p2, oP_g3, oP_p3, oP_g4, oP_p4, oP_g5, oP_p5, oP_g6, oP_p6, oP_g7, oP_p7, oP_g8, oP_p8, oP_g9, oP_p9, oP_g10, oP_p10, oP_g11, oP_p11, oP_g12, oP_p12, oR_ck, oR_g0, oR_p0, oR_g1, oR_p1, oR_g2, oR_p2, oR_g3, oR_p3, oG_ck, oG_g0, oG_p0, oG_g1, oG_p1, oG_g2, oG_p2, oW_ck, oW_g0, oW_p0, oW_g1, oW_p1, oW_g2, oW_p2, oB_ck, oB_g0, oB_p0, oB_g1, oB_p1, oB_g2, oB_p2, oB_g3, oB_p3, oB_g4, oB_p4, oB_g5, oB_p5, oB_g6, oB_p6, oC_ck, oC_g0, oC_p0, oC_g1, oC_p1, oC_g2, oC_p2, oC_g3, oC_p3, oC_g4, oC_p4, oC_g5, oC_p5, oC_g6, oC_p6, oH_ck, oH_g0, oH_p0, oH_g1, oH_p1, oH_g2, oH_p2, oH_g3, oH_p3, oM_ck, oM_g0, oM_p0, oM_g1, oM_p1, oM_g2, oM_p2, oM_g3, oM_p3, oM_g4, oM_p4, oM_g5, oM_p5, oM_g6, oM_p6, oM_g7, oM_p7, oM_g8, oM_p8, oM_g9, oM_p9, oM_g10, oM_p10, oM_g11, oM_p11, oM_g12, oM_p12, oM_g13, oM_p13, oM_g14, oM_p14, oM_g15, oM_p15, oM_g16, oM_p16, oM_g17, oM_p17, oM_g18, oM_p18, oM_g19, oM_p19, oM_g20, oM_p20, oM_g21, oM_p21, oM_g22, oM_p22, oM_g23, oM_p23, oM_g24, oM_p24, oM_g25, oM_p25, oM_g26, oM_p26, oM_g27, oM_p27, oM_g28, oM_p28, oM_g29, oM_p29, within_eq, ed, bf c2, if_true]
theorem dec_nI {n : Nat} (h : n < 100000) : nI (n + 1) + -1 = nI n := by
  have : nI (n + 1) - nI 1 = nI (n + 1 - 1) := pk_sub (by omega)
  rw [Nat.add_sub_cancel] at this
  rw [← this, Int32.sub_eq_add_neg]
  exact congrArg (fun q => nI (n + 1) + q) (by decide)
theorem smeal_loop {len e d : Nat} {P : Pl} (hV : Valid P) (he : e < P 0 0) (hd : d ≤ 30) (z : Zc) :
    ∀ n, n ≤ 10 → ∀ (H : Hp) (x : Nat), SO H len → PlanC H 25 (wRow 4 P e x) → (∃ f X, SiegeC H 35 f X) →
    ∃ h2, (∀ Q, Ev 15 (37, [some (.ref 1), some (.int (nI e)), some (.int (nI d)), some (.int (nI n + -1))], [], z, H) Q = Q (some (.int (cN4 (gF (meT P e d) n)))) z h2) ∧ JK h2 ∧ FR H h2 := by
  have v0 := hV.1
  intro n
  induction n with
  | zero =>
    intro hs H x hS hP hg
    refine ⟨H, fun Q => ?_, ⟨⟨_, hP⟩, hg⟩, FR.rfl' H⟩
    rw [m15_37]
    have lm : nI 0 + -1 < nI 0 := by decide
    simp only [m15_0, m15_1, m15_4, m15_5, m15_8, m15_11, m15_12, m15_13, m15_15, m15_18, m15_21, m15_22, m15_23, m15_24, m15_27, m15_28, m15_31, m15_34, m15_36, m15_38, m15_41, m15_42, m15_45, m15_48, m15_49, m15_50, m15_51, m15_52, m15_55, m15_56, m15_59, m15_60, m15_63, m15_66, m15_67, m15_68, m15_71, m15_74, m15_76, lm, if_true]
    rfl
  | succ s ih =>
    intro hs H x hS hP hg
    rw [dec_nI (by omega)]
    obtain ⟨h2, hb, k1, k2, k3, k4⟩ := sTry (R := wRow 4 P e s) (wRow_4_valid hV (by omega)) hd hS hg z
    have hck : ∃ x1 x2 x3, pset H 25 (wRow 4 P e s) 35 = some (oG x1 x2 x3) := by
      obtain ⟨f, X, hg⟩ := hg
      exact ⟨_, _, _, siege_ck hg _⟩
    obtain ⟨x1, x2, x3, hck⟩ := hck
    have a1 := isE_AI (n := 3) (j := e) (wRow 4 P e x 4) s (by omega) (by decide)
    have hr : hput H 29 (AI 3 (fup (wRow 4 P e x 4) e s)) = pset H 25 (wRow 4 P e s) := by
      have := pset_r4 H 25 (wRow 4 P e x) (fup (wRow 4 P e x 4) e s)
      rw [wRow_again, hP.id] at this
      exact this
    have p1 : H 25 = some (poE 25 (wRow 4 P e x)) := hP.2.1
    unfold poE at p1
    have p3 : H 29 = some (AI 3 (wRow 4 P e x 4)) := hP.2.2.2.2.2.1
    have hS1 := hS
    unfold SO at hS1
    have q1 : pset H 25 (wRow 4 P e s) 1 = H 1 := pset_ne H _ (by omega)
    have l0 : ¬ nI s < nI 0 := nI_not_neg (by omega)
    by_cases g : brk (wRow 4 P e s) d = true
    · refine ⟨h2, fun Q => ?_, ⟨⟨_, k2⟩, k3⟩, k4⟩
      rw [m15_37, gF, if_pos (show meT P e d s = true from g), cN4_lt (by omega)]
      simp only [m15_0, m15_1, m15_4, m15_5, m15_8, m15_11, m15_12, m15_13, m15_15, m15_18, m15_21, m15_22, m15_23, m15_24, m15_27, m15_28, m15_31, m15_34, m15_36, m15_38, m15_41, m15_42, m15_45, m15_48, m15_49, m15_50, m15_51, m15_52, m15_55, m15_56, m15_59, m15_60, m15_63, m15_66, m15_67, m15_68, m15_71, m15_74, m15_76, ob_some, pushr_s, pushr_n, iget_eq, gf_eq, pf_eq, ck_eq, alen_eq, rget_eq, iset_eq, Option.bind_some, Option.map_some, Option.elim_some, hput_at, ↓reduceIte, Nat.reduceEqDiff, Nat.reduceAdd, ne_eq, not_false_eq_true, oS_ck, oS_g0, oS_p0, oS_g1, oS_p1, oS_g2, oS_p2, oS_g3, oS_p3, oS_g4, oS_p4, oS_g5, oS_p5, oS_g6, oS_p6, oP_ck, oP_g0, oP_p0, oP_g1, oP_p1, oP_g2, oP_p2, oP_g3, oP_p3, oP_g4, oP_p4, oP_g5, oP_p5, oP_g6, oP_p6, oP_g7, oP_p7, oP_g8, oP_p8, oP_g9, oP_p9, oP_g10, oP_p10, oP_g11, oP_p11, oP_g12, oP_p12, oR_ck, oR_g0, oR_p0, oR_g1, oR_p1, oR_g2, oR_p2, oR_g3, oR_p3, oG_ck, oG_g0, oG_p0, oG_g1, oG_p1, oG_g2, oG_p2, oW_ck, oW_g0, oW_p0, oW_g1, oW_p1, oW_g2, oW_p2, oB_ck, oB_g0, oB_p0, oB_g1, oB_p1, oB_g2, oB_p2, oB_g3, oB_p3, oB_g4, oB_p4, oB_g5, oB_p5, oB_g6, oB_p6, oC_ck, oC_g0, oC_p0, oC_g1, oC_p1, oC_g2, oC_p2, oC_g3, oC_p3, oC_g4, oC_p4, oC_g5, oC_p5, oC_g6, oC_p6, oH_ck, oH_g0, oH_p0, oH_g1, oH_p1, oH_g2, oH_p2, oH_g3, oH_p3, oM_ck, oM_g0, oM_p0, oM_g1, oM_p1, oM_g2, oM_p2, oM_g3, oM_p3, oM_g4, oM_p4, oM_g5, oM_p5, oM_g6, oM_p6, oM_g7, oM_p7, oM_g8, oM_p8, oM_g9, oM_p9, oM_g10, oM_p10, oM_g11, oM_p11, oM_g12, oM_p12, oM_g13, oM_p13, oM_g14, oM_p14, oM_g15, oM_p15, oM_g16, oM_p16, oM_g17, oM_p17, oM_g18, oM_p18, oM_g19, oM_p19, oM_g20, oM_p20, oM_g21, oM_p21, oM_g22, oM_p22, oM_g23, oM_p23, oM_g24, oM_p24, oM_g25, oM_p25, oM_g26, oM_p26, oM_g27, oM_p27, oM_g28, oM_p28, oM_g29, oM_p29, l0, if_false, hS1, p1, p3, a1, hr, q1, hck, hb, bt g]
    · obtain ⟨h3, hq, j1, j2⟩ := ih (by omega) h2 s k1 k2 k3
      refine ⟨h3, fun Q => ?_, j1, k4.trans j2⟩
      rw [m15_37, gF, if_neg (show ¬ meT P e d s = true from g)]
      simp only [m15_0, m15_1, m15_4, m15_5, m15_8, m15_11, m15_12, m15_13, m15_15, m15_18, m15_21, m15_22, m15_23, m15_24, m15_27, m15_28, m15_31, m15_34, m15_36, m15_38, m15_41, m15_42, m15_45, m15_48, m15_49, m15_50, m15_51, m15_52, m15_55, m15_56, m15_59, m15_60, m15_63, m15_66, m15_67, m15_68, m15_71, m15_74, m15_76, ob_some, pushr_s, pushr_n, iget_eq, gf_eq, pf_eq, ck_eq, alen_eq, rget_eq, iset_eq, Option.bind_some, Option.map_some, Option.elim_some, hput_at, ↓reduceIte, Nat.reduceEqDiff, Nat.reduceAdd, ne_eq, not_false_eq_true, oS_ck, oS_g0, oS_p0, oS_g1, oS_p1, oS_g2, oS_p2, oS_g3, oS_p3, oS_g4, oS_p4, oS_g5, oS_p5, oS_g6, oS_p6, oP_ck, oP_g0, oP_p0, oP_g1, oP_p1, oP_g2, oP_p2, oP_g3, oP_p3, oP_g4, oP_p4, oP_g5, oP_p5, oP_g6, oP_p6, oP_g7, oP_p7, oP_g8, oP_p8, oP_g9, oP_p9, oP_g10, oP_p10, oP_g11, oP_p11, oP_g12, oP_p12, oR_ck, oR_g0, oR_p0, oR_g1, oR_p1, oR_g2, oR_p2, oR_g3, oR_p3, oG_ck, oG_g0, oG_p0, oG_g1, oG_p1, oG_g2, oG_p2, oW_ck, oW_g0, oW_p0, oW_g1, oW_p1, oW_g2, oW_p2, oB_ck, oB_g0, oB_p0, oB_g1, oB_p1, oB_g2, oB_p2, oB_g3, oB_p3, oB_g4, oB_p4, oB_g5, oB_p5, oB_g6, oB_p6, oC_ck, oC_g0, oC_p0, oC_g1, oC_p1, oC_g2, oC_p2, oC_g3, oC_p3, oC_g4, oC_p4, oC_g5, oC_p5, oC_g6, oC_p6, oH_ck, oH_g0, oH_p0, oH_g1, oH_p1, oH_g2, oH_p2, oH_g3, oH_p3, oM_ck, oM_g0, oM_p0, oM_g1, oM_p1, oM_g2, oM_p2, oM_g3, oM_p3, oM_g4, oM_p4, oM_g5, oM_p5, oM_g6, oM_p6, oM_g7, oM_p7, oM_g8, oM_p8, oM_g9, oM_p9, oM_g10, oM_p10, oM_g11, oM_p11, oM_g12, oM_p12, oM_g13, oM_p13, oM_g14, oM_p14, oM_g15, oM_p15, oM_g16, oM_p16, oM_g17, oM_p17, oM_g18, oM_p18, oM_g19, oM_p19, oM_g20, oM_p20, oM_g21, oM_p21, oM_g22, oM_p22, oM_g23, oM_p23, oM_g24, oM_p24, oM_g25, oM_p25, oM_g26, oM_p26, oM_g27, oM_p27, oM_g28, oM_p28, oM_g29, oM_p29, l0, if_false, hS1, p1, p3, a1, hr, q1, hck, hb, bf g, if_true]
      exact hq Q
theorem smeal_op {h : Hp} {len : Nat} {P : Pl} (hS : SO h len) (hP : PlanC h 15 P) (hV : Valid P) (hJ : JK h) (e d : Int32) (z : Zc) : Sop 15 [some (.ref 1), some (.int e), some (.int d), none] (.int (ansMeal P e d)) z h := by
  have hE := hasEngine_eq hP e z
  have v0 : P 0 0 ≤ 3 := hV.1
  have p1 := hP.2.1
  have hS1 := hS
  unfold SO at hS1
  unfold ansMeal
  have ec := in_c e (n := P 0 0) (by omega)
  have ed := rg_c d (lo := 1) (hi := 30) (by decide) (by decide)
  by_cases c1 : inI e (P 0 0)
  · by_cases c2 : rgI d 1 30
    · rw [if_pos ⟨c1, c2⟩]
      obtain ⟨e1, e2⟩ := in_nt c1
      obtain ⟨d1, d2, d3⟩ := rg_nt c2
      obtain ⟨H, hc, k1, k2, k3, k4⟩ := copy_try hS hP hJ z
      obtain ⟨h2, hq, j1, j2⟩ := smeal_loop (d := nt d) hV e2 d3 z 10 (by decide) H (P 4 (nt e)) k1 (by rw [wRow_id]; exact k2) k3
      have e9 : nI 10 + -1 = nI 9 := by decide
      rw [← e1, ← d1, e9] at hq
      obtain ⟨R, hck⟩ := jk_ck hJ
      unfold poE at hck
      refine ⟨h2, fun Q => ?_, j1, k4.trans j2⟩
      simp only [m15_0, m15_1, m15_4, m15_5, m15_8, m15_11, m15_12, m15_13, m15_15, m15_18, m15_21, m15_22, m15_23, m15_24, m15_27, m15_28, m15_31, m15_34, m15_36, m15_38, m15_41, m15_42, m15_45, m15_48, m15_49, m15_50, m15_51, m15_52, m15_55, m15_56, m15_59, m15_60, m15_63, m15_66, m15_67, m15_68, m15_71, m15_74, m15_76, ob_some, pushr_s, pushr_n, iget_eq, gf_eq, pf_eq, ck_eq, alen_eq, rget_eq, iset_eq, Option.bind_some, Option.map_some, Option.elim_some, hput_at, ↓reduceIte, Nat.reduceEqDiff, Nat.reduceAdd, ne_eq, not_false_eq_true, oS_ck, oS_g0, oS_p0, oS_g1, oS_p1, oS_g2, oS_p2, oS_g3, oS_p3, oS_g4, oS_p4, oS_g5, oS_p5, oS_g6, oS_p6, oP_ck, oP_g0, oP_p0, oP_g1, oP_p1, oP_g2, oP_p2, oP_g3, oP_p3, oP_g4, oP_p4, oP_g5, oP_p5, oP_g6, oP_p6, oP_g7, oP_p7, oP_g8, oP_p8, oP_g9, oP_p9, oP_g10, oP_p10, oP_g11, oP_p11, oP_g12, oP_p12, oR_ck, oR_g0, oR_p0, oR_g1, oR_p1, oR_g2, oR_p2, oR_g3, oR_p3, oG_ck, oG_g0, oG_p0, oG_g1, oG_p1, oG_g2, oG_p2, oW_ck, oW_g0, oW_p0, oW_g1, oW_p1, oW_g2, oW_p2, oB_ck, oB_g0, oB_p0, oB_g1, oB_p1, oB_g2, oB_p2, oB_g3, oB_p3, oB_g4, oB_p4, oB_g5, oB_p5, oB_g6, oB_p6, oC_ck, oC_g0, oC_p0, oC_g1, oC_p1, oC_g2, oC_p2, oC_g3, oC_p3, oC_g4, oC_p4, oC_g5, oC_p5, oC_g6, oC_p6, oH_ck, oH_g0, oH_p0, oH_g1, oH_p1, oH_g2, oH_p2, oH_g3, oH_p3, oM_ck, oM_g0, oM_p0, oM_g1, oM_p1, oM_g2, oM_p2, oM_g3, oM_p3, oM_g4, oM_p4, oM_g5, oM_p5, oM_g6, oM_p6, oM_g7, oM_p7, oM_g8, oM_p8, oM_g9, oM_p9, oM_g10, oM_p10, oM_g11, oM_p11, oM_g12, oM_p12, oM_g13, oM_p13, oM_g14, oM_p14, oM_g15, oM_p15, oM_g16, oM_p16, oM_g17, oM_p17, oM_g18, oM_p18, oM_g19, oM_p19, oM_g20, oM_p20, oM_g21, oM_p21, oM_g22, oM_p22, oM_g23, oM_p23, oM_g24, oM_p24, oM_g25, oM_p25, oM_g26, oM_p26, oM_g27, oM_p27, oM_g28, oM_p28, oM_g29, oM_p29, hS1, p1, hE, ec, bt c1, within_eq, ed, bt c2, if_false, hck, hc]
      exact hq Q
    · rw [if_neg (fun q => c2 q.2)]
      refine ⟨h, fun Q => ?_, hJ, FR.rfl' h⟩
      simp only [m15_0, m15_1, m15_4, m15_5, m15_8, m15_11, m15_12, m15_13, m15_15, m15_18, m15_21, m15_22, m15_23, m15_24, m15_27, m15_28, m15_31, m15_34, m15_36, m15_38, m15_41, m15_42, m15_45, m15_48, m15_49, m15_50, m15_51, m15_52, m15_55, m15_56, m15_59, m15_60, m15_63, m15_66, m15_67, m15_68, m15_71, m15_74, m15_76, ob_some, pushr_s, pushr_n, iget_eq, gf_eq, pf_eq, ck_eq, alen_eq, rget_eq, iset_eq, Option.bind_some, Option.map_some, Option.elim_some, hput_at, ↓reduceIte, Nat.reduceEqDiff, Nat.reduceAdd, ne_eq, not_false_eq_true, oS_ck, oS_g0, oS_p0, oS_g1, oS_p1, oS_g2, oS_p2, oS_g3, oS_p3, oS_g4, oS_p4, oS_g5, oS_p5, oS_g6, oS_p6, oP_ck, oP_g0, oP_p0, oP_g1, oP_p1, oP_g2, oP_p2, oP_g3, oP_p3, oP_g4, oP_p4, oP_g5, oP_p5, oP_g6, oP_p6, oP_g7, oP_p7, oP_g8, oP_p8, oP_g9, oP_p9, oP_g10, oP_p10, oP_g11, oP_p11, oP_g12, oP_p12, oR_ck, oR_g0, oR_p0, oR_g1, oR_p1, oR_g2, oR_p2, oR_g3, oR_p3, oG_ck, oG_g0, oG_p0, oG_g1, oG_p1, oG_g2, oG_p2, oW_ck, oW_g0, oW_p0, oW_g1, oW_p1, oW_g2, oW_p2, oB_ck, oB_g0, oB_p0, oB_g1, oB_p1, oB_g2, oB_p2, oB_g3, oB_p3, oB_g4, oB_p4, oB_g5, oB_p5, oB_g6, oB_p6, oC_ck, oC_g0, oC_p0, oC_g1, oC_p1, oC_g2, oC_p2, oC_g3, oC_p3, oC_g4, oC_p4, oC_g5, oC_p5, oC_g6, oC_p6, oH_ck, oH_g0, oH_p0, oH_g1, oH_p1, oH_g2, oH_p2, oH_g3, oH_p3, oM_ck, oM_g0, oM_p0, oM_g1, oM_p1, oM_g2, oM_p2, oM_g3, oM_p3, oM_g4, oM_p4, oM_g5, oM_p5, oM_g6, oM_p6, oM_g7, oM_p7, oM_g8, oM_p8, oM_g9, oM_p9, oM_g10, oM_p10, oM_g11, oM_p11, oM_g12, oM_p12, oM_g13, oM_p13, oM_g14, oM_p14, oM_g15, oM_p15, oM_g16, oM_p16, oM_g17, oM_p17, oM_g18, oM_p18, oM_g19, oM_p19, oM_g20, oM_p20, oM_g21, oM_p21, oM_g22, oM_p22, oM_g23, oM_p23, oM_g24, oM_p24, oM_g25, oM_p25, oM_g26, oM_p26, oM_g27, oM_p27, oM_g28, oM_p28, oM_g29, oM_p29, hS1, p1, hE, ec, bt c1, within_eq, ed, bf c2, if_false, if_true]
  · rw [if_neg (fun q => c1 q.1)]
    refine ⟨h, fun Q => ?_, hJ, FR.rfl' h⟩
    simp only [m15_0, m15_1, m15_4, m15_5, m15_8, m15_11, m15_12, m15_13, m15_15, m15_18, m15_21, m15_22, m15_23, m15_24, m15_27, m15_28, m15_31, m15_34, m15_36, m15_38, m15_41, m15_42, m15_45, m15_48, m15_49, m15_50, m15_51, m15_52, m15_55, m15_56, m15_59, m15_60, m15_63, m15_66, m15_67, m15_68, m15_71, m15_74, m15_76, ob_some, pushr_s, pushr_n, iget_eq, gf_eq, pf_eq, ck_eq, alen_eq, rget_eq, iset_eq, Option.bind_some, Option.map_some, Option.elim_some, hput_at, ↓reduceIte, Nat.reduceEqDiff, Nat.reduceAdd, ne_eq, not_false_eq_true, oS_ck, oS_g0, oS_p0, oS_g1, oS_p1, oS_g2, oS_p2, oS_g3, oS_p3, oS_g4, oS_p4, oS_g5, oS_p5, oS_g6, oS_p6, oP_ck, oP_g0, oP_p0, oP_g1, oP_p1, oP_g2, oP_p2, oP_g3, oP_p3, oP_g4, oP_p4, oP_g5, oP_p5, oP_g6, oP_p6, oP_g7, oP_p7, oP_g8, oP_p8, oP_g9, oP_p9, oP_g10, oP_p10, oP_g11, oP_p11, oP_g12, oP_p12, oR_ck, oR_g0, oR_p0, oR_g1, oR_p1, oR_g2, oR_p2, oR_g3, oR_p3, oG_ck, oG_g0, oG_p0, oG_g1, oG_p1, oG_g2, oG_p2, oW_ck, oW_g0, oW_p0, oW_g1, oW_p1, oW_g2, oW_p2, oB_ck, oB_g0, oB_p0, oB_g1, oB_p1, oB_g2, oB_p2, oB_g3, oB_p3, oB_g4, oB_p4, oB_g5, oB_p5, oB_g6, oB_p6, oC_ck, oC_g0, oC_p0, oC_g1, oC_p1, oC_g2, oC_p2, oC_g3, oC_p3, oC_g4, oC_p4, oC_g5, oC_p5, oC_g6, oC_p6, oH_ck, oH_g0, oH_p0, oH_g1, oH_p1, oH_g2, oH_p2, oH_g3, oH_p3, oM_ck, oM_g0, oM_p0, oM_g1, oM_p1, oM_g2, oM_p2, oM_g3, oM_p3, oM_g4, oM_p4, oM_g5, oM_p5, oM_g6, oM_p6, oM_g7, oM_p7, oM_g8, oM_p8, oM_g9, oM_p9, oM_g10, oM_p10, oM_g11, oM_p11, oM_g12, oM_p12, oM_g13, oM_p13, oM_g14, oM_p14, oM_g15, oM_p15, oM_g16, oM_p16, oM_g17, oM_p17, oM_g18, oM_p18, oM_g19, oM_p19, oM_g20, oM_p20, oM_g21, oM_p21, oM_g22, oM_p22, oM_g23, oM_p23, oM_g24, oM_p24, oM_g25, oM_p25, oM_g26, oM_p26, oM_g27, oM_p27, oM_g28, oM_p28, oM_g29, oM_p29, hS1, p1, hE, ec, bf c1, if_true]
