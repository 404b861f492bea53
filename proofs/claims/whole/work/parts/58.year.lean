/-! year -/
theorem syear_op {h : Hp} {len : Nat} {P : Pl} (hS : SO h len) (hP : PlanC h 15 P) (hV : Valid P) (hJ : JK h) (y w : Int32) (z : Zc) : Sop 20 [some (.ref 1), some (.int y), some (.int w), none] (.int (ansYear P y w)) z h := by
  have p1 := hP.2.1
  have hS1 := hS
  unfold SO at hS1
  unfold ansYear
  have ey := rg_c y (lo := 0) (hi := 9999) (by decide) (by decide)
  have ew := rg_c w (lo := 0) (hi := 1) (by decide) (by decide)
  by_cases c1 : rgI y 0 9999
  · by_cases c2 : rgI w 0 1
    · rw [if_pos ⟨c1, c2⟩]
      obtain ⟨y1, y2, y3⟩ := rg_nt c1
      obtain ⟨H, hc, k1, k2, k3, k4⟩ := copy_try hS hP hJ z
      have e0 : yrK P (nt y) 0 = P := by
        unfold yrK
        have : (fun i => if i < 0 then drW (nt y) i else P 7 i) = P 7 := by
          funext i
          exact if_neg (by omega)
        rw [this, fup_id]
      have hq := fun Q => syear_loop hV y3 w z Q (P 0 1) 0 (by omega) H k1 (by rw [e0]; exact k2)
      rw [← y1] at hq
      obtain ⟨R, hck⟩ := jk_ck hJ
      unfold poE at hck
      obtain ⟨f, X, hg⟩ := k3
      have hP2 := pset_C H (p := 25) (by decide) (yrP P (nt y))
      have hg2 := hg.keepP (p := 25) (yrP P (nt y)) (by omega)
      have hgo := fun Q => run_eq hP2 (yrP_valid hV (nt y)) hg2 (by omega) (t := 30) (by decide) z Q
      have hg3 := gset_C (pset H 25 (yrP P (nt y))) (g := 35) (by decide) (yrP P (nt y) 8) (runF (yrP P (nt y)) 30)
      have ht := fun Q => total_eq hg3.2.2 z Q
      obtain ⟨-, g1, -, g2, -, -⟩ := hg3
      have g0 := hg2.2.1
      have q1 : pset H 25 (yrP P (nt y)) 1 = H 1 := pset_ne H _ (by omega)
      have q2 : gset (pset H 25 (yrP P (nt y))) 35 (yrP P (nt y) 8) (runF (yrP P (nt y)) 30) 1 = H 1 := (gset_ne _ _ _ (by omega)).trans q1
      have k1' := k1
      unfold SO at k1'
      refine ⟨gset (pset H 25 (yrP P (nt y))) 35 (yrP P (nt y) 8) (runF (yrP P (nt y)) 30), fun Q => ?_, ⟨⟨_, hP2.keepG (by omega) _ _⟩, ⟨_, _, gset_C _ (by decide) _ _⟩⟩, k4.trans (fun j hj => by rw [gset_ne _ _ _ (by omega), pset_ne _ _ (by omega)])⟩
      simp only [m20_0, m20_1, m20_2, m20_5, m20_8, m20_11, m20_12, m20_13, m20_14, m20_17, m20_22, m20_23, m20_26, m20_27, m20_30, m20_33, m20_34, ob_some, pushr_s, pushr_n, iget_eq, gf_eq, pf_eq, ck_eq, alen_eq, rget_eq, iset_eq, Option.bind_some, Option.map_some, Option.elim_some, hput_at, ↓reduceIte, Nat.reduceEqDiff, Nat.reduceAdd, ne_eq, not_false_eq_true, oS_ck, oS_g0, oS_p0, oS_g1, oS_p1, oS_g2, oS_p2, oS_g3, oS_p3, oS_g4, oS_p4, oS_g5, oS_p5, oS_g6, oS_p6, oP_ck, oP_g0, oP_p0, oP_g1, oP_p1, oP_g2, oP_p2, oP_g3, oP_p3, oP_g4, oP_p4, oP_g5, oP_p5, oP_g6, oP_p6, oP_g7, oP_p7, oP_g8, oP_p8, oP_g9, oP_p9, oP_g10, oP_p10, oP_g11, oP_p11, oP_g12, oP_p12, oR_ck, oR_g0, oR_p0, oR_g1, oR_p1, oR_g2, oR_p2, oR_g3, oR_p3, oG_ck, oG_g0, oG_p0, oG_g1, oG_p1, oG_g2, oG_p2, oW_ck, oW_g0, oW_p0, oW_g1, oW_p1, oW_g2, oW_p2, oB_ck, oB_g0, oB_p0, oB_g1, oB_p1, oB_g2, oB_p2, oB_g3, oB_p3, oB_g4, oB_p4, oB_g5, oB_p5, oB_g6, oB_p6, oC_ck, oC_g0, oC_p0, oC_g1, oC_p1, oC_g2, oC_p2, oC_g3, oC_p3, oC_g4, oC_p4, oC_g5, oC_p5, oC_g6, oC_p6, oH_ck, oH_g0, oH_p0, oH_g1, oH_p1, oH_g2, oH_p2, oH_g3, oH_p3, oM_ck, oM_g0, oM_p0, oM_g1, oM_p1, oM_g2, oM_p2, oM_g3, oM_p3, oM_g4, oM_p4, oM_g5, oM_p5, oM_g6, oM_p6, oM_g7, oM_p7, oM_g8, oM_p8, oM_g9, oM_p9, oM_g10, oM_p10, oM_g11, oM_p11, oM_g12, oM_p12, oM_g13, oM_p13, oM_g14, oM_p14, oM_g15, oM_p15, oM_g16, oM_p16, oM_g17, oM_p17, oM_g18, oM_p18, oM_g19, oM_p19, oM_g20, oM_p20, oM_g21, oM_p21, oM_g22, oM_p22, oM_g23, oM_p23, oM_g24, oM_p24, oM_g25, oM_p25, oM_g26, oM_p26, oM_g27, oM_p27, oM_g28, oM_p28, oM_g29, oM_p29, hS1, within_eq, ey, bt c1, ew, bt c2, if_false, p1, hck, hc]
      rw [hq]
      by_cases c3 : w = nI 0
      · have c4 : (w = nI 0) = True := eq_true c3
        rw [if_pos c3]
        simp only [m20_66, m20_67, m20_70, m20_71, m20_74, m20_76, m20_79, m20_80, m20_83, m20_84, m20_87, m20_90, m20_103, ob_some, pushr_s, pushr_n, iget_eq, gf_eq, pf_eq, ck_eq, alen_eq, rget_eq, iset_eq, Option.bind_some, Option.map_some, Option.elim_some, hput_at, ↓reduceIte, Nat.reduceEqDiff, Nat.reduceAdd, ne_eq, not_false_eq_true, oS_ck, oS_g0, oS_p0, oS_g1, oS_p1, oS_g2, oS_p2, oS_g3, oS_p3, oS_g4, oS_p4, oS_g5, oS_p5, oS_g6, oS_p6, oP_ck, oP_g0, oP_p0, oP_g1, oP_p1, oP_g2, oP_p2, oP_g3, oP_p3, oP_g4, oP_p4, oP_g5, oP_p5, oP_g6, oP_p6, oP_g7, oP_p7, oP_g8, oP_p8, oP_g9, oP_p9, oP_g10, oP_p10, oP_g11, oP_p11, oP_g12, oP_p12, oR_ck, oR_g0, oR_p0, oR_g1, oR_p1, oR_g2, oR_p2, oR_g3, oR_p3, oG_ck, oG_g0, oG_p0, oG_g1, oG_p1, oG_g2, oG_p2, oW_ck, oW_g0, oW_p0, oW_g1, oW_p1, oW_g2, oW_p2, oB_ck, oB_g0, oB_p0, oB_g1, oB_p1, oB_g2, oB_p2, oB_g3, oB_p3, oB_g4, oB_p4, oB_g5, oB_p5, oB_g6, oB_p6, oC_ck, oC_g0, oC_p0, oC_g1, oC_p1, oC_g2, oC_p2, oC_g3, oC_p3, oC_g4, oC_p4, oC_g5, oC_p5, oC_g6, oC_p6, oH_ck, oH_g0, oH_p0, oH_g1, oH_p1, oH_g2, oH_p2, oH_g3, oH_p3, oM_ck, oM_g0, oM_p0, oM_g1, oM_p1, oM_g2, oM_p2, oM_g3, oM_p3, oM_g4, oM_p4, oM_g5, oM_p5, oM_g6, oM_p6, oM_g7, oM_p7, oM_g8, oM_p8, oM_g9, oM_p9, oM_g10, oM_p10, oM_g11, oM_p11, oM_g12, oM_p12, oM_g13, oM_p13, oM_g14, oM_p14, oM_g15, oM_p15, oM_g16, oM_p16, oM_g17, oM_p17, oM_g18, oM_p18, oM_g19, oM_p19, oM_g20, oM_p20, oM_g21, oM_p21, oM_g22, oM_p22, oM_g23, oM_p23, oM_g24, oM_p24, oM_g25, oM_p25, oM_g26, oM_p26, oM_g27, oM_p27, oM_g28, oM_p28, oM_g29, oM_p29, q1, k1', g0, hgo, c4, if_true, q2, g1]
      · rw [if_neg c3]
        simp only [m20_66, m20_67, m20_70, m20_71, m20_74, m20_76, m20_79, m20_80, m20_93, m20_94, m20_97, m20_100, m20_103, ob_some, pushr_s, pushr_n, iget_eq, gf_eq, pf_eq, ck_eq, alen_eq, rget_eq, iset_eq, Option.bind_some, Option.map_some, Option.elim_some, hput_at, ↓reduceIte, Nat.reduceEqDiff, Nat.reduceAdd, ne_eq, not_false_eq_true, oS_ck, oS_g0, oS_p0, oS_g1, oS_p1, oS_g2, oS_p2, oS_g3, oS_p3, oS_g4, oS_p4, oS_g5, oS_p5, oS_g6, oS_p6, oP_ck, oP_g0, oP_p0, oP_g1, oP_p1, oP_g2, oP_p2, oP_g3, oP_p3, oP_g4, oP_p4, oP_g5, oP_p5, oP_g6, oP_p6, oP_g7, oP_p7, oP_g8, oP_p8, oP_g9, oP_p9, oP_g10, oP_p10, oP_g11, oP_p11, oP_g12, oP_p12, oR_ck, oR_g0, oR_p0, oR_g1, oR_p1, oR_g2, oR_p2, oR_g3, oR_p3, oG_ck, oG_g0, oG_p0, oG_g1, oG_p1, oG_g2, oG_p2, oW_ck, oW_g0, oW_p0, oW_g1, oW_p1, oW_g2, oW_p2, oB_ck, oB_g0, oB_p0, oB_g1, oB_p1, oB_g2, oB_p2, oB_g3, oB_p3, oB_g4, oB_p4, oB_g5, oB_p5, oB_g6, oB_p6, oC_ck, oC_g0, oC_p0, oC_g1, oC_p1, oC_g2, oC_p2, oC_g3, oC_p3, oC_g4, oC_p4, oC_g5, oC_p5, oC_g6, oC_p6, oH_ck, oH_g0, oH_p0, oH_g1, oH_p1, oH_g2, oH_p2, oH_g3, oH_p3, oM_ck, oM_g0, oM_p0, oM_g1, oM_p1, oM_g2, oM_p2, oM_g3, oM_p3, oM_g4, oM_p4, oM_g5, oM_p5, oM_g6, oM_p6, oM_g7, oM_p7, oM_g8, oM_p8, oM_g9, oM_p9, oM_g10, oM_p10, oM_g11, oM_p11, oM_g12, oM_p12, oM_g13, oM_p13, oM_g14, oM_p14, oM_g15, oM_p15, oM_g16, oM_p16, oM_g17, oM_p17, oM_g18, oM_p18, oM_g19, oM_p19, oM_g20, oM_p20, oM_g21, oM_p21, oM_g22, oM_p22, oM_g23, oM_p23, oM_g24, oM_p24, oM_g25, oM_p25, oM_g26, oM_p26, oM_g27, oM_p27, oM_g28, oM_p28, oM_g29, oM_p29, q1, k1', g0, hgo, c3, if_false, q2, g1, g2, ht]
    · rw [if_neg (fun q => c2 q.2)]
      refine ⟨h, fun Q => ?_, hJ, FR.rfl' h⟩
      simp only [m20_0, m20_1, m20_2, m20_5, m20_8, m20_11, m20_12, m20_13, m20_14, m20_17, m20_20, m20_21, m20_22, m20_23, m20_26, m20_27, m20_30, m20_33, m20_34, m20_36, m20_37, m20_40, m20_43, m20_46, m20_47, m20_50, m20_53, m20_54, m20_55, m20_56, m20_59, m20_60, m20_63, m20_66, m20_67, m20_70, m20_71, m20_74, m20_76, m20_79, m20_80, m20_83, m20_84, m20_87, m20_90, m20_93, m20_94, m20_97, m20_100, m20_103, ob_some, pushr_s, pushr_n, iget_eq, gf_eq, pf_eq, ck_eq, alen_eq, rget_eq, iset_eq, Option.bind_some, Option.map_some, Option.elim_some, hput_at, ↓reduceIte, Nat.reduceEqDiff, Nat.reduceAdd, ne_eq, not_false_eq_true, oS_ck, oS_g0, oS_p0, oS_g1, oS_p1, oS_g2, oS_p2, oS_g3, oS_p3, oS_g4, oS_p4, oS_g5, oS_p5, oS_g6, oS_p6, oP_ck, oP_g0, oP_p0, oP_g1, oP_p1, oP_g2, oP_p2, oP_g3, oP_p3, oP_g4, oP_p4, oP_g5, oP_p5, oP_g6, oP_p6, oP_g7, oP_p7, oP_g8, oP_p8, oP_g9, oP_p9, oP_g10, oP_p10, oP_g11, oP_p11, oP_g12, oP_p12, oR_ck, oR_g0, oR_p0, oR_g1, oR_p1, oR_g2, oR_p2, oR_g3, oR_p3, oG_ck, oG_g0, oG_p0, oG_g1, oG_p1, oG_g2, oG_p2, oW_ck, oW_g0, oW_p0, oW_g1, oW_p1, oW_g2, oW_p2, oB_ck, oB_g0, oB_p0, oB_g1, oB_p1, oB_g2, oB_p2, oB_g3, oB_p3, oB_g4, oB_p4, oB_g5, oB_p5, oB_g6, oB_p6, oC_ck, oC_g0, oC_p0, oC_g1, oC_p1, oC_g2, oC_p2, oC_g3, oC_p3, oC_g4, oC_p4, oC_g5, oC_p5, oC_g6, oC_p6, oH_ck, oH_g0, oH_p0, oH_g1, oH_p1, oH_g2, oH_p2, oH_g3, oH_p3, oM_ck, oM_g0, oM_p0, oM_g1, oM_p1, oM_g2, oM_p2, oM_g3, oM_p3, oM_g4, oM_p4, oM_g5, oM_p5, oM_g6, oM_p6, oM_g7, oM_p7, oM_g8, oM_p8, oM_g9, oM_p9, oM_g10, oM_p10, oM_g11, oM_p11, oM_g12, oM_p12, oM_g13, oM_p13, oM_g14, oM_p14, oM_g15, oM_p15, oM_g16, oM_p16, oM_g17, oM_p17, oM_g18, oM_p18, oM_g19, oM_p19, oM_g20, oM_p20, oM_g21, oM_p21, oM_g22, oM_p22, oM_g23, oM_p23, oM_g24, oM_p24, oM_g25, oM_p25, oM_g26, oM_p26, oM_g27, oM_p27, oM_g28, oM_p28, oM_g29, oM_p29, within_eq, ey, bt c1, ew, bf c2, if_false, if_true]
  · rw [if_neg (fun q => c1 q.1)]
    refine ⟨h, fun Q => ?_, hJ, FR.rfl' h⟩
    simp only [m20_0, m20_1, m20_2, m20_5, m20_8, m20_11, m20_12, m20_13, m20_14, m20_17, m20_20, m20_21, m20_22, m20_23, m20_26, m20_27, m20_30, m20_33, m20_34, m20_36, m20_37, m20_40, m20_43, m20_46, m20_47, m20_50, m20_53, m20_54, m20_55, m20_56, m20_59, m20_60, m20_63, m20_66, m20_67, m20_70, m20_71, m20_74, m20_76, m20_79, m20_80, m20_83, m20_84, m20_87, m20_90, m20_93, m20_94, m20_97, m20_100, m20_103, ob_some, pushr_s, pushr_n, iget_eq, gf_eq, pf_eq, ck_eq, alen_eq, rget_eq, iset_eq, Option.bind_some, Option.map_some, Option.elim_some, hput_at, ↓reduceIte, Nat.reduceEqDiff, Nat.reduceAdd, ne_eq, not_false_eq_true, oS_ck, oS_g0, oS_p0, oS_g1, oS_p1, oS_g2, oS_p2, oS_g3, oS_p3, oS_g4, oS_p4, oS_g5, oS_p5, oS_g6, oS_p6, oP_ck, oP_g0, oP_p0, oP_g1, oP_p1, oP_g2, oP_p2, oP_g3, oP_p3, oP_g4, oP_p4, oP_g5, oP_p5, oP_g6, oP_p6, oP_g7, oP_p7, oP_g8, oP_p8, oP_g9, oP_p9, oP_g10, oP_p10, oP_g11, oP_p11, oP_g12, oP_p12, oR_ck, oR_g0, oR_p0, oR_g1, oR_p1, oR_g2, oR_p2, oR_g3, oR_p3, oG_ck, oG_g0, oG_p0, oG_g1, oG_p1, oG_g2, oG_p2, oW_ck, oW_g0, oW_p0, oW_g1, oW_p1, oW_g2, oW_p2, oB_ck, oB_g0, oB_p0, oB_g1, oB_p1, oB_g2, oB_p2, oB_g3, oB_p3, oB_g4, oB_p4, oB_g5, oB_p5, oB_g6, oB_p6, oC_ck, oC_g0, oC_p0, oC_g1, oC_p1, oC_g2, oC_p2, oC_g3, oC_p3, oC_g4, oC_p4, oC_g5, oC_p5, oC_g6, oC_p6, oH_ck, oH_g0, oH_p0, oH_g1, oH_p1, oH_g2, oH_p2, oH_g3, oH_p3, oM_ck, oM_g0, oM_p0, oM_g1, oM_p1, oM_g2, oM_p2, oM_g3, oM_p3, oM_g4, oM_p4, oM_g5, oM_p5, oM_g6, oM_p6, oM_g7, oM_p7, oM_g8, oM_p8, oM_g9, oM_p9, oM_g10, oM_p10, oM_g11, oM_p11, oM_g12, oM_p12, oM_g13, oM_p13, oM_g14, oM_p14, oM_g15, oM_p15, oM_g16, oM_p16, oM_g17, oM_p17, oM_g18, oM_p18, oM_g19, oM_p19, oM_g20, oM_p20, oM_g21, oM_p21, oM_g22, oM_p22, oM_g23, oM_p23, oM_g24, oM_p24, oM_g25, oM_p25, oM_g26, oM_p26, oM_g27, oM_p27, oM_g28, oM_p28, oM_g29, oM_p29, within_eq, ey, bf c1, if_true]
-- the reference: weights drawn, kept in was
def yrA (A : Nat → Nat → Nat) (y k : Nat) : Nat → Nat → Nat := fup (fup A 13 (fun i => if i < k then drW y i else A 13 i)) 21 (fun i => if i < k then A 13 i else A 21 i)
theorem yrA_step (A : Nat → Nat → Nat) (y k : Nat) : fup (fup (yrA A y k) 21 (fup (yrA A y k 21) k (yrA A y k 13 k))) 13 (fup (yrA A y k 13) k (drW y k)) = yrA A y (k + 1) := by
  have e13 : yrA A y k 13 = (fun i => if i < k then drW y i else A 13 i) := rfl
  have e21 : yrA A y k 21 = (fun i => if i < k then A 13 i else A 21 i) := rfl
  funext r
  by_cases c : r = 13
  · subst c
    rw [fup_self, e13]
    show _ = (fun i => if i < k + 1 then drW y i else A 13 i)
    funext i
    rw [fup_at]
    by_cases q : i = k
    · rw [if_pos q, if_pos (by omega), q]
    · rw [if_neg q]
      show (if i < k then _ else _) = _
      by_cases q2 : i < k
      · rw [if_pos q2, if_pos (by omega)]
      · rw [if_neg q2, if_neg (by omega)]
  · rw [fup_ne _ _ c]
    by_cases c2 : r = 21
    · subst c2
      rw [fup_self, e21, e13]
      show _ = (fun i => if i < k + 1 then A 13 i else A 21 i)
      funext i
      rw [fup_at]
      by_cases q : i = k
      · rw [if_pos q, if_pos (by omega), q]
        exact if_neg (by omega)
      · rw [if_neg q]
        show (if i < k then _ else _) = _
        by_cases q2 : i < k
        · rw [if_pos q2, if_pos (by omega)]
        · rw [if_neg q2, if_neg (by omega)]
    · rw [fup_ne _ _ c2]
      unfold yrA
      rw [fup_ne _ _ c2, fup_ne _ _ c, fup_ne _ _ c2, fup_ne _ _ c]
theorem myear_draw {h : Hp} {S : Nat → Int32} {A : Nat → Nat → Nat} {W : Mw} (hA : A 6 0 ≤ 6) {y : Nat} (hy : y ≤ 9999) (w : Int32) (z : Zc) (Q : Option Value → Zc → Hp → Prop) (T : Prop)
    (hT : ∀ x4 x5, Ev 77 (93, [some (.ref 78), some (.int (nI y)), some (.int w), some (.int (nI (A 6 0))), x4, x5], [], z, mset h S (yrA A y (A 6 0)) W) Q = T) :
    ∀ n k x4 x5, n + k = A 6 0 → Ev 77 (26, [some (.ref 78), some (.int (nI y)), some (.int w), some (.int (nI k)), x4, x5], [], z, mset h S (yrA A y k) W) Q = T := by
  have y6 : ∀ k, yrA A y k 6 = A 6 := fun k => rfl
  have a0 := igE_AI (n := 2) (j := 0) (A 6) (by decide) (by decide)
  intro n
  induction n with
  | zero =>
    intro k x4 x5 hk
    have ek : k = A 6 0 := by omega
    subst ek
    rw [m77_26, ← hT x4 x5]
    simp only [m77_27, m77_28, m77_31, m77_32, m77_33, ob_some, pushr_s, pushr_n, iget_eq, gf_eq, pf_eq, ck_eq, alen_eq, rget_eq, iset_eq, Option.bind_some, Option.map_some, Option.elim_some, hput_at, ↓reduceIte, Nat.reduceEqDiff, Nat.reduceAdd, ne_eq, not_false_eq_true, oS_ck, oS_g0, oS_p0, oS_g1, oS_p1, oS_g2, oS_p2, oS_g3, oS_p3, oS_g4, oS_p4, oS_g5, oS_p5, oS_g6, oS_p6, oP_ck, oP_g0, oP_p0, oP_g1, oP_p1, oP_g2, oP_p2, oP_g3, oP_p3, oP_g4, oP_p4, oP_g5, oP_p5, oP_g6, oP_p6, oP_g7, oP_p7, oP_g8, oP_p8, oP_g9, oP_p9, oP_g10, oP_p10, oP_g11, oP_p11, oP_g12, oP_p12, oR_ck, oR_g0, oR_p0, oR_g1, oR_p1, oR_g2, oR_p2, oR_g3, oR_p3, oG_ck, oG_g0, oG_p0, oG_g1, oG_p1, oG_g2, oG_p2, oW_ck, oW_g0, oW_p0, oW_g1, oW_p1, oW_g2, oW_p2, oB_ck, oB_g0, oB_p0, oB_g1, oB_p1, oB_g2, oB_p2, oB_g3, oB_p3, oB_g4, oB_p4, oB_g5, oB_p5, oB_g6, oB_p6, oC_ck, oC_g0, oC_p0, oC_g1, oC_p1, oC_g2, oC_p2, oC_g3, oC_p3, oC_g4, oC_p4, oC_g5, oC_p5, oC_g6, oC_p6, oH_ck, oH_g0, oH_p0, oH_g1, oH_p1, oH_g2, oH_p2, oH_g3, oH_p3, oM_ck, oM_g0, oM_p0, oM_g1, oM_p1, oM_g2, oM_p2, oM_g3, oM_p3, oM_g4, oM_p4, oM_g5, oM_p5, oM_g6, oM_p6, oM_g7, oM_p7, oM_g8, oM_p8, oM_g9, oM_p9, oM_g10, oM_p10, oM_g11, oM_p11, oM_g12, oM_p12, oM_g13, oM_p13, oM_g14, oM_p14, oM_g15, oM_p15, oM_g16, oM_p16, oM_g17, oM_p17, oM_g18, oM_p18, oM_g19, oM_p19, oM_g20, oM_p20, oM_g21, oM_p21, oM_g22, oM_p22, oM_g23, oM_p23, oM_g24, oM_p24, oM_g25, oM_p25, oM_g26, oM_p26, oM_g27, oM_p27, oM_g28, oM_p28, oM_g29, oM_p29, mv0, mv1, mv2, mv3, mv4, mv5, mv6, mset_o, mset_po, mset_k1, mset_r1, mset_k2, mset_r2, mset_k3, mset_r3, mset_k4, mset_r4, mset_k5, mset_r5, mset_k6, mset_r6, mset_k7, mset_r7, mset_k8, mset_r8, mset_k9, mset_r9, mset_k10, mset_r10, mset_k11, mset_r11, mset_k12, mset_r12, mset_k13, mset_r13, mset_k14, mset_r14, mset_k15, mset_r15, mset_k16, mset_r16, mset_k17, mset_r17, mset_k18, mset_r18, mset_k19, mset_r19, mset_k20, mset_r20, mset_k21, mset_r21, mset_k22, mset_r22, mset_k23, mset_r23, y6, a0, nlt (a := A 6 0) (b := A 6 0) (by omega) (by omega), Nat.lt_irrefl, if_false]
  | succ n ih =>
    intro k x4 x5 hk
    have hlt : k < A 6 0 := by omega
    have h2 := drX_sq hy (i := k) (by omega)
    have e1 : jN (7919 * y + 6151 * k + 1) = jN (drX y k) := rfl
    have r1 := jN_rem (a := drX y k * drX y k) (b := 65521) h2 (by decide) (by decide)
    have r2 := jN_rem (a := drX y k * drX y k % 65521) (b := 20) (by omega) (by decide) (by decide)
    have l2 := jN_l2i (n := drX y k * drX y k % 65521 % 20) (by omega)
    have e2 : nI (drX y k * drX y k % 65521 % 20 + 1) = nI (drW y k) := rfl
    have d1 : ¬ jN 65521 = 0 := by decide
    have d2 : ¬ jN 20 = 0 := by decide
    have a1 := igE_AI (n := 24) (j := k) (yrA A y k 13) (by omega) (by decide)
    have a2 := isE_AI (n := 6) (j := k) (yrA A y k 21) (yrA A y k 13 k) (by omega) (by decide)
    have a3 := isE_AI (n := 24) (j := k) (yrA A y k 13) (drW y k) (by omega) (by decide)
    have f13 : ∀ f, fup (yrA A y k) 21 f 13 = yrA A y k 13 := fun f => rfl
    rw [m77_26]
    simp only [m77_27, m77_28, m77_31, m77_32, m77_33, m77_36, m77_39, m77_40, m77_41, m77_42, m77_45, m77_46, m77_47, m77_48, m77_49, m77_50, m77_51, m77_53, m77_54, m77_57, m77_58, m77_59, m77_62, m77_63, m77_64, m77_65, m77_66, m77_69, m77_70, m77_72, m77_74, m77_75, m77_78, m77_79, m77_82, m77_83, m77_84, m77_85, m77_86, m77_87, m77_90, d1, d2, J7919, J6151, J1, J65521, J20, jN_i2l (n := y) (by omega), jN_i2l (n := k) (by omega), jN_mul, jN_add, e1, r1, r2, l2, e2, ob_some, pushr_s, pushr_n, iget_eq, gf_eq, pf_eq, ck_eq, alen_eq, rget_eq, iset_eq, Option.bind_some, Option.map_some, Option.elim_some, hput_at, ↓reduceIte, Nat.reduceEqDiff, Nat.reduceAdd, ne_eq, not_false_eq_true, oS_ck, oS_g0, oS_p0, oS_g1, oS_p1, oS_g2, oS_p2, oS_g3, oS_p3, oS_g4, oS_p4, oS_g5, oS_p5, oS_g6, oS_p6, oP_ck, oP_g0, oP_p0, oP_g1, oP_p1, oP_g2, oP_p2, oP_g3, oP_p3, oP_g4, oP_p4, oP_g5, oP_p5, oP_g6, oP_p6, oP_g7, oP_p7, oP_g8, oP_p8, oP_g9, oP_p9, oP_g10, oP_p10, oP_g11, oP_p11, oP_g12, oP_p12, oR_ck, oR_g0, oR_p0, oR_g1, oR_p1, oR_g2, oR_p2, oR_g3, oR_p3, oG_ck, oG_g0, oG_p0, oG_g1, oG_p1, oG_g2, oG_p2, oW_ck, oW_g0, oW_p0, oW_g1, oW_p1, oW_g2, oW_p2, oB_ck, oB_g0, oB_p0, oB_g1, oB_p1, oB_g2, oB_p2, oB_g3, oB_p3, oB_g4, oB_p4, oB_g5, oB_p5, oB_g6, oB_p6, oC_ck, oC_g0, oC_p0, oC_g1, oC_p1, oC_g2, oC_p2, oC_g3, oC_p3, oC_g4, oC_p4, oC_g5, oC_p5, oC_g6, oC_p6, oH_ck, oH_g0, oH_p0, oH_g1, oH_p1, oH_g2, oH_p2, oH_g3, oH_p3, oM_ck, oM_g0, oM_p0, oM_g1, oM_p1, oM_g2, oM_p2, oM_g3, oM_p3, oM_g4, oM_p4, oM_g5, oM_p5, oM_g6, oM_p6, oM_g7, oM_p7, oM_g8, oM_p8, oM_g9, oM_p9, oM_g10, oM_p10, oM_g11, oM_p11, oM_g12, oM_p12, oM_g13, oM_p13, oM_g14, oM_p14, oM_g15, oM_p15, oM_g16, oM_p16, oM_g17, oM_p17, oM_g18, oM_p18, oM_g19, oM_p19, oM_g20, oM_p20, oM_g21, oM_p21, oM_g22, oM_p22, oM_g23, oM_p23, oM_g24, oM_p24, oM_g25, oM_p25, oM_g26, oM_p26, oM_g27, oM_p27, oM_g28, oM_p28, oM_g29, oM_p29, mv0, mv1, mv2, mv3, mv4, mv5, mv6, mset_o, mset_po, mset_k1, mset_r1, mset_k2, mset_r2, mset_k3, mset_r3, mset_k4, mset_r4, mset_k5, mset_r5, mset_k6, mset_r6, mset_k7, mset_r7, mset_k8, mset_r8, mset_k9, mset_r9, mset_k10, mset_r10, mset_k11, mset_r11, mset_k12, mset_r12, mset_k13, mset_r13, mset_k14, mset_r14, mset_k15, mset_r15, mset_k16, mset_r16, mset_k17, mset_r17, mset_k18, mset_r18, mset_k19, mset_r19, mset_k20, mset_r20, mset_k21, mset_r21, mset_k22, mset_r22, mset_k23, mset_r23, y6, a0, a1, a2, f13, a3, nlt (a := k) (b := A 6 0) (by omega) (by omega), hlt, if_true, nI_add, yrA_step]
    exact ih (k + 1) _ _ (by omega)
