/-! the class: the best order sought -/
theorem ahW_ok {P : Pl} (hV : Valid P) {a : Nat → Nat} (ha : ∀ j, j < P 0 1 → 1 ≤ a j ∧ a j ≤ 20) : ∀ k, k ≤ P 0 1 → WB (P 8) (ahW P a k).1 ∧ (ahW P a k).2 ≤ 20 * k
  | 0, _ => ⟨fun c hc => ⟨Nat.le_refl _, hV.2.2.2.2.2.2.1 c hc⟩, Nat.le_refl _⟩
  | k + 1, hk => by
    obtain ⟨i1, i2⟩ := ahW_ok hV ha k (by omega)
    have := (ha k (by omega)).2
    have h1 := strikeS_ru P (ahW P a k) (thK P k) (a k)
    rw [ahW]
    exact ⟨WB.mendedN _ _ (i1.less (fun c => strikeS_le _ _ _ _ _)), Nat.le_trans (mendN_ru _ _ _) (by omega)⟩
section BEST
variable {h : Hp} {P : Pl} {a : Nat → Nat}
/-- the rows as the search has them: thrown, tried -/
def RwO (P : Pl) (a : Nat → Nat) (S : Nat → Int32) (A : Nat → Nat → Nat) : Prop := S 2 = nI (P 0 1) ∧ (∀ k, k < P 0 1 → A 2 k = thK P k) ∧ ∀ k, k < P 0 1 → A 3 k = a k
theorem strike_ahead (hP : PlanC h 15 P) (hV : Valid P) (ha : ∀ j, j < P 0 1 → 1 ≤ a j ∧ a j ≤ 20) (z : Zc) {V : Wv} {S : Nat → Int32} {A : Nat → Nat → Nat} {k : Nat} (hk : k < P 0 1) (hR : RwO P a S A) (hv : V k = (P 8, ahW P a k)) (Q : Option Value → Zc → Hp → Prop) :
    Ev 91 (0, [some (.ref 39), some (.ref 15), some (.int (nI k)), none], [], z, bw h V S A) Q = Ev 91 (40, [some (.ref 39), some (.ref 15), some (.int (nI k)), some (.ref (44 + 3 * (k + 1)))], [.int (cN4 (opF (skW P a k).1 10))], z, bw h (fup V (k + 1) (P 8, skW P a k)) S A) Q := by
  obtain ⟨r1, r2, r3⟩ := hR
  have v1 := hV.2.1
  obtain ⟨u1, u2⟩ := ahW_ok hV ha k (by omega)
  obtain ⟨w1, w2⟩ := ha k hk
  have hth := thK_lt hV hk
  have c0 := bw_C h V S A (k := k) (by omega)
  have c1 := bw_C h V S A (k := k + 1) (by omega)
  rw [hv] at c0
  have hcp := fun Q => wcopy_eq c1 c0 (by omega) z Q
  rw [bw_w h V S A (k := k + 1) (by omega)] at hcp
  have hV1 : ∀ W, fup V (k + 1) W (k + 1) = W := fun W => fup_self _ _ _
  have c2 := bw_C h (fup V (k + 1) (P 8, ahW P a k)) S A (k := k + 1) (by omega)
  rw [hV1] at c2
  have hst := fun Q => strike_eq (bw_P hP (fup V (k + 1) (P 8, ahW P a k)) S A) hV c2 (by omega) hth w2 w1 (fun c hc => by have := u1 c hc; dsimp only; omega) (by dsimp only; omega) z Q
  rw [bw_w h _ S A (k := k + 1) (by omega), fup_fup] at hst
  have e1 : strikeS P ((ahW P a k).1, (ahW P a k).2) (thK P k) (a k) = skW P a k := rfl
  have e2 : ((P 8, (skW P a k).1, (skW P a k).2) : (Nat → Nat) × Wl) = (P 8, skW P a k) := rfl
  dsimp only at hst
  rw [e1, e2] at hst
  have c3 := bw_C h (fup V (k + 1) (P 8, skW P a k)) S A (k := k + 1) (by omega)
  rw [hV1] at c3
  have hop := fun Q => opened_eq c3 (fun c hc => by
    have := u1 c hc
    have h2 : (skW P a k).1 c ≤ (ahW P a k).1 c := strikeS_le _ _ _ _ _
    dsimp only
    omega) z Q
  dsimp only at hop
  have e3 : ((P 8, (ahW P a k).1, (ahW P a k).2) : (Nat → Nat) × Wl) = (P 8, ahW P a k) := rfl
  dsimp only at hcp
  rw [e3] at hcp
  have b0 := rgE_b4 (k := k) (by omega)
  have b1 := rgE_b4 (k := k + 1) (by omega)
  have g2 := igE_AI (n := 6) (j := k) (A 2) (by omega) (by decide)
  have g3 := igE_AI (n := 6) (j := k) (A 3) (by omega) (by decide)
  rw [r2 k hk] at g2
  rw [r3 k hk] at g3
  have k1 := c1.2.1
  have k2 := c2.2.1
  have k3 := c3.2.1
  have kp := fun V => (bw_P hP V S A).2.1
  simp only [m91_0, m91_1, m91_4, m91_5, m91_6, m91_7, m91_8, m91_9, m91_10, m91_11, m91_14, m91_15, m91_16, m91_19, m91_20, m91_21, m91_22, m91_25, m91_26, m91_27, m91_28, m91_31, m91_32, m91_33, m91_36, m91_37, ob_some, pushr_s, pushr_n, iget_eq, gf_eq, pf_eq, ck_eq, alen_eq, rget_eq, iset_eq, Option.bind_some, Option.map_some, Option.elim_some, hput_at, ↓reduceIte, Nat.reduceEqDiff, Nat.reduceAdd, ne_eq, not_false_eq_true, oS_ck, oS_g0, oS_p0, oS_g1, oS_p1, oS_g2, oS_p2, oS_g3, oS_p3, oS_g4, oS_p4, oS_g5, oS_p5, oS_g6, oS_p6, oP_ck, oP_g0, oP_p0, oP_g1, oP_p1, oP_g2, oP_p2, oP_g3, oP_p3, oP_g4, oP_p4, oP_g5, oP_p5, oP_g6, oP_p6, oP_g7, oP_p7, oP_g8, oP_p8, oP_g9, oP_p9, oP_g10, oP_p10, oP_g11, oP_p11, oP_g12, oP_p12, oR_ck, oR_g0, oR_p0, oR_g1, oR_p1, oR_g2, oR_p2, oR_g3, oR_p3, oG_ck, oG_g0, oG_p0, oG_g1, oG_p1, oG_g2, oG_p2, oW_ck, oW_g0, oW_p0, oW_g1, oW_p1, oW_g2, oW_p2, oB_ck, oB_g0, oB_p0, oB_g1, oB_p1, oB_g2, oB_p2, oB_g3, oB_p3, oB_g4, oB_p4, oB_g5, oB_p5, oB_g6, oB_p6, oC_ck, oC_g0, oC_p0, oC_g1, oC_p1, oC_g2, oC_p2, oC_g3, oC_p3, oC_g4, oC_p4, oC_g5, oC_p5, oC_g6, oC_p6, oH_ck, oH_g0, oH_p0, oH_g1, oH_p1, oH_g2, oH_p2, oH_g3, oH_p3, oM_ck, oM_g0, oM_p0, oM_g1, oM_p1, oM_g2, oM_p2, oM_g3, oM_p3, oM_g4, oM_p4, oM_g5, oM_p5, oM_g6, oM_p6, oM_g7, oM_p7, oM_g8, oM_p8, oM_g9, oM_p9, oM_g10, oM_p10, oM_g11, oM_p11, oM_g12, oM_p12, oM_g13, oM_p13, oM_g14, oM_p14, oM_g15, oM_p15, oM_g16, oM_p16, oM_g17, oM_p17, oM_g18, oM_p18, oM_g19, oM_p19, oM_g20, oM_p20, oM_g21, oM_p21, oM_g22, oM_p22, oM_g23, oM_p23, oM_g24, oM_p24, oM_g25, oM_p25, oM_g26, oM_p26, oM_g27, oM_p27, oM_g28, oM_p28, oM_g29, oM_p29, zget_eq, zset_eq, jget_eq, jset_eq, hcpy_eq, bv0, bv1, bv2, bw_o, bw_po, bw_k1, bw_k2, bw_k3, bw_k4, bw_r1, bw_r2, bw_r3, nI_add, b0, b1, k1, hcp, g2, g3, kp, hst, k3, hop]
theorem breaches_t (hP : PlanC h 15 P) (hV : Valid P) (ha : ∀ j, j < P 0 1 → 1 ≤ a j ∧ a j ≤ 20) (z : Zc) {V : Wv} {S : Nat → Int32} {A : Nat → Nat → Nat} {k : Nat} (hk : k < P 0 1) (hR : RwO P a S A) (hv : V k = (P 8, ahW P a k)) (ho : okB P a k = true) (Q : Option Value → Zc → Hp → Prop) :
    Ev 91 (0, [some (.ref 39), some (.ref 15), some (.int (nI k)), none], [], z, bw h V S A) Q = Q (some (.int (nI 1))) z (bw h (fup V (k + 1) (P 8, skW P a k)) S A) := by
  rw [strike_ahead hP hV ha z hk hR hv]
  have ho' := (okB_iff _ _ _).mp ho
  have l1 := cN4_ne (c := opF (skW P a k).1 10) (by
    rcases opF_le (skW P a k).1 10 (Nat.le_refl _) with e | e
    · exact absurd e ho'
    · exact e)
  simp only [m91_40, m91_42, m91_45, m91_46_1, l1, if_false]
theorem breaches_f (hP : PlanC h 15 P) (hV : Valid P) (ha : ∀ j, j < P 0 1 → 1 ≤ a j ∧ a j ≤ 20) (z : Zc) {V : Wv} {S : Nat → Int32} {A : Nat → Nat → Nat} {k : Nat} (hk : k < P 0 1) (hR : RwO P a S A) (hv : V k = (P 8, ahW P a k)) (ho : okB P a k = false) : ∃ W, (k + 1 < P 0 1 → W = (P 8, ahW P a (k + 1))) ∧ ∀ (Q : Option Value → Zc → Hp → Prop),
    Ev 91 (0, [some (.ref 39), some (.ref 15), some (.int (nI k)), none], [], z, bw h V S A) Q = Q (some (.int (nI 0))) z (bw h (fup V (k + 1) W) S A) := by
  have ho' : opF (skW P a k).1 10 = 10 := Classical.byContradiction (fun q => by
    rw [(okB_iff _ _ _).mpr q] at ho
    cases ho)
  have v1 := hV.2.1
  have v2 := hV.2.2.1
  have hst := fun Q => strike_ahead hP hV ha z hk hR hv Q
  rw [ho', cN4_10] at hst
  have l4 : ((-4 : Int32) = -4) = True := eq_true rfl
  obtain ⟨r1, r2, r3⟩ := hR
  by_cases c : k + 1 < P 0 1
  · obtain ⟨u1, u2⟩ := ahW_ok hV ha k (by omega)
    obtain ⟨w1, w2⟩ := ha k hk
    have hru := strikeS_ru P (ahW P a k) (thK P k) (a k)
    have c3 := bw_C h (fup V (k + 1) (P 8, skW P a k)) S A (k := k + 1) (by omega)
    have hV1 : fup V (k + 1) (P 8, skW P a k) (k + 1) = (P 8, skW P a k) := fup_self _ _ _
    rw [hV1] at c3
    have hd1 := dyK_pos hV k hk
    have hd2 := dyK_pos hV (k + 1) c
    have hmul : P 0 2 * (dyK P (k + 1) - dyK P k) ≤ 9 * 30 := Nat.mul_le_mul v2 (by omega)
    have hwb : WB (P 8) (skW P a k).1 := u1.less (fun c => strikeS_le _ _ _ _ _)
    have hm := fun Q => mend_eq c3 hwb (t := P 0 2 * (dyK P (k + 1) - dyK P k)) (by omega) (by
      show (skW P a k).2 < _
      unfold skW
      omega) z Q
    rw [bw_w h _ S A (k := k + 1) (by omega), fup_fup] at hm
    dsimp only at hm
    have e1 : ((P 8, (mendN (P 8) (P 0 2 * (dyK P (k + 1) - dyK P k)) ((skW P a k).1, (skW P a k).2)).1, (mendN (P 8) (P 0 2 * (dyK P (k + 1) - dyK P k)) ((skW P a k).1, (skW P a k).2)).2) : (Nat → Nat) × Wl) = (P 8, ahW P a (k + 1)) := rfl
    rw [e1] at hm
    refine ⟨(P 8, ahW P a (k + 1)), fun _ => rfl, fun Q => ?_⟩
    have hth := thK_lt hV hk
    have hth2 := thK_lt hV c
    have g2 := igE_AI (n := 6) (j := k) (A 2) (by omega) (by decide)
    have g2' := igE_AI (n := 6) (j := k + 1) (A 2) (by omega) (by decide)
    rw [r2 k hk] at g2
    rw [r2 (k + 1) c] at g2'
    have g6 := igE_AI (n := 6) (j := thK P k) (P 6) (by omega) (by decide)
    have g6' := igE_AI (n := 6) (j := thK P (k + 1)) (P 6) (by omega) (by decide)
    have e6 : P 6 (thK P k) = dyK P k := rfl
    have e6' : P 6 (thK P (k + 1)) = dyK P (k + 1) := rfl
    rw [e6] at g6
    rw [e6'] at g6'
    have hmo := dyK_mono hV k (k + 1) (Nat.lt_succ_self k) c
    have es : nI (dyK P (k + 1)) - nI (dyK P k) = nI (dyK P (k + 1) - dyK P k) := pk_sub hmo
    have kp := (bw_P hP (fup V (k + 1) (P 8, skW P a k)) S A).2.1
    have kp6 := (bw_P hP (fup V (k + 1) (P 8, skW P a k)) S A).2.2.2.2.2.2.2.1
    have k3 := c3.2.1
    rw [hst]
    simp only [m91_40, m91_42, m91_47, m91_48, m91_49, m91_50, m91_51, m91_54, m91_57, m91_58, m91_59, m91_62, m91_63, m91_66, m91_67, m91_70, m91_71, m91_72, m91_73, m91_74, m91_75, m91_76, m91_79, m91_80, m91_83, m91_84, m91_85, m91_86, m91_87, m91_88, m91_91, m91_92_0, ob_some, pushr_s, pushr_n, iget_eq, gf_eq, pf_eq, ck_eq, alen_eq, rget_eq, iset_eq, Option.bind_some, Option.map_some, Option.elim_some, hput_at, ↓reduceIte, Nat.reduceEqDiff, Nat.reduceAdd, ne_eq, not_false_eq_true, oS_ck, oS_g0, oS_p0, oS_g1, oS_p1, oS_g2, oS_p2, oS_g3, oS_p3, oS_g4, oS_p4, oS_g5, oS_p5, oS_g6, oS_p6, oP_ck, oP_g0, oP_p0, oP_g1, oP_p1, oP_g2, oP_p2, oP_g3, oP_p3, oP_g4, oP_p4, oP_g5, oP_p5, oP_g6, oP_p6, oP_g7, oP_p7, oP_g8, oP_p8, oP_g9, oP_p9, oP_g10, oP_p10, oP_g11, oP_p11, oP_g12, oP_p12, oR_ck, oR_g0, oR_p0, oR_g1, oR_p1, oR_g2, oR_p2, oR_g3, oR_p3, oG_ck, oG_g0, oG_p0, oG_g1, oG_p1, oG_g2, oG_p2, oW_ck, oW_g0, oW_p0, oW_g1, oW_p1, oW_g2, oW_p2, oB_ck, oB_g0, oB_p0, oB_g1, oB_p1, oB_g2, oB_p2, oB_g3, oB_p3, oB_g4, oB_p4, oB_g5, oB_p5, oB_g6, oB_p6, oC_ck, oC_g0, oC_p0, oC_g1, oC_p1, oC_g2, oC_p2, oC_g3, oC_p3, oC_g4, oC_p4, oC_g5, oC_p5, oC_g6, oC_p6, oH_ck, oH_g0, oH_p0, oH_g1, oH_p1, oH_g2, oH_p2, oH_g3, oH_p3, oM_ck, oM_g0, oM_p0, oM_g1, oM_p1, oM_g2, oM_p2, oM_g3, oM_p3, oM_g4, oM_p4, oM_g5, oM_p5, oM_g6, oM_p6, oM_g7, oM_p7, oM_g8, oM_p8, oM_g9, oM_p9, oM_g10, oM_p10, oM_g11, oM_p11, oM_g12, oM_p12, oM_g13, oM_p13, oM_g14, oM_p14, oM_g15, oM_p15, oM_g16, oM_p16, oM_g17, oM_p17, oM_g18, oM_p18, oM_g19, oM_p19, oM_g20, oM_p20, oM_g21, oM_p21, oM_g22, oM_p22, oM_g23, oM_p23, oM_g24, oM_p24, oM_g25, oM_p25, oM_g26, oM_p26, oM_g27, oM_p27, oM_g28, oM_p28, oM_g29, oM_p29, bv0, bv1, bv2, bw_o, bw_po, bw_k1, bw_k2, bw_k3, bw_k4, bw_r1, bw_r2, bw_r3, l4, if_true, r1, nI_add, nlt (a := k + 1) (b := P 0 1) (by omega) (by omega), c, kp, kp6, g2, g2', g6, g6', es, pk_mul, k3, hm]
  · refine ⟨(P 8, skW P a k), fun q => absurd q c, fun Q => ?_⟩
    rw [hst]
    simp only [m91_40, m91_42, m91_47, m91_48, m91_49, m91_50, m91_51, m91_54, m91_91, m91_92_0, ob_some, pushr_s, pushr_n, iget_eq, gf_eq, pf_eq, ck_eq, alen_eq, rget_eq, iset_eq, Option.bind_some, Option.map_some, Option.elim_some, hput_at, ↓reduceIte, Nat.reduceEqDiff, Nat.reduceAdd, ne_eq, not_false_eq_true, oS_ck, oS_g0, oS_p0, oS_g1, oS_p1, oS_g2, oS_p2, oS_g3, oS_p3, oS_g4, oS_p4, oS_g5, oS_p5, oS_g6, oS_p6, oP_ck, oP_g0, oP_p0, oP_g1, oP_p1, oP_g2, oP_p2, oP_g3, oP_p3, oP_g4, oP_p4, oP_g5, oP_p5, oP_g6, oP_p6, oP_g7, oP_p7, oP_g8, oP_p8, oP_g9, oP_p9, oP_g10, oP_p10, oP_g11, oP_p11, oP_g12, oP_p12, oR_ck, oR_g0, oR_p0, oR_g1, oR_p1, oR_g2, oR_p2, oR_g3, oR_p3, oG_ck, oG_g0, oG_p0, oG_g1, oG_p1, oG_g2, oG_p2, oW_ck, oW_g0, oW_p0, oW_g1, oW_p1, oW_g2, oW_p2, oB_ck, oB_g0, oB_p0, oB_g1, oB_p1, oB_g2, oB_p2, oB_g3, oB_p3, oB_g4, oB_p4, oB_g5, oB_p5, oB_g6, oB_p6, oC_ck, oC_g0, oC_p0, oC_g1, oC_p1, oC_g2, oC_p2, oC_g3, oC_p3, oC_g4, oC_p4, oC_g5, oC_p5, oC_g6, oC_p6, oH_ck, oH_g0, oH_p0, oH_g1, oH_p1, oH_g2, oH_p2, oH_g3, oH_p3, oM_ck, oM_g0, oM_p0, oM_g1, oM_p1, oM_g2, oM_p2, oM_g3, oM_p3, oM_g4, oM_p4, oM_g5, oM_p5, oM_g6, oM_p6, oM_g7, oM_p7, oM_g8, oM_p8, oM_g9, oM_p9, oM_g10, oM_p10, oM_g11, oM_p11, oM_g12, oM_p12, oM_g13, oM_p13, oM_g14, oM_p14, oM_g15, oM_p15, oM_g16, oM_p16, oM_g17, oM_p17, oM_g18, oM_p18, oM_g19, oM_p19, oM_g20, oM_p20, oM_g21, oM_p21, oM_g22, oM_p22, oM_g23, oM_p23, oM_g24, oM_p24, oM_g25, oM_p25, oM_g26, oM_p26, oM_g27, oM_p27, oM_g28, oM_p28, oM_g29, oM_p29, bv0, bv1, bv2, bw_o, bw_po, bw_k1, bw_k2, bw_k3, bw_k4, bw_r1, bw_r2, bw_r3, l4, if_true, r1, nI_add, nlt (a := k + 1) (b := P 0 1) (by omega) (by omega), c, if_false]
theorem tryFrom_loop (hP : PlanC h 15 P) (hV : Valid P) (ha : ∀ j, j < P 0 1 → 1 ≤ a j ∧ a j ≤ 20) (z : Zc) {S : Nat → Int32} {A : Nat → Nat → Nat} {day : Nat} (hday : day ≤ 30) (hS1 : S 1 = dN day) (hR : RwO P a S A) : ∀ r, r ≤ P 0 1 → ∀ (V : Wv) l4, (∀ j, j ≤ P 0 1 - r → j < P 0 1 → V j = (P 8, ahW P a j)) →
    ∃ V2, (∀ j, j < (tryF (okB P a) (dyK P) day (P 0 1) r).1 → V2 j = (P 8, ahW P a j)) ∧ ∀ (Q : Option Value → Zc → Hp → Prop), Ev 90 (6, [some (.ref 39), some (.ref 15), none, some (.int (nI (P 0 1 - r))), l4], [], z, bw h V S A) Q = Q (some (.int (nI (tryF (okB P a) (dyK P) day (P 0 1) r).1))) z (if (tryF (okB P a) (dyK P) day (P 0 1) r).2 = 0 then bw h V2 S A else bw h V2 (bv (S 0) (nI (tryF (okB P a) (dyK P) day (P 0 1) r).2) (S 2)) (fup A 1 (A 3))) := by
  have v1 := hV.2.1
  intro r
  induction r with
  | zero =>
    intro hr V l4 hv
    refine ⟨V, fun j hj => ?_, fun Q => ?_⟩
    · rw [tryF] at hj
      exact hv j (by dsimp only at hj; omega) (by dsimp only at hj; omega)
    · rw [tryF, Nat.sub_zero, m90_6, if_pos rfl]
      have r1 := hR.1
      simp only [m90_7, m90_8, m90_11, m90_72, m90_73, m90_76, ob_some, pushr_s, pushr_n, iget_eq, gf_eq, pf_eq, ck_eq, alen_eq, rget_eq, iset_eq, Option.bind_some, Option.map_some, Option.elim_some, hput_at, ↓reduceIte, Nat.reduceEqDiff, Nat.reduceAdd, ne_eq, not_false_eq_true, oS_ck, oS_g0, oS_p0, oS_g1, oS_p1, oS_g2, oS_p2, oS_g3, oS_p3, oS_g4, oS_p4, oS_g5, oS_p5, oS_g6, oS_p6, oP_ck, oP_g0, oP_p0, oP_g1, oP_p1, oP_g2, oP_p2, oP_g3, oP_p3, oP_g4, oP_p4, oP_g5, oP_p5, oP_g6, oP_p6, oP_g7, oP_p7, oP_g8, oP_p8, oP_g9, oP_p9, oP_g10, oP_p10, oP_g11, oP_p11, oP_g12, oP_p12, oR_ck, oR_g0, oR_p0, oR_g1, oR_p1, oR_g2, oR_p2, oR_g3, oR_p3, oG_ck, oG_g0, oG_p0, oG_g1, oG_p1, oG_g2, oG_p2, oW_ck, oW_g0, oW_p0, oW_g1, oW_p1, oW_g2, oW_p2, oB_ck, oB_g0, oB_p0, oB_g1, oB_p1, oB_g2, oB_p2, oB_g3, oB_p3, oB_g4, oB_p4, oB_g5, oB_p5, oB_g6, oB_p6, oC_ck, oC_g0, oC_p0, oC_g1, oC_p1, oC_g2, oC_p2, oC_g3, oC_p3, oC_g4, oC_p4, oC_g5, oC_p5, oC_g6, oC_p6, oH_ck, oH_g0, oH_p0, oH_g1, oH_p1, oH_g2, oH_p2, oH_g3, oH_p3, oM_ck, oM_g0, oM_p0, oM_g1, oM_p1, oM_g2, oM_p2, oM_g3, oM_p3, oM_g4, oM_p4, oM_g5, oM_p5, oM_g6, oM_p6, oM_g7, oM_p7, oM_g8, oM_p8, oM_g9, oM_p9, oM_g10, oM_p10, oM_g11, oM_p11, oM_g12, oM_p12, oM_g13, oM_p13, oM_g14, oM_p14, oM_g15, oM_p15, oM_g16, oM_p16, oM_g17, oM_p17, oM_g18, oM_p18, oM_g19, oM_p19, oM_g20, oM_p20, oM_g21, oM_p21, oM_g22, oM_p22, oM_g23, oM_p23, oM_g24, oM_p24, oM_g25, oM_p25, oM_g26, oM_p26, oM_g27, oM_p27, oM_g28, oM_p28, oM_g29, oM_p29, bv0, bv1, bv2, bw_o, bw_po, bw_k1, bw_k2, bw_k3, bw_k4, bw_r1, bw_r2, bw_r3, r1, nlt (a := P 0 1) (b := P 0 1) (by omega) (by omega), Nat.lt_irrefl, if_false]
  | succ r ih =>
    intro hr V l4 hv
    have hk : P 0 1 - (r + 1) < P 0 1 := by omega
    have hv1 := hv (P 0 1 - (r + 1)) (Nat.le_refl _) hk
    have er : P 0 1 - r = P 0 1 - (r + 1) + 1 := by omega
    rw [tryF]
    rw [er] at ih
    generalize hkk : P 0 1 - (r + 1) = k at hk hv1 ih hv ⊢
    have r1 := hR.1
    have r2 := hR.2.1 k hk
    have hth := thK_lt hV hk
    have hd1 := dyK_pos hV k hk
    have g2 := igE_AI (n := 6) (j := k) (A 2) (by omega) (by decide)
    rw [r2] at g2
    have g6 := igE_AI (n := 6) (j := thK P k) (P 6) (by omega) (by decide)
    have e6 : P 6 (thK P k) = dyK P k := rfl
    rw [e6] at g6
    have kp := (bw_P hP V S A).2.1
    have kp6 := (bw_P hP V S A).2.2.2.2.2.2.2.1
    have l1 := nlt (a := k) (b := P 0 1) (by omega) (by omega)
    have ld := dN_eq (d := day) (by omega)
    -- as far as the question whether it can be better
    have step : ∀ Q, Ev 90 (6, [some (.ref 39), some (.ref 15), none, some (.int (nI k)), l4], [], z, bw h V S A) Q = Ev 90 (if day ≠ 0 ∧ day ≤ dyK P k then 45 else 47, [some (.ref 39), some (.ref 15), none, some (.int (nI k)), some (.int (nI (dyK P k)))], [], z, bw h V S A) Q := by
      intro Q
      rw [m90_6]
      by_cases c0 : day = 0
      · rw [if_neg (fun q => q.1 c0)]
        have ldt : (dN day = -4) = True := ld.trans (eq_true c0)
        simp only [m90_7, m90_8, m90_11, m90_14, m90_15, m90_18, m90_19, m90_22, m90_23, m90_24, m90_25, m90_27, m90_28, m90_31, m90_33, ob_some, pushr_s, pushr_n, iget_eq, gf_eq, pf_eq, ck_eq, alen_eq, rget_eq, iset_eq, Option.bind_some, Option.map_some, Option.elim_some, hput_at, ↓reduceIte, Nat.reduceEqDiff, Nat.reduceAdd, ne_eq, not_false_eq_true, oS_ck, oS_g0, oS_p0, oS_g1, oS_p1, oS_g2, oS_p2, oS_g3, oS_p3, oS_g4, oS_p4, oS_g5, oS_p5, oS_g6, oS_p6, oP_ck, oP_g0, oP_p0, oP_g1, oP_p1, oP_g2, oP_p2, oP_g3, oP_p3, oP_g4, oP_p4, oP_g5, oP_p5, oP_g6, oP_p6, oP_g7, oP_p7, oP_g8, oP_p8, oP_g9, oP_p9, oP_g10, oP_p10, oP_g11, oP_p11, oP_g12, oP_p12, oR_ck, oR_g0, oR_p0, oR_g1, oR_p1, oR_g2, oR_p2, oR_g3, oR_p3, oG_ck, oG_g0, oG_p0, oG_g1, oG_p1, oG_g2, oG_p2, oW_ck, oW_g0, oW_p0, oW_g1, oW_p1, oW_g2, oW_p2, oB_ck, oB_g0, oB_p0, oB_g1, oB_p1, oB_g2, oB_p2, oB_g3, oB_p3, oB_g4, oB_p4, oB_g5, oB_p5, oB_g6, oB_p6, oC_ck, oC_g0, oC_p0, oC_g1, oC_p1, oC_g2, oC_p2, oC_g3, oC_p3, oC_g4, oC_p4, oC_g5, oC_p5, oC_g6, oC_p6, oH_ck, oH_g0, oH_p0, oH_g1, oH_p1, oH_g2, oH_p2, oH_g3, oH_p3, oM_ck, oM_g0, oM_p0, oM_g1, oM_p1, oM_g2, oM_p2, oM_g3, oM_p3, oM_g4, oM_p4, oM_g5, oM_p5, oM_g6, oM_p6, oM_g7, oM_p7, oM_g8, oM_p8, oM_g9, oM_p9, oM_g10, oM_p10, oM_g11, oM_p11, oM_g12, oM_p12, oM_g13, oM_p13, oM_g14, oM_p14, oM_g15, oM_p15, oM_g16, oM_p16, oM_g17, oM_p17, oM_g18, oM_p18, oM_g19, oM_p19, oM_g20, oM_p20, oM_g21, oM_p21, oM_g22, oM_p22, oM_g23, oM_p23, oM_g24, oM_p24, oM_g25, oM_p25, oM_g26, oM_p26, oM_g27, oM_p27, oM_g28, oM_p28, oM_g29, oM_p29, bv0, bv1, bv2, bw_o, bw_po, bw_k1, bw_k2, bw_k3, bw_k4, bw_r1, bw_r2, bw_r3, r1, l1, hk, if_true, kp, kp6, g2, g6, hS1, ldt]
      · have ldf : (dN day = -4) = False := ld.trans (eq_false c0)
        have ldg : (nI day = -4) = False := by rw [← dN_pos c0]; exact ldf
        have l2 := nlt (a := dyK P k) (b := day) (by omega) (by omega)
        by_cases c1 : day ≤ dyK P k
        · rw [if_pos ⟨c0, c1⟩]
          have c2 : ¬ dyK P k < day := by omega
          simp only [m90_7, m90_8, m90_11, m90_14, m90_15, m90_18, m90_19, m90_22, m90_23, m90_24, m90_25, m90_27, m90_28, m90_31, m90_33, m90_36, m90_38, m90_39, m90_42, ob_some, pushr_s, pushr_n, iget_eq, gf_eq, pf_eq, ck_eq, alen_eq, rget_eq, iset_eq, Option.bind_some, Option.map_some, Option.elim_some, hput_at, ↓reduceIte, Nat.reduceEqDiff, Nat.reduceAdd, ne_eq, not_false_eq_true, oS_ck, oS_g0, oS_p0, oS_g1, oS_p1, oS_g2, oS_p2, oS_g3, oS_p3, oS_g4, oS_p4, oS_g5, oS_p5, oS_g6, oS_p6, oP_ck, oP_g0, oP_p0, oP_g1, oP_p1, oP_g2, oP_p2, oP_g3, oP_p3, oP_g4, oP_p4, oP_g5, oP_p5, oP_g6, oP_p6, oP_g7, oP_p7, oP_g8, oP_p8, oP_g9, oP_p9, oP_g10, oP_p10, oP_g11, oP_p11, oP_g12, oP_p12, oR_ck, oR_g0, oR_p0, oR_g1, oR_p1, oR_g2, oR_p2, oR_g3, oR_p3, oG_ck, oG_g0, oG_p0, oG_g1, oG_p1, oG_g2, oG_p2, oW_ck, oW_g0, oW_p0, oW_g1, oW_p1, oW_g2, oW_p2, oB_ck, oB_g0, oB_p0, oB_g1, oB_p1, oB_g2, oB_p2, oB_g3, oB_p3, oB_g4, oB_p4, oB_g5, oB_p5, oB_g6, oB_p6, oC_ck, oC_g0, oC_p0, oC_g1, oC_p1, oC_g2, oC_p2, oC_g3, oC_p3, oC_g4, oC_p4, oC_g5, oC_p5, oC_g6, oC_p6, oH_ck, oH_g0, oH_p0, oH_g1, oH_p1, oH_g2, oH_p2, oH_g3, oH_p3, oM_ck, oM_g0, oM_p0, oM_g1, oM_p1, oM_g2, oM_p2, oM_g3, oM_p3, oM_g4, oM_p4, oM_g5, oM_p5, oM_g6, oM_p6, oM_g7, oM_p7, oM_g8, oM_p8, oM_g9, oM_p9, oM_g10, oM_p10, oM_g11, oM_p11, oM_g12, oM_p12, oM_g13, oM_p13, oM_g14, oM_p14, oM_g15, oM_p15, oM_g16, oM_p16, oM_g17, oM_p17, oM_g18, oM_p18, oM_g19, oM_p19, oM_g20, oM_p20, oM_g21, oM_p21, oM_g22, oM_p22, oM_g23, oM_p23, oM_g24, oM_p24, oM_g25, oM_p25, oM_g26, oM_p26, oM_g27, oM_p27, oM_g28, oM_p28, oM_g29, oM_p29, bv0, bv1, bv2, bw_o, bw_po, bw_k1, bw_k2, bw_k3, bw_k4, bw_r1, bw_r2, bw_r3, r1, l1, hk, if_true, kp, kp6, g2, g6, hS1, ldg, if_false, dN_pos c0, l2, c2]
        · rw [if_neg (fun q => c1 q.2)]
          have c2 : dyK P k < day := by omega
          simp only [m90_7, m90_8, m90_11, m90_14, m90_15, m90_18, m90_19, m90_22, m90_23, m90_24, m90_25, m90_27, m90_28, m90_31, m90_33, m90_36, m90_38, m90_39, m90_42, ob_some, pushr_s, pushr_n, iget_eq, gf_eq, pf_eq, ck_eq, alen_eq, rget_eq, iset_eq, Option.bind_some, Option.map_some, Option.elim_some, hput_at, ↓reduceIte, Nat.reduceEqDiff, Nat.reduceAdd, ne_eq, not_false_eq_true, oS_ck, oS_g0, oS_p0, oS_g1, oS_p1, oS_g2, oS_p2, oS_g3, oS_p3, oS_g4, oS_p4, oS_g5, oS_p5, oS_g6, oS_p6, oP_ck, oP_g0, oP_p0, oP_g1, oP_p1, oP_g2, oP_p2, oP_g3, oP_p3, oP_g4, oP_p4, oP_g5, oP_p5, oP_g6, oP_p6, oP_g7, oP_p7, oP_g8, oP_p8, oP_g9, oP_p9, oP_g10, oP_p10, oP_g11, oP_p11, oP_g12, oP_p12, oR_ck, oR_g0, oR_p0, oR_g1, oR_p1, oR_g2, oR_p2, oR_g3, oR_p3, oG_ck, oG_g0, oG_p0, oG_g1, oG_p1, oG_g2, oG_p2, oW_ck, oW_g0, oW_p0, oW_g1, oW_p1, oW_g2, oW_p2, oB_ck, oB_g0, oB_p0, oB_g1, oB_p1, oB_g2, oB_p2, oB_g3, oB_p3, oB_g4, oB_p4, oB_g5, oB_p5, oB_g6, oB_p6, oC_ck, oC_g0, oC_p0, oC_g1, oC_p1, oC_g2, oC_p2, oC_g3, oC_p3, oC_g4, oC_p4, oC_g5, oC_p5, oC_g6, oC_p6, oH_ck, oH_g0, oH_p0, oH_g1, oH_p1, oH_g2, oH_p2, oH_g3, oH_p3, oM_ck, oM_g0, oM_p0, oM_g1, oM_p1, oM_g2, oM_p2, oM_g3, oM_p3, oM_g4, oM_p4, oM_g5, oM_p5, oM_g6, oM_p6, oM_g7, oM_p7, oM_g8, oM_p8, oM_g9, oM_p9, oM_g10, oM_p10, oM_g11, oM_p11, oM_g12, oM_p12, oM_g13, oM_p13, oM_g14, oM_p14, oM_g15, oM_p15, oM_g16, oM_p16, oM_g17, oM_p17, oM_g18, oM_p18, oM_g19, oM_p19, oM_g20, oM_p20, oM_g21, oM_p21, oM_g22, oM_p22, oM_g23, oM_p23, oM_g24, oM_p24, oM_g25, oM_p25, oM_g26, oM_p26, oM_g27, oM_p27, oM_g28, oM_p28, oM_g29, oM_p29, bv0, bv1, bv2, bw_o, bw_po, bw_k1, bw_k2, bw_k3, bw_k4, bw_r1, bw_r2, bw_r3, r1, l1, hk, if_true, kp, kp6, g2, g6, hS1, ldg, if_false, dN_pos c0, l2, c2]
    by_cases c1 : day ≠ 0 ∧ day ≤ dyK P k
    · rw [if_pos c1] at step ⊢
      refine ⟨V, fun j hj => hv j (by dsimp only at hj; omega) (by dsimp only at hj; omega), fun Q => ?_⟩
      rw [step, if_pos rfl]
      simp only [m90_45, m90_46]
    · rw [if_neg c1] at step ⊢
      by_cases c2 : okB P a k = true
      · rw [if_pos c2]
        refine ⟨fup V (k + 1) (P 8, skW P a k), fun j hj => ?_, fun Q => ?_⟩
        · dsimp only at hj
          rw [fup_ne _ _ (by omega)]
          exact hv j (by omega) (by omega)
        · have hb := fun Q => breaches_t hP hV ha z hk hR hv1 c2 Q
          have ht := fun V Q => take_eq (h := h) (V := V) (S := S) (A := A) z Q (d := dyK P k)
          rw [step, if_neg hd1.1]
          simp only [m90_47, m90_48, m90_49, m90_50, m90_53, m90_56, m90_57, m90_59, m90_62, m90_63, m90_64, m90_65, ob_some, pushr_s, pushr_n, iget_eq, gf_eq, pf_eq, ck_eq, alen_eq, rget_eq, iset_eq, Option.bind_some, Option.map_some, Option.elim_some, hput_at, ↓reduceIte, Nat.reduceEqDiff, Nat.reduceAdd, ne_eq, not_false_eq_true, oS_ck, oS_g0, oS_p0, oS_g1, oS_p1, oS_g2, oS_p2, oS_g3, oS_p3, oS_g4, oS_p4, oS_g5, oS_p5, oS_g6, oS_p6, oP_ck, oP_g0, oP_p0, oP_g1, oP_p1, oP_g2, oP_p2, oP_g3, oP_p3, oP_g4, oP_p4, oP_g5, oP_p5, oP_g6, oP_p6, oP_g7, oP_p7, oP_g8, oP_p8, oP_g9, oP_p9, oP_g10, oP_p10, oP_g11, oP_p11, oP_g12, oP_p12, oR_ck, oR_g0, oR_p0, oR_g1, oR_p1, oR_g2, oR_p2, oR_g3, oR_p3, oG_ck, oG_g0, oG_p0, oG_g1, oG_p1, oG_g2, oG_p2, oW_ck, oW_g0, oW_p0, oW_g1, oW_p1, oW_g2, oW_p2, oB_ck, oB_g0, oB_p0, oB_g1, oB_p1, oB_g2, oB_p2, oB_g3, oB_p3, oB_g4, oB_p4, oB_g5, oB_p5, oB_g6, oB_p6, oC_ck, oC_g0, oC_p0, oC_g1, oC_p1, oC_g2, oC_p2, oC_g3, oC_p3, oC_g4, oC_p4, oC_g5, oC_p5, oC_g6, oC_p6, oH_ck, oH_g0, oH_p0, oH_g1, oH_p1, oH_g2, oH_p2, oH_g3, oH_p3, oM_ck, oM_g0, oM_p0, oM_g1, oM_p1, oM_g2, oM_p2, oM_g3, oM_p3, oM_g4, oM_p4, oM_g5, oM_p5, oM_g6, oM_p6, oM_g7, oM_p7, oM_g8, oM_p8, oM_g9, oM_p9, oM_g10, oM_p10, oM_g11, oM_p11, oM_g12, oM_p12, oM_g13, oM_p13, oM_g14, oM_p14, oM_g15, oM_p15, oM_g16, oM_p16, oM_g17, oM_p17, oM_g18, oM_p18, oM_g19, oM_p19, oM_g20, oM_p20, oM_g21, oM_p21, oM_g22, oM_p22, oM_g23, oM_p23, oM_g24, oM_p24, oM_g25, oM_p25, oM_g26, oM_p26, oM_g27, oM_p27, oM_g28, oM_p28, oM_g29, oM_p29, bv0, bv1, bv2, bw_o, bw_po, bw_k1, bw_k2, bw_k3, bw_k4, bw_r1, bw_r2, bw_r3, hb, n10, if_false, ht, nI_add]
      · rw [if_neg c2]
        have c2' : okB P a k = false := by
          cases hq : okB P a k with
          | true => exact absurd hq c2
          | false => rfl
        obtain ⟨W, hW, hb⟩ := breaches_f hP hV ha z hk hR hv1 c2'
        obtain ⟨V2, i1, i2⟩ := ih (by omega) (fup V (k + 1) W) (some (.int (nI (dyK P k)))) (fun j h1 h2 => by
          by_cases q : j = k + 1
          · subst q
            rw [fup_self]
            exact hW h2
          · rw [fup_ne _ _ q]
            exact hv j (by omega) h2)
        refine ⟨V2, i1, fun Q => ?_⟩
        rw [step, ← i2 Q]
        simp only [m90_47, m90_48, m90_49, m90_50, m90_53, m90_66, m90_69, ob_some, pushr_s, pushr_n, iget_eq, gf_eq, pf_eq, ck_eq, alen_eq, rget_eq, iset_eq, Option.bind_some, Option.map_some, Option.elim_some, hput_at, ↓reduceIte, Nat.reduceEqDiff, Nat.reduceAdd, ne_eq, not_false_eq_true, oS_ck, oS_g0, oS_p0, oS_g1, oS_p1, oS_g2, oS_p2, oS_g3, oS_p3, oS_g4, oS_p4, oS_g5, oS_p5, oS_g6, oS_p6, oP_ck, oP_g0, oP_p0, oP_g1, oP_p1, oP_g2, oP_p2, oP_g3, oP_p3, oP_g4, oP_p4, oP_g5, oP_p5, oP_g6, oP_p6, oP_g7, oP_p7, oP_g8, oP_p8, oP_g9, oP_p9, oP_g10, oP_p10, oP_g11, oP_p11, oP_g12, oP_p12, oR_ck, oR_g0, oR_p0, oR_g1, oR_p1, oR_g2, oR_p2, oR_g3, oR_p3, oG_ck, oG_g0, oG_p0, oG_g1, oG_p1, oG_g2, oG_p2, oW_ck, oW_g0, oW_p0, oW_g1, oW_p1, oW_g2, oW_p2, oB_ck, oB_g0, oB_p0, oB_g1, oB_p1, oB_g2, oB_p2, oB_g3, oB_p3, oB_g4, oB_p4, oB_g5, oB_p5, oB_g6, oB_p6, oC_ck, oC_g0, oC_p0, oC_g1, oC_p1, oC_g2, oC_p2, oC_g3, oC_p3, oC_g4, oC_p4, oC_g5, oC_p5, oC_g6, oC_p6, oH_ck, oH_g0, oH_p0, oH_g1, oH_p1, oH_g2, oH_p2, oH_g3, oH_p3, oM_ck, oM_g0, oM_p0, oM_g1, oM_p1, oM_g2, oM_p2, oM_g3, oM_p3, oM_g4, oM_p4, oM_g5, oM_p5, oM_g6, oM_p6, oM_g7, oM_p7, oM_g8, oM_p8, oM_g9, oM_p9, oM_g10, oM_p10, oM_g11, oM_p11, oM_g12, oM_p12, oM_g13, oM_p13, oM_g14, oM_p14, oM_g15, oM_p15, oM_g16, oM_p16, oM_g17, oM_p17, oM_g18, oM_p18, oM_g19, oM_p19, oM_g20, oM_p20, oM_g21, oM_p21, oM_g22, oM_p22, oM_g23, oM_p23, oM_g24, oM_p24, oM_g25, oM_p25, oM_g26, oM_p26, oM_g27, oM_p27, oM_g28, oM_p28, oM_g29, oM_p29, bv0, bv1, bv2, bw_o, bw_po, bw_k1, bw_k2, bw_k3, bw_k4, bw_r1, bw_r2, bw_r3, hb, if_true, nI_add]
end BEST
