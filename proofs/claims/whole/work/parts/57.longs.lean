/-! longs that are no less than 0 -/
def jN (n : Nat) : Int64 := Int64.ofNat n
theorem jN_toInt {n : Nat} (h : n < 2 ^ 63) : (jN n).toInt = n := lg_ofNat_toInt h
theorem jN_add (a b : Nat) : jN a + jN b = jN (a + b) := (Int64.ofNat_add a b).symm
theorem jN_mul (a b : Nat) : jN a * jN b = jN (a * b) := (Int64.ofNat_mul a b).symm
theorem jN_sub {a b : Nat} (h : b ≤ a) : jN a - jN b = jN (a - b) := by
  have e : jN a = jN (a - b) + jN b := by rw [jN_add, Nat.sub_add_cancel h]
  rw [e, Int64.add_sub_cancel]
theorem jN_div {a b : Nat} (ha : a < 2 ^ 63) (hb : b < 2 ^ 63) (h0 : 0 < b) : jN a / jN b = jN (a / b) := by
  apply Int64.toInt_inj.mp
  rw [lg_ldiv_nonneg (by rw [jN_toInt ha]; omega) (by rw [jN_toInt hb]; omega), jN_toInt ha, jN_toInt hb, jN_toInt (by have := Nat.div_le_self a b; omega)]
  exact (Int.natCast_ediv a b).symm
theorem jN_rem {a b : Nat} (ha : a < 2 ^ 63) (hb : b < 2 ^ 63) (h0 : 0 < b) : jN a - jN a / jN b * jN b = jN (a % b) := by
  have hm := Nat.div_mul_le_self a b
  rw [jN_div ha hb h0, jN_mul, jN_sub hm]
  have := Nat.div_add_mod a b
  rw [Nat.mul_comm] at this
  exact congrArg jN (by omega)
theorem jN_i2l {n : Nat} (h : n < 100000000) : (nI n).toInt64 = jN n := by
  apply Int64.toInt_inj.mp
  rw [i2l_toInt, nI_ti h, jN_toInt (by omega)]
theorem jN_l2i {n : Nat} (h : n < 100000000) : (jN n).toInt32 = nI n := by
  rw [← jN_i2l h, lg_l2i_i2l]
theorem jN_inj {a b : Nat} (ha : a < 2 ^ 63) (hb : b < 2 ^ 63) : (jN a = jN b) = (a = b) := by
  refine propext ⟨fun h => ?_, fun h => by rw [h]⟩
  have := congrArg Int64.toInt h
  rw [jN_toInt ha, jN_toInt hb] at this
  omega
theorem J0 : (0 : Int64) = jN 0 := by decide
theorem J1 : (1 : Int64) = jN 1 := by decide
theorem J10 : (10 : Int64) = jN 10 := by decide
theorem J20 : (20 : Int64) = jN 20 := by decide
theorem J7919 : (7919 : Int64) = jN 7919 := by decide
theorem J6151 : (6151 : Int64) = jN 6151 := by decide
theorem J65521 : (65521 : Int64) = jN 65521 := by decide
def drX (y i : Nat) : Nat := 7919 * y + 6151 * i + 1
def drW (y i : Nat) : Nat := drX y i * drX y i % 65521 % 20 + 1
theorem drX_lt {y i : Nat} (hy : y ≤ 9999) (hi : i ≤ 6) : drX y i < 80000000 := by unfold drX; omega
theorem drW_le (y i : Nat) : 1 ≤ drW y i ∧ drW y i ≤ 20 := by unfold drW; omega
theorem drX_sq {y i : Nat} (hy : y ≤ 9999) (hi : i ≤ 6) : drX y i * drX y i < 2 ^ 63 := by
  have h := drX_lt hy hi
  have : drX y i * drX y i ≤ 80000000 * 80000000 := Nat.mul_le_mul (by omega) (by omega)
  omega
theorem drawnWeight_eq {y i : Nat} (hy : y ≤ 9999) (hi : i ≤ 6) (z : Zc) (h : Hp) (Q : Option Value → Zc → Hp → Prop) : Ev 32 (0, [some (.int (nI y)), some (.int (nI i)), none, none], [], z, h) Q = Q (some (.int (nI (drW y i)))) z h := by
  have h2 := drX_sq hy hi
  have e1 : jN (7919 * y + 6151 * i + 1) = jN (drX y i) := rfl
  have r1 := jN_rem (a := drX y i * drX y i) (b := 65521) h2 (by decide) (by decide)
  have r2 := jN_rem (a := drX y i * drX y i % 65521) (b := 20) (by omega) (by decide) (by decide)
  have l2 := jN_l2i (n := drX y i * drX y i % 65521 % 20) (by omega)
  have e2 : nI (drX y i * drX y i % 65521 % 20 + 1) = nI (drW y i) := rfl
  have d1 : ¬ jN 65521 = 0 := by decide
  have d2 : ¬ jN 20 = 0 := by decide
  simp only [m32_0, m32_3, m32_4, m32_5, m32_6, m32_9, m32_10, m32_11, m32_12, m32_13, m32_14, m32_15, m32_16, m32_17, m32_18, m32_19, m32_22, m32_23, m32_26, m32_27, m32_28, m32_29, m32_30, d1, d2, not_false_eq_true, J7919, J6151, J1, J65521, J20, jN_i2l (n := y) (by omega), jN_i2l (n := i) (by omega), jN_mul, jN_add, e1, r1, r2, l2, nI_add, e2]
/-- the plan with the weights of year y -/
def yrP (P : Pl) (y : Nat) : Pl := fup P 7 (fun i => if i < P 0 1 then drW y i else P 7 i)
def yrK (P : Pl) (y k : Nat) : Pl := fup P 7 (fun i => if i < k then drW y i else P 7 i)
theorem yrP_valid {P : Pl} (hV : Valid P) (y : Nat) : Valid (yrP P y) := by
  obtain ⟨v0, v1, v2, v3, v4, v5, v6, v7⟩ := hV
  refine ⟨v0, v1, v2, v3, v4, fun i hi => ?_, v6, v7⟩
  obtain ⟨a, b, c, d, e⟩ := v5 i hi
  have hi : i < P 0 1 := hi
  have h7 : yrP P y 7 i = drW y i := if_pos hi
  have := drW_le y i
  exact ⟨a, b, c, by rw [h7]; exact this.1, by rw [h7]; exact this.2⟩
def ansYear (P : Pl) (y w : Int32) : Int32 := if rgI y 0 9999 ∧ rgI w 0 1 then (if w = nI 0 then dN (runF (yrP P (nt y)) 30).2.1 else nI (totF (runF (yrP P (nt y)) 30).1.1 10)) else -1
theorem syear_loop {len y : Nat} {P : Pl} (hV : Valid P) (hy : y ≤ 9999) (w : Int32) (z : Zc) (Q : Option Value → Zc → Hp → Prop) :
    ∀ n k, n + k = P 0 1 → ∀ (H : Hp), SO H len → PlanC H 25 (yrK P y k) →
    Ev 20 (35, [some (.ref 1), some (.int (nI y)), some (.int w), some (.int (nI k))], [], z, H) Q = Ev 20 (66, [some (.ref 1), some (.int (nI y)), some (.int w), some (.int (nI (P 0 1)))], [], z, pset H 25 (yrP P y)) Q := by
  have v1 := hV.2.1
  intro n
  induction n with
  | zero =>
    intro k hk H hS hP
    have ek : k = P 0 1 := by omega
    subst ek
    have hid : pset H 25 (yrP P y) = H := hP.id
    have p1 : H 25 = some (poE 25 (yrK P y (P 0 1))) := hP.2.1
    unfold poE at p1
    have w1 : yrK P y (P 0 1) 0 1 = P 0 1 := rfl
    simp only [w1] at p1
    unfold SO at hS
    rw [hid, m20_35]
    simp only [m20_36, m20_37, m20_40, m20_43, ob_some, pushr_s, pushr_n, iget_eq, gf_eq, pf_eq, ck_eq, alen_eq, rget_eq, iset_eq, Option.bind_some, Option.map_some, Option.elim_some, hput_at, ↓reduceIte, Nat.reduceEqDiff, Nat.reduceAdd, ne_eq, not_false_eq_true, oS_ck, oS_g0, oS_p0, oS_g1, oS_p1, oS_g2, oS_p2, oS_g3, oS_p3, oS_g4, oS_p4, oS_g5, oS_p5, oS_g6, oS_p6, oP_ck, oP_g0, oP_p0, oP_g1, oP_p1, oP_g2, oP_p2, oP_g3, oP_p3, oP_g4, oP_p4, oP_g5, oP_p5, oP_g6, oP_p6, oP_g7, oP_p7, oP_g8, oP_p8, oP_g9, oP_p9, oP_g10, oP_p10, oP_g11, oP_p11, oP_g12, oP_p12, oR_ck, oR_g0, oR_p0, oR_g1, oR_p1, oR_g2, oR_p2, oR_g3, oR_p3, oG_ck, oG_g0, oG_p0, oG_g1, oG_p1, oG_g2, oG_p2, oW_ck, oW_g0, oW_p0, oW_g1, oW_p1, oW_g2, oW_p2, oB_ck, oB_g0, oB_p0, oB_g1, oB_p1, oB_g2, oB_p2, oB_g3, oB_p3, oB_g4, oB_p4, oB_g5, oB_p5, oB_g6, oB_p6, oC_ck, oC_g0, oC_p0, oC_g1, oC_p1, oC_g2, oC_p2, oC_g3, oC_p3, oC_g4, oC_p4, oC_g5, oC_p5, oC_g6, oC_p6, oH_ck, oH_g0, oH_p0, oH_g1, oH_p1, oH_g2, oH_p2, oH_g3, oH_p3, oM_ck, oM_g0, oM_p0, oM_g1, oM_p1, oM_g2, oM_p2, oM_g3, oM_p3, oM_g4, oM_p4, oM_g5, oM_p5, oM_g6, oM_p6, oM_g7, oM_p7, oM_g8, oM_p8, oM_g9, oM_p9, oM_g10, oM_p10, oM_g11, oM_p11, oM_g12, oM_p12, oM_g13, oM_p13, oM_g14, oM_p14, oM_g15, oM_p15, oM_g16, oM_p16, oM_g17, oM_p17, oM_g18, oM_p18, oM_g19, oM_p19, oM_g20, oM_p20, oM_g21, oM_p21, oM_g22, oM_p22, oM_g23, oM_p23, oM_g24, oM_p24, oM_g25, oM_p25, oM_g26, oM_p26, oM_g27, oM_p27, oM_g28, oM_p28, oM_g29, oM_p29, hS, p1, nlt (a := P 0 1) (b := P 0 1) (by omega) (by omega), Nat.lt_irrefl, if_false]
  | succ n ih =>
    intro k hk H hS hP
    have hlt : k < P 0 1 := by omega
    have hS1 := hS
    unfold SO at hS1
    have p1 : H 25 = some (poE 25 (yrK P y k)) := hP.2.1
    unfold poE at p1
    have w1 : yrK P y k 0 1 = P 0 1 := rfl
    simp only [w1, Nat.reduceAdd] at p1
    have p7 : H 32 = some (AI 6 (yrK P y k 7)) := hP.2.2.2.2.2.2.2.2.1
    have a1 := isE_AI (n := 6) (j := k) (yrK P y k 7) (drW y k) (by omega) (by decide)
    have hr : hput H 32 (AI 6 (fup (yrK P y k 7) k (drW y k))) = pset H 25 (yrK P y (k + 1)) := by
      have := pset_r7 H 25 (yrK P y k) (fup (yrK P y k 7) k (drW y k))
      rw [hP.id] at this
      refine this.trans (congrArg (pset H 25) ?_)
      unfold yrK
      rw [fup_self, fup_fup]
      refine congrArg (fup P 7) ?_
      funext i
      rw [fup_at]
      by_cases c : i = k
      · rw [if_pos c, if_pos (by omega), c]
      · rw [if_neg c]
        by_cases c2 : i < k
        · rw [if_pos c2, if_pos (by omega)]
        · rw [if_neg c2, if_neg (by omega)]
    have hdw := fun h Q => drawnWeight_eq hy (i := k) (by omega) z h Q
    have ihk := ih (k + 1) (by omega) (pset H 25 (yrK P y (k + 1))) (by unfold SO; rw [pset_ne _ _ (by omega)]; exact hS) (pset_C H (by decide) _)
    rw [pset_pset] at ihk
    rw [m20_35]
    simp only [m20_36, m20_37, m20_40, m20_43, m20_46, m20_47, m20_50, m20_53, m20_54, m20_55, m20_56, m20_59, m20_60, m20_63, ob_some, pushr_s, pushr_n, iget_eq, gf_eq, pf_eq, ck_eq, alen_eq, rget_eq, iset_eq, Option.bind_some, Option.map_some, Option.elim_some, hput_at, ↓reduceIte, Nat.reduceEqDiff, Nat.reduceAdd, ne_eq, not_false_eq_true, oS_ck, oS_g0, oS_p0, oS_g1, oS_p1, oS_g2, oS_p2, oS_g3, oS_p3, oS_g4, oS_p4, oS_g5, oS_p5, oS_g6, oS_p6, oP_ck, oP_g0, oP_p0, oP_g1, oP_p1, oP_g2, oP_p2, oP_g3, oP_p3, oP_g4, oP_p4, oP_g5, oP_p5, oP_g6, oP_p6, oP_g7, oP_p7, oP_g8, oP_p8, oP_g9, oP_p9, oP_g10, oP_p10, oP_g11, oP_p11, oP_g12, oP_p12, oR_ck, oR_g0, oR_p0, oR_g1, oR_p1, oR_g2, oR_p2, oR_g3, oR_p3, oG_ck, oG_g0, oG_p0, oG_g1, oG_p1, oG_g2, oG_p2, oW_ck, oW_g0, oW_p0, oW_g1, oW_p1, oW_g2, oW_p2, oB_ck, oB_g0, oB_p0, oB_g1, oB_p1, oB_g2, oB_p2, oB_g3, oB_p3, oB_g4, oB_p4, oB_g5, oB_p5, oB_g6, oB_p6, oC_ck, oC_g0, oC_p0, oC_g1, oC_p1, oC_g2, oC_p2, oC_g3, oC_p3, oC_g4, oC_p4, oC_g5, oC_p5, oC_g6, oC_p6, oH_ck, oH_g0, oH_p0, oH_g1, oH_p1, oH_g2, oH_p2, oH_g3, oH_p3, oM_ck, oM_g0, oM_p0, oM_g1, oM_p1, oM_g2, oM_p2, oM_g3, oM_p3, oM_g4, oM_p4, oM_g5, oM_p5, oM_g6, oM_p6, oM_g7, oM_p7, oM_g8, oM_p8, oM_g9, oM_p9, oM_g10, oM_p10, oM_g11, oM_p11, oM_g12, oM_p12, oM_g13, oM_p13, oM_g14, oM_p14, oM_g15, oM_p15, oM_g16, oM_p16, oM_g17, oM_p17, oM_g18, oM_p18, oM_g19, oM_p19, oM_g20, oM_p20, oM_g21, oM_p21, oM_g22, oM_p22, oM_g23, oM_p23, oM_g24, oM_p24, oM_g25, oM_p25, oM_g26, oM_p26, oM_g27, oM_p27, oM_g28, oM_p28, oM_g29, oM_p29, hS1, p1, p7, nlt (a := k) (b := P 0 1) (by omega) (by omega), hlt, if_true, hdw, a1, hr, nI_add]
    exact ihk
