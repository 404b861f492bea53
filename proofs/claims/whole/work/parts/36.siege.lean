/-! stones thrown, days, a siege -/
theorem distN_le (kd pull w : Nat) : distN kd pull w ≤ pull + 3 := by
  unfold distN
  split
  · have := Nat.div_le_self pull (2 * w); omega
  · have := Nat.div_le_self pull w; omega
theorem farN_le {P : Pl} (hV : Valid P) {i : Nat} (hi : i < P 0 1) (w : Nat) : farN P i w ≤ 543 := by
  have hV' := hV
  obtain ⟨v0, v1, v2, v3, v4, v5, v6, v7⟩ := hV
  have u1 := (v5 i hi).1
  have h1 := pull_le hV' u1 (P 6 i - 1)
  unfold farN
  refine Nat.le_trans (distN_le _ _ _) ?_
  split
  · have := Nat.div_le_self (P 1 (P 5 i) * shN P (P 5 i) (P 6 i - 1)) 2; omega
  · omega
def strikeS (P : Pl) (S : Wl) (i w : Nat) : Wl :=
  if cellOf (farN P i w) = 10 then S else
    (if P 3 (P 5 i) = 2 then weakS (weakS S.1 (cellOf (farN P i w)) ((w + farN P i w) / 2)) (cellOf (farN P i w) + 1) ((w + farN P i w) / 2 / 2) else weakS S.1 (cellOf (farN P i w)) ((w + farN P i w) / 2), S.2 + w)
theorem weakS_le (s : Nat → Nat) (c bl j : Nat) : weakS s c bl j ≤ s j := by
  unfold weakS
  split
  · rw [fup_at]; split
    · rename_i e; rw [e]; omega
    · exact Nat.le_refl _
  · exact Nat.le_refl _
theorem strikeS_le (P : Pl) (S : Wl) (i w j : Nat) : (strikeS P S i w).1 j ≤ S.1 j := by
  unfold strikeS
  split
  · exact Nat.le_refl _
  · dsimp only
    split
    · exact Nat.le_trans (weakS_le _ _ _ _) (weakS_le _ _ _ _)
    · exact weakS_le _ _ _ _
theorem strikeS_ru (P : Pl) (S : Wl) (i w : Nat) : (strikeS P S i w).2 ≤ S.2 + w := by
  unfold strikeS
  split <;> omega
theorem WB.less {f s s' : Nat → Nat} (h : WB f s) (hs : ∀ c, s' c ≤ s c) : WB f s' := fun c hc => by have := h c hc; have := hs c; omega
theorem cN4_ne {c : Nat} (h : c < 10) : (cN4 c = -4) = False := by
  rw [cN4_lt h]
  refine eq_false (fun q => ?_)
  have h1 : ¬ nI c < nI 0 := nI_not_neg (by omega)
  rw [q] at h1
  exact h1 (by decide)
set_option maxHeartbeats 1000000 in
theorem strike_eq {h : Hp} {p w i wt : Nat} {P : Pl} {f s : Nat → Nat} {ru : Nat} (hP : PlanC h p P) (hV : Valid P) (hw : WallC h w f s ru) (hd : p + 9 < w ∨ w + 2 < p) (hi : i < P 0 1) (ht : wt ≤ 20) (ht1 : 1 ≤ wt) (hs : ∀ c, c < 10 → s c < 100000) (hr : ru < 100000) (z : Zc) (Q : Option Value → Zc → Hp → Prop) : Ev 121 (0, [some (.ref p), some (.ref w), some (.int (nI i)), some (.int (nI wt)), none, none, none], [], z, h) Q = Q none z (wset h w f (strikeS P (s, ru) i wt).1 (strikeS P (s, ru) i wt).2) := by
  have hS := hasStone_eq hP (nI i)
  have hE := hasEngine_eq hP (nI (P 5 i))
  have hfar := farOf_eq hP hV hi ht ht1
  have hfl := farN_le hV hi wt
  have hca := cellAt_eq (far := farN P i wt) (by omega)
  have hP' := hP
  have hw' := hw
  obtain ⟨p0, p1, p2, p3, p4, p5, p6, p7, p8, p9, p10⟩ := hP
  obtain ⟨w0, w1, w2, w3⟩ := hw
  obtain ⟨v0, v1, v2, v3, v4, v5, v6, v7⟩ := hV
  obtain ⟨u1, u2, u3, -, -⟩ := v5 i hi
  have hk3 := (v4 (P 5 i) u1).2.2.2.1
  have hb1 : b2 (¬ nI i < nI 0 ∧ nI i < nI (P 0 1)) = nI 1 := b2_t ((inN (by omega) (by omega)).mpr hi)
  have hb2 : b2 (¬ nI (P 5 i) < nI 0 ∧ nI (P 5 i) < nI (P 0 0)) = nI 1 := b2_t ((inN (by omega) (by omega)).mpr u1)
  have k1 : (nI 1 = nI 0) = False := eq_false (by decide)
  have a1 := igE_AI (n := 6) (j := i) (P 5) (by omega) (by decide)
  have a4 := igE_AI (n := 3) (j := P 5 i) (P 3) (by omega) (by decide)
  have l2 := neq (a := P 3 (P 5 i)) (b := 2) (by omega) (by decide)
  by_cases hc : cellOf (farN P i wt) = 10
  · have est : strikeS P (s, ru) i wt = (s, ru) := if_pos hc
    rw [est, hw'.id]
    simp only [m121_0, m121_1, m121_2, m121_3, m121_6, m121_8, m121_10, m121_13, m121_15, m121_17, m121_19, m121_22, m121_23, m121_24, m121_27, m121_30, m121_31, m121_32, m121_35, m121_36, m121_37, m121_40, m121_43, m121_44, m121_45, m121_47, m121_50, m121_52, m121_53, m121_54, m121_57, m121_58, m121_59, m121_62, m121_63, m121_65, m121_67, m121_70, m121_71, m121_74, m121_75, m121_78, m121_79, m121_80, m121_81, m121_82, m121_85, m121_86, m121_88, m121_89, m121_90, m121_92, m121_93, m121_94, m121_97, ob_some, pushr_s, pushr_n, iget_eq, gf_eq, pf_eq, ck_eq, alen_eq, rget_eq, iset_eq, Option.bind_some, Option.map_some, Option.elim_some, hput_at, ↓reduceIte, Nat.reduceEqDiff, Nat.reduceAdd, ne_eq, not_false_eq_true, oS_ck, oS_g0, oS_p0, oS_g1, oS_p1, oS_g2, oS_p2, oS_g3, oS_p3, oS_g4, oS_p4, oS_g5, oS_p5, oS_g6, oS_p6, oP_ck, oP_g0, oP_p0, oP_g1, oP_p1, oP_g2, oP_p2, oP_g3, oP_p3, oP_g4, oP_p4, oP_g5, oP_p5, oP_g6, oP_p6, oP_g7, oP_p7, oP_g8, oP_p8, oP_g9, oP_p9, oP_g10, oP_p10, oP_g11, oP_p11, oP_g12, oP_p12, oR_ck, oR_g0, oR_p0, oR_g1, oR_p1, oR_g2, oR_p2, oR_g3, oR_p3, oG_ck, oG_g0, oG_p0, oG_g1, oG_p1, oG_g2, oG_p2, oW_ck, oW_g0, oW_p0, oW_g1, oW_p1, oW_g2, oW_p2, oB_ck, oB_g0, oB_p0, oB_g1, oB_p1, oB_g2, oB_p2, oB_g3, oB_p3, oB_g4, oB_p4, oB_g5, oB_p5, oB_g6, oB_p6, oC_ck, oC_g0, oC_p0, oC_g1, oC_p1, oC_g2, oC_p2, oC_g3, oC_p3, oC_g4, oC_p4, oC_g5, oC_p5, oC_g6, oC_p6, oH_ck, oH_g0, oH_p0, oH_g1, oH_p1, oH_g2, oH_p2, oH_g3, oH_p3, oM_ck, oM_g0, oM_p0, oM_g1, oM_p1, oM_g2, oM_p2, oM_g3, oM_p3, oM_g4, oM_p4, oM_g5, oM_p5, oM_g6, oM_p6, oM_g7, oM_p7, oM_g8, oM_p8, oM_g9, oM_p9, oM_g10, oM_p10, oM_g11, oM_p11, oM_g12, oM_p12, oM_g13, oM_p13, oM_g14, oM_p14, oM_g15, oM_p15, oM_g16, oM_p16, oM_g17, oM_p17, oM_g18, oM_p18, oM_g19, oM_p19, oM_g20, oM_p20, oM_g21, oM_p21, oM_g22, oM_p22, oM_g23, oM_p23, oM_g24, oM_p24, oM_g25, oM_p25, oM_g26, oM_p26, oM_g27, oM_p27, oM_g28, oM_p28, oM_g29, oM_p29, p1, hfar, hca, hc, cN4_10, if_true]
  · have hc10 : cellOf (farN P i wt) < 10 := by have := cellOf_le (farN P i wt); omega
    have hne := cN4_ne hc10
    have hbl := blowOf_eq (w := wt) (far := farN P i wt) (by omega) (by omega)
    have hr2 := hw'.set_r (ru + wt)
    have hwf := hw'.fresh f s (ru + wt)
    have hwk := weaken_eq hwf (c := cellOf (farN P i wt)) (bl := (wt + farN P i wt) / 2) (by omega) (by omega) (fun hc => hs _ hc)
    have hPf := hP'.keepW hd f s (ru + wt)
    obtain ⟨-, q1, q2, q3, q4, q5, q6, q7, q8, q9, q10⟩ := hPf
    obtain ⟨-, g1, g2, g3⟩ := hwf
    have hPg := hP'.keepW hd f (weakS s (cellOf (farN P i wt)) ((wt + farN P i wt) / 2)) (ru + wt)
    obtain ⟨-, r1, r2, r3, r4, r5, r6, r7, r8, r9, r10⟩ := hPg
    have hwg := hw'.fresh f (weakS s (cellOf (farN P i wt)) ((wt + farN P i wt) / 2)) (ru + wt)
    have hwk2 := weaken_eq hwg (c := cellOf (farN P i wt) + 1) (bl := (wt + farN P i wt) / 2 / 2) (by omega) (by omega) (fun hc => by have := weakS_le s (cellOf (farN P i wt)) ((wt + farN P i wt) / 2) (cellOf (farN P i wt) + 1); have := hs _ hc; omega)
    obtain ⟨-, t1, t2, t3⟩ := hwg
    have hdv : nI ((wt + farN P i wt) / 2) / nI 2 = nI ((wt + farN P i wt) / 2 / 2) := pk_div (by omega) (by decide) (by decide)
    have hd0 : ¬ nI 2 = 0 := by decide
    rw [wset_wset] at hwk hwk2
    have l4 := cN4_lt hc10
    have hnf := hne
    rw [l4] at hnf
    by_cases hk : P 3 (P 5 i) = 2
    · have est : strikeS P (s, ru) i wt = (weakS (weakS s (cellOf (farN P i wt)) ((wt + farN P i wt) / 2)) (cellOf (farN P i wt) + 1) ((wt + farN P i wt) / 2 / 2), ru + wt) := by
        unfold strikeS
        rw [if_neg hc, if_pos hk]
      rw [est]
      simp only [m121_0, m121_1, m121_2, m121_3, m121_6, m121_8, m121_10, m121_13, m121_15, m121_17, m121_19, m121_22, m121_23, m121_24, m121_27, m121_30, m121_31, m121_32, m121_35, m121_36, m121_37, m121_40, m121_43, m121_44, m121_45, m121_47, m121_50, m121_52, m121_53, m121_54, m121_57, m121_58, m121_59, m121_62, m121_63, m121_65, m121_67, m121_70, m121_71, m121_74, m121_75, m121_78, m121_79, m121_80, m121_81, m121_82, m121_85, m121_86, m121_88, m121_89, m121_90, m121_92, m121_93, m121_94, m121_97, ob_some, pushr_s, pushr_n, iget_eq, gf_eq, pf_eq, ck_eq, alen_eq, rget_eq, iset_eq, Option.bind_some, Option.map_some, Option.elim_some, hput_at, ↓reduceIte, Nat.reduceEqDiff, Nat.reduceAdd, ne_eq, not_false_eq_true, oS_ck, oS_g0, oS_p0, oS_g1, oS_p1, oS_g2, oS_p2, oS_g3, oS_p3, oS_g4, oS_p4, oS_g5, oS_p5, oS_g6, oS_p6, oP_ck, oP_g0, oP_p0, oP_g1, oP_p1, oP_g2, oP_p2, oP_g3, oP_p3, oP_g4, oP_p4, oP_g5, oP_p5, oP_g6, oP_p6, oP_g7, oP_p7, oP_g8, oP_p8, oP_g9, oP_p9, oP_g10, oP_p10, oP_g11, oP_p11, oP_g12, oP_p12, oR_ck, oR_g0, oR_p0, oR_g1, oR_p1, oR_g2, oR_p2, oR_g3, oR_p3, oG_ck, oG_g0, oG_p0, oG_g1, oG_p1, oG_g2, oG_p2, oW_ck, oW_g0, oW_p0, oW_g1, oW_p1, oW_g2, oW_p2, oB_ck, oB_g0, oB_p0, oB_g1, oB_p1, oB_g2, oB_p2, oB_g3, oB_p3, oB_g4, oB_p4, oB_g5, oB_p5, oB_g6, oB_p6, oC_ck, oC_g0, oC_p0, oC_g1, oC_p1, oC_g2, oC_p2, oC_g3, oC_p3, oC_g4, oC_p4, oC_g5, oC_p5, oC_g6, oC_p6, oH_ck, oH_g0, oH_p0, oH_g1, oH_p1, oH_g2, oH_p2, oH_g3, oH_p3, oM_ck, oM_g0, oM_p0, oM_g1, oM_p1, oM_g2, oM_p2, oM_g3, oM_p3, oM_g4, oM_p4, oM_g5, oM_p5, oM_g6, oM_p6, oM_g7, oM_p7, oM_g8, oM_p8, oM_g9, oM_p9, oM_g10, oM_p10, oM_g11, oM_p11, oM_g12, oM_p12, oM_g13, oM_p13, oM_g14, oM_p14, oM_g15, oM_p15, oM_g16, oM_p16, oM_g17, oM_p17, oM_g18, oM_p18, oM_g19, oM_p19, oM_g20, oM_p20, oM_g21, oM_p21, oM_g22, oM_p22, oM_g23, oM_p23, oM_g24, oM_p24, oM_g25, oM_p25, oM_g26, oM_p26, oM_g27, oM_p27, oM_g28, oM_p28, oM_g29, oM_p29, p1, p6, hfar, hca, hne, hnf, if_false, hS, hb1, k1, a1, hE, hb2, hbl, w1, nI_add, hr2, g1, l4, hwk, r1, r4, r6, a4, l2, hk, if_true, t1, hd0, hdv, hwk2]
    · have est : strikeS P (s, ru) i wt = (weakS s (cellOf (farN P i wt)) ((wt + farN P i wt) / 2), ru + wt) := by
        unfold strikeS
        rw [if_neg hc, if_neg hk]
      rw [est]
      simp only [m121_0, m121_1, m121_2, m121_3, m121_6, m121_8, m121_10, m121_13, m121_15, m121_17, m121_19, m121_22, m121_23, m121_24, m121_27, m121_30, m121_31, m121_32, m121_35, m121_36, m121_37, m121_40, m121_43, m121_44, m121_45, m121_47, m121_50, m121_52, m121_53, m121_54, m121_57, m121_58, m121_59, m121_62, m121_63, m121_65, m121_67, m121_70, m121_71, m121_74, m121_75, m121_78, m121_79, m121_80, m121_81, m121_82, m121_85, m121_86, m121_88, m121_89, m121_90, m121_92, m121_93, m121_94, m121_97, ob_some, pushr_s, pushr_n, iget_eq, gf_eq, pf_eq, ck_eq, alen_eq, rget_eq, iset_eq, Option.bind_some, Option.map_some, Option.elim_some, hput_at, ↓reduceIte, Nat.reduceEqDiff, Nat.reduceAdd, ne_eq, not_false_eq_true, oS_ck, oS_g0, oS_p0, oS_g1, oS_p1, oS_g2, oS_p2, oS_g3, oS_p3, oS_g4, oS_p4, oS_g5, oS_p5, oS_g6, oS_p6, oP_ck, oP_g0, oP_p0, oP_g1, oP_p1, oP_g2, oP_p2, oP_g3, oP_p3, oP_g4, oP_p4, oP_g5, oP_p5, oP_g6, oP_p6, oP_g7, oP_p7, oP_g8, oP_p8, oP_g9, oP_p9, oP_g10, oP_p10, oP_g11, oP_p11, oP_g12, oP_p12, oR_ck, oR_g0, oR_p0, oR_g1, oR_p1, oR_g2, oR_p2, oR_g3, oR_p3, oG_ck, oG_g0, oG_p0, oG_g1, oG_p1, oG_g2, oG_p2, oW_ck, oW_g0, oW_p0, oW_g1, oW_p1, oW_g2, oW_p2, oB_ck, oB_g0, oB_p0, oB_g1, oB_p1, oB_g2, oB_p2, oB_g3, oB_p3, oB_g4, oB_p4, oB_g5, oB_p5, oB_g6, oB_p6, oC_ck, oC_g0, oC_p0, oC_g1, oC_p1, oC_g2, oC_p2, oC_g3, oC_p3, oC_g4, oC_p4, oC_g5, oC_p5, oC_g6, oC_p6, oH_ck, oH_g0, oH_p0, oH_g1, oH_p1, oH_g2, oH_p2, oH_g3, oH_p3, oM_ck, oM_g0, oM_p0, oM_g1, oM_p1, oM_g2, oM_p2, oM_g3, oM_p3, oM_g4, oM_p4, oM_g5, oM_p5, oM_g6, oM_p6, oM_g7, oM_p7, oM_g8, oM_p8, oM_g9, oM_p9, oM_g10, oM_p10, oM_g11, oM_p11, oM_g12, oM_p12, oM_g13, oM_p13, oM_g14, oM_p14, oM_g15, oM_p15, oM_g16, oM_p16, oM_g17, oM_p17, oM_g18, oM_p18, oM_g19, oM_p19, oM_g20, oM_p20, oM_g21, oM_p21, oM_g22, oM_p22, oM_g23, oM_p23, oM_g24, oM_p24, oM_g25, oM_p25, oM_g26, oM_p26, oM_g27, oM_p27, oM_g28, oM_p28, oM_g29, oM_p29, p1, p6, hfar, hca, hne, hnf, if_false, hS, hb1, k1, a1, hE, hb2, hbl, w1, nI_add, hr2, g1, l4, hwk, r1, r4, r6, a4, l2, hk]
-- the siege as an object
/-- a day as the class says it: 0 is none -/
def dN (d : Nat) : Int32 := if d = 0 then -4 else nI d
theorem dN_0 : dN 0 = -4 := rfl
theorem dN_0t : (dN 0 = -4) = True := eq_true rfl
theorem dN_pos {d : Nat} (h : d ≠ 0) : dN d = nI d := if_neg h
theorem dN_eq {d : Nat} (h : d < 100000) : (dN d = -4) = (d = 0) := by
  by_cases e : d = 0
  · subst e; exact propext (Iff.intro (fun _ => rfl) (fun _ => rfl))
  · rw [dN_pos e]
    refine propext (Iff.intro (fun q => ?_) (fun q => absurd q e))
    have h1 : ¬ nI d < nI 0 := nI_not_neg (by omega)
    rw [q] at h1
    exact absurd (by decide) h1
abbrev Dy : Type := Wl × Nat × Nat
def SiegeC (h : Hp) (g : Nat) (f : Nat → Nat) (X : Dy) : Prop := g ≠ 0 ∧ h g = some (oG (.ref (g + 1)) (.int (dN X.2.1)) (.int (cN4 X.2.2))) ∧ WallC h (g + 1) f X.1.1 X.1.2
def gset (h : Hp) (g : Nat) (f : Nat → Nat) (X : Dy) : Hp := fun j => if j = g then some (oG (.ref (g + 1)) (.int (dN X.2.1)) (.int (cN4 X.2.2))) else wset h (g + 1) f X.1.1 X.1.2 j
theorem gset_ne (h : Hp) {g j : Nat} (f : Nat → Nat) (X : Dy) (hj : j < g ∨ g + 3 < j) : gset h g f X j = h j := by
  unfold gset
  rw [if_neg (by omega), wset_ne _ _ _ _ (by omega)]
theorem gset_C (h : Hp) {g : Nat} (hg : g ≠ 0) (f : Nat → Nat) (X : Dy) : SiegeC (gset h g f X) g f X := by
  obtain ⟨-, h1, h2, h3⟩ := wset_C h (w := g + 1) (by omega) f X.1.1 X.1.2
  refine ⟨hg, if_pos rfl, by omega, ?_, ?_, ?_⟩
  · unfold gset; rw [if_neg (by omega)]; exact h1
  · unfold gset; rw [if_neg (by omega)]; exact h2
  · unfold gset; rw [if_neg (by omega)]; exact h3
theorem gset_gset (h : Hp) (g : Nat) (f f' : Nat → Nat) (X X' : Dy) : gset (gset h g f X) g f' X' = gset h g f' X' := by
  funext j
  unfold gset wset
  by_cases h0 : j = g
  · simp only [h0, if_true]
  · by_cases h1 : j = g + 1
    · simp only [h1, if_true]
    · by_cases h2 : j = g + 1 + 1
      · simp only [h2, if_true]
      · by_cases h3 : j = g + 1 + 2
        · simp only [h3, if_true]
        · simp only [h0, h1, h2, h3, if_false]
theorem SiegeC.id {h : Hp} {g : Nat} {f : Nat → Nat} {X : Dy} (hg : SiegeC h g f X) : gset h g f X = h := by
  obtain ⟨g0, g1, g2⟩ := hg
  funext j
  unfold gset
  by_cases h0 : j = g
  · rw [if_pos h0, h0, g1]
  · rw [if_neg h0, g2.id]
theorem SiegeC.set_w {h : Hp} {g : Nat} {f : Nat → Nat} {X : Dy} (hg : SiegeC h g f X) (f' s' : Nat → Nat) (ru' : Nat) : wset h (g + 1) f' s' ru' = gset h g f' ((s', ru'), X.2) := by
  obtain ⟨g0, g1, g2⟩ := hg
  funext j
  unfold gset
  by_cases h0 : j = g
  · rw [if_pos h0, h0, wset_ne _ _ _ _ (by omega), g1]
  · rw [if_neg h0]
theorem SiegeC.set_o {h : Hp} {g : Nat} {f : Nat → Nat} {X : Dy} (hg : SiegeC h g f X) (d c : Nat) : hput h g (oG (.ref (g + 1)) (.int (dN d)) (.int (cN4 c))) = gset h g f (X.1, d, c) := by
  obtain ⟨g0, g1, g2⟩ := hg
  funext j
  unfold gset
  rw [hput_at]
  by_cases h0 : j = g
  · rw [if_pos h0, if_pos h0]
  · rw [if_neg h0, if_neg h0, g2.id]
theorem PlanC.keepG {h : Hp} {p g : Nat} {P : Pl} (hp : PlanC h p P) (hw : p + 9 < g ∨ g + 3 < p) (f : Nat → Nat) (X : Dy) : PlanC (gset h g f X) p P := hp.same (fun j h1 h2 => gset_ne h f X (by omega))
theorem begin_eq {h : Hp} {p g : Nat} {P : Pl} {f : Nat → Nat} {X : Dy} (hP : PlanC h p P) (hg : SiegeC h g f X) (hd : p + 9 < g ∨ g + 3 < p) (z : Zc) (Q : Option Value → Zc → Hp → Prop) : Ev 123 (0, [some (.ref g), some (.ref p)], [], z, h) Q = Q none z (gset h g (P 8) ((P 8, 0), 0, 10)) := by
  have hg' := hg
  obtain ⟨g0, g1, g2⟩ := hg
  have hb := build_eq hP g2 (by omega)
  have e1 := hg'.set_w (P 8) (P 8) 0
  obtain ⟨-, k1, k2⟩ := gset_C h g0 (P 8) ((P 8, 0), X.2)
  have e2 := (gset_C h g0 (P 8) ((P 8, 0), X.2)).set_o 0 X.2.2
  rw [gset_gset, dN_0] at e2
  obtain ⟨-, m1, m2⟩ := gset_C h g0 (P 8) ((P 8, 0), 0, X.2.2)
  have e3 := (gset_C h g0 (P 8) ((P 8, 0), 0, X.2.2)).set_o 0 10
  rw [gset_gset, dN_0, cN4_10] at e3
  rw [dN_0] at m1
  have w1 := g2.2.1
  simp only [m123_0, m123_1, m123_4, m123_5, m123_8, m123_9, m123_11, m123_14, m123_15, m123_17, m123_20, ob_some, pushr_s, pushr_n, iget_eq, gf_eq, pf_eq, ck_eq, alen_eq, rget_eq, iset_eq, Option.bind_some, Option.map_some, Option.elim_some, hput_at, ↓reduceIte, Nat.reduceEqDiff, Nat.reduceAdd, ne_eq, not_false_eq_true, oS_ck, oS_g0, oS_p0, oS_g1, oS_p1, oS_g2, oS_p2, oS_g3, oS_p3, oS_g4, oS_p4, oS_g5, oS_p5, oS_g6, oS_p6, oP_ck, oP_g0, oP_p0, oP_g1, oP_p1, oP_g2, oP_p2, oP_g3, oP_p3, oP_g4, oP_p4, oP_g5, oP_p5, oP_g6, oP_p6, oP_g7, oP_p7, oP_g8, oP_p8, oP_g9, oP_p9, oP_g10, oP_p10, oP_g11, oP_p11, oP_g12, oP_p12, oR_ck, oR_g0, oR_p0, oR_g1, oR_p1, oR_g2, oR_p2, oR_g3, oR_p3, oG_ck, oG_g0, oG_p0, oG_g1, oG_p1, oG_g2, oG_p2, oW_ck, oW_g0, oW_p0, oW_g1, oW_p1, oW_g2, oW_p2, oB_ck, oB_g0, oB_p0, oB_g1, oB_p1, oB_g2, oB_p2, oB_g3, oB_p3, oB_g4, oB_p4, oB_g5, oB_p5, oB_g6, oB_p6, oC_ck, oC_g0, oC_p0, oC_g1, oC_p1, oC_g2, oC_p2, oC_g3, oC_p3, oC_g4, oC_p4, oC_g5, oC_p5, oC_g6, oC_p6, oH_ck, oH_g0, oH_p0, oH_g1, oH_p1, oH_g2, oH_p2, oH_g3, oH_p3, oM_ck, oM_g0, oM_p0, oM_g1, oM_p1, oM_g2, oM_p2, oM_g3, oM_p3, oM_g4, oM_p4, oM_g5, oM_p5, oM_g6, oM_p6, oM_g7, oM_p7, oM_g8, oM_p8, oM_g9, oM_p9, oM_g10, oM_p10, oM_g11, oM_p11, oM_g12, oM_p12, oM_g13, oM_p13, oM_g14, oM_p14, oM_g15, oM_p15, oM_g16, oM_p16, oM_g17, oM_p17, oM_g18, oM_p18, oM_g19, oM_p19, oM_g20, oM_p20, oM_g21, oM_p21, oM_g22, oM_p22, oM_g23, oM_p23, oM_g24, oM_p24, oM_g25, oM_p25, oM_g26, oM_p26, oM_g27, oM_p27, oM_g28, oM_p28, oM_g29, oM_p29, g1, w1, hb, e1, k1, e2, m1, e3]
-- a day
def thrD (P : Pl) (d : Nat) : Nat → Wl → Wl
  | 0, S => S
  | n + 1, S => thrD P d n (if P 6 (P 0 1 - (n + 1)) = d then strikeS P S (P 0 1 - (n + 1)) (P 7 (P 0 1 - (n + 1))) else S)
def passS (f : Nat → Nat) (P : Pl) (d : Nat) (X : Dy) : Dy :=
  (mendN f (P 0 2) (thrD P d (P 0 1) X.1), if X.2.1 = 0 ∧ opF (thrD P d (P 0 1) X.1).1 10 ≠ 10 then (d, opF (thrD P d (P 0 1) X.1).1 10) else X.2)
theorem thrD_le (P : Pl) (d : Nat) : ∀ n S j, (thrD P d n S).1 j ≤ S.1 j
  | 0, S, j => Nat.le_refl _
  | n + 1, S, j => by
    rw [thrD]
    refine Nat.le_trans (thrD_le P d n _ j) ?_
    split
    · exact strikeS_le _ _ _ _ _
    · exact Nat.le_refl _
theorem thrD_ru {P : Pl} (hV : Valid P) (d : Nat) : ∀ n S, n ≤ P 0 1 → (thrD P d n S).2 ≤ S.2 + 20 * n
  | 0, S, _ => by rw [thrD]; omega
  | n + 1, S, hn => by
    rw [thrD]
    refine Nat.le_trans (thrD_ru hV d n _ (by omega)) ?_
    obtain ⟨v0, v1, v2, v3, v4, v5, v6, v7⟩ := hV
    have := (v5 (P 0 1 - (n + 1)) (by omega)).2.2.2.2
    split
    · have := strikeS_ru P S (P 0 1 - (n + 1)) (P 7 (P 0 1 - (n + 1))); omega
    · omega
theorem mend1_ru (f : Nat → Nat) (S : Wl) : (mend1 f S).2 ≤ S.2 := by
  unfold mend1
  split
  · exact Nat.le_refl _
  · exact Nat.sub_le _ _
theorem mendN_ru (f : Nat → Nat) : ∀ n S, (mendN f n S).2 ≤ S.2
  | 0, S => Nat.le_refl _
  | n + 1, S => Nat.le_trans (mendN_ru f n _) (mend1_ru f S)
theorem WB.mendedN {f : Nat → Nat} : ∀ n (S : Wl), WB f S.1 → WB f (mendN f n S).1
  | 0, S, h => h
  | n + 1, S, h => WB.mendedN n _ (WB.mended h)
theorem opF_le (s : Nat → Nat) : ∀ n, n ≤ 10 → opF s n = 10 ∨ opF s n < 10
  | 0, _ => Or.inl rfl
  | n + 1, h => by
    rw [opF]
    split
    · exact Or.inr (by omega)
    · exact opF_le s n (by omega)
theorem pass_loop {p g d : Nat} {P : Pl} {f : Nat → Nat} (hV : Valid P) (hd : p + 9 < g ∨ g + 3 < p) (hd30 : d ≤ 30) (z : Zc) (Q : Option Value → Zc → Hp → Prop) (T : Prop) :
    ∀ n i, n + i = P 0 1 → ∀ (h : Hp) (X : Dy), PlanC h p P → SiegeC h g f X → WB f X.1.1 → X.1.2 + 20 * n < 100000 →
    (Ev 126 (41, [some (.ref g), some (.ref p), some (.int (nI d)), some (.int (nI (P 0 1)))], [], z, gset h g f (thrD P d n X.1, X.2)) Q = T) →
    Ev 126 (2, [some (.ref g), some (.ref p), some (.int (nI d)), some (.int (nI i))], [], z, h) Q = T := by
  intro n
  induction n with
  | zero =>
    intro i hi h X hP hg hb hr hT
    have e : i = P 0 1 := by omega
    subst e
    have hv1 := hV.2.1
    rw [thrD, show ((X.1, X.2) : Dy) = X from rfl, hg.id] at hT
    rw [m126_2]
    have p1 := hP.2.1
    simp only [m126_3, m126_4, m126_7, ob_some, pushr_s, pushr_n, iget_eq, gf_eq, pf_eq, ck_eq, alen_eq, rget_eq, iset_eq, Option.bind_some, Option.map_some, Option.elim_some, hput_at, ↓reduceIte, Nat.reduceEqDiff, Nat.reduceAdd, ne_eq, not_false_eq_true, oS_ck, oS_g0, oS_p0, oS_g1, oS_p1, oS_g2, oS_p2, oS_g3, oS_p3, oS_g4, oS_p4, oS_g5, oS_p5, oS_g6, oS_p6, oP_ck, oP_g0, oP_p0, oP_g1, oP_p1, oP_g2, oP_p2, oP_g3, oP_p3, oP_g4, oP_p4, oP_g5, oP_p5, oP_g6, oP_p6, oP_g7, oP_p7, oP_g8, oP_p8, oP_g9, oP_p9, oP_g10, oP_p10, oP_g11, oP_p11, oP_g12, oP_p12, oR_ck, oR_g0, oR_p0, oR_g1, oR_p1, oR_g2, oR_p2, oR_g3, oR_p3, oG_ck, oG_g0, oG_p0, oG_g1, oG_p1, oG_g2, oG_p2, oW_ck, oW_g0, oW_p0, oW_g1, oW_p1, oW_g2, oW_p2, oB_ck, oB_g0, oB_p0, oB_g1, oB_p1, oB_g2, oB_p2, oB_g3, oB_p3, oB_g4, oB_p4, oB_g5, oB_p5, oB_g6, oB_p6, oC_ck, oC_g0, oC_p0, oC_g1, oC_p1, oC_g2, oC_p2, oC_g3, oC_p3, oC_g4, oC_p4, oC_g5, oC_p5, oC_g6, oC_p6, oH_ck, oH_g0, oH_p0, oH_g1, oH_p1, oH_g2, oH_p2, oH_g3, oH_p3, oM_ck, oM_g0, oM_p0, oM_g1, oM_p1, oM_g2, oM_p2, oM_g3, oM_p3, oM_g4, oM_p4, oM_g5, oM_p5, oM_g6, oM_p6, oM_g7, oM_p7, oM_g8, oM_p8, oM_g9, oM_p9, oM_g10, oM_p10, oM_g11, oM_p11, oM_g12, oM_p12, oM_g13, oM_p13, oM_g14, oM_p14, oM_g15, oM_p15, oM_g16, oM_p16, oM_g17, oM_p17, oM_g18, oM_p18, oM_g19, oM_p19, oM_g20, oM_p20, oM_g21, oM_p21, oM_g22, oM_p22, oM_g23, oM_p23, oM_g24, oM_p24, oM_g25, oM_p25, oM_g26, oM_p26, oM_g27, oM_p27, oM_g28, oM_p28, oM_g29, oM_p29, p1, nlt (a := P 0 1) (b := P 0 1) (by omega) (by omega), Nat.lt_irrefl, if_false]
    exact hT
  | succ n ih =>
    intro i hi h X hP hg hb hr hT
    have hP' := hP
    have hg' := hg
    have hV' := hV
    obtain ⟨v0, v1, v2, v3, v4, v5, v6, v7⟩ := hV
    have hlt : i < P 0 1 := by omega
    obtain ⟨u1, u2, u3, u4, u5⟩ := v5 i hlt
    obtain ⟨p0, p1, p2, p3, p4, p5, p6, p7, p8, p9, p10⟩ := hP
    obtain ⟨g0, g1, g2⟩ := hg
    have hst := strike_eq hP' hV' g2 (by omega) hlt u5 u4 (fun c hc => by have := hb c hc; omega) (by omega)
    have e0 : P 0 1 - (n + 1) = i := by omega
    rw [thrD, e0] at hT
    have l1 := nlt (a := i) (b := P 0 1) (by omega) (by omega)
    have l2 := neq (a := P 6 i) (b := d) (by omega) (by omega)
    have a1 := igE_AI (n := 6) (j := i) (P 6) (by omega) (by decide)
    have a2 := igE_AI (n := 6) (j := i) (P 7) (by omega) (by decide)
    have e1 := hg'.set_w f (strikeS P (X.1.1, X.1.2) i (P 7 i)).1 (strikeS P (X.1.1, X.1.2) i (P 7 i)).2
    rw [m126_2]
    by_cases hday : P 6 i = d
    · rw [if_pos hday] at hT
      have ihk := ih (i + 1) (by omega) (gset h g f (strikeS P X.1 i (P 7 i), X.2)) (strikeS P X.1 i (P 7 i), X.2) (hP'.keepG hd _ _) (gset_C h g0 f _) (hb.less (fun c => strikeS_le _ _ _ _ _)) (by have := strikeS_ru P X.1 i (P 7 i); dsimp only; omega) (by rw [gset_gset]; exact hT)
      simp only [m126_3, m126_4, m126_7, m126_10, m126_11, m126_14, m126_15, m126_16, m126_17, m126_20, m126_21, m126_22, m126_25, m126_26, m126_27, m126_30, m126_31, m126_32, m126_35, m126_38, ob_some, pushr_s, pushr_n, iget_eq, gf_eq, pf_eq, ck_eq, alen_eq, rget_eq, iset_eq, Option.bind_some, Option.map_some, Option.elim_some, hput_at, ↓reduceIte, Nat.reduceEqDiff, Nat.reduceAdd, ne_eq, not_false_eq_true, oS_ck, oS_g0, oS_p0, oS_g1, oS_p1, oS_g2, oS_p2, oS_g3, oS_p3, oS_g4, oS_p4, oS_g5, oS_p5, oS_g6, oS_p6, oP_ck, oP_g0, oP_p0, oP_g1, oP_p1, oP_g2, oP_p2, oP_g3, oP_p3, oP_g4, oP_p4, oP_g5, oP_p5, oP_g6, oP_p6, oP_g7, oP_p7, oP_g8, oP_p8, oP_g9, oP_p9, oP_g10, oP_p10, oP_g11, oP_p11, oP_g12, oP_p12, oR_ck, oR_g0, oR_p0, oR_g1, oR_p1, oR_g2, oR_p2, oR_g3, oR_p3, oG_ck, oG_g0, oG_p0, oG_g1, oG_p1, oG_g2, oG_p2, oW_ck, oW_g0, oW_p0, oW_g1, oW_p1, oW_g2, oW_p2, oB_ck, oB_g0, oB_p0, oB_g1, oB_p1, oB_g2, oB_p2, oB_g3, oB_p3, oB_g4, oB_p4, oB_g5, oB_p5, oB_g6, oB_p6, oC_ck, oC_g0, oC_p0, oC_g1, oC_p1, oC_g2, oC_p2, oC_g3, oC_p3, oC_g4, oC_p4, oC_g5, oC_p5, oC_g6, oC_p6, oH_ck, oH_g0, oH_p0, oH_g1, oH_p1, oH_g2, oH_p2, oH_g3, oH_p3, oM_ck, oM_g0, oM_p0, oM_g1, oM_p1, oM_g2, oM_p2, oM_g3, oM_p3, oM_g4, oM_p4, oM_g5, oM_p5, oM_g6, oM_p6, oM_g7, oM_p7, oM_g8, oM_p8, oM_g9, oM_p9, oM_g10, oM_p10, oM_g11, oM_p11, oM_g12, oM_p12, oM_g13, oM_p13, oM_g14, oM_p14, oM_g15, oM_p15, oM_g16, oM_p16, oM_g17, oM_p17, oM_g18, oM_p18, oM_g19, oM_p19, oM_g20, oM_p20, oM_g21, oM_p21, oM_g22, oM_p22, oM_g23, oM_p23, oM_g24, oM_p24, oM_g25, oM_p25, oM_g26, oM_p26, oM_g27, oM_p27, oM_g28, oM_p28, oM_g29, oM_p29, p1, p7, p8, g1, l1, hlt, if_true, a1, a2, l2, hday, hst, e1, nI_add]
      exact ihk
    · rw [if_neg hday] at hT
      have ihk := ih (i + 1) (by omega) h X hP' hg' hb (by omega) hT
      simp only [m126_3, m126_4, m126_7, m126_10, m126_11, m126_14, m126_15, m126_16, m126_17, m126_35, m126_38, ob_some, pushr_s, pushr_n, iget_eq, gf_eq, pf_eq, ck_eq, alen_eq, rget_eq, iset_eq, Option.bind_some, Option.map_some, Option.elim_some, hput_at, ↓reduceIte, Nat.reduceEqDiff, Nat.reduceAdd, ne_eq, not_false_eq_true, oS_ck, oS_g0, oS_p0, oS_g1, oS_p1, oS_g2, oS_p2, oS_g3, oS_p3, oS_g4, oS_p4, oS_g5, oS_p5, oS_g6, oS_p6, oP_ck, oP_g0, oP_p0, oP_g1, oP_p1, oP_g2, oP_p2, oP_g3, oP_p3, oP_g4, oP_p4, oP_g5, oP_p5, oP_g6, oP_p6, oP_g7, oP_p7, oP_g8, oP_p8, oP_g9, oP_p9, oP_g10, oP_p10, oP_g11, oP_p11, oP_g12, oP_p12, oR_ck, oR_g0, oR_p0, oR_g1, oR_p1, oR_g2, oR_p2, oR_g3, oR_p3, oG_ck, oG_g0, oG_p0, oG_g1, oG_p1, oG_g2, oG_p2, oW_ck, oW_g0, oW_p0, oW_g1, oW_p1, oW_g2, oW_p2, oB_ck, oB_g0, oB_p0, oB_g1, oB_p1, oB_g2, oB_p2, oB_g3, oB_p3, oB_g4, oB_p4, oB_g5, oB_p5, oB_g6, oB_p6, oC_ck, oC_g0, oC_p0, oC_g1, oC_p1, oC_g2, oC_p2, oC_g3, oC_p3, oC_g4, oC_p4, oC_g5, oC_p5, oC_g6, oC_p6, oH_ck, oH_g0, oH_p0, oH_g1, oH_p1, oH_g2, oH_p2, oH_g3, oH_p3, oM_ck, oM_g0, oM_p0, oM_g1, oM_p1, oM_g2, oM_p2, oM_g3, oM_p3, oM_g4, oM_p4, oM_g5, oM_p5, oM_g6, oM_p6, oM_g7, oM_p7, oM_g8, oM_p8, oM_g9, oM_p9, oM_g10, oM_p10, oM_g11, oM_p11, oM_g12, oM_p12, oM_g13, oM_p13, oM_g14, oM_p14, oM_g15, oM_p15, oM_g16, oM_p16, oM_g17, oM_p17, oM_g18, oM_p18, oM_g19, oM_p19, oM_g20, oM_p20, oM_g21, oM_p21, oM_g22, oM_p22, oM_g23, oM_p23, oM_g24, oM_p24, oM_g25, oM_p25, oM_g26, oM_p26, oM_g27, oM_p27, oM_g28, oM_p28, oM_g29, oM_p29, p1, p7, l1, hlt, if_true, a1, l2, hday, if_false, nI_add]
      exact ihk
set_option maxHeartbeats 1000000 in
theorem pass_eq {h : Hp} {p g d : Nat} {P : Pl} {f : Nat → Nat} {X : Dy} (hP : PlanC h p P) (hV : Valid P) (hg : SiegeC h g f X) (hd : p + 9 < g ∨ g + 3 < p) (hd30 : d ≤ 30) (hd1 : 1 ≤ d) (hb : WB f X.1.1) (hr : X.1.2 < 50000) (hx : X.2.1 ≤ 30) (hc10 : X.2.2 ≤ 10) (z : Zc) (Q : Option Value → Zc → Hp → Prop) : Ev 126 (0, [some (.ref g), some (.ref p), some (.int (nI d)), none], [], z, h) Q = Q none z (gset h g f (passS f P d X)) := by
  simp only [m126_0, m126_1]
  have hv1 := hV.2.1
  have hv2 := hV.2.2.1
  have hru := thrD_ru hV d (P 0 1) X.1 (Nat.le_refl _)
  refine pass_loop hV hd hd30 z Q _ (P 0 1) 0 (by omega) h X hP hg hb (by omega) ?_
  have hP2 := hP.keepG hd f (thrD P d (P 0 1) X.1, X.2)
  have hg2 := gset_C h hg.1 f (thrD P d (P 0 1) X.1, X.2)
  have hb2 : WB f (thrD P d (P 0 1) X.1).1 := hb.less (fun c => thrD_le P d _ _ c)
  unfold passS
  generalize hS1 : thrD P d (P 0 1) X.1 = S1 at hP2 hg2 hb2 hru
  obtain ⟨p0, p1, -, -, -, -, -, -, -, -, -⟩ := hP2
  have hg2' := hg2
  obtain ⟨g0, g1, g2⟩ := hg2
  dsimp only at g1 g2
  have w1 := g2.2.1
  have ho := opened_eq g2 (fun c hc => by have := hb2 c hc; omega)
  have l1 := dN_eq (d := X.2.1) (by omega)
  have hm := mend_eq g2 hb2 (t := P 0 2) (by omega) (by omega)
  have e1 := hg2'.set_w f (mendN f (P 0 2) (S1.1, S1.2)).1 (mendN f (P 0 2) (S1.1, S1.2)).2
  rw [gset_gset] at e1
  by_cases c1 : X.2.1 = 0
  · rcases opF_le S1.1 10 (Nat.le_refl _) with o1 | o1
    · rw [if_neg (fun q => q.2 o1)]
      simp only [m126_0, m126_1, m126_3, m126_4, m126_7, m126_10, m126_11, m126_14, m126_15, m126_16, m126_17, m126_20, m126_21, m126_22, m126_25, m126_26, m126_27, m126_30, m126_31, m126_32, m126_35, m126_38, m126_41, m126_42, m126_45, m126_47, m126_50, m126_51, m126_54, m126_57, m126_59, m126_62, m126_63, m126_64, m126_67, m126_68, m126_69, m126_72, m126_75, m126_78, m126_79, m126_82, m126_83, m126_86, m126_89, ob_some, pushr_s, pushr_n, iget_eq, gf_eq, pf_eq, ck_eq, alen_eq, rget_eq, iset_eq, Option.bind_some, Option.map_some, Option.elim_some, hput_at, ↓reduceIte, Nat.reduceEqDiff, Nat.reduceAdd, ne_eq, not_false_eq_true, oS_ck, oS_g0, oS_p0, oS_g1, oS_p1, oS_g2, oS_p2, oS_g3, oS_p3, oS_g4, oS_p4, oS_g5, oS_p5, oS_g6, oS_p6, oP_ck, oP_g0, oP_p0, oP_g1, oP_p1, oP_g2, oP_p2, oP_g3, oP_p3, oP_g4, oP_p4, oP_g5, oP_p5, oP_g6, oP_p6, oP_g7, oP_p7, oP_g8, oP_p8, oP_g9, oP_p9, oP_g10, oP_p10, oP_g11, oP_p11, oP_g12, oP_p12, oR_ck, oR_g0, oR_p0, oR_g1, oR_p1, oR_g2, oR_p2, oR_g3, oR_p3, oG_ck, oG_g0, oG_p0, oG_g1, oG_p1, oG_g2, oG_p2, oW_ck, oW_g0, oW_p0, oW_g1, oW_p1, oW_g2, oW_p2, oB_ck, oB_g0, oB_p0, oB_g1, oB_p1, oB_g2, oB_p2, oB_g3, oB_p3, oB_g4, oB_p4, oB_g5, oB_p5, oB_g6, oB_p6, oC_ck, oC_g0, oC_p0, oC_g1, oC_p1, oC_g2, oC_p2, oC_g3, oC_p3, oC_g4, oC_p4, oC_g5, oC_p5, oC_g6, oC_p6, oH_ck, oH_g0, oH_p0, oH_g1, oH_p1, oH_g2, oH_p2, oH_g3, oH_p3, oM_ck, oM_g0, oM_p0, oM_g1, oM_p1, oM_g2, oM_p2, oM_g3, oM_p3, oM_g4, oM_p4, oM_g5, oM_p5, oM_g6, oM_p6, oM_g7, oM_p7, oM_g8, oM_p8, oM_g9, oM_p9, oM_g10, oM_p10, oM_g11, oM_p11, oM_g12, oM_p12, oM_g13, oM_p13, oM_g14, oM_p14, oM_g15, oM_p15, oM_g16, oM_p16, oM_g17, oM_p17, oM_g18, oM_p18, oM_g19, oM_p19, oM_g20, oM_p20, oM_g21, oM_p21, oM_g22, oM_p22, oM_g23, oM_p23, oM_g24, oM_p24, oM_g25, oM_p25, oM_g26, oM_p26, oM_g27, oM_p27, oM_g28, oM_p28, oM_g29, oM_p29, g1, p1, l1, c1, dN_0t, if_true, w1, ho, o1, cN4_10, hm, e1]
    · rw [if_pos ⟨c1, by omega⟩]
      have l2 := cN4_ne o1
      have e2 := hg2'.set_o d X.2.2
      rw [gset_gset, dN_pos (by omega)] at e2
      have hg3 := gset_C h hg.1 f (S1, d, X.2.2)
      have hg3' := hg3
      obtain ⟨-, k1, k2⟩ := hg3
      dsimp only at k1 k2
      rw [dN_pos (d := d) (by omega)] at k1
      have ho2 := opened_eq k2 (fun c hc => by have := hb2 c hc; omega)
      have e3 := hg3'.set_o d (opF S1.1 10)
      rw [gset_gset, dN_pos (by omega)] at e3
      have hg4 := gset_C h hg.1 f (S1, d, opF S1.1 10)
      have hg4' := hg4
      obtain ⟨-, m1, m2⟩ := hg4
      dsimp only at m1 m2
      have hm2 := mend_eq m2 hb2 (t := P 0 2) (by omega) (by omega)
      have e4 := hg4'.set_w f (mendN f (P 0 2) (S1.1, S1.2)).1 (mendN f (P 0 2) (S1.1, S1.2)).2
      rw [gset_gset] at e4
      have hP4 := (hP.keepG hd f (S1, d, opF S1.1 10)).2.1
      have kw1 := k2.2.1
      have mw1 := m2.2.1
      simp only [m126_0, m126_1, m126_3, m126_4, m126_7, m126_10, m126_11, m126_14, m126_15, m126_16, m126_17, m126_20, m126_21, m126_22, m126_25, m126_26, m126_27, m126_30, m126_31, m126_32, m126_35, m126_38, m126_41, m126_42, m126_45, m126_47, m126_50, m126_51, m126_54, m126_57, m126_59, m126_62, m126_63, m126_64, m126_67, m126_68, m126_69, m126_72, m126_75, m126_78, m126_79, m126_82, m126_83, m126_86, m126_89, ob_some, pushr_s, pushr_n, iget_eq, gf_eq, pf_eq, ck_eq, alen_eq, rget_eq, iset_eq, Option.bind_some, Option.map_some, Option.elim_some, hput_at, ↓reduceIte, Nat.reduceEqDiff, Nat.reduceAdd, ne_eq, not_false_eq_true, oS_ck, oS_g0, oS_p0, oS_g1, oS_p1, oS_g2, oS_p2, oS_g3, oS_p3, oS_g4, oS_p4, oS_g5, oS_p5, oS_g6, oS_p6, oP_ck, oP_g0, oP_p0, oP_g1, oP_p1, oP_g2, oP_p2, oP_g3, oP_p3, oP_g4, oP_p4, oP_g5, oP_p5, oP_g6, oP_p6, oP_g7, oP_p7, oP_g8, oP_p8, oP_g9, oP_p9, oP_g10, oP_p10, oP_g11, oP_p11, oP_g12, oP_p12, oR_ck, oR_g0, oR_p0, oR_g1, oR_p1, oR_g2, oR_p2, oR_g3, oR_p3, oG_ck, oG_g0, oG_p0, oG_g1, oG_p1, oG_g2, oG_p2, oW_ck, oW_g0, oW_p0, oW_g1, oW_p1, oW_g2, oW_p2, oB_ck, oB_g0, oB_p0, oB_g1, oB_p1, oB_g2, oB_p2, oB_g3, oB_p3, oB_g4, oB_p4, oB_g5, oB_p5, oB_g6, oB_p6, oC_ck, oC_g0, oC_p0, oC_g1, oC_p1, oC_g2, oC_p2, oC_g3, oC_p3, oC_g4, oC_p4, oC_g5, oC_p5, oC_g6, oC_p6, oH_ck, oH_g0, oH_p0, oH_g1, oH_p1, oH_g2, oH_p2, oH_g3, oH_p3, oM_ck, oM_g0, oM_p0, oM_g1, oM_p1, oM_g2, oM_p2, oM_g3, oM_p3, oM_g4, oM_p4, oM_g5, oM_p5, oM_g6, oM_p6, oM_g7, oM_p7, oM_g8, oM_p8, oM_g9, oM_p9, oM_g10, oM_p10, oM_g11, oM_p11, oM_g12, oM_p12, oM_g13, oM_p13, oM_g14, oM_p14, oM_g15, oM_p15, oM_g16, oM_p16, oM_g17, oM_p17, oM_g18, oM_p18, oM_g19, oM_p19, oM_g20, oM_p20, oM_g21, oM_p21, oM_g22, oM_p22, oM_g23, oM_p23, oM_g24, oM_p24, oM_g25, oM_p25, oM_g26, oM_p26, oM_g27, oM_p27, oM_g28, oM_p28, oM_g29, oM_p29, g1, l1, c1, dN_0t, if_true, w1, ho, l2, if_false, e2, k1, kw1, ho2, e3, m1, mw1, hP4, hm2, e4]
  · rw [if_neg (fun q => c1 q.1)]
    simp only [m126_0, m126_1, m126_3, m126_4, m126_7, m126_10, m126_11, m126_14, m126_15, m126_16, m126_17, m126_20, m126_21, m126_22, m126_25, m126_26, m126_27, m126_30, m126_31, m126_32, m126_35, m126_38, m126_41, m126_42, m126_45, m126_47, m126_50, m126_51, m126_54, m126_57, m126_59, m126_62, m126_63, m126_64, m126_67, m126_68, m126_69, m126_72, m126_75, m126_78, m126_79, m126_82, m126_83, m126_86, m126_89, ob_some, pushr_s, pushr_n, iget_eq, gf_eq, pf_eq, ck_eq, alen_eq, rget_eq, iset_eq, Option.bind_some, Option.map_some, Option.elim_some, hput_at, ↓reduceIte, Nat.reduceEqDiff, Nat.reduceAdd, ne_eq, not_false_eq_true, oS_ck, oS_g0, oS_p0, oS_g1, oS_p1, oS_g2, oS_p2, oS_g3, oS_p3, oS_g4, oS_p4, oS_g5, oS_p5, oS_g6, oS_p6, oP_ck, oP_g0, oP_p0, oP_g1, oP_p1, oP_g2, oP_p2, oP_g3, oP_p3, oP_g4, oP_p4, oP_g5, oP_p5, oP_g6, oP_p6, oP_g7, oP_p7, oP_g8, oP_p8, oP_g9, oP_p9, oP_g10, oP_p10, oP_g11, oP_p11, oP_g12, oP_p12, oR_ck, oR_g0, oR_p0, oR_g1, oR_p1, oR_g2, oR_p2, oR_g3, oR_p3, oG_ck, oG_g0, oG_p0, oG_g1, oG_p1, oG_g2, oG_p2, oW_ck, oW_g0, oW_p0, oW_g1, oW_p1, oW_g2, oW_p2, oB_ck, oB_g0, oB_p0, oB_g1, oB_p1, oB_g2, oB_p2, oB_g3, oB_p3, oB_g4, oB_p4, oB_g5, oB_p5, oB_g6, oB_p6, oC_ck, oC_g0, oC_p0, oC_g1, oC_p1, oC_g2, oC_p2, oC_g3, oC_p3, oC_g4, oC_p4, oC_g5, oC_p5, oC_g6, oC_p6, oH_ck, oH_g0, oH_p0, oH_g1, oH_p1, oH_g2, oH_p2, oH_g3, oH_p3, oM_ck, oM_g0, oM_p0, oM_g1, oM_p1, oM_g2, oM_p2, oM_g3, oM_p3, oM_g4, oM_p4, oM_g5, oM_p5, oM_g6, oM_p6, oM_g7, oM_p7, oM_g8, oM_p8, oM_g9, oM_p9, oM_g10, oM_p10, oM_g11, oM_p11, oM_g12, oM_p12, oM_g13, oM_p13, oM_g14, oM_p14, oM_g15, oM_p15, oM_g16, oM_p16, oM_g17, oM_p17, oM_g18, oM_p18, oM_g19, oM_p19, oM_g20, oM_p20, oM_g21, oM_p21, oM_g22, oM_p22, oM_g23, oM_p23, oM_g24, oM_p24, oM_g25, oM_p25, oM_g26, oM_p26, oM_g27, oM_p27, oM_g28, oM_p28, oM_g29, oM_p29, g1, p1, l1, c1, if_false, w1, hm, e1]
