/-! the reference: all days -/
theorem mmends_loop {h : Hp} {S : Nat → Int32} {A : Nat → Nat → Nat} {W : Mw} (hV : Valid (MP A)) {t d : Nat} (z : Zc) (Q : Option Value → Zc → Hp → Prop) (T : Prop) :
    ∀ n k, n + k = A 10 0 → ∀ (X : Dy), WB (A 9) X.1.1 → X.1.2 < 100000 →
    (Ev 58 (152, [some (.ref 78), some (.int (nI t)), some (.int (nI d)), some (.int (nI (A 10 0)))], [], z, gX h S A W (mendN (A 9) n X.1, X.2)) Q = T) →
    Ev 58 (132, [some (.ref 78), some (.int (nI t)), some (.int (nI d)), some (.int (nI k))], [], z, gX h S A W X) Q = T := by
  have v2 : A 10 0 ≤ 9 := hV.2.2.1
  have a0 := igE_AI (n := 2) (j := 0) (A 10) (by decide) (by decide)
  intro n
  induction n with
  | zero =>
    intro k hk X hb hr hT
    have e : k = A 10 0 := by omega
    subst e
    rw [m58_132, ← hT]
    simp only [gX_ch, m58_133, m58_134, m58_137, m58_138, m58_139, ob_some, pushr_s, pushr_n, iget_eq, gf_eq, pf_eq, ck_eq, alen_eq, rget_eq, iset_eq, Option.bind_some, Option.map_some, Option.elim_some, hput_at, ↓reduceIte, Nat.reduceEqDiff, Nat.reduceAdd, ne_eq, not_false_eq_true, oS_ck, oS_g0, oS_p0, oS_g1, oS_p1, oS_g2, oS_p2, oS_g3, oS_p3, oS_g4, oS_p4, oS_g5, oS_p5, oS_g6, oS_p6, oP_ck, oP_g0, oP_p0, oP_g1, oP_p1, oP_g2, oP_p2, oP_g3, oP_p3, oP_g4, oP_p4, oP_g5, oP_p5, oP_g6, oP_p6, oP_g7, oP_p7, oP_g8, oP_p8, oP_g9, oP_p9, oP_g10, oP_p10, oP_g11, oP_p11, oP_g12, oP_p12, oR_ck, oR_g0, oR_p0, oR_g1, oR_p1, oR_g2, oR_p2, oR_g3, oR_p3, oG_ck, oG_g0, oG_p0, oG_g1, oG_p1, oG_g2, oG_p2, oW_ck, oW_g0, oW_p0, oW_g1, oW_p1, oW_g2, oW_p2, oB_ck, oB_g0, oB_p0, oB_g1, oB_p1, oB_g2, oB_p2, oB_g3, oB_p3, oB_g4, oB_p4, oB_g5, oB_p5, oB_g6, oB_p6, oC_ck, oC_g0, oC_p0, oC_g1, oC_p1, oC_g2, oC_p2, oC_g3, oC_p3, oC_g4, oC_p4, oC_g5, oC_p5, oC_g6, oC_p6, oH_ck, oH_g0, oH_p0, oH_g1, oH_p1, oH_g2, oH_p2, oH_g3, oH_p3, oM_ck, oM_g0, oM_p0, oM_g1, oM_p1, oM_g2, oM_p2, oM_g3, oM_p3, oM_g4, oM_p4, oM_g5, oM_p5, oM_g6, oM_p6, oM_g7, oM_p7, oM_g8, oM_p8, oM_g9, oM_p9, oM_g10, oM_p10, oM_g11, oM_p11, oM_g12, oM_p12, oM_g13, oM_p13, oM_g14, oM_p14, oM_g15, oM_p15, oM_g16, oM_p16, oM_g17, oM_p17, oM_g18, oM_p18, oM_g19, oM_p19, oM_g20, oM_p20, oM_g21, oM_p21, oM_g22, oM_p22, oM_g23, oM_p23, oM_g24, oM_p24, oM_g25, oM_p25, oM_g26, oM_p26, oM_g27, oM_p27, oM_g28, oM_p28, oM_g29, oM_p29, mv0, mv1, mv2, mv3, mv4, mv5, mv6, mset_o, mset_po, mset_k1, mset_r1, mset_k2, mset_r2, mset_k3, mset_r3, mset_k4, mset_r4, mset_k5, mset_r5, mset_k6, mset_r6, mset_k7, mset_r7, mset_k8, mset_r8, mset_k9, mset_r9, mset_k10, mset_r10, mset_k11, mset_r11, mset_k12, mset_r12, mset_k13, mset_r13, mset_k14, mset_r14, mset_k15, mset_r15, mset_k16, mset_r16, mset_k17, mset_r17, mset_k18, mset_r18, mset_k19, mset_r19, mset_k20, mset_r20, mset_k21, mset_r21, mset_k22, mset_r22, mset_k23, mset_r23, aX_17, aX_6, aX_9, aX_4, aX_7, aX_8, aX_13, aX_10, sX_4, sX_5, sX_6, a0, nlt (a := A 10 0) (b := A 10 0) (by omega) (by omega), Nat.lt_irrefl, if_false]
    rfl
  | succ n ih =>
    intro k hk X hb hr hT
    have hlt : k < A 10 0 := by omega
    have hm := fun Q => mmend_eq (h := h) (S := S) (A := A) (W := W) (X := X) (fun c hc => by have := hb c hc; omega) (fun c hc => by have := hb c hc; omega) hr z Q
    have l1 := nlt (a := k) (b := A 10 0) (by omega) (by omega)
    have ihk := ih (k + 1) (by omega) (mend1 (A 9) X.1, X.2) (WB.mended hb) (by have := mend1_ru (A 9) X.1; dsimp only; omega) hT
    simp only [gX_ch] at ihk hm
    rw [m58_132]
    simp only [gX_ch, m58_133, m58_134, m58_137, m58_138, m58_139, m58_142, m58_143, m58_146, m58_149, ob_some, pushr_s, pushr_n, iget_eq, gf_eq, pf_eq, ck_eq, alen_eq, rget_eq, iset_eq, Option.bind_some, Option.map_some, Option.elim_some, hput_at, ↓reduceIte, Nat.reduceEqDiff, Nat.reduceAdd, ne_eq, not_false_eq_true, oS_ck, oS_g0, oS_p0, oS_g1, oS_p1, oS_g2, oS_p2, oS_g3, oS_p3, oS_g4, oS_p4, oS_g5, oS_p5, oS_g6, oS_p6, oP_ck, oP_g0, oP_p0, oP_g1, oP_p1, oP_g2, oP_p2, oP_g3, oP_p3, oP_g4, oP_p4, oP_g5, oP_p5, oP_g6, oP_p6, oP_g7, oP_p7, oP_g8, oP_p8, oP_g9, oP_p9, oP_g10, oP_p10, oP_g11, oP_p11, oP_g12, oP_p12, oR_ck, oR_g0, oR_p0, oR_g1, oR_p1, oR_g2, oR_p2, oR_g3, oR_p3, oG_ck, oG_g0, oG_p0, oG_g1, oG_p1, oG_g2, oG_p2, oW_ck, oW_g0, oW_p0, oW_g1, oW_p1, oW_g2, oW_p2, oB_ck, oB_g0, oB_p0, oB_g1, oB_p1, oB_g2, oB_p2, oB_g3, oB_p3, oB_g4, oB_p4, oB_g5, oB_p5, oB_g6, oB_p6, oC_ck, oC_g0, oC_p0, oC_g1, oC_p1, oC_g2, oC_p2, oC_g3, oC_p3, oC_g4, oC_p4, oC_g5, oC_p5, oC_g6, oC_p6, oH_ck, oH_g0, oH_p0, oH_g1, oH_p1, oH_g2, oH_p2, oH_g3, oH_p3, oM_ck, oM_g0, oM_p0, oM_g1, oM_p1, oM_g2, oM_p2, oM_g3, oM_p3, oM_g4, oM_p4, oM_g5, oM_p5, oM_g6, oM_p6, oM_g7, oM_p7, oM_g8, oM_p8, oM_g9, oM_p9, oM_g10, oM_p10, oM_g11, oM_p11, oM_g12, oM_p12, oM_g13, oM_p13, oM_g14, oM_p14, oM_g15, oM_p15, oM_g16, oM_p16, oM_g17, oM_p17, oM_g18, oM_p18, oM_g19, oM_p19, oM_g20, oM_p20, oM_g21, oM_p21, oM_g22, oM_p22, oM_g23, oM_p23, oM_g24, oM_p24, oM_g25, oM_p25, oM_g26, oM_p26, oM_g27, oM_p27, oM_g28, oM_p28, oM_g29, oM_p29, mv0, mv1, mv2, mv3, mv4, mv5, mv6, mset_o, mset_po, mset_k1, mset_r1, mset_k2, mset_r2, mset_k3, mset_r3, mset_k4, mset_r4, mset_k5, mset_r5, mset_k6, mset_r6, mset_k7, mset_r7, mset_k8, mset_r8, mset_k9, mset_r9, mset_k10, mset_r10, mset_k11, mset_r11, mset_k12, mset_r12, mset_k13, mset_r13, mset_k14, mset_r14, mset_k15, mset_r15, mset_k16, mset_r16, mset_k17, mset_r17, mset_k18, mset_r18, mset_k19, mset_r19, mset_k20, mset_r20, mset_k21, mset_r21, mset_k22, mset_r22, mset_k23, mset_r23, aX_17, aX_6, aX_9, aX_4, aX_7, aX_8, aX_13, aX_10, sX_4, sX_5, sX_6, a0, l1, hlt, if_true, hm, nI_add]
    exact ihk
theorem brX_pass (f : Nat → Nat) (P : Pl) (d : Nat) (X : Dy) : (mendN f (P 0 2) (brX d (thrD P d (P 0 1) X.1, X.2) 10).1, (brX d (thrD P d (P 0 1) X.1, X.2) 10).2) = passS f P d X := rfl
theorem mday_loop {h : Hp} {S : Nat → Int32} {A : Nat → Nat → Nat} {W : Mw} (hV : Valid (MP A)) {t : Nat} (ht : t ≤ 30) (z : Zc) (Q : Option Value → Zc → Hp → Prop) :
    ∀ n d x3, n + d = t → Ev 58 (45, [some (.ref 78), some (.int (nI t)), some (.int (nI (d + 1))), x3], [], z, gX h S A W (runF (MP A) d)) Q = Q none z (gX h S A W (runF (MP A) t)) := by
  intro n
  induction n with
  | zero =>
    intro d x3 hd
    have e : d = t := by omega
    subst e
    rw [m58_45]
    simp only [m58_46, m58_47, m58_158, nlt (a := d) (b := d + 1) (by omega) (by omega), Nat.lt_succ_self, if_true]
  | succ n ih =>
    intro d x3 hd
    obtain ⟨r1, r2, r3, r4⟩ := runF_ok hV d
    have v1 : A 6 0 ≤ 6 := hV.2.1
    have r1 : WB (A 9) (runF (MP A) d).1.1 := r1
    have hb1 : WB (A 9) (thrD (MP A) (d + 1) (A 6 0) (runF (MP A) d).1).1 := r1.less (fun c => thrD_le _ _ _ _ c)
    have hr1 := thrD_ru hV (d + 1) (A 6 0) (runF (MP A) d).1 (Nat.le_refl _)
    have l1 := nlt (a := t) (b := d + 1) (by omega) (by omega)
    rw [m58_45]
    simp only [m58_46, m58_47, m58_50, m58_51, l1, show ¬ t < d + 1 by omega, if_false]
    refine mthrow_loop hV (t := t) (d := d + 1) (by omega) z Q _ (A 6 0) 0 (by omega) _ r1 (by omega) ?_
    simp only [m58_83, m58_85]
    have hz : brX (d + 1) (thrD (MP A) (d + 1) (A 6 0) (runF (MP A) d).1, (runF (MP A) d).2) 0 = (thrD (MP A) (d + 1) (A 6 0) (runF (MP A) d).1, (runF (MP A) d).2) := by
      unfold brX
      rw [if_neg (fun q => q.2 rfl)]
    have hbr := mbreach_loop (h := h) (S := S) (A := A) (W := W) (t := t) (d := d + 1) (by omega) (by omega) (X := (thrD (MP A) (d + 1) (A 6 0) (runF (MP A) d).1, (runF (MP A) d).2)) (fun c hc => by have := hb1 c hc; dsimp only; omega) (by dsimp only; omega) z Q (Q none z (gX h S A W (runF (MP A) t))) (fun x => ?_) 0 9 rfl
    · rw [hz] at hbr
      exact hbr
    · simp only [m58_130, m58_131]
      refine mmends_loop hV z Q _ (A 10 0) 0 (by omega) _ hb1 (by show (thrD (MP A) (d + 1) (A 6 0) (runF (MP A) d).1).2 < _; omega) ?_
      simp only [m58_152, m58_155, nI_add]
      exact ih (d + 1) _ (by omega)
theorem minit_loop {h : Hp} {S : Nat → Int32} {A : Nat → Nat → Nat} {W : Mw} {t : Nat} (z : Zc) (Q : Option Value → Zc → Hp → Prop) (T : Prop)
    (hT : Ev 58 (43, [some (.ref 78), some (.int (nI t)), some (.int (nI 10)), none], [], z, mset h S (fup A 17 (A 9)) W) Q = T) :
    ∀ n c, n + c = 10 → ∀ f : Nat → Nat, (∀ j, j < c → f j = A 9 j) → Ev 58 (19, [some (.ref 78), some (.int (nI t)), some (.int (nI c)), none], [], z, mset h S (fup A 17 f) W) Q = T := by
  intro n
  induction n with
  | zero =>
    intro c hc f hf
    have hc : c = 10 := by omega
    subst hc
    have e : mset h S (fup A 17 f) W = mset h S (fup A 17 (A 9)) W := by
      rw [← mset_r17 h S A W f, ← mset_r17 h S A W (A 9), AI_congr (fun j hj => hf j hj)]
    rw [m58_19, ← hT, e]
    simp only [m58_20, m58_22, nlt (a := 10) (b := 10) (by decide) (by decide), Nat.lt_irrefl, if_false]
  | succ n ih =>
    intro c hc f hf
    have hlt : c < 10 := by omega
    have a1 := igE_AI (n := 20) (j := c) (A 9) (by omega) (by decide)
    have a2 := isE_AI (n := 10) (j := c) f (A 9 c) hlt (by decide)
    have f9 : fup A 17 f 9 = A 9 := rfl
    have f17 : fup A 17 f 17 = f := rfl
    have ff : ∀ g, fup (fup A 17 f) 17 g = fup A 17 g := fun g => by
      funext j
      rw [fup_at, fup_at, fup_at]
      split <;> rfl
    rw [m58_19]
    simp only [m58_20, m58_22, m58_25, m58_26, m58_29, m58_30, m58_31, m58_34, m58_35, m58_36, m58_37, m58_40, ob_some, pushr_s, pushr_n, iget_eq, gf_eq, pf_eq, ck_eq, alen_eq, rget_eq, iset_eq, Option.bind_some, Option.map_some, Option.elim_some, hput_at, ↓reduceIte, Nat.reduceEqDiff, Nat.reduceAdd, ne_eq, not_false_eq_true, oS_ck, oS_g0, oS_p0, oS_g1, oS_p1, oS_g2, oS_p2, oS_g3, oS_p3, oS_g4, oS_p4, oS_g5, oS_p5, oS_g6, oS_p6, oP_ck, oP_g0, oP_p0, oP_g1, oP_p1, oP_g2, oP_p2, oP_g3, oP_p3, oP_g4, oP_p4, oP_g5, oP_p5, oP_g6, oP_p6, oP_g7, oP_p7, oP_g8, oP_p8, oP_g9, oP_p9, oP_g10, oP_p10, oP_g11, oP_p11, oP_g12, oP_p12, oR_ck, oR_g0, oR_p0, oR_g1, oR_p1, oR_g2, oR_p2, oR_g3, oR_p3, oG_ck, oG_g0, oG_p0, oG_g1, oG_p1, oG_g2, oG_p2, oW_ck, oW_g0, oW_p0, oW_g1, oW_p1, oW_g2, oW_p2, oB_ck, oB_g0, oB_p0, oB_g1, oB_p1, oB_g2, oB_p2, oB_g3, oB_p3, oB_g4, oB_p4, oB_g5, oB_p5, oB_g6, oB_p6, oC_ck, oC_g0, oC_p0, oC_g1, oC_p1, oC_g2, oC_p2, oC_g3, oC_p3, oC_g4, oC_p4, oC_g5, oC_p5, oC_g6, oC_p6, oH_ck, oH_g0, oH_p0, oH_g1, oH_p1, oH_g2, oH_p2, oH_g3, oH_p3, oM_ck, oM_g0, oM_p0, oM_g1, oM_p1, oM_g2, oM_p2, oM_g3, oM_p3, oM_g4, oM_p4, oM_g5, oM_p5, oM_g6, oM_p6, oM_g7, oM_p7, oM_g8, oM_p8, oM_g9, oM_p9, oM_g10, oM_p10, oM_g11, oM_p11, oM_g12, oM_p12, oM_g13, oM_p13, oM_g14, oM_p14, oM_g15, oM_p15, oM_g16, oM_p16, oM_g17, oM_p17, oM_g18, oM_p18, oM_g19, oM_p19, oM_g20, oM_p20, oM_g21, oM_p21, oM_g22, oM_p22, oM_g23, oM_p23, oM_g24, oM_p24, oM_g25, oM_p25, oM_g26, oM_p26, oM_g27, oM_p27, oM_g28, oM_p28, oM_g29, oM_p29, mv0, mv1, mv2, mv3, mv4, mv5, mv6, mset_o, mset_po, mset_k1, mset_r1, mset_k2, mset_r2, mset_k3, mset_r3, mset_k4, mset_r4, mset_k5, mset_r5, mset_k6, mset_r6, mset_k7, mset_r7, mset_k8, mset_r8, mset_k9, mset_r9, mset_k10, mset_r10, mset_k11, mset_r11, mset_k12, mset_r12, mset_k13, mset_r13, mset_k14, mset_r14, mset_k15, mset_r15, mset_k16, mset_r16, mset_k17, mset_r17, mset_k18, mset_r18, mset_k19, mset_r19, mset_k20, mset_r20, mset_k21, mset_r21, mset_k22, mset_r22, mset_k23, mset_r23, nlt (a := c) (b := 10) (by omega) (by decide), hlt, if_true, f9, f17, a1, a2, ff, nI_add]
    refine ih (c + 1) (by omega) _ (fun j hj => ?_)
    rw [fup_at]
    by_cases q : j = c
    · rw [if_pos q, q]
    · rw [if_neg q]; exact hf j (by omega)
theorem mgo_eq {h : Hp} {S : Nat → Int32} {A : Nat → Nat → Nat} {W : Mw} (hV : Valid (MP A)) {t : Nat} (ht : t ≤ 30) (z : Zc) (Q : Option Value → Zc → Hp → Prop) : Ev 58 (0, [some (.ref 78), some (.int (nI t)), none, none], [], z, mset h S A W) Q = Q none z (gX h S A W (runF (MP A) t)) := by
  simp only [m58_0, m58_1, m58_2, m58_5, m58_6, m58_8, m58_11, m58_12, m58_14, m58_17, m58_18, ob_some, pushr_s, pushr_n, iget_eq, gf_eq, pf_eq, ck_eq, alen_eq, rget_eq, iset_eq, Option.bind_some, Option.map_some, Option.elim_some, hput_at, ↓reduceIte, Nat.reduceEqDiff, Nat.reduceAdd, ne_eq, not_false_eq_true, oS_ck, oS_g0, oS_p0, oS_g1, oS_p1, oS_g2, oS_p2, oS_g3, oS_p3, oS_g4, oS_p4, oS_g5, oS_p5, oS_g6, oS_p6, oP_ck, oP_g0, oP_p0, oP_g1, oP_p1, oP_g2, oP_p2, oP_g3, oP_p3, oP_g4, oP_p4, oP_g5, oP_p5, oP_g6, oP_p6, oP_g7, oP_p7, oP_g8, oP_p8, oP_g9, oP_p9, oP_g10, oP_p10, oP_g11, oP_p11, oP_g12, oP_p12, oR_ck, oR_g0, oR_p0, oR_g1, oR_p1, oR_g2, oR_p2, oR_g3, oR_p3, oG_ck, oG_g0, oG_p0, oG_g1, oG_p1, oG_g2, oG_p2, oW_ck, oW_g0, oW_p0, oW_g1, oW_p1, oW_g2, oW_p2, oB_ck, oB_g0, oB_p0, oB_g1, oB_p1, oB_g2, oB_p2, oB_g3, oB_p3, oB_g4, oB_p4, oB_g5, oB_p5, oB_g6, oB_p6, oC_ck, oC_g0, oC_p0, oC_g1, oC_p1, oC_g2, oC_p2, oC_g3, oC_p3, oC_g4, oC_p4, oC_g5, oC_p5, oC_g6, oC_p6, oH_ck, oH_g0, oH_p0, oH_g1, oH_p1, oH_g2, oH_p2, oH_g3, oH_p3, oM_ck, oM_g0, oM_p0, oM_g1, oM_p1, oM_g2, oM_p2, oM_g3, oM_p3, oM_g4, oM_p4, oM_g5, oM_p5, oM_g6, oM_p6, oM_g7, oM_p7, oM_g8, oM_p8, oM_g9, oM_p9, oM_g10, oM_p10, oM_g11, oM_p11, oM_g12, oM_p12, oM_g13, oM_p13, oM_g14, oM_p14, oM_g15, oM_p15, oM_g16, oM_p16, oM_g17, oM_p17, oM_g18, oM_p18, oM_g19, oM_p19, oM_g20, oM_p20, oM_g21, oM_p21, oM_g22, oM_p22, oM_g23, oM_p23, oM_g24, oM_p24, oM_g25, oM_p25, oM_g26, oM_p26, oM_g27, oM_p27, oM_g28, oM_p28, oM_g29, oM_p29, mv0, mv1, mv2, mv3, mv4, mv5, mv6, mset_o, mset_po, mset_k1, mset_r1, mset_k2, mset_r2, mset_k3, mset_r3, mset_k4, mset_r4, mset_k5, mset_r5, mset_k6, mset_r6, mset_k7, mset_r7, mset_k8, mset_r8, mset_k9, mset_r9, mset_k10, mset_r10, mset_k11, mset_r11, mset_k12, mset_r12, mset_k13, mset_r13, mset_k14, mset_r14, mset_k15, mset_r15, mset_k16, mset_r16, mset_k17, mset_r17, mset_k18, mset_r18, mset_k19, mset_r19, mset_k20, mset_r20, mset_k21, mset_r21, mset_k22, mset_r22, mset_k23, mset_r23]
  have e : A = fup A 17 (A 17) := by
    funext j
    rw [fup_at]
    split
    · rename_i q; rw [q]
    · rfl
  conv => lhs; rw [e]
  refine minit_loop z Q _ ?_ 10 0 rfl _ (fun j hj => by omega)
  simp only [m58_43, m58_44]
  have hd := mday_loop (h := h) (S := S) (W := W) hV ht z Q t 0 none (by omega)
  have e2 : mset h (mv (S 0) (S 1) (S 2) (S 3) (nI 0) (-4) (-4)) (fup A 17 (A 9)) W = gX h S A W (runF (MP A) 0) := gX_of _ rfl rfl rfl ⟨rfl, rfl, rfl, rfl⟩ rfl (fun k hk => fup_ne _ _ hk)
  rw [← e2] at hd
  exact hd
