/-! what can be undone, what is kept -/
def shA (k : Nat) (A : Nat → Nat → Nat) : Nat → Nat → Nat := fun i => if i = 1 ∨ i = 2 ∨ i = 3 then (fun j => if j + 1 < k then A i (j + 1) else A i j) else A i
def noteA (A : Nat → Nat → Nat) (u b i w : Nat) : Nat → Nat → Nat := fun k => if k = 1 then fup (A 1) u b else if k = 2 then fup (A 2) u i else if k = 3 then fup (A 3) u w else A k
theorem cset_cA {h : Hp} {S : Nat → Int32} {A A2 : Nat → Nat → Nat} (hA : ∀ k, 1 ≤ k → k ≤ 9 → A k = A2 k) : cset h S A = cset h S A2 := cset_congr h (fun _ _ => rfl) hA
theorem cset_cS {h : Hp} {S S2 : Nat → Int32} {A : Nat → Nat → Nat} (h0 : S 0 = S2 0) (h1 : S 1 = S2 1) : cset h S A = cset h S2 A := cset_congr h (fun i hi => by
  have c : i = 0 ∨ i = 1 := by omega
  rcases c with rfl | rfl
  · exact h0
  · exact h1) (fun _ _ _ => rfl)
theorem shA_step (A : Nat → Nat → Nat) {k : Nat} (hk1 : 1 ≤ k) (i : Nat) (hi : i = 1 ∨ i = 2 ∨ i = 3) : shA (k + 1) A i = fup (shA k A i) (k - 1) (shA k A i k) := by
  funext j
  rw [fup_at]
  unfold shA
  rw [if_pos hi, if_pos hi]
  by_cases c : j = k - 1
  · rw [if_pos c, if_pos (by omega), if_neg (by omega), show j + 1 = k by omega]
  · rw [if_neg c]
    by_cases c2 : j + 1 < k
    · rw [if_pos c2, if_pos (by omega)]
    · rw [if_neg c2, if_neg (by omega)]
theorem shA_01 {A : Nat → Nat → Nat} (h : ∀ j, A 1 j = 0 ∨ A 1 j = 1) (k j : Nat) : shA k A 1 j = 0 ∨ shA k A 1 j = 1 := by
  unfold shA
  rw [if_pos (Or.inl rfl)]
  show (if j + 1 < k then A 1 (j + 1) else A 1 j) = 0 ∨ _
  split
  · exact h _
  · exact h _
set_option maxHeartbeats 1000000 in
theorem dropOldest_loop {h : Hp} {S : Nat → Int32} {A : Nat → Nat → Nat} (h01 : ∀ j, A 1 j = 0 ∨ A 1 j = 1) (z : Zc) (Q : Option Value → Zc → Hp → Prop) :
    ∀ n k, n + k = 8 → 1 ≤ k → Ev 102 (2, [some (.ref 65), some (.int (nI k))], [], z, cset h S (shA k A)) Q = Q none z (cset h (fup S 0 (nI 7)) (shA 8 A)) := by
  intro n
  induction n with
  | zero =>
    intro k hk hk1
    have e : k = 8 := by omega
    subst e
    rw [m102_2]
    simp only [m102_0, m102_1, m102_3, m102_5, m102_8, m102_9, m102_12, m102_13, m102_14, m102_15, m102_16, m102_19, m102_20, m102_21, m102_22, m102_23, m102_26, m102_27, m102_28, m102_29, m102_30, m102_33, m102_34, m102_35, m102_36, m102_37, m102_40, m102_41, m102_42, m102_43, m102_44, m102_47, m102_48, m102_49, m102_50, m102_53, m102_56, m102_57, m102_59, m102_62, ob_some, pushr_s, pushr_n, iget_eq, gf_eq, pf_eq, ck_eq, alen_eq, rget_eq, iset_eq, Option.bind_some, Option.map_some, Option.elim_some, hput_at, ↓reduceIte, Nat.reduceEqDiff, Nat.reduceAdd, ne_eq, not_false_eq_true, oS_ck, oS_g0, oS_p0, oS_g1, oS_p1, oS_g2, oS_p2, oS_g3, oS_p3, oS_g4, oS_p4, oS_g5, oS_p5, oS_g6, oS_p6, oP_ck, oP_g0, oP_p0, oP_g1, oP_p1, oP_g2, oP_p2, oP_g3, oP_p3, oP_g4, oP_p4, oP_g5, oP_p5, oP_g6, oP_p6, oP_g7, oP_p7, oP_g8, oP_p8, oP_g9, oP_p9, oP_g10, oP_p10, oP_g11, oP_p11, oP_g12, oP_p12, oR_ck, oR_g0, oR_p0, oR_g1, oR_p1, oR_g2, oR_p2, oR_g3, oR_p3, oG_ck, oG_g0, oG_p0, oG_g1, oG_p1, oG_g2, oG_p2, oW_ck, oW_g0, oW_p0, oW_g1, oW_p1, oW_g2, oW_p2, oB_ck, oB_g0, oB_p0, oB_g1, oB_p1, oB_g2, oB_p2, oB_g3, oB_p3, oB_g4, oB_p4, oB_g5, oB_p5, oB_g6, oB_p6, oC_ck, oC_g0, oC_p0, oC_g1, oC_p1, oC_g2, oC_p2, oC_g3, oC_p3, oC_g4, oC_p4, oC_g5, oC_p5, oC_g6, oC_p6, oH_ck, oH_g0, oH_p0, oH_g1, oH_p1, oH_g2, oH_p2, oH_g3, oH_p3, oM_ck, oM_g0, oM_p0, oM_g1, oM_p1, oM_g2, oM_p2, oM_g3, oM_p3, oM_g4, oM_p4, oM_g5, oM_p5, oM_g6, oM_p6, oM_g7, oM_p7, oM_g8, oM_p8, oM_g9, oM_p9, oM_g10, oM_p10, oM_g11, oM_p11, oM_g12, oM_p12, oM_g13, oM_p13, oM_g14, oM_p14, oM_g15, oM_p15, oM_g16, oM_p16, oM_g17, oM_p17, oM_g18, oM_p18, oM_g19, oM_p19, oM_g20, oM_p20, oM_g21, oM_p21, oM_g22, oM_p22, oM_g23, oM_p23, oM_g24, oM_p24, oM_g25, oM_p25, oM_g26, oM_p26, oM_g27, oM_p27, oM_g28, oM_p28, oM_g29, oM_p29, cv0, cv1, cset_o, cset_po, cset_k2, cset_r2, cset_k3, cset_r3, cset_k5, cset_r5, cset_k6, cset_r6, cset_k8, cset_r8, cset_k9, cset_r9, cset_k1, cset_r1, cset_k4, cset_k7, nlt (a := 8) (b := 8) (by decide) (by decide), Nat.lt_irrefl, if_false]
    rw [cset_cS (S := cv (nI 7) (S 1)) (S2 := fup S 0 (nI 7)) rfl rfl]
  | succ n ih =>
    intro k hk hk1
    have hlt : k < 8 := by omega
    have hs : nI k - nI 1 = nI (k - 1) := pk_sub hk1
    have l1 := nlt (a := k) (b := 8) (by omega) (by decide)
    have g1 := fun s => zgE_AZ (n := 8) (j := k) s hlt (by decide)
    have g2 := fun s => igE_AI (n := 8) (j := k) s hlt (by decide)
    have p1 := zsE_AZ (n := 8) (j := k - 1) (shA k A 1) (shA k A 1 k) (by omega) (by decide) (shA_01 h01 k k)
    have p2 := fun s x => isE_AI (n := 8) (j := k - 1) s x (by omega) (by decide)
    have f2 : ∀ f, fup (shA k A) 1 f 2 = shA k A 2 := fun f => rfl
    have f3 : ∀ f f', fup (fup (shA k A) 1 f) 2 f' 3 = shA k A 3 := fun f f' => rfl
    rw [m102_2]
    simp only [m102_0, m102_1, m102_3, m102_5, m102_8, m102_9, m102_12, m102_13, m102_14, m102_15, m102_16, m102_19, m102_20, m102_21, m102_22, m102_23, m102_26, m102_27, m102_28, m102_29, m102_30, m102_33, m102_34, m102_35, m102_36, m102_37, m102_40, m102_41, m102_42, m102_43, m102_44, m102_47, m102_48, m102_49, m102_50, m102_53, m102_56, m102_57, m102_59, m102_62, ob_some, pushr_s, pushr_n, iget_eq, gf_eq, pf_eq, ck_eq, alen_eq, rget_eq, iset_eq, Option.bind_some, Option.map_some, Option.elim_some, hput_at, ↓reduceIte, Nat.reduceEqDiff, Nat.reduceAdd, ne_eq, not_false_eq_true, oS_ck, oS_g0, oS_p0, oS_g1, oS_p1, oS_g2, oS_p2, oS_g3, oS_p3, oS_g4, oS_p4, oS_g5, oS_p5, oS_g6, oS_p6, oP_ck, oP_g0, oP_p0, oP_g1, oP_p1, oP_g2, oP_p2, oP_g3, oP_p3, oP_g4, oP_p4, oP_g5, oP_p5, oP_g6, oP_p6, oP_g7, oP_p7, oP_g8, oP_p8, oP_g9, oP_p9, oP_g10, oP_p10, oP_g11, oP_p11, oP_g12, oP_p12, oR_ck, oR_g0, oR_p0, oR_g1, oR_p1, oR_g2, oR_p2, oR_g3, oR_p3, oG_ck, oG_g0, oG_p0, oG_g1, oG_p1, oG_g2, oG_p2, oW_ck, oW_g0, oW_p0, oW_g1, oW_p1, oW_g2, oW_p2, oB_ck, oB_g0, oB_p0, oB_g1, oB_p1, oB_g2, oB_p2, oB_g3, oB_p3, oB_g4, oB_p4, oB_g5, oB_p5, oB_g6, oB_p6, oC_ck, oC_g0, oC_p0, oC_g1, oC_p1, oC_g2, oC_p2, oC_g3, oC_p3, oC_g4, oC_p4, oC_g5, oC_p5, oC_g6, oC_p6, oH_ck, oH_g0, oH_p0, oH_g1, oH_p1, oH_g2, oH_p2, oH_g3, oH_p3, oM_ck, oM_g0, oM_p0, oM_g1, oM_p1, oM_g2, oM_p2, oM_g3, oM_p3, oM_g4, oM_p4, oM_g5, oM_p5, oM_g6, oM_p6, oM_g7, oM_p7, oM_g8, oM_p8, oM_g9, oM_p9, oM_g10, oM_p10, oM_g11, oM_p11, oM_g12, oM_p12, oM_g13, oM_p13, oM_g14, oM_p14, oM_g15, oM_p15, oM_g16, oM_p16, oM_g17, oM_p17, oM_g18, oM_p18, oM_g19, oM_p19, oM_g20, oM_p20, oM_g21, oM_p21, oM_g22, oM_p22, oM_g23, oM_p23, oM_g24, oM_p24, oM_g25, oM_p25, oM_g26, oM_p26, oM_g27, oM_p27, oM_g28, oM_p28, oM_g29, oM_p29, zget_eq, zset_eq, jget_eq, jset_eq, hcpy_eq, cv0, cv1, cset_o, cset_po, cset_k2, cset_r2, cset_k3, cset_r3, cset_k5, cset_r5, cset_k6, cset_r6, cset_k8, cset_r8, cset_k9, cset_r9, cset_k1, cset_r1, cset_k4, cset_k7, l1, hlt, if_true, hs, g1, g2, p1, p2, f2, f3, nI_add]
    rw [cset_cA (A2 := shA (k + 1) A) (fun i i1 i9 => by
      by_cases c1 : i = 1
      · subst c1; exact (shA_step A hk1 1 (by decide)).symm
      · by_cases c2 : i = 2
        · subst c2; exact (shA_step A hk1 2 (by decide)).symm
        · by_cases c3 : i = 3
          · subst c3; exact (shA_step A hk1 3 (by decide)).symm
          · rw [fup_ne _ _ c3, fup_ne _ _ c2, fup_ne _ _ c1]
            unfold shA
            rw [if_neg (by omega), if_neg (by omega)])]
    exact ih (k + 1) (by omega) (by omega)
theorem dropOldest_eq {h : Hp} {S : Nat → Int32} {A : Nat → Nat → Nat} (h01 : ∀ j, A 1 j = 0 ∨ A 1 j = 1) (z : Zc) (Q : Option Value → Zc → Hp → Prop) : Ev 102 (0, [some (.ref 65), none], [], z, cset h S A) Q = Q none z (cset h (fup S 0 (nI 7)) (shA 8 A)) := by
  have e : cset h S A = cset h S (shA 1 A) := cset_cA (fun i i1 i9 => by
    funext j
    unfold shA
    split
    · exact (if_neg (by omega)).symm
    · rfl)
  simp only [m102_0, m102_1, m102_3, m102_5, m102_8, m102_9, m102_12, m102_13, m102_14, m102_15, m102_16, m102_19, m102_20, m102_21, m102_22, m102_23, m102_26, m102_27, m102_28, m102_29, m102_30, m102_33, m102_34, m102_35, m102_36, m102_37, m102_40, m102_41, m102_42, m102_43, m102_44, m102_47, m102_48, m102_49, m102_50, m102_53, m102_56, m102_57, m102_59, m102_62]
  rw [e, dropOldest_loop h01 z Q 7 1 rfl (by decide)]
def noteU (u : Nat) : Nat := if u < 8 then u else 7
def noteC (A : Nat → Nat → Nat) (u b i w : Nat) : Nat → Nat → Nat := if u < 8 then noteA A u b i w else noteA (shA 8 A) 7 b i w
set_option maxHeartbeats 1000000 in
theorem note_eq {h : Hp} {S : Nat → Int32} {A : Nat → Nat → Nat} {u b i w : Nat} (hu : S 0 = nI u) (hu8 : u ≤ 8) (hb : b = 0 ∨ b = 1) (h01 : ∀ j, A 1 j = 0 ∨ A 1 j = 1) (z : Zc) (Q : Option Value → Zc → Hp → Prop) : Ev 101 (0, [some (.ref 65), some (.int (nI b)), some (.int (nI i)), some (.int (nI w))], [], z, cset h S A) Q = Q none z (cset h (fup S 0 (nI (noteU u + 1))) (noteC A u b i w)) := by
  unfold noteU noteC
  by_cases c : u < 8
  · rw [if_pos c, if_pos c]
    have p1 := fun s => zsE_AZ (n := 8) (j := u) s b c (by decide) hb
    have p2 := fun s x => isE_AI (n := 8) (j := u) s x c (by decide)
    have f2 : ∀ f, fup A 1 f 2 = A 2 := fun f => rfl
    have f3 : ∀ f f', fup (fup A 1 f) 2 f' 3 = A 3 := fun f f' => rfl
    simp only [m101_0, m101_1, m101_4, m101_6, m101_9, m101_10, m101_13, m101_14, m101_17, m101_18, m101_21, m101_22, m101_23, m101_24, m101_27, m101_28, m101_31, m101_32, m101_33, m101_34, m101_37, m101_38, m101_41, m101_42, m101_43, m101_44, m101_45, m101_48, m101_49, m101_50, m101_53, ob_some, pushr_s, pushr_n, iget_eq, gf_eq, pf_eq, ck_eq, alen_eq, rget_eq, iset_eq, Option.bind_some, Option.map_some, Option.elim_some, hput_at, ↓reduceIte, Nat.reduceEqDiff, Nat.reduceAdd, ne_eq, not_false_eq_true, oS_ck, oS_g0, oS_p0, oS_g1, oS_p1, oS_g2, oS_p2, oS_g3, oS_p3, oS_g4, oS_p4, oS_g5, oS_p5, oS_g6, oS_p6, oP_ck, oP_g0, oP_p0, oP_g1, oP_p1, oP_g2, oP_p2, oP_g3, oP_p3, oP_g4, oP_p4, oP_g5, oP_p5, oP_g6, oP_p6, oP_g7, oP_p7, oP_g8, oP_p8, oP_g9, oP_p9, oP_g10, oP_p10, oP_g11, oP_p11, oP_g12, oP_p12, oR_ck, oR_g0, oR_p0, oR_g1, oR_p1, oR_g2, oR_p2, oR_g3, oR_p3, oG_ck, oG_g0, oG_p0, oG_g1, oG_p1, oG_g2, oG_p2, oW_ck, oW_g0, oW_p0, oW_g1, oW_p1, oW_g2, oW_p2, oB_ck, oB_g0, oB_p0, oB_g1, oB_p1, oB_g2, oB_p2, oB_g3, oB_p3, oB_g4, oB_p4, oB_g5, oB_p5, oB_g6, oB_p6, oC_ck, oC_g0, oC_p0, oC_g1, oC_p1, oC_g2, oC_p2, oC_g3, oC_p3, oC_g4, oC_p4, oC_g5, oC_p5, oC_g6, oC_p6, oH_ck, oH_g0, oH_p0, oH_g1, oH_p1, oH_g2, oH_p2, oH_g3, oH_p3, oM_ck, oM_g0, oM_p0, oM_g1, oM_p1, oM_g2, oM_p2, oM_g3, oM_p3, oM_g4, oM_p4, oM_g5, oM_p5, oM_g6, oM_p6, oM_g7, oM_p7, oM_g8, oM_p8, oM_g9, oM_p9, oM_g10, oM_p10, oM_g11, oM_p11, oM_g12, oM_p12, oM_g13, oM_p13, oM_g14, oM_p14, oM_g15, oM_p15, oM_g16, oM_p16, oM_g17, oM_p17, oM_g18, oM_p18, oM_g19, oM_p19, oM_g20, oM_p20, oM_g21, oM_p21, oM_g22, oM_p22, oM_g23, oM_p23, oM_g24, oM_p24, oM_g25, oM_p25, oM_g26, oM_p26, oM_g27, oM_p27, oM_g28, oM_p28, oM_g29, oM_p29, zget_eq, zset_eq, jget_eq, jset_eq, hcpy_eq, cv0, cv1, cset_o, cset_po, cset_k2, cset_r2, cset_k3, cset_r3, cset_k5, cset_r5, cset_k6, cset_r6, cset_k8, cset_r8, cset_k9, cset_r9, cset_k1, cset_r1, cset_k4, cset_k7, hu, nlt (a := u) (b := 8) (by omega) (by decide), c, if_true, p1, p2, f2, f3, nI_add]
    rw [cset_cS (S := cv (nI (u + 1)) (S 1)) (S2 := fup S 0 (nI (u + 1))) rfl rfl, cset_cA (A2 := noteA A u b i w) (fun i i1 i9 => by
      have c : i = 1 ∨ i = 2 ∨ i = 3 ∨ i = 4 ∨ i = 5 ∨ i = 6 ∨ i = 7 ∨ i = 8 ∨ i = 9 := by omega
      rcases c with rfl | rfl | rfl | rfl | rfl | rfl | rfl | rfl | rfl <;> rfl)]
  · rw [if_neg c, if_neg c]
    have e : u = 8 := by omega
    subst e
    have hd := fun Q => dropOldest_eq (h := h) (S := S) (A := A) h01 z Q
    have p1 := fun s => zsE_AZ (n := 8) (j := 7) s b (by decide) (by decide) hb
    have p2 := fun s x => isE_AI (n := 8) (j := 7) s x (by decide) (by decide)
    have f2 : ∀ f, fup (shA 8 A) 1 f 2 = shA 8 A 2 := fun f => rfl
    have f3 : ∀ f f', fup (fup (shA 8 A) 1 f) 2 f' 3 = shA 8 A 3 := fun f f' => rfl
    have s0 : fup S 0 (nI 7) 0 = nI 7 := rfl
    have s1 : fup S 0 (nI 7) 1 = S 1 := rfl
    simp only [m101_0, m101_1, m101_4, m101_6, m101_9, m101_10, m101_13, m101_14, m101_17, m101_18, m101_21, m101_22, m101_23, m101_24, m101_27, m101_28, m101_31, m101_32, m101_33, m101_34, m101_37, m101_38, m101_41, m101_42, m101_43, m101_44, m101_45, m101_48, m101_49, m101_50, m101_53, ob_some, pushr_s, pushr_n, iget_eq, gf_eq, pf_eq, ck_eq, alen_eq, rget_eq, iset_eq, Option.bind_some, Option.map_some, Option.elim_some, hput_at, ↓reduceIte, Nat.reduceEqDiff, Nat.reduceAdd, ne_eq, not_false_eq_true, oS_ck, oS_g0, oS_p0, oS_g1, oS_p1, oS_g2, oS_p2, oS_g3, oS_p3, oS_g4, oS_p4, oS_g5, oS_p5, oS_g6, oS_p6, oP_ck, oP_g0, oP_p0, oP_g1, oP_p1, oP_g2, oP_p2, oP_g3, oP_p3, oP_g4, oP_p4, oP_g5, oP_p5, oP_g6, oP_p6, oP_g7, oP_p7, oP_g8, oP_p8, oP_g9, oP_p9, oP_g10, oP_p10, oP_g11, oP_p11, oP_g12, oP_p12, oR_ck, oR_g0, oR_p0, oR_g1, oR_p1, oR_g2, oR_p2, oR_g3, oR_p3, oG_ck, oG_g0, oG_p0, oG_g1, oG_p1, oG_g2, oG_p2, oW_ck, oW_g0, oW_p0, oW_g1, oW_p1, oW_g2, oW_p2, oB_ck, oB_g0, oB_p0, oB_g1, oB_p1, oB_g2, oB_p2, oB_g3, oB_p3, oB_g4, oB_p4, oB_g5, oB_p5, oB_g6, oB_p6, oC_ck, oC_g0, oC_p0, oC_g1, oC_p1, oC_g2, oC_p2, oC_g3, oC_p3, oC_g4, oC_p4, oC_g5, oC_p5, oC_g6, oC_p6, oH_ck, oH_g0, oH_p0, oH_g1, oH_p1, oH_g2, oH_p2, oH_g3, oH_p3, oM_ck, oM_g0, oM_p0, oM_g1, oM_p1, oM_g2, oM_p2, oM_g3, oM_p3, oM_g4, oM_p4, oM_g5, oM_p5, oM_g6, oM_p6, oM_g7, oM_p7, oM_g8, oM_p8, oM_g9, oM_p9, oM_g10, oM_p10, oM_g11, oM_p11, oM_g12, oM_p12, oM_g13, oM_p13, oM_g14, oM_p14, oM_g15, oM_p15, oM_g16, oM_p16, oM_g17, oM_p17, oM_g18, oM_p18, oM_g19, oM_p19, oM_g20, oM_p20, oM_g21, oM_p21, oM_g22, oM_p22, oM_g23, oM_p23, oM_g24, oM_p24, oM_g25, oM_p25, oM_g26, oM_p26, oM_g27, oM_p27, oM_g28, oM_p28, oM_g29, oM_p29, zget_eq, zset_eq, jget_eq, jset_eq, hcpy_eq, cv0, cv1, cset_o, cset_po, cset_k2, cset_r2, cset_k3, cset_r3, cset_k5, cset_r5, cset_k6, cset_r6, cset_k8, cset_r8, cset_k9, cset_r9, cset_k1, cset_r1, cset_k4, cset_k7, hu, nlt (a := 8) (b := 8) (by decide) (by decide), Nat.lt_irrefl, if_false, hd, s0, s1, p1, p2, f2, f3, nI_add]
    rw [cset_cS (S := cv (nI (7 + 1)) (S 1)) (S2 := fup S 0 (nI (7 + 1))) rfl rfl, cset_cA (A2 := noteA (shA 8 A) 7 b i w) (fun i i1 i9 => by
      have c : i = 1 ∨ i = 2 ∨ i = 3 ∨ i = 4 ∨ i = 5 ∨ i = 6 ∨ i = 7 ∨ i = 8 ∨ i = 9 := by omega
      rcases c with rfl | rfl | rfl | rfl | rfl | rfl | rfl | rfl | rfl <;> rfl)]
theorem cclear_eq {h : Hp} {S : Nat → Int32} {A : Nat → Nat → Nat} (z : Zc) (Q : Option Value → Zc → Hp → Prop) : Ev 100 (0, [some (.ref 65)], [], z, cset h S A) Q = Q none z (cset h (cv (nI 0) (nI 0)) A) := by
  simp only [m100_0, m100_1, m100_2, m100_5, m100_6, m100_7, m100_10, ob_some, pushr_s, pushr_n, iget_eq, gf_eq, pf_eq, ck_eq, alen_eq, rget_eq, iset_eq, Option.bind_some, Option.map_some, Option.elim_some, hput_at, ↓reduceIte, Nat.reduceEqDiff, Nat.reduceAdd, ne_eq, not_false_eq_true, oS_ck, oS_g0, oS_p0, oS_g1, oS_p1, oS_g2, oS_p2, oS_g3, oS_p3, oS_g4, oS_p4, oS_g5, oS_p5, oS_g6, oS_p6, oP_ck, oP_g0, oP_p0, oP_g1, oP_p1, oP_g2, oP_p2, oP_g3, oP_p3, oP_g4, oP_p4, oP_g5, oP_p5, oP_g6, oP_p6, oP_g7, oP_p7, oP_g8, oP_p8, oP_g9, oP_p9, oP_g10, oP_p10, oP_g11, oP_p11, oP_g12, oP_p12, oR_ck, oR_g0, oR_p0, oR_g1, oR_p1, oR_g2, oR_p2, oR_g3, oR_p3, oG_ck, oG_g0, oG_p0, oG_g1, oG_p1, oG_g2, oG_p2, oW_ck, oW_g0, oW_p0, oW_g1, oW_p1, oW_g2, oW_p2, oB_ck, oB_g0, oB_p0, oB_g1, oB_p1, oB_g2, oB_p2, oB_g3, oB_p3, oB_g4, oB_p4, oB_g5, oB_p5, oB_g6, oB_p6, oC_ck, oC_g0, oC_p0, oC_g1, oC_p1, oC_g2, oC_p2, oC_g3, oC_p3, oC_g4, oC_p4, oC_g5, oC_p5, oC_g6, oC_p6, oH_ck, oH_g0, oH_p0, oH_g1, oH_p1, oH_g2, oH_p2, oH_g3, oH_p3, oM_ck, oM_g0, oM_p0, oM_g1, oM_p1, oM_g2, oM_p2, oM_g3, oM_p3, oM_g4, oM_p4, oM_g5, oM_p5, oM_g6, oM_p6, oM_g7, oM_p7, oM_g8, oM_p8, oM_g9, oM_p9, oM_g10, oM_p10, oM_g11, oM_p11, oM_g12, oM_p12, oM_g13, oM_p13, oM_g14, oM_p14, oM_g15, oM_p15, oM_g16, oM_p16, oM_g17, oM_p17, oM_g18, oM_p18, oM_g19, oM_p19, oM_g20, oM_p20, oM_g21, oM_p21, oM_g22, oM_p22, oM_g23, oM_p23, oM_g24, oM_p24, oM_g25, oM_p25, oM_g26, oM_p26, oM_g27, oM_p27, oM_g28, oM_p28, oM_g29, oM_p29, cv0, cv1, cset_o, cset_po, cset_k2, cset_r2, cset_k3, cset_r3, cset_k5, cset_r5, cset_k6, cset_r6, cset_k8, cset_r8, cset_k9, cset_r9, cset_k1, cset_r1, cset_k4, cset_k7]
