/-! the reference: order -/
theorem tkF_keep {ro so : Nat → Nat} {j : Nat} : ∀ (l : List Nat) k w, (∀ i, k ≤ i → i < k + l.length → ro i ≠ j) → tkF ro so k l w j = w j
  | [], _, _, _ => rfl
  | a :: l, k, w, h => by
    rw [tkF, tkF_keep l (k + 1) _ (fun i h1 h2 => h i (by omega) (by rw [List.length_cons]; omega)), fup_ne _ _ (fun q => h k (Nat.le_refl _) (by rw [List.length_cons]; omega) q.symm)]
theorem tkF_at {ro so : Nat → Nat} : ∀ (l : List Nat) k w, (∀ i j, k ≤ i → i < j → j < k + l.length → ro i ≠ ro j) → ∀ i, i < l.length → tkF ro so k l w (ro (k + i)) = so (l.getD i 0)
  | [], _, _, _, i, h => by cases h
  | a :: l, k, w, hi, i, h => by
    rw [tkF]
    cases i with
    | zero =>
      show tkF ro so (k + 1) l (fup w (ro k) (so a)) (ro k) = so a
      rw [tkF_keep (ro := ro) (so := so) (j := ro k) l (k + 1) (fup w (ro k) (so a)) (fun x h1 h2 => fun q => hi k x (Nat.le_refl _) (by omega) (by rw [List.length_cons]; omega) q.symm), fup_self]
    | succ i =>
      have ih := tkF_at (ro := ro) (so := so) l (k + 1) (fup w (ro k) (so a)) (fun x y h1 h2 h3 => hi x y (by omega) h2 (by rw [List.length_cons]; omega)) i (Nat.lt_of_succ_lt_succ h)
      rw [show k + (i + 1) = k + 1 + i by omega, ih]
      rfl
theorem tkF_pres {ro so : Nat → Nat} {p : Nat → Prop} {n : Nat} : ∀ (l : List Nat) k w, (∀ j, j < n → p (w j)) → (∀ a, a ∈ l → p (so a)) → ∀ j, j < n → p (tkF ro so k l w j)
  | [], _, _, hw, _, j, hj => hw j hj
  | a :: l, k, w, hw, hs, j, hj => tkF_pres l (k + 1) _ (fun i hi => by
      rw [fup_at]
      split
      · exact hs a List.mem_cons_self
      · exact hw i hi) (fun x hx => hs x (List.mem_cons_of_mem _ hx)) j hj
/-- what stays while the codes are tried -/
def OI (S : Nat → Int32) (A : Nat → Nat → Nat) (n : Nat) (ro so wa : Nat → Nat) (S1 : Nat → Int32) (A1 : Nat → Nat → Nat) : Prop :=
  (S1 0 = S 0 ∧ S1 1 = S 1 ∧ S1 2 = S 2) ∧ (∀ k, k ≤ 15 → k ≠ 13 → A1 k = A k) ∧ A1 18 = ro ∧ A1 19 = so ∧ A1 21 = wa ∧ (∀ j, n ≤ j → A1 13 j = A 13 j) ∧ ∀ j, j < n → 1 ≤ A1 13 j ∧ A1 13 j ≤ 20
theorem MP_13 {A A1 : Nat → Nat → Nat} (h : ∀ k, k ≤ 15 → k ≠ 13 → A1 k = A k) : MP A1 = fup (MP A) 7 (A1 13) := by
  funext i
  rw [fup_at]
  by_cases c : i = 7
  · subst c; rfl
  · rw [if_neg c]
    unfold MP
    rw [if_neg c, if_neg c, h 2 (by decide) (by decide), h 3 (by decide) (by decide), h 4 (by decide) (by decide), h 5 (by decide) (by decide), h 6 (by decide) (by decide), h 7 (by decide) (by decide), h 8 (by decide) (by decide), h 9 (by decide) (by decide), h 10 (by decide) (by decide), h 11 (by decide) (by decide), h 12 (by decide) (by decide), h 14 (by decide) (by decide)]
theorem valid_7 {P : Pl} (hV : Valid P) {f : Nat → Nat} (hf : ∀ j, j < P 0 1 → 1 ≤ f j ∧ f j ≤ 20) : Valid (fup P 7 f) := by
  obtain ⟨v0, v1, v2, v3, v4, v5, v6, v7⟩ := hV
  exact ⟨v0, v1, v2, v3, v4, fun i hi => ⟨(v5 i hi).1, (v5 i hi).2.1, (v5 i hi).2.2.1, (hf i hi).1, (hf i hi).2⟩, v6, v7⟩
theorem morder_best {h : Hp} {S : Nat → Int32} {B : Nat → Nat → Nat} {W : Mw} {n : Nat} (hn : n ≤ 6) (h6 : B 6 0 = n) (hro : ∀ k, k < n → B 18 k < 24) (l1 l2 : Option Value) (x3 x4 : Int32) (b : Nat → Nat) (z : Zc) (Q : Option Value → Zc → Hp → Prop) : ∀ m k, m + k = n → Ev 66 (131, [some (.ref 78), l1, l2, some (.int x3), some (.int x4), some (.int (nI k))], [], z, mset h S (fup B 20 (fun j => if j < k then B 13 (B 18 j) else b j)) W) Q = Ev 66 (167, [some (.ref 78), l1, l2, some (.int x3), some (.int x4), some (.int (nI n))], [], z, mset h S (fup B 20 (fun j => if j < n then B 13 (B 18 j) else b j)) W) Q := by
  have a0 := igE_AI (n := 2) (j := 0) (B 6) (by decide) (by decide)
  rw [h6] at a0
  have f6 : ∀ f, fup B 20 f 6 = B 6 := fun f => rfl
  have f13 : ∀ f, fup B 20 f 13 = B 13 := fun f => rfl
  have f18 : ∀ f, fup B 20 f 18 = B 18 := fun f => rfl
  have f20 : ∀ f, fup B 20 f 20 = f := fun f => rfl
  intro m
  induction m with
  | zero =>
    intro k hk
    have e : k = n := by omega
    subst e
    rw [m66_131]
    simp only [m66_133, m66_134, m66_137, m66_138, m66_139, ob_some, pushr_s, pushr_n, iget_eq, gf_eq, pf_eq, ck_eq, alen_eq, rget_eq, iset_eq, Option.bind_some, Option.map_some, Option.elim_some, hput_at, ↓reduceIte, Nat.reduceEqDiff, Nat.reduceAdd, ne_eq, not_false_eq_true, oS_ck, oS_g0, oS_p0, oS_g1, oS_p1, oS_g2, oS_p2, oS_g3, oS_p3, oS_g4, oS_p4, oS_g5, oS_p5, oS_g6, oS_p6, oP_ck, oP_g0, oP_p0, oP_g1, oP_p1, oP_g2, oP_p2, oP_g3, oP_p3, oP_g4, oP_p4, oP_g5, oP_p5, oP_g6, oP_p6, oP_g7, oP_p7, oP_g8, oP_p8, oP_g9, oP_p9, oP_g10, oP_p10, oP_g11, oP_p11, oP_g12, oP_p12, oR_ck, oR_g0, oR_p0, oR_g1, oR_p1, oR_g2, oR_p2, oR_g3, oR_p3, oG_ck, oG_g0, oG_p0, oG_g1, oG_p1, oG_g2, oG_p2, oW_ck, oW_g0, oW_p0, oW_g1, oW_p1, oW_g2, oW_p2, oB_ck, oB_g0, oB_p0, oB_g1, oB_p1, oB_g2, oB_p2, oB_g3, oB_p3, oB_g4, oB_p4, oB_g5, oB_p5, oB_g6, oB_p6, oC_ck, oC_g0, oC_p0, oC_g1, oC_p1, oC_g2, oC_p2, oC_g3, oC_p3, oC_g4, oC_p4, oC_g5, oC_p5, oC_g6, oC_p6, oH_ck, oH_g0, oH_p0, oH_g1, oH_p1, oH_g2, oH_p2, oH_g3, oH_p3, oM_ck, oM_g0, oM_p0, oM_g1, oM_p1, oM_g2, oM_p2, oM_g3, oM_p3, oM_g4, oM_p4, oM_g5, oM_p5, oM_g6, oM_p6, oM_g7, oM_p7, oM_g8, oM_p8, oM_g9, oM_p9, oM_g10, oM_p10, oM_g11, oM_p11, oM_g12, oM_p12, oM_g13, oM_p13, oM_g14, oM_p14, oM_g15, oM_p15, oM_g16, oM_p16, oM_g17, oM_p17, oM_g18, oM_p18, oM_g19, oM_p19, oM_g20, oM_p20, oM_g21, oM_p21, oM_g22, oM_p22, oM_g23, oM_p23, oM_g24, oM_p24, oM_g25, oM_p25, oM_g26, oM_p26, oM_g27, oM_p27, oM_g28, oM_p28, oM_g29, oM_p29, mv0, mv1, mv2, mv3, mv4, mv5, mv6, mset_o, mset_po, mset_k1, mset_r1, mset_k2, mset_r2, mset_k3, mset_r3, mset_k4, mset_r4, mset_k5, mset_r5, mset_k6, mset_r6, mset_k7, mset_r7, mset_k8, mset_r8, mset_k9, mset_r9, mset_k10, mset_r10, mset_k11, mset_r11, mset_k12, mset_r12, mset_k13, mset_r13, mset_k14, mset_r14, mset_k15, mset_r15, mset_k16, mset_r16, mset_k17, mset_r17, mset_k18, mset_r18, mset_k19, mset_r19, mset_k20, mset_r20, mset_k21, mset_r21, mset_k22, mset_r22, mset_k23, mset_r23, f6, a0, nlt (a := k) (b := k) (by omega) (by omega), Nat.lt_irrefl, if_false]
  | succ m ih =>
    intro k hk
    have hlt : k < n := by omega
    have g18 := igE_AI (n := 6) (j := k) (B 18) (by omega) (by decide)
    have g13 := igE_AI (n := 24) (j := B 18 k) (B 13) (hro k hlt) (by decide)
    have p20 := isE_AI (n := 6) (j := k) (fun j => if j < k then B 13 (B 18 j) else b j) (B 13 (B 18 k)) (by omega) (by decide)
    have e : fup (fun j => if j < k then B 13 (B 18 j) else b j) k (B 13 (B 18 k)) = (fun j => if j < k + 1 then B 13 (B 18 j) else b j) := by
      funext j
      rw [fup_at]
      by_cases q : j = k
      · rw [if_pos q, if_pos (by omega), q]
      · rw [if_neg q]
        by_cases q2 : j < k
        · rw [if_pos q2, if_pos (by omega)]
        · rw [if_neg q2, if_neg (by omega)]
    rw [e] at p20
    rw [← ih (k + 1) (by omega), m66_131]
    simp only [m66_133, m66_134, m66_137, m66_138, m66_139, m66_142, m66_143, m66_146, m66_148, m66_149, m66_152, m66_153, m66_156, m66_158, m66_159, m66_160, m66_161, m66_164, ob_some, pushr_s, pushr_n, iget_eq, gf_eq, pf_eq, ck_eq, alen_eq, rget_eq, iset_eq, Option.bind_some, Option.map_some, Option.elim_some, hput_at, ↓reduceIte, Nat.reduceEqDiff, Nat.reduceAdd, ne_eq, not_false_eq_true, oS_ck, oS_g0, oS_p0, oS_g1, oS_p1, oS_g2, oS_p2, oS_g3, oS_p3, oS_g4, oS_p4, oS_g5, oS_p5, oS_g6, oS_p6, oP_ck, oP_g0, oP_p0, oP_g1, oP_p1, oP_g2, oP_p2, oP_g3, oP_p3, oP_g4, oP_p4, oP_g5, oP_p5, oP_g6, oP_p6, oP_g7, oP_p7, oP_g8, oP_p8, oP_g9, oP_p9, oP_g10, oP_p10, oP_g11, oP_p11, oP_g12, oP_p12, oR_ck, oR_g0, oR_p0, oR_g1, oR_p1, oR_g2, oR_p2, oR_g3, oR_p3, oG_ck, oG_g0, oG_p0, oG_g1, oG_p1, oG_g2, oG_p2, oW_ck, oW_g0, oW_p0, oW_g1, oW_p1, oW_g2, oW_p2, oB_ck, oB_g0, oB_p0, oB_g1, oB_p1, oB_g2, oB_p2, oB_g3, oB_p3, oB_g4, oB_p4, oB_g5, oB_p5, oB_g6, oB_p6, oC_ck, oC_g0, oC_p0, oC_g1, oC_p1, oC_g2, oC_p2, oC_g3, oC_p3, oC_g4, oC_p4, oC_g5, oC_p5, oC_g6, oC_p6, oH_ck, oH_g0, oH_p0, oH_g1, oH_p1, oH_g2, oH_p2, oH_g3, oH_p3, oM_ck, oM_g0, oM_p0, oM_g1, oM_p1, oM_g2, oM_p2, oM_g3, oM_p3, oM_g4, oM_p4, oM_g5, oM_p5, oM_g6, oM_p6, oM_g7, oM_p7, oM_g8, oM_p8, oM_g9, oM_p9, oM_g10, oM_p10, oM_g11, oM_p11, oM_g12, oM_p12, oM_g13, oM_p13, oM_g14, oM_p14, oM_g15, oM_p15, oM_g16, oM_p16, oM_g17, oM_p17, oM_g18, oM_p18, oM_g19, oM_p19, oM_g20, oM_p20, oM_g21, oM_p21, oM_g22, oM_p22, oM_g23, oM_p23, oM_g24, oM_p24, oM_g25, oM_p25, oM_g26, oM_p26, oM_g27, oM_p27, oM_g28, oM_p28, oM_g29, oM_p29, mv0, mv1, mv2, mv3, mv4, mv5, mv6, mset_o, mset_po, mset_k1, mset_r1, mset_k2, mset_r2, mset_k3, mset_r3, mset_k4, mset_r4, mset_k5, mset_r5, mset_k6, mset_r6, mset_k7, mset_r7, mset_k8, mset_r8, mset_k9, mset_r9, mset_k10, mset_r10, mset_k11, mset_r11, mset_k12, mset_r12, mset_k13, mset_r13, mset_k14, mset_r14, mset_k15, mset_r15, mset_k16, mset_r16, mset_k17, mset_r17, mset_k18, mset_r18, mset_k19, mset_r19, mset_k20, mset_r20, mset_k21, mset_r21, mset_k22, mset_r22, mset_k23, mset_r23, f6, f13, f18, f20, a0, nlt (a := k) (b := n) (by omega) (by omega), hlt, if_true, g18, g13, p20, fup_fup, nI_add]
theorem dN_neg {d : Nat} (h : d < 100000) : (dN d < nI 0) = (d = 0) := by
  by_cases c : d = 0
  · rw [c]
    exact propext ⟨fun _ => rfl, fun _ => by decide⟩
  · rw [dN_pos c]
    exact propext ⟨fun q => absurd q (nI_not_neg (by omega)), fun q => absurd q c⟩
theorem mcodes_loop {h : Hp} {S : Nat → Int32} {A : Nat → Nat → Nat} {W : Mw} {n : Nat} {so wa ro : Nat → Nat} (hV : Valid (MP A)) (hn : A 6 0 = n) (hro : ∀ k, k < n → ro k = thK (MP A) k) (hso : ∀ k, k < n → 1 ≤ so k ∧ so k ≤ 20) (i : Int32) (z : Zc) : ∀ m c, m + c = fac n → ∀ (S1 : Nat → Int32) (A1 : Nat → Nat → Nat) first l5, OI S A n ro so wa S1 A1 → first ≤ 30 → BestC n so (dayO (MP A)) c first (A1 20) →
    ∃ S2 A2 first2 y5, OI S A n ro so wa S2 A2 ∧ first2 ≤ 30 ∧ BestC n so (dayO (MP A)) (fac n) first2 (A2 20) ∧ ∀ Q, Ev 66 (86, [some (.ref 78), some (.int i), some (.int (nI (fac n))), some (.int (dN first)), some (.int (nI c)), l5], [], z, mset h S1 A1 W) Q = Ev 66 (173, [some (.ref 78), some (.int i), some (.int (nI (fac n))), some (.int (dN first2)), some (.int (nI (fac n))), y5], [], z, mset h S2 A2 W) Q := by
  have v1 : n ≤ 6 := by rw [← hn]; exact hV.2.1
  have en : MP A 0 1 = n := hn
  have hf720 : fac n ≤ 720 := by
    have h6 : n = 0 ∨ n = 1 ∨ n = 2 ∨ n = 3 ∨ n = 4 ∨ n = 5 ∨ n = 6 := by omega
    rcases h6 with e | e | e | e | e | e | e <;> (rw [e]; decide)
  intro m
  induction m with
  | zero =>
    intro c hc S1 A1 first l5 hI hf hB
    have e : c = fac n := by omega
    subst e
    refine ⟨S1, A1, first, l5, hI, hf, hB, fun Q => ?_⟩
    rw [m66_86]
    simp only [m66_88, m66_89, nlt (a := fac n) (b := fac n) (by omega) (by omega), Nat.lt_irrefl, if_false]
  | succ m ih =>
    intro c hc S1 A1 first l5 hI hf hB
    have hlt : c < fac n := by omega
    obtain ⟨hS, hA, h18, h19, h21, hout, hin⟩ := hI
    have h6 : A1 6 0 = n := by rw [hA 6 (by decide) (by decide)]; exact hn
    have hth : ∀ k, k < n → A1 18 k = thK (MP A) k := fun k hk => by rw [h18]; exact hro k hk
    have hr24 : ∀ k, k < n → A1 18 k < n := fun k hk => by
      rw [hth k hk]
      have := thK_lt hV (k := k) (by omega)
      omega
    have hL : (arrL n (List.range n) c).length = n := arrL_len n _ c
    have hLm : ∀ a, a ∈ arrL n (List.range n) c → a < n := fun a ha => List.mem_range.mp (((arrL_perm n _ c List.length_range hlt).mem_iff).mp ha)
    have htk := fun Q => mtake_eq (h := h) (S := S1) (A := A1) (W := W) v1 h6 (fun k hk => by have := hr24 k hk; omega) hlt (by omega) z Q
    -- the weights by this code
    have hwin : ∀ j, j < n → 1 ≤ tkF (A1 18) (A1 19) 0 (arrL n (List.range n) c) (A1 13) j ∧ tkF (A1 18) (A1 19) 0 (arrL n (List.range n) c) (A1 13) j ≤ 20 := tkF_pres (p := fun x => 1 ≤ x ∧ x ≤ 20) _ _ _ hin (fun a ha => by rw [h19]; exact hso a (hLm a ha))
    have hwout : ∀ j, n ≤ j → tkF (A1 18) (A1 19) 0 (arrL n (List.range n) c) (A1 13) j = A 13 j := fun j hj => by
      rw [tkF_keep _ _ _ (fun x h1 h2 => by
        have := hr24 x (by omega)
        omega)]
      exact hout j hj
    have hwat : ∀ k, k < n → tkF (A1 18) (A1 19) 0 (arrL n (List.range n) c) (A1 13) (thK (MP A) k) = cdF n so c k := fun k hk => by
      have := tkF_at (ro := A1 18) (so := A1 19) (arrL n (List.range n) c) 0 (A1 13) (fun x y h1 h2 h3 => by
        rw [hth x (by omega), hth y (by omega)]
        intro q
        have := thK_inj hV (k := x) (j := y) (by omega) (by omega) q
        omega) k (by omega)
      rw [Nat.zero_add, hth k hk] at this
      rw [this, h19]
      rfl
    generalize hw : tkF (A1 18) (A1 19) 0 (arrL n (List.range n) c) (A1 13) = w at htk hwin hwout hwat
    have hA2 : ∀ k, k ≤ 15 → k ≠ 13 → fup A1 13 w k = A k := fun k k1 k2 => by rw [fup_ne _ _ k2]; exact hA k k1 k2
    have eM : MP (fup A1 13 w) = fup (MP A) 7 w := MP_13 hA2
    have hV2 : Valid (MP (fup A1 13 w)) := by
      rw [eM]
      exact valid_7 hV (fun j hj => hwin j (by omega))
    have hgo := fun Q => mgo_eq (h := h) (S := S1) (W := W) hV2 (Nat.le_refl 30) z Q
    have hday : (runF (MP (fup A1 13 w)) 30).2.1 = dayO (MP A) (cdF n so c) := by
      rw [eM]
      exact run_dayO hV (fun k hk => hwat k (by omega))
    have hle := (runF_ok hV2 30).2.2.1
    generalize runF (MP (fup A1 13 w)) 30 = X at hgo hday hle
    simp only [gX_ch] at hgo
    have s5 : sX S1 X 5 = dN X.2.1 := rfl
    have n1 := dN_neg (d := X.2.1) (by omega)
    have n2 := dN_neg (d := first) (by omega)
    have ha17 : ∀ k, k ≤ 15 → aX (fup A1 13 w) X k = fup A1 13 w k := fun k hk => fup_ne _ _ (by omega)
    have hOI : OI S A n ro so wa (sX S1 X) (aX (fup A1 13 w) X) := ⟨hS, fun k k1 k2 => (ha17 k k1).trans (hA2 k k1 k2), h18, h19, h21, hwout, hwin⟩
    have step : ∀ Q, Ev 66 (86, [some (.ref 78), some (.int i), some (.int (nI (fac n))), some (.int (dN first)), some (.int (nI c)), l5], [], z, mset h S1 A1 W) Q = Ev 66 (104, [some (.ref 78), some (.int i), some (.int (nI (fac n))), some (.int (dN first)), some (.int (nI c)), l5], [], z, mset h (sX S1 X) (aX (fup A1 13 w) X) W) Q := by
      intro Q
      rw [m66_86]
      simp only [m66_88, m66_89, m66_92, m66_93, m66_95, m66_98, m66_99, m66_101, ob_some, pushr_s, pushr_n, iget_eq, gf_eq, pf_eq, ck_eq, alen_eq, rget_eq, iset_eq, Option.bind_some, Option.map_some, Option.elim_some, hput_at, ↓reduceIte, Nat.reduceEqDiff, Nat.reduceAdd, ne_eq, not_false_eq_true, oS_ck, oS_g0, oS_p0, oS_g1, oS_p1, oS_g2, oS_p2, oS_g3, oS_p3, oS_g4, oS_p4, oS_g5, oS_p5, oS_g6, oS_p6, oP_ck, oP_g0, oP_p0, oP_g1, oP_p1, oP_g2, oP_p2, oP_g3, oP_p3, oP_g4, oP_p4, oP_g5, oP_p5, oP_g6, oP_p6, oP_g7, oP_p7, oP_g8, oP_p8, oP_g9, oP_p9, oP_g10, oP_p10, oP_g11, oP_p11, oP_g12, oP_p12, oR_ck, oR_g0, oR_p0, oR_g1, oR_p1, oR_g2, oR_p2, oR_g3, oR_p3, oG_ck, oG_g0, oG_p0, oG_g1, oG_p1, oG_g2, oG_p2, oW_ck, oW_g0, oW_p0, oW_g1, oW_p1, oW_g2, oW_p2, oB_ck, oB_g0, oB_p0, oB_g1, oB_p1, oB_g2, oB_p2, oB_g3, oB_p3, oB_g4, oB_p4, oB_g5, oB_p5, oB_g6, oB_p6, oC_ck, oC_g0, oC_p0, oC_g1, oC_p1, oC_g2, oC_p2, oC_g3, oC_p3, oC_g4, oC_p4, oC_g5, oC_p5, oC_g6, oC_p6, oH_ck, oH_g0, oH_p0, oH_g1, oH_p1, oH_g2, oH_p2, oH_g3, oH_p3, oM_ck, oM_g0, oM_p0, oM_g1, oM_p1, oM_g2, oM_p2, oM_g3, oM_p3, oM_g4, oM_p4, oM_g5, oM_p5, oM_g6, oM_p6, oM_g7, oM_p7, oM_g8, oM_p8, oM_g9, oM_p9, oM_g10, oM_p10, oM_g11, oM_p11, oM_g12, oM_p12, oM_g13, oM_p13, oM_g14, oM_p14, oM_g15, oM_p15, oM_g16, oM_p16, oM_g17, oM_p17, oM_g18, oM_p18, oM_g19, oM_p19, oM_g20, oM_p20, oM_g21, oM_p21, oM_g22, oM_p22, oM_g23, oM_p23, oM_g24, oM_p24, oM_g25, oM_p25, oM_g26, oM_p26, oM_g27, oM_p27, oM_g28, oM_p28, oM_g29, oM_p29, mv0, mv1, mv2, mv3, mv4, mv5, mv6, mset_o, mset_po, mset_k1, mset_r1, mset_k2, mset_r2, mset_k3, mset_r3, mset_k4, mset_r4, mset_k5, mset_r5, mset_k6, mset_r6, mset_k7, mset_r7, mset_k8, mset_r8, mset_k9, mset_r9, mset_k10, mset_r10, mset_k11, mset_r11, mset_k12, mset_r12, mset_k13, mset_r13, mset_k14, mset_r14, mset_k15, mset_r15, mset_k16, mset_r16, mset_k17, mset_r17, mset_k18, mset_r18, mset_k19, mset_r19, mset_k20, mset_r20, mset_k21, mset_r21, mset_k22, mset_r22, mset_k23, mset_r23, nlt (a := c) (b := fac n) (by omega) (by omega), hlt, if_true, htk, hgo]
    obtain ⟨B1, B2⟩ := hB
    by_cases c0 : X.2.1 = 0
    · -- no breach
      obtain ⟨S2, A2, f2, y5, k1, k2, k3, k4⟩ := ih (c + 1) (by omega) (sX S1 X) (aX (fup A1 13 w) X) first l5 hOI hf ⟨fun q => by
        obtain ⟨x, x1, x2⟩ := B1 q
        exact ⟨x, by omega, x2⟩, fun y hy => by
        by_cases e : y = c
        · rw [e, ← hday]; exact Or.inl c0
        · exact B2 y (by omega)⟩
      refine ⟨S2, A2, f2, y5, k1, k2, k3, fun Q => ?_⟩
      have n1t : (dN X.2.1 < nI 0) = True := n1.trans (eq_true c0)
      rw [step, ← k4 Q]
      simp only [m66_104, m66_105, m66_108, m66_167, m66_170, ob_some, pushr_s, pushr_n, iget_eq, gf_eq, pf_eq, ck_eq, alen_eq, rget_eq, iset_eq, Option.bind_some, Option.map_some, Option.elim_some, hput_at, ↓reduceIte, Nat.reduceEqDiff, Nat.reduceAdd, ne_eq, not_false_eq_true, oS_ck, oS_g0, oS_p0, oS_g1, oS_p1, oS_g2, oS_p2, oS_g3, oS_p3, oS_g4, oS_p4, oS_g5, oS_p5, oS_g6, oS_p6, oP_ck, oP_g0, oP_p0, oP_g1, oP_p1, oP_g2, oP_p2, oP_g3, oP_p3, oP_g4, oP_p4, oP_g5, oP_p5, oP_g6, oP_p6, oP_g7, oP_p7, oP_g8, oP_p8, oP_g9, oP_p9, oP_g10, oP_p10, oP_g11, oP_p11, oP_g12, oP_p12, oR_ck, oR_g0, oR_p0, oR_g1, oR_p1, oR_g2, oR_p2, oR_g3, oR_p3, oG_ck, oG_g0, oG_p0, oG_g1, oG_p1, oG_g2, oG_p2, oW_ck, oW_g0, oW_p0, oW_g1, oW_p1, oW_g2, oW_p2, oB_ck, oB_g0, oB_p0, oB_g1, oB_p1, oB_g2, oB_p2, oB_g3, oB_p3, oB_g4, oB_p4, oB_g5, oB_p5, oB_g6, oB_p6, oC_ck, oC_g0, oC_p0, oC_g1, oC_p1, oC_g2, oC_p2, oC_g3, oC_p3, oC_g4, oC_p4, oC_g5, oC_p5, oC_g6, oC_p6, oH_ck, oH_g0, oH_p0, oH_g1, oH_p1, oH_g2, oH_p2, oH_g3, oH_p3, oM_ck, oM_g0, oM_p0, oM_g1, oM_p1, oM_g2, oM_p2, oM_g3, oM_p3, oM_g4, oM_p4, oM_g5, oM_p5, oM_g6, oM_p6, oM_g7, oM_p7, oM_g8, oM_p8, oM_g9, oM_p9, oM_g10, oM_p10, oM_g11, oM_p11, oM_g12, oM_p12, oM_g13, oM_p13, oM_g14, oM_p14, oM_g15, oM_p15, oM_g16, oM_p16, oM_g17, oM_p17, oM_g18, oM_p18, oM_g19, oM_p19, oM_g20, oM_p20, oM_g21, oM_p21, oM_g22, oM_p22, oM_g23, oM_p23, oM_g24, oM_p24, oM_g25, oM_p25, oM_g26, oM_p26, oM_g27, oM_p27, oM_g28, oM_p28, oM_g29, oM_p29, mv0, mv1, mv2, mv3, mv4, mv5, mv6, mset_o, mset_po, mset_k1, mset_r1, mset_k2, mset_r2, mset_k3, mset_r3, mset_k4, mset_r4, mset_k5, mset_r5, mset_k6, mset_r6, mset_k7, mset_r7, mset_k8, mset_r8, mset_k9, mset_r9, mset_k10, mset_r10, mset_k11, mset_r11, mset_k12, mset_r12, mset_k13, mset_r13, mset_k14, mset_r14, mset_k15, mset_r15, mset_k16, mset_r16, mset_k17, mset_r17, mset_k18, mset_r18, mset_k19, mset_r19, mset_k20, mset_r20, mset_k21, mset_r21, mset_k22, mset_r22, mset_k23, mset_r23, s5, n1t, if_true, nI_add]
    · have n1f : (dN X.2.1 < nI 0) = False := n1.trans (eq_false c0)
      by_cases c1 : first ≠ 0 ∧ first ≤ X.2.1
      · obtain ⟨S2, A2, f2, y5, k1, k2, k3, k4⟩ := ih (c + 1) (by omega) (sX S1 X) (aX (fup A1 13 w) X) first l5 hOI hf ⟨fun q => by
          obtain ⟨x, x1, x2⟩ := B1 q
          exact ⟨x, by omega, x2⟩, fun y hy => by
          by_cases e : y = c
          · rw [e, ← hday]; exact Or.inr c1
          · exact B2 y (by omega)⟩
        refine ⟨S2, A2, f2, y5, k1, k2, k3, fun Q => ?_⟩
        have n2f : (dN first < nI 0) = False := n2.trans (eq_false c1.1)
        have q3 : (dN X.2.1 < dN first) = False := by
          rw [dN_pos c0, dN_pos c1.1, nlt (by omega) (by omega)]
          exact eq_false (by omega)
        rw [step, ← k4 Q]
        simp only [m66_104, m66_105, m66_108, m66_111, m66_112, m66_115, m66_116, m66_119, m66_120, m66_167, m66_170, ob_some, pushr_s, pushr_n, iget_eq, gf_eq, pf_eq, ck_eq, alen_eq, rget_eq, iset_eq, Option.bind_some, Option.map_some, Option.elim_some, hput_at, ↓reduceIte, Nat.reduceEqDiff, Nat.reduceAdd, ne_eq, not_false_eq_true, oS_ck, oS_g0, oS_p0, oS_g1, oS_p1, oS_g2, oS_p2, oS_g3, oS_p3, oS_g4, oS_p4, oS_g5, oS_p5, oS_g6, oS_p6, oP_ck, oP_g0, oP_p0, oP_g1, oP_p1, oP_g2, oP_p2, oP_g3, oP_p3, oP_g4, oP_p4, oP_g5, oP_p5, oP_g6, oP_p6, oP_g7, oP_p7, oP_g8, oP_p8, oP_g9, oP_p9, oP_g10, oP_p10, oP_g11, oP_p11, oP_g12, oP_p12, oR_ck, oR_g0, oR_p0, oR_g1, oR_p1, oR_g2, oR_p2, oR_g3, oR_p3, oG_ck, oG_g0, oG_p0, oG_g1, oG_p1, oG_g2, oG_p2, oW_ck, oW_g0, oW_p0, oW_g1, oW_p1, oW_g2, oW_p2, oB_ck, oB_g0, oB_p0, oB_g1, oB_p1, oB_g2, oB_p2, oB_g3, oB_p3, oB_g4, oB_p4, oB_g5, oB_p5, oB_g6, oB_p6, oC_ck, oC_g0, oC_p0, oC_g1, oC_p1, oC_g2, oC_p2, oC_g3, oC_p3, oC_g4, oC_p4, oC_g5, oC_p5, oC_g6, oC_p6, oH_ck, oH_g0, oH_p0, oH_g1, oH_p1, oH_g2, oH_p2, oH_g3, oH_p3, oM_ck, oM_g0, oM_p0, oM_g1, oM_p1, oM_g2, oM_p2, oM_g3, oM_p3, oM_g4, oM_p4, oM_g5, oM_p5, oM_g6, oM_p6, oM_g7, oM_p7, oM_g8, oM_p8, oM_g9, oM_p9, oM_g10, oM_p10, oM_g11, oM_p11, oM_g12, oM_p12, oM_g13, oM_p13, oM_g14, oM_p14, oM_g15, oM_p15, oM_g16, oM_p16, oM_g17, oM_p17, oM_g18, oM_p18, oM_g19, oM_p19, oM_g20, oM_p20, oM_g21, oM_p21, oM_g22, oM_p22, oM_g23, oM_p23, oM_g24, oM_p24, oM_g25, oM_p25, oM_g26, oM_p26, oM_g27, oM_p27, oM_g28, oM_p28, oM_g29, oM_p29, mv0, mv1, mv2, mv3, mv4, mv5, mv6, mset_o, mset_po, mset_k1, mset_r1, mset_k2, mset_r2, mset_k3, mset_r3, mset_k4, mset_r4, mset_k5, mset_r5, mset_k6, mset_r6, mset_k7, mset_r7, mset_k8, mset_r8, mset_k9, mset_r9, mset_k10, mset_r10, mset_k11, mset_r11, mset_k12, mset_r12, mset_k13, mset_r13, mset_k14, mset_r14, mset_k15, mset_r15, mset_k16, mset_r16, mset_k17, mset_r17, mset_k18, mset_r18, mset_k19, mset_r19, mset_k20, mset_r20, mset_k21, mset_r21, mset_k22, mset_r22, mset_k23, mset_r23, s5, n1f, n2f, q3, if_false, nI_add]
      · -- better
        have hbst : OI S A n ro so wa (sX S1 X) (fup (aX (fup A1 13 w) X) 20 (fun j => if j < n then aX (fup A1 13 w) X 13 (aX (fup A1 13 w) X 18 j) else A1 20 j)) := by
          obtain ⟨o1, o2, o3, o4, o5, o6, o7⟩ := hOI
          exact ⟨o1, fun k k1 k2 => (fup_ne _ _ (by omega)).trans (o2 k k1 k2), o3, o4, o5, o6, o7⟩
        obtain ⟨S2, A2, f2, y5, k1, k2, k3, k4⟩ := ih (c + 1) (by omega) (sX S1 X) (fup (aX (fup A1 13 w) X) 20 (fun j => if j < n then aX (fup A1 13 w) X 13 (aX (fup A1 13 w) X 18 j) else A1 20 j)) X.2.1 (some (.int (nI n))) hbst (by omega) ⟨fun _ => ⟨c, by omega, hday, fun k hk => by
            rw [fup_self]
            show (if k < n then w (A1 18 k) else A1 20 k) = _
            rw [if_pos hk, hth k hk]
            exact hwat k hk, fun y hy => by
            rcases B2 y hy with g | ⟨g1, g2⟩
            · exact Or.inl g
            · exact Or.inr (by omega)⟩, fun y hy => by
            by_cases e : y = c
            · rw [e, ← hday]; exact Or.inr ⟨c0, Nat.le_refl _⟩
            · rcases B2 y (by omega) with g | ⟨g1, g2⟩
              · exact Or.inl g
              · exact Or.inr ⟨c0, by omega⟩⟩
        have hb := fun Q => morder_best (h := h) (S := sX S1 X) (B := aX (fup A1 13 w) X) (W := W) v1 h6 (fun k hk => by
          show A1 18 k < 24
          have := hr24 k hk
          omega) (some (.int i)) (some (.int (nI (fac n)))) (dN X.2.1) (nI c) (A1 20) z Q n 0 (by omega)
        have e0 : fup (aX (fup A1 13 w) X) 20 (fun j => if j < 0 then aX (fup A1 13 w) X 13 (aX (fup A1 13 w) X 18 j) else A1 20 j) = aX (fup A1 13 w) X := by
          have : (fun j => if j < 0 then aX (fup A1 13 w) X 13 (aX (fup A1 13 w) X 18 j) else A1 20 j) = aX (fup A1 13 w) X 20 := by
            funext j
            exact if_neg (by omega)
          rw [this, fup_id]
        rw [e0] at hb
        refine ⟨S2, A2, f2, y5, k1, k2, k3, fun Q => ?_⟩
        rw [step, ← k4 Q]
        by_cases c2 : first = 0
        · have n2t : (dN first < nI 0) = True := n2.trans (eq_true c2)
          simp only [m66_104, m66_105, m66_108, m66_111, m66_112, m66_123, m66_124, m66_127, m66_128, m66_129, ob_some, pushr_s, pushr_n, iget_eq, gf_eq, pf_eq, ck_eq, alen_eq, rget_eq, iset_eq, Option.bind_some, Option.map_some, Option.elim_some, hput_at, ↓reduceIte, Nat.reduceEqDiff, Nat.reduceAdd, ne_eq, not_false_eq_true, oS_ck, oS_g0, oS_p0, oS_g1, oS_p1, oS_g2, oS_p2, oS_g3, oS_p3, oS_g4, oS_p4, oS_g5, oS_p5, oS_g6, oS_p6, oP_ck, oP_g0, oP_p0, oP_g1, oP_p1, oP_g2, oP_p2, oP_g3, oP_p3, oP_g4, oP_p4, oP_g5, oP_p5, oP_g6, oP_p6, oP_g7, oP_p7, oP_g8, oP_p8, oP_g9, oP_p9, oP_g10, oP_p10, oP_g11, oP_p11, oP_g12, oP_p12, oR_ck, oR_g0, oR_p0, oR_g1, oR_p1, oR_g2, oR_p2, oR_g3, oR_p3, oG_ck, oG_g0, oG_p0, oG_g1, oG_p1, oG_g2, oG_p2, oW_ck, oW_g0, oW_p0, oW_g1, oW_p1, oW_g2, oW_p2, oB_ck, oB_g0, oB_p0, oB_g1, oB_p1, oB_g2, oB_p2, oB_g3, oB_p3, oB_g4, oB_p4, oB_g5, oB_p5, oB_g6, oB_p6, oC_ck, oC_g0, oC_p0, oC_g1, oC_p1, oC_g2, oC_p2, oC_g3, oC_p3, oC_g4, oC_p4, oC_g5, oC_p5, oC_g6, oC_p6, oH_ck, oH_g0, oH_p0, oH_g1, oH_p1, oH_g2, oH_p2, oH_g3, oH_p3, oM_ck, oM_g0, oM_p0, oM_g1, oM_p1, oM_g2, oM_p2, oM_g3, oM_p3, oM_g4, oM_p4, oM_g5, oM_p5, oM_g6, oM_p6, oM_g7, oM_p7, oM_g8, oM_p8, oM_g9, oM_p9, oM_g10, oM_p10, oM_g11, oM_p11, oM_g12, oM_p12, oM_g13, oM_p13, oM_g14, oM_p14, oM_g15, oM_p15, oM_g16, oM_p16, oM_g17, oM_p17, oM_g18, oM_p18, oM_g19, oM_p19, oM_g20, oM_p20, oM_g21, oM_p21, oM_g22, oM_p22, oM_g23, oM_p23, oM_g24, oM_p24, oM_g25, oM_p25, oM_g26, oM_p26, oM_g27, oM_p27, oM_g28, oM_p28, oM_g29, oM_p29, mv0, mv1, mv2, mv3, mv4, mv5, mv6, mset_o, mset_po, mset_k1, mset_r1, mset_k2, mset_r2, mset_k3, mset_r3, mset_k4, mset_r4, mset_k5, mset_r5, mset_k6, mset_r6, mset_k7, mset_r7, mset_k8, mset_r8, mset_k9, mset_r9, mset_k10, mset_r10, mset_k11, mset_r11, mset_k12, mset_r12, mset_k13, mset_r13, mset_k14, mset_r14, mset_k15, mset_r15, mset_k16, mset_r16, mset_k17, mset_r17, mset_k18, mset_r18, mset_k19, mset_r19, mset_k20, mset_r20, mset_k21, mset_r21, mset_k22, mset_r22, mset_k23, mset_r23, s5, n1f, if_false, n2t, if_true, hb]
          simp only [m66_167, m66_170, nI_add]
        · have n2f : (dN first < nI 0) = False := n2.trans (eq_false c2)
          have q3 : (dN X.2.1 < dN first) = True := by
            rw [dN_pos c0, dN_pos c2, nlt (by omega) (by omega)]
            exact eq_true (by omega)
          simp only [m66_104, m66_105, m66_108, m66_111, m66_112, m66_115, m66_116, m66_119, m66_120, m66_123, m66_124, m66_127, m66_128, m66_129, ob_some, pushr_s, pushr_n, iget_eq, gf_eq, pf_eq, ck_eq, alen_eq, rget_eq, iset_eq, Option.bind_some, Option.map_some, Option.elim_some, hput_at, ↓reduceIte, Nat.reduceEqDiff, Nat.reduceAdd, ne_eq, not_false_eq_true, oS_ck, oS_g0, oS_p0, oS_g1, oS_p1, oS_g2, oS_p2, oS_g3, oS_p3, oS_g4, oS_p4, oS_g5, oS_p5, oS_g6, oS_p6, oP_ck, oP_g0, oP_p0, oP_g1, oP_p1, oP_g2, oP_p2, oP_g3, oP_p3, oP_g4, oP_p4, oP_g5, oP_p5, oP_g6, oP_p6, oP_g7, oP_p7, oP_g8, oP_p8, oP_g9, oP_p9, oP_g10, oP_p10, oP_g11, oP_p11, oP_g12, oP_p12, oR_ck, oR_g0, oR_p0, oR_g1, oR_p1, oR_g2, oR_p2, oR_g3, oR_p3, oG_ck, oG_g0, oG_p0, oG_g1, oG_p1, oG_g2, oG_p2, oW_ck, oW_g0, oW_p0, oW_g1, oW_p1, oW_g2, oW_p2, oB_ck, oB_g0, oB_p0, oB_g1, oB_p1, oB_g2, oB_p2, oB_g3, oB_p3, oB_g4, oB_p4, oB_g5, oB_p5, oB_g6, oB_p6, oC_ck, oC_g0, oC_p0, oC_g1, oC_p1, oC_g2, oC_p2, oC_g3, oC_p3, oC_g4, oC_p4, oC_g5, oC_p5, oC_g6, oC_p6, oH_ck, oH_g0, oH_p0, oH_g1, oH_p1, oH_g2, oH_p2, oH_g3, oH_p3, oM_ck, oM_g0, oM_p0, oM_g1, oM_p1, oM_g2, oM_p2, oM_g3, oM_p3, oM_g4, oM_p4, oM_g5, oM_p5, oM_g6, oM_p6, oM_g7, oM_p7, oM_g8, oM_p8, oM_g9, oM_p9, oM_g10, oM_p10, oM_g11, oM_p11, oM_g12, oM_p12, oM_g13, oM_p13, oM_g14, oM_p14, oM_g15, oM_p15, oM_g16, oM_p16, oM_g17, oM_p17, oM_g18, oM_p18, oM_g19, oM_p19, oM_g20, oM_p20, oM_g21, oM_p21, oM_g22, oM_p22, oM_g23, oM_p23, oM_g24, oM_p24, oM_g25, oM_p25, oM_g26, oM_p26, oM_g27, oM_p27, oM_g28, oM_p28, oM_g29, oM_p29, mv0, mv1, mv2, mv3, mv4, mv5, mv6, mset_o, mset_po, mset_k1, mset_r1, mset_k2, mset_r2, mset_k3, mset_r3, mset_k4, mset_r4, mset_k5, mset_r5, mset_k6, mset_r6, mset_k7, mset_r7, mset_k8, mset_r8, mset_k9, mset_r9, mset_k10, mset_r10, mset_k11, mset_r11, mset_k12, mset_r12, mset_k13, mset_r13, mset_k14, mset_r14, mset_k15, mset_r15, mset_k16, mset_r16, mset_k17, mset_r17, mset_k18, mset_r18, mset_k19, mset_r19, mset_k20, mset_r20, mset_k21, mset_r21, mset_k22, mset_r22, mset_k23, mset_r23, s5, n1f, n2f, if_false, q3, if_true, hb]
          simp only [m66_167, m66_170, nI_add]
theorem mfac_loop {h : Hp} {S : Nat → Int32} {A : Nat → Nat → Nat} {W : Mw} {n : Nat} (hn : n ≤ 6) (h6 : A 6 0 = n) (x1 : Int32) (l4 l5 : Option Value) (z : Zc) (Q : Option Value → Zc → Hp → Prop) : ∀ m k, m + k = n → Ev 66 (30, [some (.ref 78), some (.int x1), some (.int (nI (fac k))), some (.int (nI (k + 1))), l4, l5], [], z, mset h S A W) Q = Ev 66 (50, [some (.ref 78), some (.int x1), some (.int (nI (fac n))), some (.int (nI (n + 1))), l4, l5], [], z, mset h S A W) Q := by
  have a0 := igE_AI (n := 2) (j := 0) (A 6) (by decide) (by decide)
  rw [h6] at a0
  intro m
  induction m with
  | zero =>
    intro k hk
    have e : k = n := by omega
    subst e
    rw [m66_30]
    simp only [m66_31, m66_32, m66_35, m66_36, m66_37, ob_some, pushr_s, pushr_n, iget_eq, gf_eq, pf_eq, ck_eq, alen_eq, rget_eq, iset_eq, Option.bind_some, Option.map_some, Option.elim_some, hput_at, ↓reduceIte, Nat.reduceEqDiff, Nat.reduceAdd, ne_eq, not_false_eq_true, oS_ck, oS_g0, oS_p0, oS_g1, oS_p1, oS_g2, oS_p2, oS_g3, oS_p3, oS_g4, oS_p4, oS_g5, oS_p5, oS_g6, oS_p6, oP_ck, oP_g0, oP_p0, oP_g1, oP_p1, oP_g2, oP_p2, oP_g3, oP_p3, oP_g4, oP_p4, oP_g5, oP_p5, oP_g6, oP_p6, oP_g7, oP_p7, oP_g8, oP_p8, oP_g9, oP_p9, oP_g10, oP_p10, oP_g11, oP_p11, oP_g12, oP_p12, oR_ck, oR_g0, oR_p0, oR_g1, oR_p1, oR_g2, oR_p2, oR_g3, oR_p3, oG_ck, oG_g0, oG_p0, oG_g1, oG_p1, oG_g2, oG_p2, oW_ck, oW_g0, oW_p0, oW_g1, oW_p1, oW_g2, oW_p2, oB_ck, oB_g0, oB_p0, oB_g1, oB_p1, oB_g2, oB_p2, oB_g3, oB_p3, oB_g4, oB_p4, oB_g5, oB_p5, oB_g6, oB_p6, oC_ck, oC_g0, oC_p0, oC_g1, oC_p1, oC_g2, oC_p2, oC_g3, oC_p3, oC_g4, oC_p4, oC_g5, oC_p5, oC_g6, oC_p6, oH_ck, oH_g0, oH_p0, oH_g1, oH_p1, oH_g2, oH_p2, oH_g3, oH_p3, oM_ck, oM_g0, oM_p0, oM_g1, oM_p1, oM_g2, oM_p2, oM_g3, oM_p3, oM_g4, oM_p4, oM_g5, oM_p5, oM_g6, oM_p6, oM_g7, oM_p7, oM_g8, oM_p8, oM_g9, oM_p9, oM_g10, oM_p10, oM_g11, oM_p11, oM_g12, oM_p12, oM_g13, oM_p13, oM_g14, oM_p14, oM_g15, oM_p15, oM_g16, oM_p16, oM_g17, oM_p17, oM_g18, oM_p18, oM_g19, oM_p19, oM_g20, oM_p20, oM_g21, oM_p21, oM_g22, oM_p22, oM_g23, oM_p23, oM_g24, oM_p24, oM_g25, oM_p25, oM_g26, oM_p26, oM_g27, oM_p27, oM_g28, oM_p28, oM_g29, oM_p29, mv0, mv1, mv2, mv3, mv4, mv5, mv6, mset_o, mset_po, mset_k1, mset_r1, mset_k2, mset_r2, mset_k3, mset_r3, mset_k4, mset_r4, mset_k5, mset_r5, mset_k6, mset_r6, mset_k7, mset_r7, mset_k8, mset_r8, mset_k9, mset_r9, mset_k10, mset_r10, mset_k11, mset_r11, mset_k12, mset_r12, mset_k13, mset_r13, mset_k14, mset_r14, mset_k15, mset_r15, mset_k16, mset_r16, mset_k17, mset_r17, mset_k18, mset_r18, mset_k19, mset_r19, mset_k20, mset_r20, mset_k21, mset_r21, mset_k22, mset_r22, mset_k23, mset_r23, a0, nlt (a := k) (b := k + 1) (by omega) (by omega), Nat.lt_succ_self, if_true]
  | succ m ih =>
    intro k hk
    have hlt : ¬ n < k + 1 := by omega
    have e : fac k * (k + 1) = fac (k + 1) := by rw [fac, Nat.mul_comm]
    rw [← ih (k + 1) (by omega), ← e, m66_30]
    simp only [m66_31, m66_32, m66_35, m66_36, m66_37, m66_40, m66_41, m66_42, m66_43, m66_44, m66_47, ob_some, pushr_s, pushr_n, iget_eq, gf_eq, pf_eq, ck_eq, alen_eq, rget_eq, iset_eq, Option.bind_some, Option.map_some, Option.elim_some, hput_at, ↓reduceIte, Nat.reduceEqDiff, Nat.reduceAdd, ne_eq, not_false_eq_true, oS_ck, oS_g0, oS_p0, oS_g1, oS_p1, oS_g2, oS_p2, oS_g3, oS_p3, oS_g4, oS_p4, oS_g5, oS_p5, oS_g6, oS_p6, oP_ck, oP_g0, oP_p0, oP_g1, oP_p1, oP_g2, oP_p2, oP_g3, oP_p3, oP_g4, oP_p4, oP_g5, oP_p5, oP_g6, oP_p6, oP_g7, oP_p7, oP_g8, oP_p8, oP_g9, oP_p9, oP_g10, oP_p10, oP_g11, oP_p11, oP_g12, oP_p12, oR_ck, oR_g0, oR_p0, oR_g1, oR_p1, oR_g2, oR_p2, oR_g3, oR_p3, oG_ck, oG_g0, oG_p0, oG_g1, oG_p1, oG_g2, oG_p2, oW_ck, oW_g0, oW_p0, oW_g1, oW_p1, oW_g2, oW_p2, oB_ck, oB_g0, oB_p0, oB_g1, oB_p1, oB_g2, oB_p2, oB_g3, oB_p3, oB_g4, oB_p4, oB_g5, oB_p5, oB_g6, oB_p6, oC_ck, oC_g0, oC_p0, oC_g1, oC_p1, oC_g2, oC_p2, oC_g3, oC_p3, oC_g4, oC_p4, oC_g5, oC_p5, oC_g6, oC_p6, oH_ck, oH_g0, oH_p0, oH_g1, oH_p1, oH_g2, oH_p2, oH_g3, oH_p3, oM_ck, oM_g0, oM_p0, oM_g1, oM_p1, oM_g2, oM_p2, oM_g3, oM_p3, oM_g4, oM_p4, oM_g5, oM_p5, oM_g6, oM_p6, oM_g7, oM_p7, oM_g8, oM_p8, oM_g9, oM_p9, oM_g10, oM_p10, oM_g11, oM_p11, oM_g12, oM_p12, oM_g13, oM_p13, oM_g14, oM_p14, oM_g15, oM_p15, oM_g16, oM_p16, oM_g17, oM_p17, oM_g18, oM_p18, oM_g19, oM_p19, oM_g20, oM_p20, oM_g21, oM_p21, oM_g22, oM_p22, oM_g23, oM_p23, oM_g24, oM_p24, oM_g25, oM_p25, oM_g26, oM_p26, oM_g27, oM_p27, oM_g28, oM_p28, oM_g29, oM_p29, mv0, mv1, mv2, mv3, mv4, mv5, mv6, mset_o, mset_po, mset_k1, mset_r1, mset_k2, mset_r2, mset_k3, mset_r3, mset_k4, mset_r4, mset_k5, mset_r5, mset_k6, mset_r6, mset_k7, mset_r7, mset_k8, mset_r8, mset_k9, mset_r9, mset_k10, mset_r10, mset_k11, mset_r11, mset_k12, mset_r12, mset_k13, mset_r13, mset_k14, mset_r14, mset_k15, mset_r15, mset_k16, mset_r16, mset_k17, mset_r17, mset_k18, mset_r18, mset_k19, mset_r19, mset_k20, mset_r20, mset_k21, mset_r21, mset_k22, mset_r22, mset_k23, mset_r23, a0, nlt (a := n) (b := k + 1) (by omega) (by omega), hlt, if_false, pk_mul, nI_add]
theorem mwas_loop {h : Hp} {S : Nat → Int32} {A : Nat → Nat → Nat} {W : Mw} {n : Nat} (hn : n ≤ 6) (h6 : A 6 0 = n) (l1 : Option Value) (x2 : Int32) (l4 l5 : Option Value) (b : Nat → Nat) (z : Zc) (Q : Option Value → Zc → Hp → Prop) : ∀ m k, m + k = n → Ev 66 (52, [some (.ref 78), l1, some (.int x2), some (.int (nI k)), l4, l5], [], z, mset h S (fup A 21 (fun j => if j < k then A 13 j else b j)) W) Q = Ev 66 (80, [some (.ref 78), l1, some (.int x2), some (.int (nI n)), l4, l5], [], z, mset h S (fup A 21 (fun j => if j < n then A 13 j else b j)) W) Q := by
  have a0 := igE_AI (n := 2) (j := 0) (A 6) (by decide) (by decide)
  rw [h6] at a0
  have f6 : ∀ f, fup A 21 f 6 = A 6 := fun f => rfl
  have f13 : ∀ f, fup A 21 f 13 = A 13 := fun f => rfl
  have f21 : ∀ f, fup A 21 f 21 = f := fun f => rfl
  intro m
  induction m with
  | zero =>
    intro k hk
    have e : k = n := by omega
    subst e
    rw [m66_52]
    simp only [m66_53, m66_54, m66_57, m66_58, m66_59, ob_some, pushr_s, pushr_n, iget_eq, gf_eq, pf_eq, ck_eq, alen_eq, rget_eq, iset_eq, Option.bind_some, Option.map_some, Option.elim_some, hput_at, ↓reduceIte, Nat.reduceEqDiff, Nat.reduceAdd, ne_eq, not_false_eq_true, oS_ck, oS_g0, oS_p0, oS_g1, oS_p1, oS_g2, oS_p2, oS_g3, oS_p3, oS_g4, oS_p4, oS_g5, oS_p5, oS_g6, oS_p6, oP_ck, oP_g0, oP_p0, oP_g1, oP_p1, oP_g2, oP_p2, oP_g3, oP_p3, oP_g4, oP_p4, oP_g5, oP_p5, oP_g6, oP_p6, oP_g7, oP_p7, oP_g8, oP_p8, oP_g9, oP_p9, oP_g10, oP_p10, oP_g11, oP_p11, oP_g12, oP_p12, oR_ck, oR_g0, oR_p0, oR_g1, oR_p1, oR_g2, oR_p2, oR_g3, oR_p3, oG_ck, oG_g0, oG_p0, oG_g1, oG_p1, oG_g2, oG_p2, oW_ck, oW_g0, oW_p0, oW_g1, oW_p1, oW_g2, oW_p2, oB_ck, oB_g0, oB_p0, oB_g1, oB_p1, oB_g2, oB_p2, oB_g3, oB_p3, oB_g4, oB_p4, oB_g5, oB_p5, oB_g6, oB_p6, oC_ck, oC_g0, oC_p0, oC_g1, oC_p1, oC_g2, oC_p2, oC_g3, oC_p3, oC_g4, oC_p4, oC_g5, oC_p5, oC_g6, oC_p6, oH_ck, oH_g0, oH_p0, oH_g1, oH_p1, oH_g2, oH_p2, oH_g3, oH_p3, oM_ck, oM_g0, oM_p0, oM_g1, oM_p1, oM_g2, oM_p2, oM_g3, oM_p3, oM_g4, oM_p4, oM_g5, oM_p5, oM_g6, oM_p6, oM_g7, oM_p7, oM_g8, oM_p8, oM_g9, oM_p9, oM_g10, oM_p10, oM_g11, oM_p11, oM_g12, oM_p12, oM_g13, oM_p13, oM_g14, oM_p14, oM_g15, oM_p15, oM_g16, oM_p16, oM_g17, oM_p17, oM_g18, oM_p18, oM_g19, oM_p19, oM_g20, oM_p20, oM_g21, oM_p21, oM_g22, oM_p22, oM_g23, oM_p23, oM_g24, oM_p24, oM_g25, oM_p25, oM_g26, oM_p26, oM_g27, oM_p27, oM_g28, oM_p28, oM_g29, oM_p29, mv0, mv1, mv2, mv3, mv4, mv5, mv6, mset_o, mset_po, mset_k1, mset_r1, mset_k2, mset_r2, mset_k3, mset_r3, mset_k4, mset_r4, mset_k5, mset_r5, mset_k6, mset_r6, mset_k7, mset_r7, mset_k8, mset_r8, mset_k9, mset_r9, mset_k10, mset_r10, mset_k11, mset_r11, mset_k12, mset_r12, mset_k13, mset_r13, mset_k14, mset_r14, mset_k15, mset_r15, mset_k16, mset_r16, mset_k17, mset_r17, mset_k18, mset_r18, mset_k19, mset_r19, mset_k20, mset_r20, mset_k21, mset_r21, mset_k22, mset_r22, mset_k23, mset_r23, f6, a0, nlt (a := k) (b := k) (by omega) (by omega), Nat.lt_irrefl, if_false]
  | succ m ih =>
    intro k hk
    have hlt : k < n := by omega
    have g13 := igE_AI (n := 24) (j := k) (A 13) (by omega) (by decide)
    have p21 := isE_AI (n := 6) (j := k) (fun j => if j < k then A 13 j else b j) (A 13 k) (by omega) (by decide)
    have e : fup (fun j => if j < k then A 13 j else b j) k (A 13 k) = (fun j => if j < k + 1 then A 13 j else b j) := by
      funext j
      rw [fup_at]
      by_cases q : j = k
      · rw [if_pos q, if_pos (by omega), q]
      · rw [if_neg q]
        by_cases q2 : j < k
        · rw [if_pos q2, if_pos (by omega)]
        · rw [if_neg q2, if_neg (by omega)]
    rw [e] at p21
    rw [← ih (k + 1) (by omega), m66_52]
    simp only [m66_53, m66_54, m66_57, m66_58, m66_59, m66_62, m66_63, m66_66, m66_67, m66_68, m66_71, m66_72, m66_73, m66_74, m66_77, ob_some, pushr_s, pushr_n, iget_eq, gf_eq, pf_eq, ck_eq, alen_eq, rget_eq, iset_eq, Option.bind_some, Option.map_some, Option.elim_some, hput_at, ↓reduceIte, Nat.reduceEqDiff, Nat.reduceAdd, ne_eq, not_false_eq_true, oS_ck, oS_g0, oS_p0, oS_g1, oS_p1, oS_g2, oS_p2, oS_g3, oS_p3, oS_g4, oS_p4, oS_g5, oS_p5, oS_g6, oS_p6, oP_ck, oP_g0, oP_p0, oP_g1, oP_p1, oP_g2, oP_p2, oP_g3, oP_p3, oP_g4, oP_p4, oP_g5, oP_p5, oP_g6, oP_p6, oP_g7, oP_p7, oP_g8, oP_p8, oP_g9, oP_p9, oP_g10, oP_p10, oP_g11, oP_p11, oP_g12, oP_p12, oR_ck, oR_g0, oR_p0, oR_g1, oR_p1, oR_g2, oR_p2, oR_g3, oR_p3, oG_ck, oG_g0, oG_p0, oG_g1, oG_p1, oG_g2, oG_p2, oW_ck, oW_g0, oW_p0, oW_g1, oW_p1, oW_g2, oW_p2, oB_ck, oB_g0, oB_p0, oB_g1, oB_p1, oB_g2, oB_p2, oB_g3, oB_p3, oB_g4, oB_p4, oB_g5, oB_p5, oB_g6, oB_p6, oC_ck, oC_g0, oC_p0, oC_g1, oC_p1, oC_g2, oC_p2, oC_g3, oC_p3, oC_g4, oC_p4, oC_g5, oC_p5, oC_g6, oC_p6, oH_ck, oH_g0, oH_p0, oH_g1, oH_p1, oH_g2, oH_p2, oH_g3, oH_p3, oM_ck, oM_g0, oM_p0, oM_g1, oM_p1, oM_g2, oM_p2, oM_g3, oM_p3, oM_g4, oM_p4, oM_g5, oM_p5, oM_g6, oM_p6, oM_g7, oM_p7, oM_g8, oM_p8, oM_g9, oM_p9, oM_g10, oM_p10, oM_g11, oM_p11, oM_g12, oM_p12, oM_g13, oM_p13, oM_g14, oM_p14, oM_g15, oM_p15, oM_g16, oM_p16, oM_g17, oM_p17, oM_g18, oM_p18, oM_g19, oM_p19, oM_g20, oM_p20, oM_g21, oM_p21, oM_g22, oM_p22, oM_g23, oM_p23, oM_g24, oM_p24, oM_g25, oM_p25, oM_g26, oM_p26, oM_g27, oM_p27, oM_g28, oM_p28, oM_g29, oM_p29, mv0, mv1, mv2, mv3, mv4, mv5, mv6, mset_o, mset_po, mset_k1, mset_r1, mset_k2, mset_r2, mset_k3, mset_r3, mset_k4, mset_r4, mset_k5, mset_r5, mset_k6, mset_r6, mset_k7, mset_r7, mset_k8, mset_r8, mset_k9, mset_r9, mset_k10, mset_r10, mset_k11, mset_r11, mset_k12, mset_r12, mset_k13, mset_r13, mset_k14, mset_r14, mset_k15, mset_r15, mset_k16, mset_r16, mset_k17, mset_r17, mset_k18, mset_r18, mset_k19, mset_r19, mset_k20, mset_r20, mset_k21, mset_r21, mset_k22, mset_r22, mset_k23, mset_r23, f6, f13, f21, a0, nlt (a := k) (b := n) (by omega) (by omega), hlt, if_true, g13, p21, fup_fup, nI_add]
theorem mback_loop {h : Hp} {S : Nat → Int32} {A : Nat → Nat → Nat} {W : Mw} {n : Nat} (hn : n ≤ 6) (h6 : A 6 0 = n) (l1 l2 : Option Value) (x3 : Int32) (l5 : Option Value) (b : Nat → Nat) (z : Zc) (Q : Option Value → Zc → Hp → Prop) : ∀ m k, m + k = n → Ev 66 (176, [some (.ref 78), l1, l2, some (.int x3), some (.int (nI k)), l5], [], z, mset h S (fup A 13 (fun j => if j < k then A 21 j else b j)) W) Q = Ev 66 (207, [some (.ref 78), l1, l2, some (.int x3), some (.int (nI n)), l5], [], z, mset h S (fup A 13 (fun j => if j < n then A 21 j else b j)) W) Q := by
  have a0 := igE_AI (n := 2) (j := 0) (A 6) (by decide) (by decide)
  rw [h6] at a0
  have f6 : ∀ f, fup A 13 f 6 = A 6 := fun f => rfl
  have f21 : ∀ f, fup A 13 f 21 = A 21 := fun f => rfl
  have f13 : ∀ f, fup A 13 f 13 = f := fun f => rfl
  intro m
  induction m with
  | zero =>
    intro k hk
    have e : k = n := by omega
    subst e
    rw [m66_176]
    simp only [m66_178, m66_179, m66_182, m66_183, m66_184, ob_some, pushr_s, pushr_n, iget_eq, gf_eq, pf_eq, ck_eq, alen_eq, rget_eq, iset_eq, Option.bind_some, Option.map_some, Option.elim_some, hput_at, ↓reduceIte, Nat.reduceEqDiff, Nat.reduceAdd, ne_eq, not_false_eq_true, oS_ck, oS_g0, oS_p0, oS_g1, oS_p1, oS_g2, oS_p2, oS_g3, oS_p3, oS_g4, oS_p4, oS_g5, oS_p5, oS_g6, oS_p6, oP_ck, oP_g0, oP_p0, oP_g1, oP_p1, oP_g2, oP_p2, oP_g3, oP_p3, oP_g4, oP_p4, oP_g5, oP_p5, oP_g6, oP_p6, oP_g7, oP_p7, oP_g8, oP_p8, oP_g9, oP_p9, oP_g10, oP_p10, oP_g11, oP_p11, oP_g12, oP_p12, oR_ck, oR_g0, oR_p0, oR_g1, oR_p1, oR_g2, oR_p2, oR_g3, oR_p3, oG_ck, oG_g0, oG_p0, oG_g1, oG_p1, oG_g2, oG_p2, oW_ck, oW_g0, oW_p0, oW_g1, oW_p1, oW_g2, oW_p2, oB_ck, oB_g0, oB_p0, oB_g1, oB_p1, oB_g2, oB_p2, oB_g3, oB_p3, oB_g4, oB_p4, oB_g5, oB_p5, oB_g6, oB_p6, oC_ck, oC_g0, oC_p0, oC_g1, oC_p1, oC_g2, oC_p2, oC_g3, oC_p3, oC_g4, oC_p4, oC_g5, oC_p5, oC_g6, oC_p6, oH_ck, oH_g0, oH_p0, oH_g1, oH_p1, oH_g2, oH_p2, oH_g3, oH_p3, oM_ck, oM_g0, oM_p0, oM_g1, oM_p1, oM_g2, oM_p2, oM_g3, oM_p3, oM_g4, oM_p4, oM_g5, oM_p5, oM_g6, oM_p6, oM_g7, oM_p7, oM_g8, oM_p8, oM_g9, oM_p9, oM_g10, oM_p10, oM_g11, oM_p11, oM_g12, oM_p12, oM_g13, oM_p13, oM_g14, oM_p14, oM_g15, oM_p15, oM_g16, oM_p16, oM_g17, oM_p17, oM_g18, oM_p18, oM_g19, oM_p19, oM_g20, oM_p20, oM_g21, oM_p21, oM_g22, oM_p22, oM_g23, oM_p23, oM_g24, oM_p24, oM_g25, oM_p25, oM_g26, oM_p26, oM_g27, oM_p27, oM_g28, oM_p28, oM_g29, oM_p29, mv0, mv1, mv2, mv3, mv4, mv5, mv6, mset_o, mset_po, mset_k1, mset_r1, mset_k2, mset_r2, mset_k3, mset_r3, mset_k4, mset_r4, mset_k5, mset_r5, mset_k6, mset_r6, mset_k7, mset_r7, mset_k8, mset_r8, mset_k9, mset_r9, mset_k10, mset_r10, mset_k11, mset_r11, mset_k12, mset_r12, mset_k13, mset_r13, mset_k14, mset_r14, mset_k15, mset_r15, mset_k16, mset_r16, mset_k17, mset_r17, mset_k18, mset_r18, mset_k19, mset_r19, mset_k20, mset_r20, mset_k21, mset_r21, mset_k22, mset_r22, mset_k23, mset_r23, f6, a0, nlt (a := k) (b := k) (by omega) (by omega), Nat.lt_irrefl, if_false]
  | succ m ih =>
    intro k hk
    have hlt : k < n := by omega
    have g21 := igE_AI (n := 6) (j := k) (A 21) (by omega) (by decide)
    have p13 := isE_AI (n := 24) (j := k) (fun j => if j < k then A 21 j else b j) (A 21 k) (by omega) (by decide)
    have e : fup (fun j => if j < k then A 21 j else b j) k (A 21 k) = (fun j => if j < k + 1 then A 21 j else b j) := by
      funext j
      rw [fup_at]
      by_cases q : j = k
      · rw [if_pos q, if_pos (by omega), q]
      · rw [if_neg q]
        by_cases q2 : j < k
        · rw [if_pos q2, if_pos (by omega)]
        · rw [if_neg q2, if_neg (by omega)]
    rw [e] at p13
    rw [← ih (k + 1) (by omega), m66_176]
    simp only [m66_178, m66_179, m66_182, m66_183, m66_184, m66_187, m66_188, m66_191, m66_193, m66_194, m66_197, m66_199, m66_200, m66_201, m66_204, ob_some, pushr_s, pushr_n, iget_eq, gf_eq, pf_eq, ck_eq, alen_eq, rget_eq, iset_eq, Option.bind_some, Option.map_some, Option.elim_some, hput_at, ↓reduceIte, Nat.reduceEqDiff, Nat.reduceAdd, ne_eq, not_false_eq_true, oS_ck, oS_g0, oS_p0, oS_g1, oS_p1, oS_g2, oS_p2, oS_g3, oS_p3, oS_g4, oS_p4, oS_g5, oS_p5, oS_g6, oS_p6, oP_ck, oP_g0, oP_p0, oP_g1, oP_p1, oP_g2, oP_p2, oP_g3, oP_p3, oP_g4, oP_p4, oP_g5, oP_p5, oP_g6, oP_p6, oP_g7, oP_p7, oP_g8, oP_p8, oP_g9, oP_p9, oP_g10, oP_p10, oP_g11, oP_p11, oP_g12, oP_p12, oR_ck, oR_g0, oR_p0, oR_g1, oR_p1, oR_g2, oR_p2, oR_g3, oR_p3, oG_ck, oG_g0, oG_p0, oG_g1, oG_p1, oG_g2, oG_p2, oW_ck, oW_g0, oW_p0, oW_g1, oW_p1, oW_g2, oW_p2, oB_ck, oB_g0, oB_p0, oB_g1, oB_p1, oB_g2, oB_p2, oB_g3, oB_p3, oB_g4, oB_p4, oB_g5, oB_p5, oB_g6, oB_p6, oC_ck, oC_g0, oC_p0, oC_g1, oC_p1, oC_g2, oC_p2, oC_g3, oC_p3, oC_g4, oC_p4, oC_g5, oC_p5, oC_g6, oC_p6, oH_ck, oH_g0, oH_p0, oH_g1, oH_p1, oH_g2, oH_p2, oH_g3, oH_p3, oM_ck, oM_g0, oM_p0, oM_g1, oM_p1, oM_g2, oM_p2, oM_g3, oM_p3, oM_g4, oM_p4, oM_g5, oM_p5, oM_g6, oM_p6, oM_g7, oM_p7, oM_g8, oM_p8, oM_g9, oM_p9, oM_g10, oM_p10, oM_g11, oM_p11, oM_g12, oM_p12, oM_g13, oM_p13, oM_g14, oM_p14, oM_g15, oM_p15, oM_g16, oM_p16, oM_g17, oM_p17, oM_g18, oM_p18, oM_g19, oM_p19, oM_g20, oM_p20, oM_g21, oM_p21, oM_g22, oM_p22, oM_g23, oM_p23, oM_g24, oM_p24, oM_g25, oM_p25, oM_g26, oM_p26, oM_g27, oM_p27, oM_g28, oM_p28, oM_g29, oM_p29, mv0, mv1, mv2, mv3, mv4, mv5, mv6, mset_o, mset_po, mset_k1, mset_r1, mset_k2, mset_r2, mset_k3, mset_r3, mset_k4, mset_r4, mset_k5, mset_r5, mset_k6, mset_r6, mset_k7, mset_r7, mset_k8, mset_r8, mset_k9, mset_r9, mset_k10, mset_r10, mset_k11, mset_r11, mset_k12, mset_r12, mset_k13, mset_r13, mset_k14, mset_r14, mset_k15, mset_r15, mset_k16, mset_r16, mset_k17, mset_r17, mset_k18, mset_r18, mset_k19, mset_r19, mset_k20, mset_r20, mset_k21, mset_r21, mset_k22, mset_r22, mset_k23, mset_r23, f6, f13, f21, a0, nlt (a := k) (b := n) (by omega) (by omega), hlt, if_true, g21, p13, fup_fup, nI_add]
theorem Lm1 : (-1 : Int64).toInt = -1 := by decide
theorem morder_op {h : Hp} {S : Nat → Int32} {A : Nat → Nat → Nat} {W : Mw} (hV : Valid (MP A)) (i : Int32) (z : Zc) : (¬ (i = -1 ∨ inI i (A 6 0)) ∧ Mop 66 [some (.ref 78), some (.int i), none, none, none, none] (.int (-1)) z h S A W) ∨ ∃ day w, BestP (MP A) day w ∧ Mop 66 [some (.ref 78), some (.int i), none, none, none, none] (.int (ansOrd (A 6 0) day w i)) z h S A W := by
  have v1 : A 6 0 ≤ 6 := hV.2.1
  have a0 := igE_AI (n := 2) (j := 0) (A 6) (by decide) (by decide)
  have es : (nI (A 6 0) - nI 1).toInt = (A 6 0 : Int) - 1 := pk_sub_toInt (by omega) (by decide)
  have hm1 : (-1 : Int32).toInt = -1 := by decide
  have eb : b2 ((-1 : Int) ≤ i.toInt ∧ i.toInt ≤ (A 6 0 : Int) - 1) = b2 (i = -1 ∨ inI i (A 6 0)) := b2_congr (by
    constructor
    · intro q
      by_cases c : i.toInt = -1
      · exact Or.inl (Int32.toInt_inj.mp (by rw [c, hm1]))
      · exact Or.inr ⟨by omega, by omega⟩
    · rintro (q | q)
      · rw [q, hm1]; omega
      · exact ⟨by omega, by omega⟩)
  by_cases c : i = -1 ∨ inI i (A 6 0)
  · refine Or.inr ?_
    have hly := fun Q => mlayRow_eq (h := h) (S := S) (A := A) (W := W) hV z Q
    have hr18 : lrA A 18 = apL (thL (MP A)) (A 18) := rfl
    have hr19 : lrA A 19 = isK (A 13) (A 6 0) (A 19) := rfl
    have hlow : ∀ k, k ≤ 17 → lrA A k = A k := fun k hk => by
      unfold lrA
      rw [fup_ne _ _ (by omega), fup_ne _ _ (by omega)]
    obtain ⟨i1, i2⟩ := isK_spec (A 13) (A 19) (A 6 0)
    have h6l : lrA A 6 0 = A 6 0 := rfl
    have hfa := fun Q => mfac_loop (h := h) (S := S) (A := lrA A) (W := W) v1 h6l i none none z Q (A 6 0) 0 (by omega)
    have hwa := fun Q => mwas_loop (h := h) (S := S) (A := lrA A) (W := W) v1 h6l (some (.int i)) (nI (fac (A 6 0))) none none (lrA A 21) z Q (A 6 0) 0 (by omega)
    have e0 : fup (lrA A) 21 (fun j => if j < 0 then lrA A 13 j else lrA A 21 j) = lrA A := by
      have : (fun j => if j < 0 then lrA A 13 j else lrA A 21 j) = lrA A 21 := by
        funext j
        exact if_neg (by omega)
      rw [this, fup_id]
    rw [e0] at hwa
    have hso : ∀ k, k < A 6 0 → 1 ≤ isK (A 13) (A 6 0) (A 19) k ∧ isK (A 13) (A 6 0) (A 19) k ≤ 20 := prm_vals (p := fun x => 1 ≤ x ∧ x ≤ 20) i2 (fun j hj => (hV.2.2.2.2.2.1 j hj).2.2.2)
    obtain ⟨S2, A2, first, y5, o1, o2, o3, o4⟩ := mcodes_loop (h := h) (S := S) (A := A) (W := W) (n := A 6 0) (so := isK (A 13) (A 6 0) (A 19)) (wa := fun j => if j < A 6 0 then lrA A 13 j else lrA A 21 j) (ro := apL (thL (MP A)) (A 18)) hV rfl (ap_thL hV (A 18)) hso i z (fac (A 6 0)) 0 (by omega) S (fup (lrA A) 21 (fun j => if j < A 6 0 then lrA A 13 j else lrA A 21 j)) 0 none ⟨⟨rfl, rfl, rfl⟩, fun k k1 k2 => (fup_ne _ _ (by omega)).trans (hlow k (by omega)), rfl, rfl, rfl, fun _ _ => rfl, fun j hj => (hV.2.2.2.2.2.1 j hj).2.2.2⟩ (Nat.zero_le _) ⟨fun q => absurd rfl q, fun y hy => by omega⟩
    obtain ⟨q1, q2, q3, q4, q5, q6, q7⟩ := o1
    have h6b : A2 6 0 = A 6 0 := by rw [q2 6 (by decide) (by decide)]
    have hbk := fun Q => mback_loop (h := h) (S := S2) (A := A2) (W := W) v1 h6b (some (.int i)) (some (.int (nI (fac (A 6 0))))) (dN first) y5 (A2 13) z Q (A 6 0) 0 (by omega)
    have e1 : fup A2 13 (fun j => if j < 0 then A2 21 j else A2 13 j) = A2 := by
      have : (fun j => if j < 0 then A2 21 j else A2 13 j) = A2 13 := by
        funext j
        exact if_neg (by omega)
      rw [this, fup_id]
    rw [e1] at hbk
    have e13 : (fun j => if j < A 6 0 then A2 21 j else A2 13 j) = A 13 := by
      funext j
      by_cases cj : j < A 6 0
      · rw [if_pos cj, q5]
        exact (if_pos cj).trans rfl
      · rw [if_neg cj]
        exact q6 j (by omega)
    rw [e13] at hbk
    have hp0 : PrmF (A 6 0) (isK (A 13) (A 6 0) (A 19)) (fun k => MP A 7 (thK (MP A) k)) := by
      refine i2.trans (lsF_perm.mpr ?_)
      -- the weights as told and as thrown
      have hl := thL_len hV
      have ep : (thL (MP A)).Perm (List.range (A 6 0)) := by
        refine List.perm_iff_count.mpr (fun a => ?_)
        have hnd : (thL (MP A)).Nodup := (orR_pw (P := MP A) (n := MP A 0 1) 30 (Nat.le_refl _)).imp (fun {x y} hxy q => by
          subst q
          unfold thA at hxy
          omega)
        by_cases ca : a < A 6 0
        · have hm : a ∈ thL (MP A) := by
            refine Classical.byContradiction (fun q => ?_)
            have hsub : ∀ x, x ∈ thL (MP A) → x ∈ (List.range (A 6 0)).erase a := fun x hx => by
              refine (List.mem_erase_of_ne (fun e => q (by rw [← e]; exact hx))).mpr ?_
              exact List.mem_range.mpr (orR_mem 30 x (Nat.le_refl _) hx).1
            have h1 := hnd.length_le_of_subset hsub
            rw [List.length_erase_of_mem (List.mem_range.mpr ca), List.length_range] at h1
            have e : MP A 0 1 = A 6 0 := rfl
            omega
          rw [hnd.count, List.nodup_range.count, if_pos hm, if_pos (List.mem_range.mpr ca)]
        · rw [hnd.count, List.nodup_range.count, if_neg (show ¬ a ∈ thL (MP A) from fun q => ca (orR_mem 30 a (Nat.le_refl _) q).1), if_neg (fun q => ca (List.mem_range.mp q))]
      have e2 : lsF (fun k => MP A 7 (thK (MP A) k)) (A 6 0) = (thL (MP A)).map (MP A 7) := by
        apply List.ext_getElem?
        intro j
        unfold lsF
        rw [List.getElem?_map, List.getElem?_map]
        by_cases cj : j < A 6 0
        · rw [List.getElem?_range cj, thK_get hV cj]
          rfl
        · have e : MP A 0 1 = A 6 0 := rfl
          rw [List.getElem?_eq_none (by rw [List.length_range]; omega), List.getElem?_eq_none (by omega)]
          rfl
      rw [e2]
      exact (ep.map (MP A 7)).symm
    have hbest : BestP (MP A) first (A2 20) := o3.best (n := A 6 0) (fun a c hac => by
      unfold dayO
      split
      · exact DF_cg _ (Nat.le_refl _) (fun j hj => okB_cg (fun x hx => hac x (by
          have e : MP A 0 1 = A 6 0 := rfl
          omega)))
      · rfl) (fun x y h1 h2 => i1 x y h1 h2) hp0
    refine ⟨first, A2 20, hbest, S2, fup A2 13 (A 13), W, MR.of q1 (fun k hk => by
      by_cases ck : k = 13
      · rw [ck, fup_self]
      · rw [fup_ne _ _ ck]; exact q2 k hk ck), fun Q => ?_⟩
    have n2 := dN_neg (d := first) (by omega)
    have f20 : fup A2 13 (A 13) 20 = A2 20 := rfl
    have step : Ev 66 (0, [some (.ref 78), some (.int i), none, none, none, none], [], z, mset h S A W) Q = Ev 66 (207, [some (.ref 78), some (.int i), some (.int (nI (fac (A 6 0)))), some (.int (dN first)), some (.int (nI (A 6 0))), y5], [], z, mset h S2 (fup A2 13 (A 13)) W) Q := by
      have e2 : nI (fac 0) = nI 1 := rfl
      rw [e2] at hfa
      have e3 : (-4 : Int32) = dN 0 := rfl
      simp only [m66_0, m66_1, m66_2, m66_5, m66_6, m66_9, m66_10, m66_11, m66_12, m66_13, m66_14, m66_17, m66_22, m66_23, m66_26, m66_27, m66_28, m66_29, ob_some, pushr_s, pushr_n, iget_eq, gf_eq, pf_eq, ck_eq, alen_eq, rget_eq, iset_eq, Option.bind_some, Option.map_some, Option.elim_some, hput_at, ↓reduceIte, Nat.reduceEqDiff, Nat.reduceAdd, ne_eq, not_false_eq_true, oS_ck, oS_g0, oS_p0, oS_g1, oS_p1, oS_g2, oS_p2, oS_g3, oS_p3, oS_g4, oS_p4, oS_g5, oS_p5, oS_g6, oS_p6, oP_ck, oP_g0, oP_p0, oP_g1, oP_p1, oP_g2, oP_p2, oP_g3, oP_p3, oP_g4, oP_p4, oP_g5, oP_p5, oP_g6, oP_p6, oP_g7, oP_p7, oP_g8, oP_p8, oP_g9, oP_p9, oP_g10, oP_p10, oP_g11, oP_p11, oP_g12, oP_p12, oR_ck, oR_g0, oR_p0, oR_g1, oR_p1, oR_g2, oR_p2, oR_g3, oR_p3, oG_ck, oG_g0, oG_p0, oG_g1, oG_p1, oG_g2, oG_p2, oW_ck, oW_g0, oW_p0, oW_g1, oW_p1, oW_g2, oW_p2, oB_ck, oB_g0, oB_p0, oB_g1, oB_p1, oB_g2, oB_p2, oB_g3, oB_p3, oB_g4, oB_p4, oB_g5, oB_p5, oB_g6, oB_p6, oC_ck, oC_g0, oC_p0, oC_g1, oC_p1, oC_g2, oC_p2, oC_g3, oC_p3, oC_g4, oC_p4, oC_g5, oC_p5, oC_g6, oC_p6, oH_ck, oH_g0, oH_p0, oH_g1, oH_p1, oH_g2, oH_p2, oH_g3, oH_p3, oM_ck, oM_g0, oM_p0, oM_g1, oM_p1, oM_g2, oM_p2, oM_g3, oM_p3, oM_g4, oM_p4, oM_g5, oM_p5, oM_g6, oM_p6, oM_g7, oM_p7, oM_g8, oM_p8, oM_g9, oM_p9, oM_g10, oM_p10, oM_g11, oM_p11, oM_g12, oM_p12, oM_g13, oM_p13, oM_g14, oM_p14, oM_g15, oM_p15, oM_g16, oM_p16, oM_g17, oM_p17, oM_g18, oM_p18, oM_g19, oM_p19, oM_g20, oM_p20, oM_g21, oM_p21, oM_g22, oM_p22, oM_g23, oM_p23, oM_g24, oM_p24, oM_g25, oM_p25, oM_g26, oM_p26, oM_g27, oM_p27, oM_g28, oM_p28, oM_g29, oM_p29, mv0, mv1, mv2, mv3, mv4, mv5, mv6, mset_o, mset_po, mset_k1, mset_r1, mset_k2, mset_r2, mset_k3, mset_r3, mset_k4, mset_r4, mset_k5, mset_r5, mset_k6, mset_r6, mset_k7, mset_r7, mset_k8, mset_r8, mset_k9, mset_r9, mset_k10, mset_r10, mset_k11, mset_r11, mset_k12, mset_r12, mset_k13, mset_r13, mset_k14, mset_r14, mset_k15, mset_r15, mset_k16, mset_r16, mset_k17, mset_r17, mset_k18, mset_r18, mset_k19, mset_r19, mset_k20, mset_r20, mset_k21, mset_r21, mset_k22, mset_r22, mset_k23, mset_r23, in_eq, i2l_toInt, Lm1, a0, es, eb, bt c, if_false, hly, hfa]
      simp only [m66_50, m66_51, hwa]
      simp only [m66_80, m66_82, m66_83, m66_84, e3, o4]
      simp only [m66_173, m66_174, hbk]
    unfold ansOrd
    rw [step, if_pos c]
    by_cases c0 : first = 0
    · have n2t : (dN first < nI 0) = True := n2.trans (eq_true c0)
      have ed : dN first = -4 := by rw [c0]; rfl
      have n2u : ((-4 : Int32) < nI 0) = True := eq_true (by decide)
      rw [if_pos c0]
      simp only [m66_207, m66_208, m66_215, m66_216, m66_225, n2u, if_true, ed]
    · have n2f : (dN first < nI 0) = False := n2.trans (eq_false c0)
      have n2g : (nI first < nI 0) = False := by rw [← dN_pos c0]; exact n2f
      rw [if_neg c0]
      by_cases c1 : i = -1
      · have in0 : (i < nI 0) = True := by rw [c1]; exact eq_true (by decide)
        rw [if_pos c1]
        simp only [m66_207, m66_208, m66_211, m66_212, m66_215, m66_216, m66_225, n2f, n2g, if_false, in0, if_true, dN_pos c0]
      · have c2 : inI i (A 6 0) := by
          rcases c with q | q
          · exact absurd q c1
          · exact q
        obtain ⟨j1, j2⟩ := in_nt c2
        have in0 : (i < nI 0) = False := by rw [j1]; exact eq_false (nI_not_neg (by omega))
        have g20 := igE_AI (n := 6) (j := nt i) (A2 20) (by omega) (by decide)
        rw [← j1] at g20
        rw [if_neg c1]
        simp only [m66_207, m66_208, m66_211, m66_212, m66_219, m66_220, m66_223, m66_224, m66_225, ob_some, pushr_s, pushr_n, iget_eq, gf_eq, pf_eq, ck_eq, alen_eq, rget_eq, iset_eq, Option.bind_some, Option.map_some, Option.elim_some, hput_at, ↓reduceIte, Nat.reduceEqDiff, Nat.reduceAdd, ne_eq, not_false_eq_true, oS_ck, oS_g0, oS_p0, oS_g1, oS_p1, oS_g2, oS_p2, oS_g3, oS_p3, oS_g4, oS_p4, oS_g5, oS_p5, oS_g6, oS_p6, oP_ck, oP_g0, oP_p0, oP_g1, oP_p1, oP_g2, oP_p2, oP_g3, oP_p3, oP_g4, oP_p4, oP_g5, oP_p5, oP_g6, oP_p6, oP_g7, oP_p7, oP_g8, oP_p8, oP_g9, oP_p9, oP_g10, oP_p10, oP_g11, oP_p11, oP_g12, oP_p12, oR_ck, oR_g0, oR_p0, oR_g1, oR_p1, oR_g2, oR_p2, oR_g3, oR_p3, oG_ck, oG_g0, oG_p0, oG_g1, oG_p1, oG_g2, oG_p2, oW_ck, oW_g0, oW_p0, oW_g1, oW_p1, oW_g2, oW_p2, oB_ck, oB_g0, oB_p0, oB_g1, oB_p1, oB_g2, oB_p2, oB_g3, oB_p3, oB_g4, oB_p4, oB_g5, oB_p5, oB_g6, oB_p6, oC_ck, oC_g0, oC_p0, oC_g1, oC_p1, oC_g2, oC_p2, oC_g3, oC_p3, oC_g4, oC_p4, oC_g5, oC_p5, oC_g6, oC_p6, oH_ck, oH_g0, oH_p0, oH_g1, oH_p1, oH_g2, oH_p2, oH_g3, oH_p3, oM_ck, oM_g0, oM_p0, oM_g1, oM_p1, oM_g2, oM_p2, oM_g3, oM_p3, oM_g4, oM_p4, oM_g5, oM_p5, oM_g6, oM_p6, oM_g7, oM_p7, oM_g8, oM_p8, oM_g9, oM_p9, oM_g10, oM_p10, oM_g11, oM_p11, oM_g12, oM_p12, oM_g13, oM_p13, oM_g14, oM_p14, oM_g15, oM_p15, oM_g16, oM_p16, oM_g17, oM_p17, oM_g18, oM_p18, oM_g19, oM_p19, oM_g20, oM_p20, oM_g21, oM_p21, oM_g22, oM_p22, oM_g23, oM_p23, oM_g24, oM_p24, oM_g25, oM_p25, oM_g26, oM_p26, oM_g27, oM_p27, oM_g28, oM_p28, oM_g29, oM_p29, mv0, mv1, mv2, mv3, mv4, mv5, mv6, mset_o, mset_po, mset_k1, mset_r1, mset_k2, mset_r2, mset_k3, mset_r3, mset_k4, mset_r4, mset_k5, mset_r5, mset_k6, mset_r6, mset_k7, mset_r7, mset_k8, mset_r8, mset_k9, mset_r9, mset_k10, mset_r10, mset_k11, mset_r11, mset_k12, mset_r12, mset_k13, mset_r13, mset_k14, mset_r14, mset_k15, mset_r15, mset_k16, mset_r16, mset_k17, mset_r17, mset_k18, mset_r18, mset_k19, mset_r19, mset_k20, mset_r20, mset_k21, mset_r21, mset_k22, mset_r22, mset_k23, mset_r23, n2f, n2g, if_false, in0, f20, g20]
  · refine Or.inl ⟨c, S, A, W, MR.rfl' S A, fun Q => ?_⟩
    simp only [m66_0, m66_1, m66_2, m66_5, m66_6, m66_9, m66_10, m66_11, m66_12, m66_13, m66_14, m66_17, m66_20, m66_21, ob_some, pushr_s, pushr_n, iget_eq, gf_eq, pf_eq, ck_eq, alen_eq, rget_eq, iset_eq, Option.bind_some, Option.map_some, Option.elim_some, hput_at, ↓reduceIte, Nat.reduceEqDiff, Nat.reduceAdd, ne_eq, not_false_eq_true, oS_ck, oS_g0, oS_p0, oS_g1, oS_p1, oS_g2, oS_p2, oS_g3, oS_p3, oS_g4, oS_p4, oS_g5, oS_p5, oS_g6, oS_p6, oP_ck, oP_g0, oP_p0, oP_g1, oP_p1, oP_g2, oP_p2, oP_g3, oP_p3, oP_g4, oP_p4, oP_g5, oP_p5, oP_g6, oP_p6, oP_g7, oP_p7, oP_g8, oP_p8, oP_g9, oP_p9, oP_g10, oP_p10, oP_g11, oP_p11, oP_g12, oP_p12, oR_ck, oR_g0, oR_p0, oR_g1, oR_p1, oR_g2, oR_p2, oR_g3, oR_p3, oG_ck, oG_g0, oG_p0, oG_g1, oG_p1, oG_g2, oG_p2, oW_ck, oW_g0, oW_p0, oW_g1, oW_p1, oW_g2, oW_p2, oB_ck, oB_g0, oB_p0, oB_g1, oB_p1, oB_g2, oB_p2, oB_g3, oB_p3, oB_g4, oB_p4, oB_g5, oB_p5, oB_g6, oB_p6, oC_ck, oC_g0, oC_p0, oC_g1, oC_p1, oC_g2, oC_p2, oC_g3, oC_p3, oC_g4, oC_p4, oC_g5, oC_p5, oC_g6, oC_p6, oH_ck, oH_g0, oH_p0, oH_g1, oH_p1, oH_g2, oH_p2, oH_g3, oH_p3, oM_ck, oM_g0, oM_p0, oM_g1, oM_p1, oM_g2, oM_p2, oM_g3, oM_p3, oM_g4, oM_p4, oM_g5, oM_p5, oM_g6, oM_p6, oM_g7, oM_p7, oM_g8, oM_p8, oM_g9, oM_p9, oM_g10, oM_p10, oM_g11, oM_p11, oM_g12, oM_p12, oM_g13, oM_p13, oM_g14, oM_p14, oM_g15, oM_p15, oM_g16, oM_p16, oM_g17, oM_p17, oM_g18, oM_p18, oM_g19, oM_p19, oM_g20, oM_p20, oM_g21, oM_p21, oM_g22, oM_p22, oM_g23, oM_p23, oM_g24, oM_p24, oM_g25, oM_p25, oM_g26, oM_p26, oM_g27, oM_p27, oM_g28, oM_p28, oM_g29, oM_p29, mv0, mv1, mv2, mv3, mv4, mv5, mv6, mset_o, mset_po, mset_k1, mset_r1, mset_k2, mset_r2, mset_k3, mset_r3, mset_k4, mset_r4, mset_k5, mset_r5, mset_k6, mset_r6, mset_k7, mset_r7, mset_k8, mset_r8, mset_k9, mset_r9, mset_k10, mset_r10, mset_k11, mset_r11, mset_k12, mset_r12, mset_k13, mset_r13, mset_k14, mset_r14, mset_k15, mset_r15, mset_k16, mset_r16, mset_k17, mset_r17, mset_k18, mset_r18, mset_k19, mset_r19, mset_k20, mset_r20, mset_k21, mset_r21, mset_k22, mset_r22, mset_k23, mset_r23, in_eq, i2l_toInt, Lm1, a0, es, eb, bf c, if_true]
