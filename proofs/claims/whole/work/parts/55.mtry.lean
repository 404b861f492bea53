/-! the reference: what would be -/
theorem MR.of {S S2 : Nat → Int32} {A A2 : Nat → Nat → Nat} (hS : S2 0 = S 0 ∧ S2 1 = S 1 ∧ S2 2 = S 2) (hA : ∀ k, k ≤ 15 → A2 k = A k) : MR S A S2 A2 := by
  have e : MP A2 = MP A := by
    funext i
    unfold MP
    rw [hA 2 (by decide), hA 3 (by decide), hA 4 (by decide), hA 5 (by decide), hA 6 (by decide), hA 7 (by decide), hA 8 (by decide), hA 9 (by decide), hA 10 (by decide), hA 11 (by decide), hA 12 (by decide), hA 13 (by decide), hA 14 (by decide)]
  refine ⟨hS, hA 1 (by decide), hA 15 (by decide), ?_, fun j _ => by rw [hA 13 (by decide)], fun j _ => by rw [hA 14 (by decide)]⟩
  rw [e]
  exact PEq.rfl' _
theorem misBreached_eq {h : Hp} {S : Nat → Int32} {A : Nat → Nat → Nat} {W : Mw} (hV : Valid (MP A)) {t : Nat} (ht : t ≤ 30) (z : Zc) (Q : Option Value → Zc → Hp → Prop) : Ev 67 (0, [some (.ref 78), some (.int (nI t))], [], z, mset h S A W) Q = Q (some (.int (b2 (brk (MP A) t = true)))) z (gX h S A W (runF (MP A) t)) := by
  have hs := fun Q => mgo_eq (h := h) (S := S) (W := W) hV ht z Q
  have ho := (runF_ok hV t).2.2.1
  simp only [gX_ch] at hs
  by_cases g : brk (MP A) t = true
  · have g2 := (brk_iff _ _).mp g
    have l : ¬ dN (runF (MP A) t).2.1 < nI 0 := by rw [dN_pos g2]; exact nI_not_neg (by omega)
    rw [b2_t g]
    simp only [gX_ch, m67_0, m67_1, m67_2, m67_5, m67_6, m67_9, m67_12, m67_13, m67_16, m67_17_0, m67_17_1, m67_17_b, ob_some, pushr_s, pushr_n, iget_eq, gf_eq, pf_eq, ck_eq, alen_eq, rget_eq, iset_eq, Option.bind_some, Option.map_some, Option.elim_some, hput_at, ↓reduceIte, Nat.reduceEqDiff, Nat.reduceAdd, ne_eq, not_false_eq_true, oS_ck, oS_g0, oS_p0, oS_g1, oS_p1, oS_g2, oS_p2, oS_g3, oS_p3, oS_g4, oS_p4, oS_g5, oS_p5, oS_g6, oS_p6, oP_ck, oP_g0, oP_p0, oP_g1, oP_p1, oP_g2, oP_p2, oP_g3, oP_p3, oP_g4, oP_p4, oP_g5, oP_p5, oP_g6, oP_p6, oP_g7, oP_p7, oP_g8, oP_p8, oP_g9, oP_p9, oP_g10, oP_p10, oP_g11, oP_p11, oP_g12, oP_p12, oR_ck, oR_g0, oR_p0, oR_g1, oR_p1, oR_g2, oR_p2, oR_g3, oR_p3, oG_ck, oG_g0, oG_p0, oG_g1, oG_p1, oG_g2, oG_p2, oW_ck, oW_g0, oW_p0, oW_g1, oW_p1, oW_g2, oW_p2, oB_ck, oB_g0, oB_p0, oB_g1, oB_p1, oB_g2, oB_p2, oB_g3, oB_p3, oB_g4, oB_p4, oB_g5, oB_p5, oB_g6, oB_p6, oC_ck, oC_g0, oC_p0, oC_g1, oC_p1, oC_g2, oC_p2, oC_g3, oC_p3, oC_g4, oC_p4, oC_g5, oC_p5, oC_g6, oC_p6, oH_ck, oH_g0, oH_p0, oH_g1, oH_p1, oH_g2, oH_p2, oH_g3, oH_p3, oM_ck, oM_g0, oM_p0, oM_g1, oM_p1, oM_g2, oM_p2, oM_g3, oM_p3, oM_g4, oM_p4, oM_g5, oM_p5, oM_g6, oM_p6, oM_g7, oM_p7, oM_g8, oM_p8, oM_g9, oM_p9, oM_g10, oM_p10, oM_g11, oM_p11, oM_g12, oM_p12, oM_g13, oM_p13, oM_g14, oM_p14, oM_g15, oM_p15, oM_g16, oM_p16, oM_g17, oM_p17, oM_g18, oM_p18, oM_g19, oM_p19, oM_g20, oM_p20, oM_g21, oM_p21, oM_g22, oM_p22, oM_g23, oM_p23, oM_g24, oM_p24, oM_g25, oM_p25, oM_g26, oM_p26, oM_g27, oM_p27, oM_g28, oM_p28, oM_g29, oM_p29, mv0, mv1, mv2, mv3, mv4, mv5, mv6, mset_o, mset_po, mset_k1, mset_r1, mset_k2, mset_r2, mset_k3, mset_r3, mset_k4, mset_r4, mset_k5, mset_r5, mset_k6, mset_r6, mset_k7, mset_r7, mset_k8, mset_r8, mset_k9, mset_r9, mset_k10, mset_r10, mset_k11, mset_r11, mset_k12, mset_r12, mset_k13, mset_r13, mset_k14, mset_r14, mset_k15, mset_r15, mset_k16, mset_r16, mset_k17, mset_r17, mset_k18, mset_r18, mset_k19, mset_r19, mset_k20, mset_r20, mset_k21, mset_r21, mset_k22, mset_r22, mset_k23, mset_r23, aX_17, aX_6, aX_9, aX_4, aX_7, aX_8, aX_13, aX_10, sX_4, sX_5, sX_6, hs, l, if_false]
  · have g2 : (runF (MP A) t).2.1 = 0 := Classical.byContradiction (fun q => g ((brk_iff _ _).mpr q))
    have l : dN (runF (MP A) t).2.1 < nI 0 := by rw [g2]; decide
    rw [b2_f g]
    simp only [gX_ch, m67_0, m67_1, m67_2, m67_5, m67_6, m67_9, m67_12, m67_13, m67_16, m67_17_0, m67_17_1, m67_17_b, ob_some, pushr_s, pushr_n, iget_eq, gf_eq, pf_eq, ck_eq, alen_eq, rget_eq, iset_eq, Option.bind_some, Option.map_some, Option.elim_some, hput_at, ↓reduceIte, Nat.reduceEqDiff, Nat.reduceAdd, ne_eq, not_false_eq_true, oS_ck, oS_g0, oS_p0, oS_g1, oS_p1, oS_g2, oS_p2, oS_g3, oS_p3, oS_g4, oS_p4, oS_g5, oS_p5, oS_g6, oS_p6, oP_ck, oP_g0, oP_p0, oP_g1, oP_p1, oP_g2, oP_p2, oP_g3, oP_p3, oP_g4, oP_p4, oP_g5, oP_p5, oP_g6, oP_p6, oP_g7, oP_p7, oP_g8, oP_p8, oP_g9, oP_p9, oP_g10, oP_p10, oP_g11, oP_p11, oP_g12, oP_p12, oR_ck, oR_g0, oR_p0, oR_g1, oR_p1, oR_g2, oR_p2, oR_g3, oR_p3, oG_ck, oG_g0, oG_p0, oG_g1, oG_p1, oG_g2, oG_p2, oW_ck, oW_g0, oW_p0, oW_g1, oW_p1, oW_g2, oW_p2, oB_ck, oB_g0, oB_p0, oB_g1, oB_p1, oB_g2, oB_p2, oB_g3, oB_p3, oB_g4, oB_p4, oB_g5, oB_p5, oB_g6, oB_p6, oC_ck, oC_g0, oC_p0, oC_g1, oC_p1, oC_g2, oC_p2, oC_g3, oC_p3, oC_g4, oC_p4, oC_g5, oC_p5, oC_g6, oC_p6, oH_ck, oH_g0, oH_p0, oH_g1, oH_p1, oH_g2, oH_p2, oH_g3, oH_p3, oM_ck, oM_g0, oM_p0, oM_g1, oM_p1, oM_g2, oM_p2, oM_g3, oM_p3, oM_g4, oM_p4, oM_g5, oM_p5, oM_g6, oM_p6, oM_g7, oM_p7, oM_g8, oM_p8, oM_g9, oM_p9, oM_g10, oM_p10, oM_g11, oM_p11, oM_g12, oM_p12, oM_g13, oM_p13, oM_g14, oM_p14, oM_g15, oM_p15, oM_g16, oM_p16, oM_g17, oM_p17, oM_g18, oM_p18, oM_g19, oM_p19, oM_g20, oM_p20, oM_g21, oM_p21, oM_g22, oM_p22, oM_g23, oM_p23, oM_g24, oM_p24, oM_g25, oM_p25, oM_g26, oM_p26, oM_g27, oM_p27, oM_g28, oM_p28, oM_g29, oM_p29, mv0, mv1, mv2, mv3, mv4, mv5, mv6, mset_o, mset_po, mset_k1, mset_r1, mset_k2, mset_r2, mset_k3, mset_r3, mset_k4, mset_r4, mset_k5, mset_r5, mset_k6, mset_r6, mset_k7, mset_r7, mset_k8, mset_r8, mset_k9, mset_r9, mset_k10, mset_r10, mset_k11, mset_r11, mset_k12, mset_r12, mset_k13, mset_r13, mset_k14, mset_r14, mset_k15, mset_r15, mset_k16, mset_r16, mset_k17, mset_r17, mset_k18, mset_r18, mset_k19, mset_r19, mset_k20, mset_r20, mset_k21, mset_r21, mset_k22, mset_r22, mset_k23, mset_r23, aX_17, aX_6, aX_9, aX_4, aX_7, aX_8, aX_13, aX_10, sX_4, sX_5, sX_6, hs, l, if_true]
/-- one cell of a row another -/
def wA (r : Nat) (A : Nat → Nat → Nat) (e s : Nat) : Nat → Nat → Nat := fup A r (fup (A r) e s)
def MK (S : Nat → Int32) (B : Nat → Nat → Nat) (S1 : Nat → Int32) (A1 : Nat → Nat → Nat) : Prop := (S1 0 = S 0 ∧ S1 1 = S 1 ∧ S1 2 = S 2) ∧ ∀ k, k ≤ 15 → A1 k = B k
theorem MP_of {A B : Nat → Nat → Nat} (hA : ∀ k, k ≤ 15 → A k = B k) : MP A = MP B := by
  funext i
  unfold MP
  rw [hA 2 (by decide), hA 3 (by decide), hA 4 (by decide), hA 5 (by decide), hA 6 (by decide), hA 7 (by decide), hA 8 (by decide), hA 9 (by decide), hA 10 (by decide), hA 11 (by decide), hA 12 (by decide), hA 13 (by decide), hA 14 (by decide)]
/-- the row written once more, and the days run through -/
theorem MK.again {S S1 : Nat → Int32} {A A1 : Nat → Nat → Nat} {r e x : Nat} (hr : r ≤ 15) (hm : MK S (wA r A e x) S1 A1) (s : Nat) (X : Dy) : MK S (wA r A e s) (sX S1 X) (aX (fup A1 r (fup (A1 r) e s)) X) := by
  refine ⟨hm.1, fun k hk => ?_⟩
  unfold aX
  rw [fup_ne _ _ (by omega)]
  have h1 := hm.2 r hr
  have h2 := hm.2 k hk
  unfold wA at h1 h2 ⊢
  rw [fup_self] at h1
  by_cases c : k = r
  · subst c; rw [fup_self, fup_self, h1, fup_fup]
  · rw [fup_ne _ _ c] at h2
    rw [fup_ne _ _ c, fup_ne _ _ c, h2]
theorem MK.row {S S1 : Nat → Int32} {A A1 : Nat → Nat → Nat} {r e x : Nat} (hr : r ≤ 15) (hm : MK S (wA r A e x) S1 A1) (s : Nat) : MP (fup A1 r (fup (A1 r) e s)) = MP (wA r A e s) := MP_of (fun k hk => by
  have := (hm.again hr s (runF (MP A) 0)).2 k hk
  unfold aX at this
  rwa [fup_ne _ _ (by omega)] at this)
theorem MP_wA14 (A : Nat → Nat → Nat) (e s : Nat) : MP (wA 14 A e s) = wRow 2 (MP A) e s := by
  funext i
  by_cases c : i = 2
  · subst c; rfl
  · unfold wRow
    rw [fup_ne _ _ c]
    unfold MP
    rw [if_neg c, if_neg c]
    rfl
theorem MP_wA5 (A : Nat → Nat → Nat) (e s : Nat) : MP (wA 5 A e s) = wRow 4 (MP A) e s := by
  funext i
  by_cases c : i = 4
  · subst c; rfl
  · unfold wRow
    rw [fup_ne _ _ c]
    unfold MP
    rw [if_neg c, if_neg c]
    rfl
theorem MP_wA10 (A : Nat → Nat → Nat) (s : Nat) : MP (wA 10 A 0 s) = wRow 0 (MP A) 2 s := by
  funext i
  by_cases c : i = 0
  · subst c
    funext j
    show vec4 (A 2 0) (A 6 0) s (A 11 0) j = fup (vec4 (A 2 0) (A 6 0) (A 10 0) (A 11 0)) 2 s j
    rw [fup_at]
    unfold vec4
    by_cases c2 : j = 2
    · subst c2; rfl
    · rw [if_neg c2, if_neg c2, if_neg c2]
  · unfold wRow
    rw [fup_ne _ _ c]
    unfold MP
    rw [if_neg c, if_neg c]
    rfl
theorem wA_id (r : Nat) (A : Nat → Nat → Nat) (e : Nat) : wA r A e (A r e) = A := by unfold wA; rw [fup_id, fup_id]
theorem MK.start (S : Nat → Int32) (r : Nat) (A : Nat → Nat → Nat) (e : Nat) : MK S (wA r A e (A r e)) S A := ⟨⟨rfl, rfl, rfl⟩, fun k _ => by rw [wA_id]⟩
theorem MK.back {S S1 : Nat → Int32} {A A1 : Nat → Nat → Nat} {r e x : Nat} (hr : r ≤ 15) (hm : MK S (wA r A e x) S1 A1) : MR S A S1 (fup A1 r (fup (A1 r) e (A r e))) := MR.of hm.1 (fun k hk => by
  have := (hm.again hr (A r e) (runF (MP A) 0)).2 k hk
  unfold aX at this
  rw [fup_ne _ _ (by omega), wA_id] at this
  exact this)
theorem aX_r14 (A : Nat → Nat → Nat) (X : Dy) : aX A X 14 = A 14 := rfl
theorem mballast_loop {h : Hp} {S : Nat → Int32} {A : Nat → Nat → Nat} {W : Mw} (hV : Valid (MP A)) {e d : Nat} (he : e < A 2 0) (hd : d ≤ 30) (z : Zc) (y : Int32) :
    ∀ k n, n + k = 61 → ∀ (x : Nat) (S1 : Nat → Int32) (A1 : Nat → Nat → Nat), MK S (wA 14 A e x) S1 A1 → ∃ x2 S2 A2, MK S (wA 14 A e x2) S2 A2 ∧ ∀ Q, Ev 69 (32, [some (.ref 78), some (.int (nI e)), some (.int (nI d)), some (.int y), some (.int (l61 (fF (baT (MP A) e d) 60 n))), some (.int (nI k + -1))], [], z, mset h S1 A1 W) Q = Ev 69 (68, [some (.ref 78), some (.int (nI e)), some (.int (nI d)), some (.int y), some (.int (l61 (fF (baT (MP A) e d) 60 61))), some (.int (nI 0 + -1))], [], z, mset h S2 A2 W) Q := by
  have v0 : A 2 0 ≤ 3 := hV.1
  intro k
  induction k with
  | zero =>
    intro n hn x S1 A1 hm
    have en : n = 61 := by omega
    subst en
    refine ⟨x, S1, A1, hm, fun Q => ?_⟩
    have lm : nI 0 + -1 < nI 0 := by decide
    rw [m69_32]
    simp only [m69_34, lm, if_true]
  | succ s ih =>
    intro n hn x S1 A1 hm
    have e0 : 60 - n = s := by omega
    have hr := hm.row (by decide) s
    rw [MP_wA14] at hr
    obtain ⟨x2, S2, A2, hm2, hq⟩ := ih (n + 1) (by omega) s _ _ (hm.again (by decide) s (runF (wRow 2 (MP A) e s) d))
    refine ⟨x2, S2, A2, hm2, fun Q => ?_⟩
    rw [← hq, dec_nI (by omega)]
    have l0 : ¬ nI s < nI 0 := nI_not_neg (by omega)
    have a1 := isE_AI (n := 12) (j := e) (A1 14) s (by omega) (by decide)
    have hb := fun Q => misBreached_eq (h := h) (S := S1) (A := fup A1 14 (fup (A1 14) e s)) (W := W) (t := d) (by rw [hr]; exact wRow_2_valid hV (by omega)) hd z Q
    rw [hr] at hb
    rw [m69_32, fF, e0]
    by_cases g : brk (wRow 2 (MP A) e s) d = true
    · rw [if_pos (show baT (MP A) e d s = true from g), show l61 s = nI s from if_neg (by omega)]
      simp only [gX_ch] at hb ⊢
      simp only [m69_34, m69_37, m69_38, m69_41, m69_42, m69_44, m69_45, m69_46, m69_47, m69_50, m69_53, m69_55, m69_60, m69_62, m69_65, ob_some, pushr_s, pushr_n, iget_eq, gf_eq, pf_eq, ck_eq, alen_eq, rget_eq, iset_eq, Option.bind_some, Option.map_some, Option.elim_some, hput_at, ↓reduceIte, Nat.reduceEqDiff, Nat.reduceAdd, ne_eq, not_false_eq_true, oS_ck, oS_g0, oS_p0, oS_g1, oS_p1, oS_g2, oS_p2, oS_g3, oS_p3, oS_g4, oS_p4, oS_g5, oS_p5, oS_g6, oS_p6, oP_ck, oP_g0, oP_p0, oP_g1, oP_p1, oP_g2, oP_p2, oP_g3, oP_p3, oP_g4, oP_p4, oP_g5, oP_p5, oP_g6, oP_p6, oP_g7, oP_p7, oP_g8, oP_p8, oP_g9, oP_p9, oP_g10, oP_p10, oP_g11, oP_p11, oP_g12, oP_p12, oR_ck, oR_g0, oR_p0, oR_g1, oR_p1, oR_g2, oR_p2, oR_g3, oR_p3, oG_ck, oG_g0, oG_p0, oG_g1, oG_p1, oG_g2, oG_p2, oW_ck, oW_g0, oW_p0, oW_g1, oW_p1, oW_g2, oW_p2, oB_ck, oB_g0, oB_p0, oB_g1, oB_p1, oB_g2, oB_p2, oB_g3, oB_p3, oB_g4, oB_p4, oB_g5, oB_p5, oB_g6, oB_p6, oC_ck, oC_g0, oC_p0, oC_g1, oC_p1, oC_g2, oC_p2, oC_g3, oC_p3, oC_g4, oC_p4, oC_g5, oC_p5, oC_g6, oC_p6, oH_ck, oH_g0, oH_p0, oH_g1, oH_p1, oH_g2, oH_p2, oH_g3, oH_p3, oM_ck, oM_g0, oM_p0, oM_g1, oM_p1, oM_g2, oM_p2, oM_g3, oM_p3, oM_g4, oM_p4, oM_g5, oM_p5, oM_g6, oM_p6, oM_g7, oM_p7, oM_g8, oM_p8, oM_g9, oM_p9, oM_g10, oM_p10, oM_g11, oM_p11, oM_g12, oM_p12, oM_g13, oM_p13, oM_g14, oM_p14, oM_g15, oM_p15, oM_g16, oM_p16, oM_g17, oM_p17, oM_g18, oM_p18, oM_g19, oM_p19, oM_g20, oM_p20, oM_g21, oM_p21, oM_g22, oM_p22, oM_g23, oM_p23, oM_g24, oM_p24, oM_g25, oM_p25, oM_g26, oM_p26, oM_g27, oM_p27, oM_g28, oM_p28, oM_g29, oM_p29, mv0, mv1, mv2, mv3, mv4, mv5, mv6, mset_o, mset_po, mset_k1, mset_r1, mset_k2, mset_r2, mset_k3, mset_r3, mset_k4, mset_r4, mset_k5, mset_r5, mset_k6, mset_r6, mset_k7, mset_r7, mset_k8, mset_r8, mset_k9, mset_r9, mset_k10, mset_r10, mset_k11, mset_r11, mset_k12, mset_r12, mset_k13, mset_r13, mset_k14, mset_r14, mset_k15, mset_r15, mset_k16, mset_r16, mset_k17, mset_r17, mset_k18, mset_r18, mset_k19, mset_r19, mset_k20, mset_r20, mset_k21, mset_r21, mset_k22, mset_r22, mset_k23, mset_r23, l0, if_false, a1, hb, bt g]
    · rw [if_neg (show ¬ baT (MP A) e d s = true from g)]
      simp only [gX_ch] at hb ⊢
      simp only [m69_34, m69_37, m69_38, m69_41, m69_42, m69_44, m69_45, m69_46, m69_47, m69_50, m69_58, m69_60, m69_62, m69_65, ob_some, pushr_s, pushr_n, iget_eq, gf_eq, pf_eq, ck_eq, alen_eq, rget_eq, iset_eq, Option.bind_some, Option.map_some, Option.elim_some, hput_at, ↓reduceIte, Nat.reduceEqDiff, Nat.reduceAdd, ne_eq, not_false_eq_true, oS_ck, oS_g0, oS_p0, oS_g1, oS_p1, oS_g2, oS_p2, oS_g3, oS_p3, oS_g4, oS_p4, oS_g5, oS_p5, oS_g6, oS_p6, oP_ck, oP_g0, oP_p0, oP_g1, oP_p1, oP_g2, oP_p2, oP_g3, oP_p3, oP_g4, oP_p4, oP_g5, oP_p5, oP_g6, oP_p6, oP_g7, oP_p7, oP_g8, oP_p8, oP_g9, oP_p9, oP_g10, oP_p10, oP_g11, oP_p11, oP_g12, oP_p12, oR_ck, oR_g0, oR_p0, oR_g1, oR_p1, oR_g2, oR_p2, oR_g3, oR_p3, oG_ck, oG_g0, oG_p0, oG_g1, oG_p1, oG_g2, oG_p2, oW_ck, oW_g0, oW_p0, oW_g1, oW_p1, oW_g2, oW_p2, oB_ck, oB_g0, oB_p0, oB_g1, oB_p1, oB_g2, oB_p2, oB_g3, oB_p3, oB_g4, oB_p4, oB_g5, oB_p5, oB_g6, oB_p6, oC_ck, oC_g0, oC_p0, oC_g1, oC_p1, oC_g2, oC_p2, oC_g3, oC_p3, oC_g4, oC_p4, oC_g5, oC_p5, oC_g6, oC_p6, oH_ck, oH_g0, oH_p0, oH_g1, oH_p1, oH_g2, oH_p2, oH_g3, oH_p3, oM_ck, oM_g0, oM_p0, oM_g1, oM_p1, oM_g2, oM_p2, oM_g3, oM_p3, oM_g4, oM_p4, oM_g5, oM_p5, oM_g6, oM_p6, oM_g7, oM_p7, oM_g8, oM_p8, oM_g9, oM_p9, oM_g10, oM_p10, oM_g11, oM_p11, oM_g12, oM_p12, oM_g13, oM_p13, oM_g14, oM_p14, oM_g15, oM_p15, oM_g16, oM_p16, oM_g17, oM_p17, oM_g18, oM_p18, oM_g19, oM_p19, oM_g20, oM_p20, oM_g21, oM_p21, oM_g22, oM_p22, oM_g23, oM_p23, oM_g24, oM_p24, oM_g25, oM_p25, oM_g26, oM_p26, oM_g27, oM_p27, oM_g28, oM_p28, oM_g29, oM_p29, mv0, mv1, mv2, mv3, mv4, mv5, mv6, mset_o, mset_po, mset_k1, mset_r1, mset_k2, mset_r2, mset_k3, mset_r3, mset_k4, mset_r4, mset_k5, mset_r5, mset_k6, mset_r6, mset_k7, mset_r7, mset_k8, mset_r8, mset_k9, mset_r9, mset_k10, mset_r10, mset_k11, mset_r11, mset_k12, mset_r12, mset_k13, mset_r13, mset_k14, mset_r14, mset_k15, mset_r15, mset_k16, mset_r16, mset_k17, mset_r17, mset_k18, mset_r18, mset_k19, mset_r19, mset_k20, mset_r20, mset_k21, mset_r21, mset_k22, mset_r22, mset_k23, mset_r23, l0, if_false, a1, hb, bf g, if_true]
theorem mballast_op {h : Hp} {S : Nat → Int32} {A : Nat → Nat → Nat} {W : Mw} (hV : Valid (MP A)) (e d : Int32) (z : Zc) : Mop 69 [some (.ref 78), some (.int e), some (.int d), none, none, none] (.int (ansBallast (MP A) e d)) z h S A W := by
  have v0 : A 2 0 ≤ 3 := hV.1
  have hE := fun Q => misEngine_eq (h := h) (S := S) (W := W) v0 e z Q
  have hD := fun h Q => misLimit_eq d z h Q
  unfold ansBallast
  by_cases c1 : inI e (A 2 0)
  · by_cases c2 : rgI d 1 30
    · rw [if_pos ⟨c1, c2⟩]
      obtain ⟨e1, e2⟩ := in_nt c1
      obtain ⟨d1, d2, d3⟩ := rg_nt c2
      obtain ⟨x2, S2, A2, hm, hq⟩ := mballast_loop (h := h) (W := W) hV e2 d3 z (nI (A 14 (nt e))) 61 0 rfl _ S A (MK.start S 14 A (nt e))
      have a1 := igE_AI (n := 12) (j := nt e) (A 14) (by omega) (by decide)
      have a2 := isE_AI (n := 12) (j := nt e) (A2 14) (A 14 (nt e)) (by omega) (by decide)
      have e60 : nI 61 + -1 = nI 60 := by decide
      have l61' : l61 (fF (baT (MP A) (nt e) (nt d)) 60 0) = -4 := rfl
      rw [l61', ← e1, ← d1, e60] at hq
      rw [← e1] at a1 a2
      refine ⟨S2, _, W, hm.back (by decide), fun Q => ?_⟩
      simp only [m69_0, m69_1, m69_2, m69_5, m69_8, m69_9, m69_12, m69_17, m69_18, m69_21, m69_22, m69_23, m69_24, m69_26, m69_28, m69_30, m69_68, m69_69, m69_72, m69_73, m69_74, m69_75, m69_77, ob_some, pushr_s, pushr_n, iget_eq, gf_eq, pf_eq, ck_eq, alen_eq, rget_eq, iset_eq, Option.bind_some, Option.map_some, Option.elim_some, hput_at, ↓reduceIte, Nat.reduceEqDiff, Nat.reduceAdd, ne_eq, not_false_eq_true, oS_ck, oS_g0, oS_p0, oS_g1, oS_p1, oS_g2, oS_p2, oS_g3, oS_p3, oS_g4, oS_p4, oS_g5, oS_p5, oS_g6, oS_p6, oP_ck, oP_g0, oP_p0, oP_g1, oP_p1, oP_g2, oP_p2, oP_g3, oP_p3, oP_g4, oP_p4, oP_g5, oP_p5, oP_g6, oP_p6, oP_g7, oP_p7, oP_g8, oP_p8, oP_g9, oP_p9, oP_g10, oP_p10, oP_g11, oP_p11, oP_g12, oP_p12, oR_ck, oR_g0, oR_p0, oR_g1, oR_p1, oR_g2, oR_p2, oR_g3, oR_p3, oG_ck, oG_g0, oG_p0, oG_g1, oG_p1, oG_g2, oG_p2, oW_ck, oW_g0, oW_p0, oW_g1, oW_p1, oW_g2, oW_p2, oB_ck, oB_g0, oB_p0, oB_g1, oB_p1, oB_g2, oB_p2, oB_g3, oB_p3, oB_g4, oB_p4, oB_g5, oB_p5, oB_g6, oB_p6, oC_ck, oC_g0, oC_p0, oC_g1, oC_p1, oC_g2, oC_p2, oC_g3, oC_p3, oC_g4, oC_p4, oC_g5, oC_p5, oC_g6, oC_p6, oH_ck, oH_g0, oH_p0, oH_g1, oH_p1, oH_g2, oH_p2, oH_g3, oH_p3, oM_ck, oM_g0, oM_p0, oM_g1, oM_p1, oM_g2, oM_p2, oM_g3, oM_p3, oM_g4, oM_p4, oM_g5, oM_p5, oM_g6, oM_p6, oM_g7, oM_p7, oM_g8, oM_p8, oM_g9, oM_p9, oM_g10, oM_p10, oM_g11, oM_p11, oM_g12, oM_p12, oM_g13, oM_p13, oM_g14, oM_p14, oM_g15, oM_p15, oM_g16, oM_p16, oM_g17, oM_p17, oM_g18, oM_p18, oM_g19, oM_p19, oM_g20, oM_p20, oM_g21, oM_p21, oM_g22, oM_p22, oM_g23, oM_p23, oM_g24, oM_p24, oM_g25, oM_p25, oM_g26, oM_p26, oM_g27, oM_p27, oM_g28, oM_p28, oM_g29, oM_p29, mv0, mv1, mv2, mv3, mv4, mv5, mv6, mset_o, mset_po, mset_k1, mset_r1, mset_k2, mset_r2, mset_k3, mset_r3, mset_k4, mset_r4, mset_k5, mset_r5, mset_k6, mset_r6, mset_k7, mset_r7, mset_k8, mset_r8, mset_k9, mset_r9, mset_k10, mset_r10, mset_k11, mset_r11, mset_k12, mset_r12, mset_k13, mset_r13, mset_k14, mset_r14, mset_k15, mset_r15, mset_k16, mset_r16, mset_k17, mset_r17, mset_k18, mset_r18, mset_k19, mset_r19, mset_k20, mset_r20, mset_k21, mset_r21, mset_k22, mset_r22, mset_k23, mset_r23, hE, bt c1, hD, bt c2, if_false, a1, hq, a2]
    · rw [if_neg (fun q => c2 q.2)]
      refine ⟨S, A, W, MR.rfl' S A, fun Q => ?_⟩
      simp only [m69_0, m69_1, m69_2, m69_5, m69_8, m69_9, m69_12, m69_15, m69_16, m69_17, m69_18, m69_21, m69_22, m69_23, m69_24, m69_26, m69_28, m69_30, m69_34, m69_37, m69_38, m69_41, m69_42, m69_44, m69_45, m69_46, m69_47, m69_50, m69_53, m69_55, m69_58, m69_60, m69_62, m69_65, m69_68, m69_69, m69_72, m69_73, m69_74, m69_75, m69_77, ob_some, pushr_s, pushr_n, iget_eq, gf_eq, pf_eq, ck_eq, alen_eq, rget_eq, iset_eq, Option.bind_some, Option.map_some, Option.elim_some, hput_at, ↓reduceIte, Nat.reduceEqDiff, Nat.reduceAdd, ne_eq, not_false_eq_true, oS_ck, oS_g0, oS_p0, oS_g1, oS_p1, oS_g2, oS_p2, oS_g3, oS_p3, oS_g4, oS_p4, oS_g5, oS_p5, oS_g6, oS_p6, oP_ck, oP_g0, oP_p0, oP_g1, oP_p1, oP_g2, oP_p2, oP_g3, oP_p3, oP_g4, oP_p4, oP_g5, oP_p5, oP_g6, oP_p6, oP_g7, oP_p7, oP_g8, oP_p8, oP_g9, oP_p9, oP_g10, oP_p10, oP_g11, oP_p11, oP_g12, oP_p12, oR_ck, oR_g0, oR_p0, oR_g1, oR_p1, oR_g2, oR_p2, oR_g3, oR_p3, oG_ck, oG_g0, oG_p0, oG_g1, oG_p1, oG_g2, oG_p2, oW_ck, oW_g0, oW_p0, oW_g1, oW_p1, oW_g2, oW_p2, oB_ck, oB_g0, oB_p0, oB_g1, oB_p1, oB_g2, oB_p2, oB_g3, oB_p3, oB_g4, oB_p4, oB_g5, oB_p5, oB_g6, oB_p6, oC_ck, oC_g0, oC_p0, oC_g1, oC_p1, oC_g2, oC_p2, oC_g3, oC_p3, oC_g4, oC_p4, oC_g5, oC_p5, oC_g6, oC_p6, oH_ck, oH_g0, oH_p0, oH_g1, oH_p1, oH_g2, oH_p2, oH_g3, oH_p3, oM_ck, oM_g0, oM_p0, oM_g1, oM_p1, oM_g2, oM_p2, oM_g3, oM_p3, oM_g4, oM_p4, oM_g5, oM_p5, oM_g6, oM_p6, oM_g7, oM_p7, oM_g8, oM_p8, oM_g9, oM_p9, oM_g10, oM_p10, oM_g11, oM_p11, oM_g12, oM_p12, oM_g13, oM_p13, oM_g14, oM_p14, oM_g15, oM_p15, oM_g16, oM_p16, oM_g17, oM_p17, oM_g18, oM_p18, oM_g19, oM_p19, oM_g20, oM_p20, oM_g21, oM_p21, oM_g22, oM_p22, oM_g23, oM_p23, oM_g24, oM_p24, oM_g25, oM_p25, oM_g26, oM_p26, oM_g27, oM_p27, oM_g28, oM_p28, oM_g29, oM_p29, mv0, mv1, mv2, mv3, mv4, mv5, mv6, mset_o, mset_po, mset_k1, mset_r1, mset_k2, mset_r2, mset_k3, mset_r3, mset_k4, mset_r4, mset_k5, mset_r5, mset_k6, mset_r6, mset_k7, mset_r7, mset_k8, mset_r8, mset_k9, mset_r9, mset_k10, mset_r10, mset_k11, mset_r11, mset_k12, mset_r12, mset_k13, mset_r13, mset_k14, mset_r14, mset_k15, mset_r15, mset_k16, mset_r16, mset_k17, mset_r17, mset_k18, mset_r18, mset_k19, mset_r19, mset_k20, mset_r20, mset_k21, mset_r21, mset_k22, mset_r22, mset_k23, mset_r23, hE, bt c1, hD, bf c2, if_false, if_true]
  · rw [if_neg (fun q => c1 q.1)]
    refine ⟨S, A, W, MR.rfl' S A, fun Q => ?_⟩
    simp only [m69_0, m69_1, m69_2, m69_5, m69_8, m69_9, m69_12, m69_15, m69_16, m69_17, m69_18, m69_21, m69_22, m69_23, m69_24, m69_26, m69_28, m69_30, m69_34, m69_37, m69_38, m69_41, m69_42, m69_44, m69_45, m69_46, m69_47, m69_50, m69_53, m69_55, m69_58, m69_60, m69_62, m69_65, m69_68, m69_69, m69_72, m69_73, m69_74, m69_75, m69_77, ob_some, pushr_s, pushr_n, iget_eq, gf_eq, pf_eq, ck_eq, alen_eq, rget_eq, iset_eq, Option.bind_some, Option.map_some, Option.elim_some, hput_at, ↓reduceIte, Nat.reduceEqDiff, Nat.reduceAdd, ne_eq, not_false_eq_true, oS_ck, oS_g0, oS_p0, oS_g1, oS_p1, oS_g2, oS_p2, oS_g3, oS_p3, oS_g4, oS_p4, oS_g5, oS_p5, oS_g6, oS_p6, oP_ck, oP_g0, oP_p0, oP_g1, oP_p1, oP_g2, oP_p2, oP_g3, oP_p3, oP_g4, oP_p4, oP_g5, oP_p5, oP_g6, oP_p6, oP_g7, oP_p7, oP_g8, oP_p8, oP_g9, oP_p9, oP_g10, oP_p10, oP_g11, oP_p11, oP_g12, oP_p12, oR_ck, oR_g0, oR_p0, oR_g1, oR_p1, oR_g2, oR_p2, oR_g3, oR_p3, oG_ck, oG_g0, oG_p0, oG_g1, oG_p1, oG_g2, oG_p2, oW_ck, oW_g0, oW_p0, oW_g1, oW_p1, oW_g2, oW_p2, oB_ck, oB_g0, oB_p0, oB_g1, oB_p1, oB_g2, oB_p2, oB_g3, oB_p3, oB_g4, oB_p4, oB_g5, oB_p5, oB_g6, oB_p6, oC_ck, oC_g0, oC_p0, oC_g1, oC_p1, oC_g2, oC_p2, oC_g3, oC_p3, oC_g4, oC_p4, oC_g5, oC_p5, oC_g6, oC_p6, oH_ck, oH_g0, oH_p0, oH_g1, oH_p1, oH_g2, oH_p2, oH_g3, oH_p3, oM_ck, oM_g0, oM_p0, oM_g1, oM_p1, oM_g2, oM_p2, oM_g3, oM_p3, oM_g4, oM_p4, oM_g5, oM_p5, oM_g6, oM_p6, oM_g7, oM_p7, oM_g8, oM_p8, oM_g9, oM_p9, oM_g10, oM_p10, oM_g11, oM_p11, oM_g12, oM_p12, oM_g13, oM_p13, oM_g14, oM_p14, oM_g15, oM_p15, oM_g16, oM_p16, oM_g17, oM_p17, oM_g18, oM_p18, oM_g19, oM_p19, oM_g20, oM_p20, oM_g21, oM_p21, oM_g22, oM_p22, oM_g23, oM_p23, oM_g24, oM_p24, oM_g25, oM_p25, oM_g26, oM_p26, oM_g27, oM_p27, oM_g28, oM_p28, oM_g29, oM_p29, mv0, mv1, mv2, mv3, mv4, mv5, mv6, mset_o, mset_po, mset_k1, mset_r1, mset_k2, mset_r2, mset_k3, mset_r3, mset_k4, mset_r4, mset_k5, mset_r5, mset_k6, mset_r6, mset_k7, mset_r7, mset_k8, mset_r8, mset_k9, mset_r9, mset_k10, mset_r10, mset_k11, mset_r11, mset_k12, mset_r12, mset_k13, mset_r13, mset_k14, mset_r14, mset_k15, mset_r15, mset_k16, mset_r16, mset_k17, mset_r17, mset_k18, mset_r18, mset_k19, mset_r19, mset_k20, mset_r20, mset_k21, mset_r21, mset_k22, mset_r22, mset_k23, mset_r23, hE, bf c1, if_true]
