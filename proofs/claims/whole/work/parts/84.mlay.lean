/-! the reference: a text read; fault and lay -/
theorem Ev.get {mi : Nat} {f : Fm} {R : Option Value → Zc → Hp → Prop} (h : Ev mi f R) : ∃ v z h', R v z h' ∧ ∀ Q, Ev mi f Q = Q v z h' := by
  obtain ⟨n, r, h1, h2⟩ := h
  exact ⟨r.1, r.2.1, r.2.2, h2, fun Q => Ev.det ⟨n, r, h1, rfl, rfl, rfl⟩ Q⟩
theorem PEq.trans' {P R U : Pl} (h1 : PEq P R) (h2 : PEq R U) : PEq P U := by
  obtain ⟨⟨a0, a1, a2, a3⟩, ae, as, ac, ar⟩ := h1
  obtain ⟨⟨b0, b1, b2', b3⟩, be, bs, bc, br⟩ := h2
  refine ⟨⟨a0.trans b0, a1.trans b1, a2.trans b2', a3.trans b3⟩, fun e q => ?_, fun i q => ?_, fun c q => (ac c q).trans (bc c q), fun k q => (ar k q).trans (br k (by omega))⟩
  · obtain ⟨u1, u2, u3, u4⟩ := ae e q
    obtain ⟨w1, w2, w3, w4⟩ := be e (by omega)
    exact ⟨u1.trans w1, u2.trans w2, u3.trans w3, u4.trans w4⟩
  · obtain ⟨u1, u2, u3⟩ := as i q
    obtain ⟨w1, w2, w3⟩ := bs i (by omega)
    exact ⟨u1.trans w1, u2.trans w2, u3.trans w3⟩
theorem PEq.bnd {P R : Pl} (h : PEq P R) (hb : bndP P) : bndP R := by
  obtain ⟨⟨c0, c1, c2, c3⟩, -⟩ := h
  obtain ⟨b0, b1, b3⟩ := hb
  exact ⟨by omega, by omega, by omega⟩
theorem mreadAll_loop {h : Hp} {W : Mw} {len : Nat} (hl : len ≤ 300) (s1 s2 s4 s5 s6 : Int32) (z : Zc) (Q : Option Value → Zc → Hp → Prop) (T : Nat → Nat) (hT : ∀ j, T j ≤ 255) : ∀ n a (A : Nat → Nat → Nat) (P : Pl) l1, A 1 = T → bndP P → PEq P (MT A) → len ≤ a + n → a ≤ 400 →
    (∀ p' A', TF A A' → PEq (allF T len n P a).1 (MT A') → Q (some (.int (faV (allF T len n P a)))) z (mset h (mv (nI len) s1 s2 (nI p') s4 s5 s6) A' W)) →
    Ev 42 (10, [some (.ref 78), l1], [], z, mset h (mv (nI len) s1 s2 (nI a) s4 s5 s6) A W) Q := by
  intro n
  induction n with
  | zero =>
    intro a A P l1 h1 hb hP hn ha hQ
    have l0 := nlt (a := a) (b := len) (by omega) (by omega)
    rw [m42_10]
    simp only [m42_0, m42_1, m42_2, m42_5, m42_6, m42_7, m42_11, m42_14, m42_15, m42_18, m42_21, m42_22, m42_25, m42_26, m42_27, m42_30, m42_33, m42_34, m42_35, m42_38, m42_40, ob_some, pushr_s, pushr_n, iget_eq, gf_eq, pf_eq, ck_eq, alen_eq, rget_eq, iset_eq, Option.bind_some, Option.map_some, Option.elim_some, hput_at, ↓reduceIte, Nat.reduceEqDiff, Nat.reduceAdd, ne_eq, not_false_eq_true, oS_ck, oS_g0, oS_p0, oS_g1, oS_p1, oS_g2, oS_p2, oS_g3, oS_p3, oS_g4, oS_p4, oS_g5, oS_p5, oS_g6, oS_p6, oP_ck, oP_g0, oP_p0, oP_g1, oP_p1, oP_g2, oP_p2, oP_g3, oP_p3, oP_g4, oP_p4, oP_g5, oP_p5, oP_g6, oP_p6, oP_g7, oP_p7, oP_g8, oP_p8, oP_g9, oP_p9, oP_g10, oP_p10, oP_g11, oP_p11, oP_g12, oP_p12, oR_ck, oR_g0, oR_p0, oR_g1, oR_p1, oR_g2, oR_p2, oR_g3, oR_p3, oG_ck, oG_g0, oG_p0, oG_g1, oG_p1, oG_g2, oG_p2, oW_ck, oW_g0, oW_p0, oW_g1, oW_p1, oW_g2, oW_p2, oB_ck, oB_g0, oB_p0, oB_g1, oB_p1, oB_g2, oB_p2, oB_g3, oB_p3, oB_g4, oB_p4, oB_g5, oB_p5, oB_g6, oB_p6, oC_ck, oC_g0, oC_p0, oC_g1, oC_p1, oC_g2, oC_p2, oC_g3, oC_p3, oC_g4, oC_p4, oC_g5, oC_p5, oC_g6, oC_p6, oH_ck, oH_g0, oH_p0, oH_g1, oH_p1, oH_g2, oH_p2, oH_g3, oH_p3, oM_ck, oM_g0, oM_p0, oM_g1, oM_p1, oM_g2, oM_p2, oM_g3, oM_p3, oM_g4, oM_p4, oM_g5, oM_p5, oM_g6, oM_p6, oM_g7, oM_p7, oM_g8, oM_p8, oM_g9, oM_p9, oM_g10, oM_p10, oM_g11, oM_p11, oM_g12, oM_p12, oM_g13, oM_p13, oM_g14, oM_p14, oM_g15, oM_p15, oM_g16, oM_p16, oM_g17, oM_p17, oM_g18, oM_p18, oM_g19, oM_p19, oM_g20, oM_p20, oM_g21, oM_p21, oM_g22, oM_p22, oM_g23, oM_p23, oM_g24, oM_p24, oM_g25, oM_p25, oM_g26, oM_p26, oM_g27, oM_p27, oM_g28, oM_p28, oM_g29, oM_p29, mv0, mv1, mv2, mv3, mv4, mv5, mv6, mset_o, mset_po, mset_k1, mset_r1, mset_k2, mset_r2, mset_k3, mset_r3, mset_k4, mset_r4, mset_k5, mset_r5, mset_k6, mset_r6, mset_k7, mset_r7, mset_k8, mset_r8, mset_k9, mset_r9, mset_k10, mset_r10, mset_k11, mset_r11, mset_k12, mset_r12, mset_k13, mset_r13, mset_k14, mset_r14, mset_k15, mset_r15, mset_k16, mset_r16, mset_k17, mset_r17, mset_k18, mset_r18, mset_k19, mset_r19, mset_k20, mset_r20, mset_k21, mset_r21, mset_k22, mset_r22, mset_k23, mset_r23, l0, show ¬ a < len by omega, if_false]
    exact hQ a A (TF.rfl' A) hP
  | succ n ih =>
    intro a A P l1 h1 hb hP hn ha hQ
    have l0 := nlt (a := a) (b := len) (by omega) (by omega)
    rw [m42_10]
    by_cases c : a < len
    · simp only [m42_11, m42_14, m42_15, m42_18, m42_21, m42_22, m42_25, m42_26, m42_27, ob_some, pushr_s, pushr_n, iget_eq, gf_eq, pf_eq, ck_eq, alen_eq, rget_eq, iset_eq, Option.bind_some, Option.map_some, Option.elim_some, hput_at, ↓reduceIte, Nat.reduceEqDiff, Nat.reduceAdd, ne_eq, not_false_eq_true, oS_ck, oS_g0, oS_p0, oS_g1, oS_p1, oS_g2, oS_p2, oS_g3, oS_p3, oS_g4, oS_p4, oS_g5, oS_p5, oS_g6, oS_p6, oP_ck, oP_g0, oP_p0, oP_g1, oP_p1, oP_g2, oP_p2, oP_g3, oP_p3, oP_g4, oP_p4, oP_g5, oP_p5, oP_g6, oP_p6, oP_g7, oP_p7, oP_g8, oP_p8, oP_g9, oP_p9, oP_g10, oP_p10, oP_g11, oP_p11, oP_g12, oP_p12, oR_ck, oR_g0, oR_p0, oR_g1, oR_p1, oR_g2, oR_p2, oR_g3, oR_p3, oG_ck, oG_g0, oG_p0, oG_g1, oG_p1, oG_g2, oG_p2, oW_ck, oW_g0, oW_p0, oW_g1, oW_p1, oW_g2, oW_p2, oB_ck, oB_g0, oB_p0, oB_g1, oB_p1, oB_g2, oB_p2, oB_g3, oB_p3, oB_g4, oB_p4, oB_g5, oB_p5, oB_g6, oB_p6, oC_ck, oC_g0, oC_p0, oC_g1, oC_p1, oC_g2, oC_p2, oC_g3, oC_p3, oC_g4, oC_p4, oC_g5, oC_p5, oC_g6, oC_p6, oH_ck, oH_g0, oH_p0, oH_g1, oH_p1, oH_g2, oH_p2, oH_g3, oH_p3, oM_ck, oM_g0, oM_p0, oM_g1, oM_p1, oM_g2, oM_p2, oM_g3, oM_p3, oM_g4, oM_p4, oM_g5, oM_p5, oM_g6, oM_p6, oM_g7, oM_p7, oM_g8, oM_p8, oM_g9, oM_p9, oM_g10, oM_p10, oM_g11, oM_p11, oM_g12, oM_p12, oM_g13, oM_p13, oM_g14, oM_p14, oM_g15, oM_p15, oM_g16, oM_p16, oM_g17, oM_p17, oM_g18, oM_p18, oM_g19, oM_p19, oM_g20, oM_p20, oM_g21, oM_p21, oM_g22, oM_p22, oM_g23, oM_p23, oM_g24, oM_p24, oM_g25, oM_p25, oM_g26, oM_p26, oM_g27, oM_p27, oM_g28, oM_p28, oM_g29, oM_p29, mv0, mv1, mv2, mv3, mv4, mv5, mv6, mset_o, mset_po, mset_k1, mset_r1, mset_k2, mset_r2, mset_k3, mset_r3, mset_k4, mset_r4, mset_k5, mset_r5, mset_k6, mset_r6, mset_k7, mset_r7, mset_k8, mset_r8, mset_k9, mset_r9, mset_k10, mset_r10, mset_k11, mset_r11, mset_k12, mset_r12, mset_k13, mset_r13, mset_k14, mset_r14, mset_k15, mset_r15, mset_k16, mset_r16, mset_k17, mset_r17, mset_k18, mset_r18, mset_k19, mset_r19, mset_k20, mset_r20, mset_k21, mset_r21, mset_k22, mset_r22, mset_k23, mset_r23, l0, c, if_true]
      have hc := itemF_cg hP (T := T) (U := T) (len := len) (a := a) (fun _ _ => rfl) c rfl
      rw [allF, if_pos c] at hQ
      subst h1
      refine mitem_eq hT hl c (hP.bnd hb) (fun hi p' A' hp' hF hM => ?_) (fun p' P' hi A' hF hM => ?_)
      · rw [hi] at hc
        cases hq : itemF (A 1) len P a with
        | some q => obtain ⟨r, R⟩ := q; rw [hq] at hc; exact hc.elim
        | none =>
          rw [hq] at hQ
          simp only [pushr_s, m42_30, m42_33, m42_34, if_true]
          exact hQ p' A' hF (by rw [hM]; exact hP)
      · rw [hi] at hc
        cases hq : itemF (A 1) len P a with
        | none => rw [hq] at hc; exact hc.elim
        | some q =>
          obtain ⟨r, R⟩ := q
          rw [hq] at hc hQ
          obtain ⟨e, hR⟩ := hc
          subst e
          obtain ⟨b1, b2', b3⟩ := itemF_bnd hb hq
          simp only [pushr_s, m42_30, m42_35, n10, if_false]
          exact ih r A' R _ hF.r1 b3 (hR.trans' hM) (by omega) (by omega) (fun p2 A2 h2 h3 => hQ p2 A2 (hF.trans h2) h3)
    · rw [allF, if_neg c] at hQ
      simp only [m42_0, m42_1, m42_2, m42_5, m42_6, m42_7, m42_11, m42_14, m42_15, m42_18, m42_21, m42_22, m42_25, m42_26, m42_27, m42_30, m42_33, m42_34, m42_35, m42_38, m42_40, ob_some, pushr_s, pushr_n, iget_eq, gf_eq, pf_eq, ck_eq, alen_eq, rget_eq, iset_eq, Option.bind_some, Option.map_some, Option.elim_some, hput_at, ↓reduceIte, Nat.reduceEqDiff, Nat.reduceAdd, ne_eq, not_false_eq_true, oS_ck, oS_g0, oS_p0, oS_g1, oS_p1, oS_g2, oS_p2, oS_g3, oS_p3, oS_g4, oS_p4, oS_g5, oS_p5, oS_g6, oS_p6, oP_ck, oP_g0, oP_p0, oP_g1, oP_p1, oP_g2, oP_p2, oP_g3, oP_p3, oP_g4, oP_p4, oP_g5, oP_p5, oP_g6, oP_p6, oP_g7, oP_p7, oP_g8, oP_p8, oP_g9, oP_p9, oP_g10, oP_p10, oP_g11, oP_p11, oP_g12, oP_p12, oR_ck, oR_g0, oR_p0, oR_g1, oR_p1, oR_g2, oR_p2, oR_g3, oR_p3, oG_ck, oG_g0, oG_p0, oG_g1, oG_p1, oG_g2, oG_p2, oW_ck, oW_g0, oW_p0, oW_g1, oW_p1, oW_g2, oW_p2, oB_ck, oB_g0, oB_p0, oB_g1, oB_p1, oB_g2, oB_p2, oB_g3, oB_p3, oB_g4, oB_p4, oB_g5, oB_p5, oB_g6, oB_p6, oC_ck, oC_g0, oC_p0, oC_g1, oC_p1, oC_g2, oC_p2, oC_g3, oC_p3, oC_g4, oC_p4, oC_g5, oC_p5, oC_g6, oC_p6, oH_ck, oH_g0, oH_p0, oH_g1, oH_p1, oH_g2, oH_p2, oH_g3, oH_p3, oM_ck, oM_g0, oM_p0, oM_g1, oM_p1, oM_g2, oM_p2, oM_g3, oM_p3, oM_g4, oM_p4, oM_g5, oM_p5, oM_g6, oM_p6, oM_g7, oM_p7, oM_g8, oM_p8, oM_g9, oM_p9, oM_g10, oM_p10, oM_g11, oM_p11, oM_g12, oM_p12, oM_g13, oM_p13, oM_g14, oM_p14, oM_g15, oM_p15, oM_g16, oM_p16, oM_g17, oM_p17, oM_g18, oM_p18, oM_g19, oM_p19, oM_g20, oM_p20, oM_g21, oM_p21, oM_g22, oM_p22, oM_g23, oM_p23, oM_g24, oM_p24, oM_g25, oM_p25, oM_g26, oM_p26, oM_g27, oM_p27, oM_g28, oM_p28, oM_g29, oM_p29, mv0, mv1, mv2, mv3, mv4, mv5, mv6, mset_o, mset_po, mset_k1, mset_r1, mset_k2, mset_r2, mset_k3, mset_r3, mset_k4, mset_r4, mset_k5, mset_r5, mset_k6, mset_r6, mset_k7, mset_r7, mset_k8, mset_r8, mset_k9, mset_r9, mset_k10, mset_r10, mset_k11, mset_r11, mset_k12, mset_r12, mset_k13, mset_r13, mset_k14, mset_r14, mset_k15, mset_r15, mset_k16, mset_r16, mset_k17, mset_r17, mset_k18, mset_r18, mset_k19, mset_r19, mset_k20, mset_r20, mset_k21, mset_r21, mset_k22, mset_r22, mset_k23, mset_r23, l0, c, if_false]
      exact hQ a A (TF.rfl' A) hP
theorem nsA_TF (A : Nat → Nat → Nat) : TF A (nsA A 1) := fun k j hk hj => by
  unfold nsA
  by_cases c9 : k = 9
  · subst c9
    rw [fup_self]
    exact if_neg (by
      have h1 : tlo 9 = 10 := rfl
      have h2 : thi 9 = 20 := rfl
      omega)
  · rw [fup_ne _ _ c9]
    have h2 : k = 2 ∨ k = 6 ∨ k = 10 ∨ k = 11 → j ≠ 1 := fun q e => hj (by
      have e1 : tlo k = 1 := if_pos q
      have e2 : thi k = 2 := if_pos q
      omega)
    by_cases c11 : k = 11
    · subst c11
      rw [fup_self, fup_ne _ _ (h2 (by omega))]
    · rw [fup_ne _ _ c11]
      by_cases c10 : k = 10
      · subst c10
        rw [fup_self, fup_ne _ _ (h2 (by omega))]
      · rw [fup_ne _ _ c10]
        by_cases c6 : k = 6
        · subst c6
          rw [fup_self, fup_ne _ _ (h2 (by omega))]
        · rw [fup_ne _ _ c6]
          by_cases c2 : k = 2
          · subst c2
            rw [fup_self, fup_ne _ _ (h2 (by omega))]
          · rw [fup_ne _ _ c2]
theorem nsA_PEq (A : Nat → Nat → Nat) (P0 : Pl) : PEq (noneP P0) (MT (nsA A 1)) := by
  refine ⟨⟨rfl, rfl, rfl, rfl⟩, fun e q => ?_, fun i q => ?_, fun c q => ?_, fun k q => ?_⟩
  · have q : e < 0 := q
    omega
  · have q : i < 0 := q
    omega
  · show 10 = wallF 1 10 (A 9) (10 + c)
    exact (if_pos (by omega)).symm
  · have q : k < 0 := q
    omega
theorem TF.MR {S S2 : Nat → Int32} {A B : Nat → Nat → Nat} (hV : Valid (MP A)) (h : TF A B) (hS : S2 0 = S 0 ∧ S2 1 = S 1 ∧ S2 2 = S 2) : MR S A S2 B := by
  have v0 : A 2 0 ≤ 3 := hV.1
  have v1 : A 6 0 ≤ 6 := hV.2.1
  have v3 : A 11 0 ≤ 6 := hV.2.2.2.1
  have t1 : ∀ k, k = 2 ∨ k = 6 ∨ k = 10 ∨ k = 11 → B k 0 = A k 0 := fun k q => h k 0 (by omega) (by
    have e1 : tlo k = 1 := if_pos q
    omega)
  have t3 : ∀ k j, k = 3 ∨ k = 4 ∨ k = 5 ∨ k = 14 → j < 3 → B k j = A k j := fun k j q hj => h k j (by omega) (by
    have e1 : tlo k = 3 := by
      unfold tlo
      rw [if_neg (by omega), if_pos q]
    omega)
  have t6 : ∀ k j, k = 7 ∨ k = 8 ∨ k = 12 ∨ k = 13 → j < 6 → B k j = A k j := fun k j q hj => h k j (by omega) (by
    have e1 : tlo k = 6 := by
      unfold tlo
      rw [if_neg (by omega), if_neg (by omega), if_pos q]
    omega)
  refine ⟨hS, h.r1, funext fun j => h 15 j (by decide) (by
    have e1 : thi 15 = 0 := rfl
    omega), ⟨⟨(t1 2 (by omega)).symm, (t1 6 (by omega)).symm, (t1 10 (by omega)).symm, (t1 11 (by omega)).symm⟩, fun e q => ?_, fun i q => ?_, fun c q => ?_, fun k q => ?_⟩, fun j q => h 13 j (by decide) (by
    have e1 : thi 13 = 12 := rfl
    omega), fun j q => h 14 j (by decide) (by
    have e1 : thi 14 = 6 := rfl
    omega)⟩
  · have q : e < A 2 0 := q
    exact ⟨(t3 3 e (by omega) (by omega)).symm, (t3 14 e (by omega) (by omega)).symm, (t3 4 e (by omega) (by omega)).symm, (t3 5 e (by omega) (by omega)).symm⟩
  · have q : i < A 6 0 := q
    exact ⟨(t6 7 i (by omega) (by omega)).symm, (t6 8 i (by omega) (by omega)).symm, (t6 13 i (by omega) (by omega)).symm⟩
  · exact (h 9 c (by decide) (by
      have e1 : tlo 9 = 10 := rfl
      omega)).symm
  · have q : k < A 11 0 := q
    exact (t6 12 k (by omega) (by omega)).symm
theorem mreadAll_eq {h : Hp} {S : Nat → Int32} {A : Nat → Nat → Nat} {W : Mw} {len : Nat} (hS : S 0 = nI len) (hl : len ≤ 300) (hT : ∀ j, A 1 j ≤ 255) (P0 : Pl) (z : Zc) : ∃ p' A', TF A A' ∧ PEq (allF (A 1) len 300 (noneP P0) 0).1 (MT A') ∧ ∀ Q, Ev 42 (0, [some (.ref 78), none], [], z, mset h S A W) Q = Q (some (.int (faV (allF (A 1) len 300 (noneP P0) 0)))) z (mset h (mv (nI len) (S 1) (S 2) (nI p') (S 4) (S 5) (S 6)) A' W) := by
  have hn := fun S Q => mnoSiege_eq (h := h) (S := S) (A := A) (W := W) (b := 1) (by decide) z Q
  have hE : Ev 42 (0, [some (.ref 78), none], [], z, mset h S A W) (fun v z' h' => ∃ p' A', TF A A' ∧ PEq (allF (A 1) len 300 (noneP P0) 0).1 (MT A') ∧ v = some (.int (faV (allF (A 1) len 300 (noneP P0) 0))) ∧ z' = z ∧ h' = mset h (mv (nI len) (S 1) (S 2) (nI p') (S 4) (S 5) (S 6)) A' W) := by
    simp only [m42_0, m42_1, m42_2, m42_5, m42_6, m42_7, ob_some, pushr_s, pushr_n, iget_eq, gf_eq, pf_eq, ck_eq, alen_eq, rget_eq, iset_eq, Option.bind_some, Option.map_some, Option.elim_some, hput_at, ↓reduceIte, Nat.reduceEqDiff, Nat.reduceAdd, ne_eq, not_false_eq_true, oS_ck, oS_g0, oS_p0, oS_g1, oS_p1, oS_g2, oS_p2, oS_g3, oS_p3, oS_g4, oS_p4, oS_g5, oS_p5, oS_g6, oS_p6, oP_ck, oP_g0, oP_p0, oP_g1, oP_p1, oP_g2, oP_p2, oP_g3, oP_p3, oP_g4, oP_p4, oP_g5, oP_p5, oP_g6, oP_p6, oP_g7, oP_p7, oP_g8, oP_p8, oP_g9, oP_p9, oP_g10, oP_p10, oP_g11, oP_p11, oP_g12, oP_p12, oR_ck, oR_g0, oR_p0, oR_g1, oR_p1, oR_g2, oR_p2, oR_g3, oR_p3, oG_ck, oG_g0, oG_p0, oG_g1, oG_p1, oG_g2, oG_p2, oW_ck, oW_g0, oW_p0, oW_g1, oW_p1, oW_g2, oW_p2, oB_ck, oB_g0, oB_p0, oB_g1, oB_p1, oB_g2, oB_p2, oB_g3, oB_p3, oB_g4, oB_p4, oB_g5, oB_p5, oB_g6, oB_p6, oC_ck, oC_g0, oC_p0, oC_g1, oC_p1, oC_g2, oC_p2, oC_g3, oC_p3, oC_g4, oC_p4, oC_g5, oC_p5, oC_g6, oC_p6, oH_ck, oH_g0, oH_p0, oH_g1, oH_p1, oH_g2, oH_p2, oH_g3, oH_p3, oM_ck, oM_g0, oM_p0, oM_g1, oM_p1, oM_g2, oM_p2, oM_g3, oM_p3, oM_g4, oM_p4, oM_g5, oM_p5, oM_g6, oM_p6, oM_g7, oM_p7, oM_g8, oM_p8, oM_g9, oM_p9, oM_g10, oM_p10, oM_g11, oM_p11, oM_g12, oM_p12, oM_g13, oM_p13, oM_g14, oM_p14, oM_g15, oM_p15, oM_g16, oM_p16, oM_g17, oM_p17, oM_g18, oM_p18, oM_g19, oM_p19, oM_g20, oM_p20, oM_g21, oM_p21, oM_g22, oM_p22, oM_g23, oM_p23, oM_g24, oM_p24, oM_g25, oM_p25, oM_g26, oM_p26, oM_g27, oM_p27, oM_g28, oM_p28, oM_g29, oM_p29, mv0, mv1, mv2, mv3, mv4, mv5, mv6, mset_o, mset_po, mset_k1, mset_r1, mset_k2, mset_r2, mset_k3, mset_r3, mset_k4, mset_r4, mset_k5, mset_r5, mset_k6, mset_r6, mset_k7, mset_r7, mset_k8, mset_r8, mset_k9, mset_r9, mset_k10, mset_r10, mset_k11, mset_r11, mset_k12, mset_r12, mset_k13, mset_r13, mset_k14, mset_r14, mset_k15, mset_r15, mset_k16, mset_r16, mset_k17, mset_r17, mset_k18, mset_r18, mset_k19, mset_r19, mset_k20, mset_r20, mset_k21, mset_r21, mset_k22, mset_r22, mset_k23, mset_r23, hn, hS]
    refine mreadAll_loop hl (S 1) (S 2) (S 4) (S 5) (S 6) z _ (A 1) hT 300 0 (nsA A 1) (noneP P0) none (nsA_TF A).r1 (noneP_bnd P0) (nsA_PEq A P0) (by omega) (by omega) (fun p' A' h1 h2 => ?_)
    exact ⟨p', A', (nsA_TF A).trans h1, h2, rfl, rfl, rfl⟩
  obtain ⟨v, z', h', ⟨p', A', k1, k2, k3, k4, k5⟩, hk⟩ := Ev.get hE
  refine ⟨p', A', k1, k2, fun Q => ?_⟩
  rw [hk Q, k3, k4, k5]
theorem mfault_op {h : Hp} {S : Nat → Int32} {A : Nat → Nat → Nat} {W : Mw} {len : Nat} (hV : Valid (MP A)) (hS : S 0 = nI len) (hl : len ≤ 300) (hT : ∀ j, A 1 j ≤ 255) (P0 : Pl) (z : Zc) : Mop 43 [some (.ref 78)] (.int (faV (allF (A 1) len 300 (noneP P0) 0))) z h S A W := by
  obtain ⟨p', A', k1, k2, hk⟩ := mreadAll_eq (h := h) (W := W) hS hl hT P0 z
  refine ⟨mv (nI len) (S 1) (S 2) (nI p') (S 4) (S 5) (S 6), A', W, k1.MR hV ⟨hS.symm, rfl, rfl⟩, fun Q => ?_⟩
  simp only [m43_0, m43_1, m43_4, ob_some, pushr_s, pushr_n, iget_eq, gf_eq, pf_eq, ck_eq, alen_eq, rget_eq, iset_eq, Option.bind_some, Option.map_some, Option.elim_some, hput_at, ↓reduceIte, Nat.reduceEqDiff, Nat.reduceAdd, ne_eq, not_false_eq_true, oS_ck, oS_g0, oS_p0, oS_g1, oS_p1, oS_g2, oS_p2, oS_g3, oS_p3, oS_g4, oS_p4, oS_g5, oS_p5, oS_g6, oS_p6, oP_ck, oP_g0, oP_p0, oP_g1, oP_p1, oP_g2, oP_p2, oP_g3, oP_p3, oP_g4, oP_p4, oP_g5, oP_p5, oP_g6, oP_p6, oP_g7, oP_p7, oP_g8, oP_p8, oP_g9, oP_p9, oP_g10, oP_p10, oP_g11, oP_p11, oP_g12, oP_p12, oR_ck, oR_g0, oR_p0, oR_g1, oR_p1, oR_g2, oR_p2, oR_g3, oR_p3, oG_ck, oG_g0, oG_p0, oG_g1, oG_p1, oG_g2, oG_p2, oW_ck, oW_g0, oW_p0, oW_g1, oW_p1, oW_g2, oW_p2, oB_ck, oB_g0, oB_p0, oB_g1, oB_p1, oB_g2, oB_p2, oB_g3, oB_p3, oB_g4, oB_p4, oB_g5, oB_p5, oB_g6, oB_p6, oC_ck, oC_g0, oC_p0, oC_g1, oC_p1, oC_g2, oC_p2, oC_g3, oC_p3, oC_g4, oC_p4, oC_g5, oC_p5, oC_g6, oC_p6, oH_ck, oH_g0, oH_p0, oH_g1, oH_p1, oH_g2, oH_p2, oH_g3, oH_p3, oM_ck, oM_g0, oM_p0, oM_g1, oM_p1, oM_g2, oM_p2, oM_g3, oM_p3, oM_g4, oM_p4, oM_g5, oM_p5, oM_g6, oM_p6, oM_g7, oM_p7, oM_g8, oM_p8, oM_g9, oM_p9, oM_g10, oM_p10, oM_g11, oM_p11, oM_g12, oM_p12, oM_g13, oM_p13, oM_g14, oM_p14, oM_g15, oM_p15, oM_g16, oM_p16, oM_g17, oM_p17, oM_g18, oM_p18, oM_g19, oM_p19, oM_g20, oM_p20, oM_g21, oM_p21, oM_g22, oM_p22, oM_g23, oM_p23, oM_g24, oM_p24, oM_g25, oM_p25, oM_g26, oM_p26, oM_g27, oM_p27, oM_g28, oM_p28, oM_g29, oM_p29, mv0, mv1, mv2, mv3, mv4, mv5, mv6, mset_o, mset_po, mset_k1, mset_r1, mset_k2, mset_r2, mset_k3, mset_r3, mset_k4, mset_r4, mset_k5, mset_r5, mset_k6, mset_r6, mset_k7, mset_r7, mset_k8, mset_r8, mset_k9, mset_r9, mset_k10, mset_r10, mset_k11, mset_r11, mset_k12, mset_r12, mset_k13, mset_r13, mset_k14, mset_r14, mset_k15, mset_r15, mset_k16, mset_r16, mset_k17, mset_r17, mset_k18, mset_r18, mset_k19, mset_r19, mset_k20, mset_r20, mset_k21, mset_r21, mset_k22, mset_r22, mset_k23, mset_r23, hk]
-- what was told laid
def lyF (m n : Nat) (f : Nat → Nat) : Nat → Nat := fun j => if j < n then f (m + j) else f j
theorem lyF_0 (m : Nat) (f : Nat → Nat) : lyF m 0 f = f := by
  funext j
  exact if_neg (by omega)
theorem lyF_step {m n : Nat} (f : Nat → Nat) (h : n < m) : fup (lyF m n f) n (lyF m n f (m + n)) = lyF m (n + 1) f := by
  have e : lyF m n f (m + n) = f (m + n) := if_neg (by omega)
  rw [e]
  funext j
  rw [fup_at]
  unfold lyF
  by_cases q : j = n
  · rw [if_pos q, if_pos (by omega), q]
  · rw [if_neg q]
    by_cases q2 : j < n
    · rw [if_pos q2, if_pos (by omega)]
    · rw [if_neg q2, if_neg (by omega)]
def ly1 (A : Nat → Nat → Nat) (n : Nat) : Nat → Nat → Nat := fup (fup (fup A 3 (lyF 3 n (A 3))) 4 (lyF 3 n (A 4))) 5 (lyF 3 n (A 5))
def ly2 (A : Nat → Nat → Nat) (n : Nat) : Nat → Nat → Nat := fup (fup (fup A 7 (lyF 6 n (A 7))) 8 (lyF 6 n (A 8))) 12 (lyF 6 n (A 12))
def ly3 (A : Nat → Nat → Nat) (n : Nat) : Nat → Nat → Nat := fup A 9 (lyF 10 n (A 9))
theorem fup3_same {A : Nat → Nat → Nat} {a b c : Nat} (hab : a ≠ b) (hac : a ≠ c) (hbc : b ≠ c) : fup (fup (fup A a (A a)) b (A b)) c (A c) = A := by
  rw [fup_id, fup_id, fup_id]
theorem fup3_again {A : Nat → Nat → Nat} {a b c : Nat} {f g k f2 g2 k2 : Nat → Nat} (hab : a ≠ b) (hac : a ≠ c) (hbc : b ≠ c) : fup (fup (fup (fup (fup (fup A a f) b g) c k) a f2) b g2) c k2 = fup (fup (fup A a f2) b g2) c k2 := by
  funext j
  simp only [fup_at]
  by_cases q1 : j = c
  · simp only [if_pos q1]
  · simp only [if_neg q1]
    by_cases q2 : j = b
    · simp only [if_pos q2]
    · simp only [if_neg q2]
      by_cases q3 : j = a
      · simp only [if_pos q3]
      · simp only [if_neg q3]
theorem mlay_loop1 {h : Hp} {S : Nat → Int32} {A : Nat → Nat → Nat} {W : Mw} (z : Zc) (Q : Option Value → Zc → Hp → Prop) : ∀ n k, n + k = 3 → Ev 45 (71, [some (.ref 78), some (.int (nI k))], [], z, mset h S (ly1 A k) W) Q = Ev 45 (124, [some (.ref 78), some (.int (nI 3))], [], z, mset h S (ly1 A 3) W) Q := by
  intro n
  induction n with
  | zero =>
    intro k hk
    have e : k = 3 := by omega
    subst e
    rw [m45_71]
    simp only [m45_72, m45_73, nlt (a := 3) (b := 3) (by decide) (by decide), Nat.lt_irrefl, if_false]
  | succ n ih =>
    intro k hk
    have hlt : k < 3 := by omega
    have ihk := ih (k + 1) (by omega)
    have r3 : ly1 A k 3 = lyF 3 k (A 3) := rfl
    have r4 : ∀ f, fup (ly1 A k) 3 f 4 = lyF 3 k (A 4) := fun f => rfl
    have r5 : ∀ f g, fup (fup (ly1 A k) 3 f) 4 g 5 = lyF 3 k (A 5) := fun f g => rfl
    have g1 := fun s => igE_AI (n := 6) (j := 3 + k) s (by omega) (by decide)
    have p1 := fun s v => isE_AI (n := 6) (j := k) s v (by omega) (by decide)
    have es := fun f => lyF_step (m := 3) (n := k) f hlt
    have e2 : fup (fup (fup (ly1 A k) 3 (lyF 3 (k + 1) (A 3))) 4 (lyF 3 (k + 1) (A 4))) 5 (lyF 3 (k + 1) (A 5)) = ly1 A (k + 1) := fup3_again (by decide) (by decide) (by decide)
    rw [m45_71]
    simp only [m45_72, m45_73, m45_76, m45_77, m45_80, m45_81, m45_82, m45_85, m45_86, m45_87, m45_88, m45_89, m45_90, m45_91, m45_94, m45_95, m45_96, m45_99, m45_100, m45_101, m45_102, m45_103, m45_104, m45_105, m45_108, m45_109, m45_110, m45_113, m45_114, m45_115, m45_116, m45_117, m45_118, m45_121, ob_some, pushr_s, pushr_n, iget_eq, gf_eq, pf_eq, ck_eq, alen_eq, rget_eq, iset_eq, Option.bind_some, Option.map_some, Option.elim_some, hput_at, ↓reduceIte, Nat.reduceEqDiff, Nat.reduceAdd, ne_eq, not_false_eq_true, oS_ck, oS_g0, oS_p0, oS_g1, oS_p1, oS_g2, oS_p2, oS_g3, oS_p3, oS_g4, oS_p4, oS_g5, oS_p5, oS_g6, oS_p6, oP_ck, oP_g0, oP_p0, oP_g1, oP_p1, oP_g2, oP_p2, oP_g3, oP_p3, oP_g4, oP_p4, oP_g5, oP_p5, oP_g6, oP_p6, oP_g7, oP_p7, oP_g8, oP_p8, oP_g9, oP_p9, oP_g10, oP_p10, oP_g11, oP_p11, oP_g12, oP_p12, oR_ck, oR_g0, oR_p0, oR_g1, oR_p1, oR_g2, oR_p2, oR_g3, oR_p3, oG_ck, oG_g0, oG_p0, oG_g1, oG_p1, oG_g2, oG_p2, oW_ck, oW_g0, oW_p0, oW_g1, oW_p1, oW_g2, oW_p2, oB_ck, oB_g0, oB_p0, oB_g1, oB_p1, oB_g2, oB_p2, oB_g3, oB_p3, oB_g4, oB_p4, oB_g5, oB_p5, oB_g6, oB_p6, oC_ck, oC_g0, oC_p0, oC_g1, oC_p1, oC_g2, oC_p2, oC_g3, oC_p3, oC_g4, oC_p4, oC_g5, oC_p5, oC_g6, oC_p6, oH_ck, oH_g0, oH_p0, oH_g1, oH_p1, oH_g2, oH_p2, oH_g3, oH_p3, oM_ck, oM_g0, oM_p0, oM_g1, oM_p1, oM_g2, oM_p2, oM_g3, oM_p3, oM_g4, oM_p4, oM_g5, oM_p5, oM_g6, oM_p6, oM_g7, oM_p7, oM_g8, oM_p8, oM_g9, oM_p9, oM_g10, oM_p10, oM_g11, oM_p11, oM_g12, oM_p12, oM_g13, oM_p13, oM_g14, oM_p14, oM_g15, oM_p15, oM_g16, oM_p16, oM_g17, oM_p17, oM_g18, oM_p18, oM_g19, oM_p19, oM_g20, oM_p20, oM_g21, oM_p21, oM_g22, oM_p22, oM_g23, oM_p23, oM_g24, oM_p24, oM_g25, oM_p25, oM_g26, oM_p26, oM_g27, oM_p27, oM_g28, oM_p28, oM_g29, oM_p29, mv0, mv1, mv2, mv3, mv4, mv5, mv6, mset_o, mset_po, mset_k1, mset_r1, mset_k2, mset_r2, mset_k3, mset_r3, mset_k4, mset_r4, mset_k5, mset_r5, mset_k6, mset_r6, mset_k7, mset_r7, mset_k8, mset_r8, mset_k9, mset_r9, mset_k10, mset_r10, mset_k11, mset_r11, mset_k12, mset_r12, mset_k13, mset_r13, mset_k14, mset_r14, mset_k15, mset_r15, mset_k16, mset_r16, mset_k17, mset_r17, mset_k18, mset_r18, mset_k19, mset_r19, mset_k20, mset_r20, mset_k21, mset_r21, mset_k22, mset_r22, mset_k23, mset_r23, nlt (a := k) (b := 3) (by omega) (by decide), hlt, if_true, nI_add, r3, r4, r5, g1, p1, es, e2]
    exact ihk
theorem mlay_loop2 {h : Hp} {S : Nat → Int32} {A : Nat → Nat → Nat} {W : Mw} (z : Zc) (Q : Option Value → Zc → Hp → Prop) : ∀ n k, n + k = 6 → Ev 45 (126, [some (.ref 78), some (.int (nI k))], [], z, mset h S (ly2 A k) W) Q = Ev 45 (183, [some (.ref 78), some (.int (nI 6))], [], z, mset h S (ly2 A 6) W) Q := by
  intro n
  induction n with
  | zero =>
    intro k hk
    have e : k = 6 := by omega
    subst e
    rw [m45_126]
    simp only [m45_127, m45_129, nlt (a := 6) (b := 6) (by decide) (by decide), Nat.lt_irrefl, if_false]
  | succ n ih =>
    intro k hk
    have hlt : k < 6 := by omega
    have ihk := ih (k + 1) (by omega)
    have r3 : ly2 A k 7 = lyF 6 k (A 7) := rfl
    have r4 : ∀ f, fup (ly2 A k) 7 f 8 = lyF 6 k (A 8) := fun f => rfl
    have r5 : ∀ f g, fup (fup (ly2 A k) 7 f) 8 g 12 = lyF 6 k (A 12) := fun f g => rfl
    have g1 := fun s => igE_AI (n := 12) (j := 6 + k) s (by omega) (by decide)
    have p1 := fun s v => isE_AI (n := 12) (j := k) s v (by omega) (by decide)
    have es := fun f => lyF_step (m := 6) (n := k) f hlt
    have e2 : fup (fup (fup (ly2 A k) 7 (lyF 6 (k + 1) (A 7))) 8 (lyF 6 (k + 1) (A 8))) 12 (lyF 6 (k + 1) (A 12)) = ly2 A (k + 1) := fup3_again (by decide) (by decide) (by decide)
    rw [m45_126]
    simp only [m45_127, m45_129, m45_132, m45_133, m45_136, m45_137, m45_138, m45_141, m45_143, m45_144, m45_145, m45_146, m45_147, m45_148, m45_151, m45_152, m45_153, m45_156, m45_158, m45_159, m45_160, m45_161, m45_162, m45_163, m45_166, m45_167, m45_168, m45_171, m45_173, m45_174, m45_175, m45_176, m45_177, m45_180, ob_some, pushr_s, pushr_n, iget_eq, gf_eq, pf_eq, ck_eq, alen_eq, rget_eq, iset_eq, Option.bind_some, Option.map_some, Option.elim_some, hput_at, ↓reduceIte, Nat.reduceEqDiff, Nat.reduceAdd, ne_eq, not_false_eq_true, oS_ck, oS_g0, oS_p0, oS_g1, oS_p1, oS_g2, oS_p2, oS_g3, oS_p3, oS_g4, oS_p4, oS_g5, oS_p5, oS_g6, oS_p6, oP_ck, oP_g0, oP_p0, oP_g1, oP_p1, oP_g2, oP_p2, oP_g3, oP_p3, oP_g4, oP_p4, oP_g5, oP_p5, oP_g6, oP_p6, oP_g7, oP_p7, oP_g8, oP_p8, oP_g9, oP_p9, oP_g10, oP_p10, oP_g11, oP_p11, oP_g12, oP_p12, oR_ck, oR_g0, oR_p0, oR_g1, oR_p1, oR_g2, oR_p2, oR_g3, oR_p3, oG_ck, oG_g0, oG_p0, oG_g1, oG_p1, oG_g2, oG_p2, oW_ck, oW_g0, oW_p0, oW_g1, oW_p1, oW_g2, oW_p2, oB_ck, oB_g0, oB_p0, oB_g1, oB_p1, oB_g2, oB_p2, oB_g3, oB_p3, oB_g4, oB_p4, oB_g5, oB_p5, oB_g6, oB_p6, oC_ck, oC_g0, oC_p0, oC_g1, oC_p1, oC_g2, oC_p2, oC_g3, oC_p3, oC_g4, oC_p4, oC_g5, oC_p5, oC_g6, oC_p6, oH_ck, oH_g0, oH_p0, oH_g1, oH_p1, oH_g2, oH_p2, oH_g3, oH_p3, oM_ck, oM_g0, oM_p0, oM_g1, oM_p1, oM_g2, oM_p2, oM_g3, oM_p3, oM_g4, oM_p4, oM_g5, oM_p5, oM_g6, oM_p6, oM_g7, oM_p7, oM_g8, oM_p8, oM_g9, oM_p9, oM_g10, oM_p10, oM_g11, oM_p11, oM_g12, oM_p12, oM_g13, oM_p13, oM_g14, oM_p14, oM_g15, oM_p15, oM_g16, oM_p16, oM_g17, oM_p17, oM_g18, oM_p18, oM_g19, oM_p19, oM_g20, oM_p20, oM_g21, oM_p21, oM_g22, oM_p22, oM_g23, oM_p23, oM_g24, oM_p24, oM_g25, oM_p25, oM_g26, oM_p26, oM_g27, oM_p27, oM_g28, oM_p28, oM_g29, oM_p29, mv0, mv1, mv2, mv3, mv4, mv5, mv6, mset_o, mset_po, mset_k1, mset_r1, mset_k2, mset_r2, mset_k3, mset_r3, mset_k4, mset_r4, mset_k5, mset_r5, mset_k6, mset_r6, mset_k7, mset_r7, mset_k8, mset_r8, mset_k9, mset_r9, mset_k10, mset_r10, mset_k11, mset_r11, mset_k12, mset_r12, mset_k13, mset_r13, mset_k14, mset_r14, mset_k15, mset_r15, mset_k16, mset_r16, mset_k17, mset_r17, mset_k18, mset_r18, mset_k19, mset_r19, mset_k20, mset_r20, mset_k21, mset_r21, mset_k22, mset_r22, mset_k23, mset_r23, nlt (a := k) (b := 6) (by omega) (by decide), hlt, if_true, nI_add, r3, r4, r5, g1, p1, es, e2]
    exact ihk
theorem mlay_loop3 {h : Hp} {S : Nat → Int32} {A : Nat → Nat → Nat} {W : Mw} (z : Zc) (Q : Option Value → Zc → Hp → Prop) : ∀ n k, n + k = 10 → Ev 45 (185, [some (.ref 78), some (.int (nI k))], [], z, mset h S (ly3 A k) W) Q = Ev 45 (212, [some (.ref 78), some (.int (nI 10))], [], z, mset h S (ly3 A 10) W) Q := by
  intro n
  induction n with
  | zero =>
    intro k hk
    have e : k = 10 := by omega
    subst e
    rw [m45_185]
    simp only [m45_186, m45_188, nlt (a := 10) (b := 10) (by decide) (by decide), Nat.lt_irrefl, if_false]
  | succ n ih =>
    intro k hk
    have hlt : k < 10 := by omega
    have ihk := ih (k + 1) (by omega)
    have r3 : ly3 A k 9 = lyF 10 k (A 9) := rfl
    have g1 := fun s => igE_AI (n := 20) (j := 10 + k) s (by omega) (by decide)
    have p1 := fun s v => isE_AI (n := 20) (j := k) s v (by omega) (by decide)
    have es := fun f => lyF_step (m := 10) (n := k) f hlt
    have e2 : fup (ly3 A k) 9 (lyF 10 (k + 1) (A 9)) = ly3 A (k + 1) := fup_fup _ _ _ _
    rw [m45_185]
    simp only [m45_186, m45_188, m45_191, m45_192, m45_195, m45_196, m45_197, m45_200, m45_202, m45_203, m45_204, m45_205, m45_206, m45_209, ob_some, pushr_s, pushr_n, iget_eq, gf_eq, pf_eq, ck_eq, alen_eq, rget_eq, iset_eq, Option.bind_some, Option.map_some, Option.elim_some, hput_at, ↓reduceIte, Nat.reduceEqDiff, Nat.reduceAdd, ne_eq, not_false_eq_true, oS_ck, oS_g0, oS_p0, oS_g1, oS_p1, oS_g2, oS_p2, oS_g3, oS_p3, oS_g4, oS_p4, oS_g5, oS_p5, oS_g6, oS_p6, oP_ck, oP_g0, oP_p0, oP_g1, oP_p1, oP_g2, oP_p2, oP_g3, oP_p3, oP_g4, oP_p4, oP_g5, oP_p5, oP_g6, oP_p6, oP_g7, oP_p7, oP_g8, oP_p8, oP_g9, oP_p9, oP_g10, oP_p10, oP_g11, oP_p11, oP_g12, oP_p12, oR_ck, oR_g0, oR_p0, oR_g1, oR_p1, oR_g2, oR_p2, oR_g3, oR_p3, oG_ck, oG_g0, oG_p0, oG_g1, oG_p1, oG_g2, oG_p2, oW_ck, oW_g0, oW_p0, oW_g1, oW_p1, oW_g2, oW_p2, oB_ck, oB_g0, oB_p0, oB_g1, oB_p1, oB_g2, oB_p2, oB_g3, oB_p3, oB_g4, oB_p4, oB_g5, oB_p5, oB_g6, oB_p6, oC_ck, oC_g0, oC_p0, oC_g1, oC_p1, oC_g2, oC_p2, oC_g3, oC_p3, oC_g4, oC_p4, oC_g5, oC_p5, oC_g6, oC_p6, oH_ck, oH_g0, oH_p0, oH_g1, oH_p1, oH_g2, oH_p2, oH_g3, oH_p3, oM_ck, oM_g0, oM_p0, oM_g1, oM_p1, oM_g2, oM_p2, oM_g3, oM_p3, oM_g4, oM_p4, oM_g5, oM_p5, oM_g6, oM_p6, oM_g7, oM_p7, oM_g8, oM_p8, oM_g9, oM_p9, oM_g10, oM_p10, oM_g11, oM_p11, oM_g12, oM_p12, oM_g13, oM_p13, oM_g14, oM_p14, oM_g15, oM_p15, oM_g16, oM_p16, oM_g17, oM_p17, oM_g18, oM_p18, oM_g19, oM_p19, oM_g20, oM_p20, oM_g21, oM_p21, oM_g22, oM_p22, oM_g23, oM_p23, oM_g24, oM_p24, oM_g25, oM_p25, oM_g26, oM_p26, oM_g27, oM_p27, oM_g28, oM_p28, oM_g29, oM_p29, mv0, mv1, mv2, mv3, mv4, mv5, mv6, mset_o, mset_po, mset_k1, mset_r1, mset_k2, mset_r2, mset_k3, mset_r3, mset_k4, mset_r4, mset_k5, mset_r5, mset_k6, mset_r6, mset_k7, mset_r7, mset_k8, mset_r8, mset_k9, mset_r9, mset_k10, mset_r10, mset_k11, mset_r11, mset_k12, mset_r12, mset_k13, mset_r13, mset_k14, mset_r14, mset_k15, mset_r15, mset_k16, mset_r16, mset_k17, mset_r17, mset_k18, mset_r18, mset_k19, mset_r19, mset_k20, mset_r20, mset_k21, mset_r21, mset_k22, mset_r22, mset_k23, mset_r23, nlt (a := k) (b := 10) (by omega) (by decide), hlt, if_true, nI_add, r3, g1, p1, es, e2]
    exact ihk
def ly0 (A : Nat → Nat → Nat) : Nat → Nat → Nat := fup (fup (fup (fup A 2 (fup (A 2) 0 (A 2 1))) 6 (fup (A 6) 0 (A 6 1))) 10 (fup (A 10) 0 (A 10 1))) 11 (fup (A 11) 0 (A 11 1))
def lyA (A : Nat → Nat → Nat) : Nat → Nat → Nat := cpA (ly3 (ly2 (ly1 (ly0 A) 3) 6) 10) 1 0
theorem mlay_tail {h : Hp} {S : Nat → Int32} {A : Nat → Nat → Nat} {W : Mw} (z : Zc) (Q : Option Value → Zc → Hp → Prop) : Ev 45 (21, [some (.ref 78), none], [], z, mset h S A W) Q = Q (some (.int (nI (A 2 1)))) z (mset h (mv (S 0) (nI 0) (nI 0) (S 3) (S 4) (S 5) (S 6)) (lyA A) W) := by
  have h1 := mlay_loop1 (h := h) (S := S) (A := ly0 A) (W := W) z Q 3 0 rfl
  have h2 := mlay_loop2 (h := h) (S := S) (A := ly1 (ly0 A) 3) (W := W) z Q 6 0 rfl
  have h3 := mlay_loop3 (h := h) (S := S) (A := ly2 (ly1 (ly0 A) 3) 6) (W := W) z Q 10 0 rfl
  have e1 : ∀ A, ly1 A 0 = A := fun A => by
    unfold ly1
    rw [lyF_0, lyF_0, lyF_0]
    exact fup3_same (by decide) (by decide) (by decide)
  have e2 : ∀ A, ly2 A 0 = A := fun A => by
    unfold ly2
    rw [lyF_0, lyF_0, lyF_0]
    exact fup3_same (by decide) (by decide) (by decide)
  have e3 : ∀ A, ly3 A 0 = A := fun A => by
    unfold ly3
    rw [lyF_0]
    exact fup_id _ _
  rw [e1] at h1
  rw [e2] at h2
  rw [e3] at h3
  have hc := fun S Q => mcopy_eq (h := h) (S := S) (A := ly3 (ly2 (ly1 (ly0 A) 3) 6) 10) (W := W) (a := 1) (b := 0) (by decide) (by decide) (by decide) z Q
  have r2 : cpA (ly3 (ly2 (ly1 (ly0 A) 3) 6) 10) 1 0 2 = fup (A 2) 0 (A 2 1) := rfl
  have g2 := igE_AI (n := 2) (j := 0) (fup (A 2) 0 (A 2 1)) (by decide) (by decide)
  rw [fup_self] at g2
  have j1 := fun s => igE_AI (n := 2) (j := 1) s (by decide) (by decide)
  have p0 := fun s v => isE_AI (n := 2) (j := 0) s v (by decide) (by decide)
  have f6 : ∀ f, fup A 2 f 6 = A 6 := fun f => rfl
  have f10 : ∀ f g, fup (fup A 2 f) 6 g 10 = A 10 := fun f g => rfl
  have f11 : ∀ f g k, fup (fup (fup A 2 f) 6 g) 10 k 11 = A 11 := fun f g k => rfl
  have f0 : fup (fup (fup (fup A 2 (fup (A 2) 0 (A 2 1))) 6 (fup (A 6) 0 (A 6 1))) 10 (fup (A 10) 0 (A 10 1))) 11 (fup (A 11) 0 (A 11 1)) = ly0 A := rfl
  simp only [m45_21, m45_22, m45_25, m45_26, m45_27, m45_30, m45_31, m45_32, m45_33, m45_34, m45_37, m45_38, m45_39, m45_42, m45_43, m45_44, m45_45, m45_46, m45_49, m45_50, m45_51, m45_54, m45_55, m45_56, m45_57, m45_58, m45_61, m45_62, m45_63, m45_66, m45_67, m45_68, m45_69, m45_70, ob_some, pushr_s, pushr_n, iget_eq, gf_eq, pf_eq, ck_eq, alen_eq, rget_eq, iset_eq, Option.bind_some, Option.map_some, Option.elim_some, hput_at, ↓reduceIte, Nat.reduceEqDiff, Nat.reduceAdd, ne_eq, not_false_eq_true, oS_ck, oS_g0, oS_p0, oS_g1, oS_p1, oS_g2, oS_p2, oS_g3, oS_p3, oS_g4, oS_p4, oS_g5, oS_p5, oS_g6, oS_p6, oP_ck, oP_g0, oP_p0, oP_g1, oP_p1, oP_g2, oP_p2, oP_g3, oP_p3, oP_g4, oP_p4, oP_g5, oP_p5, oP_g6, oP_p6, oP_g7, oP_p7, oP_g8, oP_p8, oP_g9, oP_p9, oP_g10, oP_p10, oP_g11, oP_p11, oP_g12, oP_p12, oR_ck, oR_g0, oR_p0, oR_g1, oR_p1, oR_g2, oR_p2, oR_g3, oR_p3, oG_ck, oG_g0, oG_p0, oG_g1, oG_p1, oG_g2, oG_p2, oW_ck, oW_g0, oW_p0, oW_g1, oW_p1, oW_g2, oW_p2, oB_ck, oB_g0, oB_p0, oB_g1, oB_p1, oB_g2, oB_p2, oB_g3, oB_p3, oB_g4, oB_p4, oB_g5, oB_p5, oB_g6, oB_p6, oC_ck, oC_g0, oC_p0, oC_g1, oC_p1, oC_g2, oC_p2, oC_g3, oC_p3, oC_g4, oC_p4, oC_g5, oC_p5, oC_g6, oC_p6, oH_ck, oH_g0, oH_p0, oH_g1, oH_p1, oH_g2, oH_p2, oH_g3, oH_p3, oM_ck, oM_g0, oM_p0, oM_g1, oM_p1, oM_g2, oM_p2, oM_g3, oM_p3, oM_g4, oM_p4, oM_g5, oM_p5, oM_g6, oM_p6, oM_g7, oM_p7, oM_g8, oM_p8, oM_g9, oM_p9, oM_g10, oM_p10, oM_g11, oM_p11, oM_g12, oM_p12, oM_g13, oM_p13, oM_g14, oM_p14, oM_g15, oM_p15, oM_g16, oM_p16, oM_g17, oM_p17, oM_g18, oM_p18, oM_g19, oM_p19, oM_g20, oM_p20, oM_g21, oM_p21, oM_g22, oM_p22, oM_g23, oM_p23, oM_g24, oM_p24, oM_g25, oM_p25, oM_g26, oM_p26, oM_g27, oM_p27, oM_g28, oM_p28, oM_g29, oM_p29, mv0, mv1, mv2, mv3, mv4, mv5, mv6, mset_o, mset_po, mset_k1, mset_r1, mset_k2, mset_r2, mset_k3, mset_r3, mset_k4, mset_r4, mset_k5, mset_r5, mset_k6, mset_r6, mset_k7, mset_r7, mset_k8, mset_r8, mset_k9, mset_r9, mset_k10, mset_r10, mset_k11, mset_r11, mset_k12, mset_r12, mset_k13, mset_r13, mset_k14, mset_r14, mset_k15, mset_r15, mset_k16, mset_r16, mset_k17, mset_r17, mset_k18, mset_r18, mset_k19, mset_r19, mset_k20, mset_r20, mset_k21, mset_r21, mset_k22, mset_r22, mset_k23, mset_r23, j1, p0, f6, f10, f11, f0, h1]
  simp only [m45_124, m45_125, h2]
  simp only [m45_183, m45_184, h3]
  simp only [m45_212, m45_213, m45_214, m45_215, m45_218, m45_219, m45_220, m45_223, m45_224, m45_225, m45_228, m45_229, m45_232, m45_233, m45_234, ob_some, pushr_s, pushr_n, iget_eq, gf_eq, pf_eq, ck_eq, alen_eq, rget_eq, iset_eq, Option.bind_some, Option.map_some, Option.elim_some, hput_at, ↓reduceIte, Nat.reduceEqDiff, Nat.reduceAdd, ne_eq, not_false_eq_true, oS_ck, oS_g0, oS_p0, oS_g1, oS_p1, oS_g2, oS_p2, oS_g3, oS_p3, oS_g4, oS_p4, oS_g5, oS_p5, oS_g6, oS_p6, oP_ck, oP_g0, oP_p0, oP_g1, oP_p1, oP_g2, oP_p2, oP_g3, oP_p3, oP_g4, oP_p4, oP_g5, oP_p5, oP_g6, oP_p6, oP_g7, oP_p7, oP_g8, oP_p8, oP_g9, oP_p9, oP_g10, oP_p10, oP_g11, oP_p11, oP_g12, oP_p12, oR_ck, oR_g0, oR_p0, oR_g1, oR_p1, oR_g2, oR_p2, oR_g3, oR_p3, oG_ck, oG_g0, oG_p0, oG_g1, oG_p1, oG_g2, oG_p2, oW_ck, oW_g0, oW_p0, oW_g1, oW_p1, oW_g2, oW_p2, oB_ck, oB_g0, oB_p0, oB_g1, oB_p1, oB_g2, oB_p2, oB_g3, oB_p3, oB_g4, oB_p4, oB_g5, oB_p5, oB_g6, oB_p6, oC_ck, oC_g0, oC_p0, oC_g1, oC_p1, oC_g2, oC_p2, oC_g3, oC_p3, oC_g4, oC_p4, oC_g5, oC_p5, oC_g6, oC_p6, oH_ck, oH_g0, oH_p0, oH_g1, oH_p1, oH_g2, oH_p2, oH_g3, oH_p3, oM_ck, oM_g0, oM_p0, oM_g1, oM_p1, oM_g2, oM_p2, oM_g3, oM_p3, oM_g4, oM_p4, oM_g5, oM_p5, oM_g6, oM_p6, oM_g7, oM_p7, oM_g8, oM_p8, oM_g9, oM_p9, oM_g10, oM_p10, oM_g11, oM_p11, oM_g12, oM_p12, oM_g13, oM_p13, oM_g14, oM_p14, oM_g15, oM_p15, oM_g16, oM_p16, oM_g17, oM_p17, oM_g18, oM_p18, oM_g19, oM_p19, oM_g20, oM_p20, oM_g21, oM_p21, oM_g22, oM_p22, oM_g23, oM_p23, oM_g24, oM_p24, oM_g25, oM_p25, oM_g26, oM_p26, oM_g27, oM_p27, oM_g28, oM_p28, oM_g29, oM_p29, mv0, mv1, mv2, mv3, mv4, mv5, mv6, mset_o, mset_po, mset_k1, mset_r1, mset_k2, mset_r2, mset_k3, mset_r3, mset_k4, mset_r4, mset_k5, mset_r5, mset_k6, mset_r6, mset_k7, mset_r7, mset_k8, mset_r8, mset_k9, mset_r9, mset_k10, mset_r10, mset_k11, mset_r11, mset_k12, mset_r12, mset_k13, mset_r13, mset_k14, mset_r14, mset_k15, mset_r15, mset_k16, mset_r16, mset_k17, mset_r17, mset_k18, mset_r18, mset_k19, mset_r19, mset_k20, mset_r20, mset_k21, mset_r21, mset_k22, mset_r22, mset_k23, mset_r23, hc, r2, g2]
  rfl
theorem lyA_PEq {A : Nat → Nat → Nat} (hb : Valid (MT A)) : PEq (MT A) (MP (lyA A)) := by
  have v0 : A 2 1 ≤ 3 := hb.1
  have v1 : A 6 1 ≤ 6 := hb.2.1
  have v3 : A 11 1 ≤ 6 := hb.2.2.2.1
  have l3 : ∀ (f : Nat → Nat) e, e < 3 → f (3 + e) = lyF 3 3 f e := fun f e he => (if_pos he).symm
  have l6 : ∀ (f : Nat → Nat) e, e < 6 → f (6 + e) = lyF 6 6 f e := fun f e he => (if_pos he).symm
  have c3 : ∀ (f : Nat → Nat) e, e < 3 → f (3 + e) = copyF 3 1 0 3 f e := fun f e he => by
    unfold copyF
    rw [if_pos (by omega)]
    exact congrArg f (by omega)
  have c6 : ∀ (f : Nat → Nat) e, e < 6 → f (6 + e) = copyF 6 1 0 6 f e := fun f e he => by
    unfold copyF
    rw [if_pos (by omega)]
    exact congrArg f (by omega)
  refine ⟨⟨rfl, rfl, rfl, rfl⟩, fun e q => ?_, fun i q => ?_, fun c q => ?_, fun k q => ?_⟩
  · have q : e < A 2 1 := q
    exact ⟨l3 (A 3) e (by omega), c3 (A 14) e (by omega), l3 (A 4) e (by omega), l3 (A 5) e (by omega)⟩
  · have q : i < A 6 1 := q
    exact ⟨l6 (A 7) i (by omega), l6 (A 8) i (by omega), c6 (A 13) i (by omega)⟩
  · show A 9 (10 + c) = lyF 10 10 (A 9) c
    exact (if_pos q).symm
  · have q : k < A 11 1 := q
    exact l6 (A 12) k (by omega)
/-- lay: what was told, or nothing -/
theorem mlay_op {h : Hp} {S : Nat → Int32} {A : Nat → Nat → Nat} {W : Mw} {len : Nat} (hV : Valid (MP A)) (hS : S 0 = nI len) (hl : len ≤ 300) (hT : ∀ j, A 1 j ≤ 255) (P0 : Pl) (z : Zc) (R : Pl × Option Nat) (hR : allF (A 1) len 300 (noneP P0) 0 = R) :
    (R.2 = none → R.1 0 0 ≠ 0 → ∃ S2 A2, (S2 0 = S 0 ∧ S2 1 = nI 0 ∧ S2 2 = nI 0) ∧ A2 1 = A 1 ∧ PEq R.1 (MP A2) ∧ ∀ Q, Ev 45 (0, [some (.ref 78), none], [], z, mset h S A W) Q = Q (some (.int (nI (R.1 0 0)))) z (mset h S2 A2 W)) ∧
    (¬ (R.2 = none ∧ R.1 0 0 ≠ 0) → Mop 45 [some (.ref 78), none] (.int (-2)) z h S A W) := by
  obtain ⟨p', A', k1, k2, hk⟩ := mreadAll_eq (h := h) (W := W) hS hl hT P0 z
  have hlt := fun b hb => allF_lt (T := A 1) (len := len) (b := b) 300 (noneP P0) 0 hb
  have hv := allF_valid (T := A 1) (len := len) 300 (noneP P0) 0 (noneP_valid P0)
  rw [hR] at k2 hk hlt hv
  have ef : (faV R = -4) = (R.2 = none) := faV_eq (fun b hb => by have := hlt b hb; omega)
  have e0 : R.1 0 0 = A' 2 1 := k2.1.1
  have v0 := hv.1
  have j2 := igE_AI (n := 2) (j := 1) (A' 2) (by decide) (by decide)
  have l0 := neq (a := A' 2 1) (b := 0) (by omega) (by decide)
  constructor
  · intro c1 c2
    refine ⟨mv (nI len) (nI 0) (nI 0) (nI p') (S 4) (S 5) (S 6), lyA A', ⟨hS.symm, rfl, rfl⟩, ?_, k2.trans' (lyA_PEq (k2.valid hv)), fun Q => ?_⟩
    · show A' 1 = A 1
      exact k1.r1
    · have c2' : ¬ A' 2 1 = 0 := by omega
      have ht := mlay_tail (h := h) (S := mv (nI len) (S 1) (S 2) (nI p') (S 4) (S 5) (S 6)) (A := A') (W := W) z Q
      rw [e0]
      refine Eq.trans ?_ ht
      simp only [m45_0, m45_1, m45_4, m45_6, m45_9, m45_10, m45_13, m45_14, m45_15, ob_some, pushr_s, pushr_n, iget_eq, gf_eq, pf_eq, ck_eq, alen_eq, rget_eq, iset_eq, Option.bind_some, Option.map_some, Option.elim_some, hput_at, ↓reduceIte, Nat.reduceEqDiff, Nat.reduceAdd, ne_eq, not_false_eq_true, oS_ck, oS_g0, oS_p0, oS_g1, oS_p1, oS_g2, oS_p2, oS_g3, oS_p3, oS_g4, oS_p4, oS_g5, oS_p5, oS_g6, oS_p6, oP_ck, oP_g0, oP_p0, oP_g1, oP_p1, oP_g2, oP_p2, oP_g3, oP_p3, oP_g4, oP_p4, oP_g5, oP_p5, oP_g6, oP_p6, oP_g7, oP_p7, oP_g8, oP_p8, oP_g9, oP_p9, oP_g10, oP_p10, oP_g11, oP_p11, oP_g12, oP_p12, oR_ck, oR_g0, oR_p0, oR_g1, oR_p1, oR_g2, oR_p2, oR_g3, oR_p3, oG_ck, oG_g0, oG_p0, oG_g1, oG_p1, oG_g2, oG_p2, oW_ck, oW_g0, oW_p0, oW_g1, oW_p1, oW_g2, oW_p2, oB_ck, oB_g0, oB_p0, oB_g1, oB_p1, oB_g2, oB_p2, oB_g3, oB_p3, oB_g4, oB_p4, oB_g5, oB_p5, oB_g6, oB_p6, oC_ck, oC_g0, oC_p0, oC_g1, oC_p1, oC_g2, oC_p2, oC_g3, oC_p3, oC_g4, oC_p4, oC_g5, oC_p5, oC_g6, oC_p6, oH_ck, oH_g0, oH_p0, oH_g1, oH_p1, oH_g2, oH_p2, oH_g3, oH_p3, oM_ck, oM_g0, oM_p0, oM_g1, oM_p1, oM_g2, oM_p2, oM_g3, oM_p3, oM_g4, oM_p4, oM_g5, oM_p5, oM_g6, oM_p6, oM_g7, oM_p7, oM_g8, oM_p8, oM_g9, oM_p9, oM_g10, oM_p10, oM_g11, oM_p11, oM_g12, oM_p12, oM_g13, oM_p13, oM_g14, oM_p14, oM_g15, oM_p15, oM_g16, oM_p16, oM_g17, oM_p17, oM_g18, oM_p18, oM_g19, oM_p19, oM_g20, oM_p20, oM_g21, oM_p21, oM_g22, oM_p22, oM_g23, oM_p23, oM_g24, oM_p24, oM_g25, oM_p25, oM_g26, oM_p26, oM_g27, oM_p27, oM_g28, oM_p28, oM_g29, oM_p29, mv0, mv1, mv2, mv3, mv4, mv5, mv6, mset_o, mset_po, mset_k1, mset_r1, mset_k2, mset_r2, mset_k3, mset_r3, mset_k4, mset_r4, mset_k5, mset_r5, mset_k6, mset_r6, mset_k7, mset_r7, mset_k8, mset_r8, mset_k9, mset_r9, mset_k10, mset_r10, mset_k11, mset_r11, mset_k12, mset_r12, mset_k13, mset_r13, mset_k14, mset_r14, mset_k15, mset_r15, mset_k16, mset_r16, mset_k17, mset_r17, mset_k18, mset_r18, mset_k19, mset_r19, mset_k20, mset_r20, mset_k21, mset_r21, mset_k22, mset_r22, mset_k23, mset_r23, hk, ef, c1, if_true, j2, l0, c2', if_false]
  · intro c
    refine ⟨mv (nI len) (S 1) (S 2) (nI p') (S 4) (S 5) (S 6), A', W, k1.MR hV ⟨hS.symm, rfl, rfl⟩, fun Q => ?_⟩
    by_cases c1 : R.2 = none
    · have c2 : A' 2 1 = 0 := Classical.byContradiction (fun q => c ⟨c1, by omega⟩)
      simp only [m45_0, m45_1, m45_4, m45_6, m45_9, m45_10, m45_13, m45_14, m45_15, m45_18, m45_20, ob_some, pushr_s, pushr_n, iget_eq, gf_eq, pf_eq, ck_eq, alen_eq, rget_eq, iset_eq, Option.bind_some, Option.map_some, Option.elim_some, hput_at, ↓reduceIte, Nat.reduceEqDiff, Nat.reduceAdd, ne_eq, not_false_eq_true, oS_ck, oS_g0, oS_p0, oS_g1, oS_p1, oS_g2, oS_p2, oS_g3, oS_p3, oS_g4, oS_p4, oS_g5, oS_p5, oS_g6, oS_p6, oP_ck, oP_g0, oP_p0, oP_g1, oP_p1, oP_g2, oP_p2, oP_g3, oP_p3, oP_g4, oP_p4, oP_g5, oP_p5, oP_g6, oP_p6, oP_g7, oP_p7, oP_g8, oP_p8, oP_g9, oP_p9, oP_g10, oP_p10, oP_g11, oP_p11, oP_g12, oP_p12, oR_ck, oR_g0, oR_p0, oR_g1, oR_p1, oR_g2, oR_p2, oR_g3, oR_p3, oG_ck, oG_g0, oG_p0, oG_g1, oG_p1, oG_g2, oG_p2, oW_ck, oW_g0, oW_p0, oW_g1, oW_p1, oW_g2, oW_p2, oB_ck, oB_g0, oB_p0, oB_g1, oB_p1, oB_g2, oB_p2, oB_g3, oB_p3, oB_g4, oB_p4, oB_g5, oB_p5, oB_g6, oB_p6, oC_ck, oC_g0, oC_p0, oC_g1, oC_p1, oC_g2, oC_p2, oC_g3, oC_p3, oC_g4, oC_p4, oC_g5, oC_p5, oC_g6, oC_p6, oH_ck, oH_g0, oH_p0, oH_g1, oH_p1, oH_g2, oH_p2, oH_g3, oH_p3, oM_ck, oM_g0, oM_p0, oM_g1, oM_p1, oM_g2, oM_p2, oM_g3, oM_p3, oM_g4, oM_p4, oM_g5, oM_p5, oM_g6, oM_p6, oM_g7, oM_p7, oM_g8, oM_p8, oM_g9, oM_p9, oM_g10, oM_p10, oM_g11, oM_p11, oM_g12, oM_p12, oM_g13, oM_p13, oM_g14, oM_p14, oM_g15, oM_p15, oM_g16, oM_p16, oM_g17, oM_p17, oM_g18, oM_p18, oM_g19, oM_p19, oM_g20, oM_p20, oM_g21, oM_p21, oM_g22, oM_p22, oM_g23, oM_p23, oM_g24, oM_p24, oM_g25, oM_p25, oM_g26, oM_p26, oM_g27, oM_p27, oM_g28, oM_p28, oM_g29, oM_p29, mv0, mv1, mv2, mv3, mv4, mv5, mv6, mset_o, mset_po, mset_k1, mset_r1, mset_k2, mset_r2, mset_k3, mset_r3, mset_k4, mset_r4, mset_k5, mset_r5, mset_k6, mset_r6, mset_k7, mset_r7, mset_k8, mset_r8, mset_k9, mset_r9, mset_k10, mset_r10, mset_k11, mset_r11, mset_k12, mset_r12, mset_k13, mset_r13, mset_k14, mset_r14, mset_k15, mset_r15, mset_k16, mset_r16, mset_k17, mset_r17, mset_k18, mset_r18, mset_k19, mset_r19, mset_k20, mset_r20, mset_k21, mset_r21, mset_k22, mset_r22, mset_k23, mset_r23, hk, ef, c1, if_true, j2, l0, c2]
    · simp only [m45_0, m45_1, m45_4, m45_6, m45_18, m45_20, ob_some, pushr_s, pushr_n, iget_eq, gf_eq, pf_eq, ck_eq, alen_eq, rget_eq, iset_eq, Option.bind_some, Option.map_some, Option.elim_some, hput_at, ↓reduceIte, Nat.reduceEqDiff, Nat.reduceAdd, ne_eq, not_false_eq_true, oS_ck, oS_g0, oS_p0, oS_g1, oS_p1, oS_g2, oS_p2, oS_g3, oS_p3, oS_g4, oS_p4, oS_g5, oS_p5, oS_g6, oS_p6, oP_ck, oP_g0, oP_p0, oP_g1, oP_p1, oP_g2, oP_p2, oP_g3, oP_p3, oP_g4, oP_p4, oP_g5, oP_p5, oP_g6, oP_p6, oP_g7, oP_p7, oP_g8, oP_p8, oP_g9, oP_p9, oP_g10, oP_p10, oP_g11, oP_p11, oP_g12, oP_p12, oR_ck, oR_g0, oR_p0, oR_g1, oR_p1, oR_g2, oR_p2, oR_g3, oR_p3, oG_ck, oG_g0, oG_p0, oG_g1, oG_p1, oG_g2, oG_p2, oW_ck, oW_g0, oW_p0, oW_g1, oW_p1, oW_g2, oW_p2, oB_ck, oB_g0, oB_p0, oB_g1, oB_p1, oB_g2, oB_p2, oB_g3, oB_p3, oB_g4, oB_p4, oB_g5, oB_p5, oB_g6, oB_p6, oC_ck, oC_g0, oC_p0, oC_g1, oC_p1, oC_g2, oC_p2, oC_g3, oC_p3, oC_g4, oC_p4, oC_g5, oC_p5, oC_g6, oC_p6, oH_ck, oH_g0, oH_p0, oH_g1, oH_p1, oH_g2, oH_p2, oH_g3, oH_p3, oM_ck, oM_g0, oM_p0, oM_g1, oM_p1, oM_g2, oM_p2, oM_g3, oM_p3, oM_g4, oM_p4, oM_g5, oM_p5, oM_g6, oM_p6, oM_g7, oM_p7, oM_g8, oM_p8, oM_g9, oM_p9, oM_g10, oM_p10, oM_g11, oM_p11, oM_g12, oM_p12, oM_g13, oM_p13, oM_g14, oM_p14, oM_g15, oM_p15, oM_g16, oM_p16, oM_g17, oM_p17, oM_g18, oM_p18, oM_g19, oM_p19, oM_g20, oM_p20, oM_g21, oM_p21, oM_g22, oM_p22, oM_g23, oM_p23, oM_g24, oM_p24, oM_g25, oM_p25, oM_g26, oM_p26, oM_g27, oM_p27, oM_g28, oM_p28, oM_g29, oM_p29, mv0, mv1, mv2, mv3, mv4, mv5, mv6, mset_o, mset_po, mset_k1, mset_r1, mset_k2, mset_r2, mset_k3, mset_r3, mset_k4, mset_r4, mset_k5, mset_r5, mset_k6, mset_r6, mset_k7, mset_r7, mset_k8, mset_r8, mset_k9, mset_r9, mset_k10, mset_r10, mset_k11, mset_r11, mset_k12, mset_r12, mset_k13, mset_r13, mset_k14, mset_r14, mset_k15, mset_r15, mset_k16, mset_r16, mset_k17, mset_r17, mset_k18, mset_r18, mset_k19, mset_r19, mset_k20, mset_r20, mset_k21, mset_r21, mset_k22, mset_r22, mset_k23, mset_r23, hk, ef, c1, if_false]
