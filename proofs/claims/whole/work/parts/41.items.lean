/-! items read one by one -/
theorem bC_eq {T : Nat → Nat} {len p m : Nat} (hT : ∀ j, T j ≤ 255) (hm : m < 256) : (bC T len p = nI m) = (chr T len p = m) := by
  unfold bC chr
  have := hT p
  by_cases c : p < len
  · rw [if_pos c, if_pos c, neq (by omega) (by omega)]
  · rw [if_neg c, if_neg c]
    refine propext ⟨fun q => ?_, fun q => by omega⟩
    have h1 : ¬ nI m < nI 0 := nI_not_neg (by omega)
    rw [← q] at h1
    exact absurd (by decide) h1
def bndP (P : Pl) : Prop := P 0 0 ≤ 3 ∧ P 0 1 ≤ 6 ∧ P 0 3 ≤ 6
theorem tellL_bnd {P P' : Pl} {L : Nat} {l : List Nat} (hV : bndP P) (h : tellL P L l = some P') : bndP P' := by
  obtain ⟨v0, v1, v3⟩ := hV
  unfold tellL at h
  split at h
  · split at h
    · split at h
      · rename_i q
        cases h
        exact ⟨show P 0 0 + 1 ≤ 3 by omega, v1, v3⟩
      · cases h
    · split at h
      · split at h
        · rename_i q
          cases h
          exact ⟨v0, show P 0 1 + 1 ≤ 6 by omega, v3⟩
        · cases h
      · cases h
  · split at h
    · split at h
      · cases h
        exact ⟨v0, v1, v3⟩
      · cases h
    · split at h
      · split at h
        · cases h
          exact ⟨v0, v1, v3⟩
        · cases h
      · cases h
  · split at h
    · split at h
      · cases h
        exact ⟨v0, v1, v3⟩
      · cases h
    · split at h
      · split at h
        · rename_i q
          cases h
          exact ⟨v0, v1, show P 0 3 + 1 ≤ 6 by omega⟩
        · cases h
      · cases h
  · cases h
theorem agr_app {N : Nat → Nat} {v : Nat} : ∀ {k : Nat} {l : List Nat}, agr N k l → agr (fup N (k + l.length) v) k (l ++ [v])
  | k, [], _ => ⟨fup_self _ _ _, trivial⟩
  | k, a :: l, h => by
    have ih := agr_app (v := v) h.2
    rw [show k + 1 + l.length = k + (l.length + 1) by omega] at ih
    refine ⟨?_, ih⟩
    show fup N (k + (l.length + 1)) v k = a
    rw [fup_ne _ _ (by omega)]
    exact h.1
def resI (T : Nat → Nat) (len n start p : Nat) (acc : List Nat) (P : Pl) : Option (Nat × Pl) := match numL T len n p with
  | none => none
  | some (l, p') => (tellL P (T start) (acc ++ l)).map (fun P' => (p', P'))
def rvI : Option (Nat × Pl) → Int32
  | none => -4
  | some (p', _) => nI p'
def rpI (P : Pl) : Option (Nat × Pl) → Pl
  | none => P
  | some (_, P') => P'
set_option maxHeartbeats 4000000 in
theorem readItem_loop {h : Hp} {len : Nat} {T : Nat → Nat} (hT : ∀ j, T j ≤ 255) (h2 : h 3 = some (AI 300 T)) (hl : len ≤ 300) {start : Nat} (hst : start < len) {P : Pl} (hV : bndP P) (z : Zc) (Q : Option Value → Zc → Hp → Prop) :
    ∀ n t, n + t = 4 → 1 ≤ t → ∀ (N : Nat → Nat) (acc : List Nat) (p : Nat) (x5 : Option Value), agr N 0 acc → acc.length + 1 = t → (∀ k, N k < 100000) → p + 3 * n < 1000 →
    (∀ N', (∀ k, N' k < 100000) → Q (some (.int (rvI (resI T len n start p acc P)))) z (rdset h len N' (rpI P (resI T len n start p acc P)))) →
    Ev 132 (6, [some (.ref 2), some (.int (nI start)), some (.int (nI p)), some (.int (nI t)), none, x5], [], z, rdset h len N P) Q := by
  intro n
  induction n with
  | zero =>
    intro t ht ht1 N acc p x5 hN hacc hNb hp hQ
    have e : t = 4 := by omega
    subst e
    rw [m132_6]
    simp only [m132_0, m132_1, m132_2, m132_3, m132_4, m132_5, m132_7, m132_8, m132_11, m132_12, m132_13, m132_16, m132_19, m132_20, m132_21, m132_24, m132_26, m132_27, m132_29, m132_32, m132_33, m132_34, m132_37, m132_40, m132_42, m132_44, m132_45, m132_46, m132_47, m132_50, m132_51, m132_53, m132_54, m132_56, m132_59, m132_60, m132_63, m132_64, m132_65, m132_66, m132_68, m132_69, m132_70, m132_71, m132_74, m132_76, m132_79, m132_81, m132_83, m132_86, m132_87, m132_88, m132_89, m132_92, m132_93, m132_96, m132_99, m132_100, m132_103, m132_105, m132_106, m132_108, m132_110, m132_113, m132_115, m132_116, m132_119, m132_122, m132_124, ob_some, pushr_s, pushr_n, iget_eq, gf_eq, pf_eq, ck_eq, alen_eq, rget_eq, iset_eq, Option.bind_some, Option.map_some, Option.elim_some, hput_at, ↓reduceIte, Nat.reduceEqDiff, Nat.reduceAdd, ne_eq, not_false_eq_true, oS_ck, oS_g0, oS_p0, oS_g1, oS_p1, oS_g2, oS_p2, oS_g3, oS_p3, oS_g4, oS_p4, oS_g5, oS_p5, oS_g6, oS_p6, oP_ck, oP_g0, oP_p0, oP_g1, oP_p1, oP_g2, oP_p2, oP_g3, oP_p3, oP_g4, oP_p4, oP_g5, oP_p5, oP_g6, oP_p6, oP_g7, oP_p7, oP_g8, oP_p8, oP_g9, oP_p9, oP_g10, oP_p10, oP_g11, oP_p11, oP_g12, oP_p12, oR_ck, oR_g0, oR_p0, oR_g1, oR_p1, oR_g2, oR_p2, oR_g3, oR_p3, oG_ck, oG_g0, oG_p0, oG_g1, oG_p1, oG_g2, oG_p2, oW_ck, oW_g0, oW_p0, oW_g1, oW_p1, oW_g2, oW_p2, oB_ck, oB_g0, oB_p0, oB_g1, oB_p1, oB_g2, oB_p2, oB_g3, oB_p3, oB_g4, oB_p4, oB_g5, oB_p5, oB_g6, oB_p6, oC_ck, oC_g0, oC_p0, oC_g1, oC_p1, oC_g2, oC_p2, oC_g3, oC_p3, oC_g4, oC_p4, oC_g5, oC_p5, oC_g6, oC_p6, oH_ck, oH_g0, oH_p0, oH_g1, oH_p1, oH_g2, oH_p2, oH_g3, oH_p3, oM_ck, oM_g0, oM_p0, oM_g1, oM_p1, oM_g2, oM_p2, oM_g3, oM_p3, oM_g4, oM_p4, oM_g5, oM_p5, oM_g6, oM_p6, oM_g7, oM_p7, oM_g8, oM_p8, oM_g9, oM_p9, oM_g10, oM_p10, oM_g11, oM_p11, oM_g12, oM_p12, oM_g13, oM_p13, oM_g14, oM_p14, oM_g15, oM_p15, oM_g16, oM_p16, oM_g17, oM_p17, oM_g18, oM_p18, oM_g19, oM_p19, oM_g20, oM_p20, oM_g21, oM_p21, oM_g22, oM_p22, oM_g23, oM_p23, oM_g24, oM_p24, oM_g25, oM_p25, oM_g26, oM_p26, oM_g27, oM_p27, oM_g28, oM_p28, oM_g29, oM_p29, rdset_23, nlt (a := 3) (b := 4) (by decide) (by decide), Nat.reduceLT, if_true]
    exact hQ _ hNb
  | succ n ih =>
    intro t ht ht1 N acc p x5 hN hacc hNb hp hQ
    have h2' : ∀ N P, rdset h len N P 3 = some (AI 300 T) := fun N P => (rdset_ne h len N P (by decide)).trans h2
    have hF := fun N j (hj : j < 100000) => isFigure_eq hT (rdset_23 h len N P) (h2' N P) hl hj
    have hB := fun N j (hj : j < 100000) => byteAt_eq (rdset_23 h len N P) (h2' N P) hl hj
    have l1 := nlt (a := 3) (b := t) (by decide) (by omega)
    have l1' : ¬ 3 < t := by omega
    have hF0 := fun N => hF N p (by omega)
    have hF1 := fun N => hF N (p + 1) (by omega)
    have hB0 := fun N => hB N p (by omega)
    have hB1 := fun N => hB N (p + 1) (by omega)
    have hB2 := fun N => hB N (p + 2) (by omega)
    have hBs := fun N => hB N start (by omega)
    have es : bC T len start = nI (T start) := if_pos hst
    rw [m132_6]
    by_cases d0 : isd T len p
    · have D0 : isd T len p = True := eq_true d0
      have T0 := hT p
      have T1 := hT (p + 1)
      have e0 : bC T len p = nI (T p) := if_pos d0.1
      have s0 : nI (T p) - nI 48 = nI (T p - 48) := pk_sub d0.2.1
      have st : nI t - nI 1 = nI (t - 1) := pk_sub ht1
      have at0 : t - 1 < 3 := by omega
      have n24 : (24 : Nat) ≠ 0 := by decide
      -- what follows once the number v is read and the mark stands at p1
      have after : ∀ (v p1 : Nat), v < 1000 → p1 ≤ p + 2 → p < p1 → one T len p = some (v, p1) →
          Ev 132 (59, [some (.ref 2), some (.int (nI start)), some (.int (nI p1)), some (.int (nI t)), some (.int (nI v)), x5], [], z, rdset h len N P) Q := by
        intro v p1 hv hp1 hp2 ho
        have hBp := fun N => hB N p1 (by omega)
        have i1 := isE_AI (n := 3) (j := t - 1) N v at0 (by decide)
        have m1 := bC_eq (T := T) (len := len) (p := p1) (m := 59) hT (by decide)
        have m2 := bC_eq (T := T) (len := len) (p := p1) (m := 44) hT (by decide)
        have hN' : ∀ k, fup N (t - 1) v k < 100000 := fun k => by
          rw [fup_at]; split
          · omega
          · exact hNb k
        have hag : agr (fup N (t - 1) v) 0 (acc ++ [v]) := by
          have := agr_app (v := v) hN
          rwa [show 0 + acc.length = t - 1 by omega] at this
        have hln : (acc ++ [v]).length = t := by rw [List.length_append]; exact hacc
        by_cases c1 : chr T len p1 = 59
        · have en : numL T len (n + 1) p = some ([v], p1 + 1) := by rw [numL, ho]; exact if_pos c1
          have er : resI T len (n + 1) start p acc P = (tellL P (T start) (acc ++ [v])).map (fun P' => (p1 + 1, P')) := by rw [resI, en]
          rw [er] at hQ
          have ht := tell_eq (h := h) (len := len) (L := T start) (N := fup N (t - 1) v) (P := P) (l := acc ++ [v]) hV (by have := hT start; omega) hN' hag (by omega) (by omega) z
          rw [hln] at ht
          have n10 : (nI 1 = nI 0) = False := eq_false (by decide)
          cases hr : tellL P (T start) (acc ++ [v]) with
          | none =>
            rw [hr] at hQ ht
            have bF : b2 ((none : Option Pl).isSome = true) = nI 0 := b2_f (by decide)
            rw [bF] at ht
            simp only [m132_0, m132_1, m132_2, m132_3, m132_4, m132_5, m132_7, m132_8, m132_11, m132_12, m132_13, m132_16, m132_19, m132_20, m132_21, m132_24, m132_26, m132_27, m132_29, m132_32, m132_33, m132_34, m132_37, m132_40, m132_42, m132_44, m132_45, m132_46, m132_47, m132_50, m132_51, m132_53, m132_54, m132_56, m132_59, m132_60, m132_63, m132_64, m132_65, m132_66, m132_68, m132_69, m132_70, m132_71, m132_74, m132_76, m132_79, m132_81, m132_83, m132_86, m132_87, m132_88, m132_89, m132_92, m132_93, m132_96, m132_99, m132_100, m132_103, m132_105, m132_106, m132_108, m132_110, m132_113, m132_115, m132_116, m132_119, m132_122, m132_124, ob_some, pushr_s, pushr_n, iget_eq, gf_eq, pf_eq, ck_eq, alen_eq, rget_eq, iset_eq, Option.bind_some, Option.map_some, Option.elim_some, hput_at, ↓reduceIte, Nat.reduceEqDiff, Nat.reduceAdd, ne_eq, not_false_eq_true, oS_ck, oS_g0, oS_p0, oS_g1, oS_p1, oS_g2, oS_p2, oS_g3, oS_p3, oS_g4, oS_p4, oS_g5, oS_p5, oS_g6, oS_p6, oP_ck, oP_g0, oP_p0, oP_g1, oP_p1, oP_g2, oP_p2, oP_g3, oP_p3, oP_g4, oP_p4, oP_g5, oP_p5, oP_g6, oP_p6, oP_g7, oP_p7, oP_g8, oP_p8, oP_g9, oP_p9, oP_g10, oP_p10, oP_g11, oP_p11, oP_g12, oP_p12, oR_ck, oR_g0, oR_p0, oR_g1, oR_p1, oR_g2, oR_p2, oR_g3, oR_p3, oG_ck, oG_g0, oG_p0, oG_g1, oG_p1, oG_g2, oG_p2, oW_ck, oW_g0, oW_p0, oW_g1, oW_p1, oW_g2, oW_p2, oB_ck, oB_g0, oB_p0, oB_g1, oB_p1, oB_g2, oB_p2, oB_g3, oB_p3, oB_g4, oB_p4, oB_g5, oB_p5, oB_g6, oB_p6, oC_ck, oC_g0, oC_p0, oC_g1, oC_p1, oC_g2, oC_p2, oC_g3, oC_p3, oC_g4, oC_p4, oC_g5, oC_p5, oC_g6, oC_p6, oH_ck, oH_g0, oH_p0, oH_g1, oH_p1, oH_g2, oH_p2, oH_g3, oH_p3, oM_ck, oM_g0, oM_p0, oM_g1, oM_p1, oM_g2, oM_p2, oM_g3, oM_p3, oM_g4, oM_p4, oM_g5, oM_p5, oM_g6, oM_p6, oM_g7, oM_p7, oM_g8, oM_p8, oM_g9, oM_p9, oM_g10, oM_p10, oM_g11, oM_p11, oM_g12, oM_p12, oM_g13, oM_p13, oM_g14, oM_p14, oM_g15, oM_p15, oM_g16, oM_p16, oM_g17, oM_p17, oM_g18, oM_p18, oM_g19, oM_p19, oM_g20, oM_p20, oM_g21, oM_p21, oM_g22, oM_p22, oM_g23, oM_p23, oM_g24, oM_p24, oM_g25, oM_p25, oM_g26, oM_p26, oM_g27, oM_p27, oM_g28, oM_p28, oM_g29, oM_p29, rdset_23, rdset_24, st, n24, i1, rdset_n, hBp, m1, c1, if_true, nI_add, hBs, es, ht, Option.getD_none]
            exact hQ _ hN'
          | some P' =>
            rw [hr] at hQ ht
            have bT : b2 ((some P').isSome = true) = nI 1 := b2_t rfl
            rw [bT] at ht
            simp only [m132_0, m132_1, m132_2, m132_3, m132_4, m132_5, m132_7, m132_8, m132_11, m132_12, m132_13, m132_16, m132_19, m132_20, m132_21, m132_24, m132_26, m132_27, m132_29, m132_32, m132_33, m132_34, m132_37, m132_40, m132_42, m132_44, m132_45, m132_46, m132_47, m132_50, m132_51, m132_53, m132_54, m132_56, m132_59, m132_60, m132_63, m132_64, m132_65, m132_66, m132_68, m132_69, m132_70, m132_71, m132_74, m132_76, m132_79, m132_81, m132_83, m132_86, m132_87, m132_88, m132_89, m132_92, m132_93, m132_96, m132_99, m132_100, m132_103, m132_105, m132_106, m132_108, m132_110, m132_113, m132_115, m132_116, m132_119, m132_122, m132_124, ob_some, pushr_s, pushr_n, iget_eq, gf_eq, pf_eq, ck_eq, alen_eq, rget_eq, iset_eq, Option.bind_some, Option.map_some, Option.elim_some, hput_at, ↓reduceIte, Nat.reduceEqDiff, Nat.reduceAdd, ne_eq, not_false_eq_true, oS_ck, oS_g0, oS_p0, oS_g1, oS_p1, oS_g2, oS_p2, oS_g3, oS_p3, oS_g4, oS_p4, oS_g5, oS_p5, oS_g6, oS_p6, oP_ck, oP_g0, oP_p0, oP_g1, oP_p1, oP_g2, oP_p2, oP_g3, oP_p3, oP_g4, oP_p4, oP_g5, oP_p5, oP_g6, oP_p6, oP_g7, oP_p7, oP_g8, oP_p8, oP_g9, oP_p9, oP_g10, oP_p10, oP_g11, oP_p11, oP_g12, oP_p12, oR_ck, oR_g0, oR_p0, oR_g1, oR_p1, oR_g2, oR_p2, oR_g3, oR_p3, oG_ck, oG_g0, oG_p0, oG_g1, oG_p1, oG_g2, oG_p2, oW_ck, oW_g0, oW_p0, oW_g1, oW_p1, oW_g2, oW_p2, oB_ck, oB_g0, oB_p0, oB_g1, oB_p1, oB_g2, oB_p2, oB_g3, oB_p3, oB_g4, oB_p4, oB_g5, oB_p5, oB_g6, oB_p6, oC_ck, oC_g0, oC_p0, oC_g1, oC_p1, oC_g2, oC_p2, oC_g3, oC_p3, oC_g4, oC_p4, oC_g5, oC_p5, oC_g6, oC_p6, oH_ck, oH_g0, oH_p0, oH_g1, oH_p1, oH_g2, oH_p2, oH_g3, oH_p3, oM_ck, oM_g0, oM_p0, oM_g1, oM_p1, oM_g2, oM_p2, oM_g3, oM_p3, oM_g4, oM_p4, oM_g5, oM_p5, oM_g6, oM_p6, oM_g7, oM_p7, oM_g8, oM_p8, oM_g9, oM_p9, oM_g10, oM_p10, oM_g11, oM_p11, oM_g12, oM_p12, oM_g13, oM_p13, oM_g14, oM_p14, oM_g15, oM_p15, oM_g16, oM_p16, oM_g17, oM_p17, oM_g18, oM_p18, oM_g19, oM_p19, oM_g20, oM_p20, oM_g21, oM_p21, oM_g22, oM_p22, oM_g23, oM_p23, oM_g24, oM_p24, oM_g25, oM_p25, oM_g26, oM_p26, oM_g27, oM_p27, oM_g28, oM_p28, oM_g29, oM_p29, rdset_23, rdset_24, st, n24, i1, rdset_n, hBp, m1, c1, if_true, nI_add, hBs, es, ht, Option.getD_some, n10, if_false]
            exact hQ _ hN'
        · by_cases c2 : chr T len p1 = 44
          · have en : numL T len (n + 1) p = (numL T len n (p1 + 1)).map (fun q => (v :: q.1, q.2)) := by rw [numL, ho]; exact (if_neg c1).trans (if_pos c2)
            have er : resI T len (n + 1) start p acc P = resI T len n start (p1 + 1) (acc ++ [v]) P := by
              rw [resI, en, resI]
              cases numL T len n (p1 + 1) with
              | none => rfl
              | some q => simp only [Option.map_some, List.append_assoc, List.singleton_append]
            rw [er] at hQ
            have ihk := ih (t + 1) (by omega) (by omega) (fup N (t - 1) v) (acc ++ [v]) (p1 + 1) (some (.int (bC T len p1))) hag (by omega) hN' (by omega) hQ
            simp only [m132_0, m132_1, m132_2, m132_3, m132_4, m132_5, m132_7, m132_8, m132_11, m132_12, m132_13, m132_16, m132_19, m132_20, m132_21, m132_24, m132_26, m132_27, m132_29, m132_32, m132_33, m132_34, m132_37, m132_40, m132_42, m132_44, m132_45, m132_46, m132_47, m132_50, m132_51, m132_53, m132_54, m132_56, m132_59, m132_60, m132_63, m132_64, m132_65, m132_66, m132_68, m132_69, m132_70, m132_71, m132_74, m132_76, m132_79, m132_81, m132_83, m132_86, m132_87, m132_88, m132_89, m132_92, m132_93, m132_96, m132_99, m132_100, m132_103, m132_105, m132_106, m132_108, m132_110, m132_113, m132_115, m132_116, m132_119, m132_122, m132_124, ob_some, pushr_s, pushr_n, iget_eq, gf_eq, pf_eq, ck_eq, alen_eq, rget_eq, iset_eq, Option.bind_some, Option.map_some, Option.elim_some, hput_at, ↓reduceIte, Nat.reduceEqDiff, Nat.reduceAdd, ne_eq, not_false_eq_true, oS_ck, oS_g0, oS_p0, oS_g1, oS_p1, oS_g2, oS_p2, oS_g3, oS_p3, oS_g4, oS_p4, oS_g5, oS_p5, oS_g6, oS_p6, oP_ck, oP_g0, oP_p0, oP_g1, oP_p1, oP_g2, oP_p2, oP_g3, oP_p3, oP_g4, oP_p4, oP_g5, oP_p5, oP_g6, oP_p6, oP_g7, oP_p7, oP_g8, oP_p8, oP_g9, oP_p9, oP_g10, oP_p10, oP_g11, oP_p11, oP_g12, oP_p12, oR_ck, oR_g0, oR_p0, oR_g1, oR_p1, oR_g2, oR_p2, oR_g3, oR_p3, oG_ck, oG_g0, oG_p0, oG_g1, oG_p1, oG_g2, oG_p2, oW_ck, oW_g0, oW_p0, oW_g1, oW_p1, oW_g2, oW_p2, oB_ck, oB_g0, oB_p0, oB_g1, oB_p1, oB_g2, oB_p2, oB_g3, oB_p3, oB_g4, oB_p4, oB_g5, oB_p5, oB_g6, oB_p6, oC_ck, oC_g0, oC_p0, oC_g1, oC_p1, oC_g2, oC_p2, oC_g3, oC_p3, oC_g4, oC_p4, oC_g5, oC_p5, oC_g6, oC_p6, oH_ck, oH_g0, oH_p0, oH_g1, oH_p1, oH_g2, oH_p2, oH_g3, oH_p3, oM_ck, oM_g0, oM_p0, oM_g1, oM_p1, oM_g2, oM_p2, oM_g3, oM_p3, oM_g4, oM_p4, oM_g5, oM_p5, oM_g6, oM_p6, oM_g7, oM_p7, oM_g8, oM_p8, oM_g9, oM_p9, oM_g10, oM_p10, oM_g11, oM_p11, oM_g12, oM_p12, oM_g13, oM_p13, oM_g14, oM_p14, oM_g15, oM_p15, oM_g16, oM_p16, oM_g17, oM_p17, oM_g18, oM_p18, oM_g19, oM_p19, oM_g20, oM_p20, oM_g21, oM_p21, oM_g22, oM_p22, oM_g23, oM_p23, oM_g24, oM_p24, oM_g25, oM_p25, oM_g26, oM_p26, oM_g27, oM_p27, oM_g28, oM_p28, oM_g29, oM_p29, rdset_23, rdset_24, st, n24, i1, rdset_n, hBp, m1, m2, c1, c2, if_true, if_false, nI_add]
            exact ihk
          · have en : numL T len (n + 1) p = none := by rw [numL, ho]; exact (if_neg c1).trans (if_neg c2)
            have er : resI T len (n + 1) start p acc P = none := by rw [resI, en]
            rw [er] at hQ
            simp only [m132_0, m132_1, m132_2, m132_3, m132_4, m132_5, m132_7, m132_8, m132_11, m132_12, m132_13, m132_16, m132_19, m132_20, m132_21, m132_24, m132_26, m132_27, m132_29, m132_32, m132_33, m132_34, m132_37, m132_40, m132_42, m132_44, m132_45, m132_46, m132_47, m132_50, m132_51, m132_53, m132_54, m132_56, m132_59, m132_60, m132_63, m132_64, m132_65, m132_66, m132_68, m132_69, m132_70, m132_71, m132_74, m132_76, m132_79, m132_81, m132_83, m132_86, m132_87, m132_88, m132_89, m132_92, m132_93, m132_96, m132_99, m132_100, m132_103, m132_105, m132_106, m132_108, m132_110, m132_113, m132_115, m132_116, m132_119, m132_122, m132_124, ob_some, pushr_s, pushr_n, iget_eq, gf_eq, pf_eq, ck_eq, alen_eq, rget_eq, iset_eq, Option.bind_some, Option.map_some, Option.elim_some, hput_at, ↓reduceIte, Nat.reduceEqDiff, Nat.reduceAdd, ne_eq, not_false_eq_true, oS_ck, oS_g0, oS_p0, oS_g1, oS_p1, oS_g2, oS_p2, oS_g3, oS_p3, oS_g4, oS_p4, oS_g5, oS_p5, oS_g6, oS_p6, oP_ck, oP_g0, oP_p0, oP_g1, oP_p1, oP_g2, oP_p2, oP_g3, oP_p3, oP_g4, oP_p4, oP_g5, oP_p5, oP_g6, oP_p6, oP_g7, oP_p7, oP_g8, oP_p8, oP_g9, oP_p9, oP_g10, oP_p10, oP_g11, oP_p11, oP_g12, oP_p12, oR_ck, oR_g0, oR_p0, oR_g1, oR_p1, oR_g2, oR_p2, oR_g3, oR_p3, oG_ck, oG_g0, oG_p0, oG_g1, oG_p1, oG_g2, oG_p2, oW_ck, oW_g0, oW_p0, oW_g1, oW_p1, oW_g2, oW_p2, oB_ck, oB_g0, oB_p0, oB_g1, oB_p1, oB_g2, oB_p2, oB_g3, oB_p3, oB_g4, oB_p4, oB_g5, oB_p5, oB_g6, oB_p6, oC_ck, oC_g0, oC_p0, oC_g1, oC_p1, oC_g2, oC_p2, oC_g3, oC_p3, oC_g4, oC_p4, oC_g5, oC_p5, oC_g6, oC_p6, oH_ck, oH_g0, oH_p0, oH_g1, oH_p1, oH_g2, oH_p2, oH_g3, oH_p3, oM_ck, oM_g0, oM_p0, oM_g1, oM_p1, oM_g2, oM_p2, oM_g3, oM_p3, oM_g4, oM_p4, oM_g5, oM_p5, oM_g6, oM_p6, oM_g7, oM_p7, oM_g8, oM_p8, oM_g9, oM_p9, oM_g10, oM_p10, oM_g11, oM_p11, oM_g12, oM_p12, oM_g13, oM_p13, oM_g14, oM_p14, oM_g15, oM_p15, oM_g16, oM_p16, oM_g17, oM_p17, oM_g18, oM_p18, oM_g19, oM_p19, oM_g20, oM_p20, oM_g21, oM_p21, oM_g22, oM_p22, oM_g23, oM_p23, oM_g24, oM_p24, oM_g25, oM_p25, oM_g26, oM_p26, oM_g27, oM_p27, oM_g28, oM_p28, oM_g29, oM_p29, rdset_23, rdset_24, st, n24, i1, rdset_n, hBp, m1, m2, c1, c2, if_true, if_false, nI_add]
            exact hQ _ hN'
      by_cases d1 : isd T len (p + 1)
      · have D1 : isd T len (p + 1) = True := eq_true d1
        have e1 : bC T len (p + 1) = nI (T (p + 1)) := if_pos d1.1
        have s1 : nI ((T p - 48) * 10 + T (p + 1)) - nI 48 = nI ((T p - 48) * 10 + T (p + 1) - 48) := pk_sub (by have := d1.2.1; omega)
        have af := after ((T p - 48) * 10 + T (p + 1) - 48) (p + 2) (by omega) (by omega) (by omega) ((if_pos d0).trans (if_pos d1))
        simp only [m132_7, m132_8, m132_11, m132_12, m132_13, m132_16, m132_19, m132_20, m132_21, m132_24, m132_26, m132_27, m132_29, m132_32, m132_33, m132_34, m132_37, m132_40, m132_42, m132_44, m132_45, m132_46, m132_47, m132_50, m132_51, m132_53, m132_54, m132_56, ob_some, pushr_s, pushr_n, iget_eq, gf_eq, pf_eq, ck_eq, alen_eq, rget_eq, iset_eq, Option.bind_some, Option.map_some, Option.elim_some, hput_at, ↓reduceIte, Nat.reduceEqDiff, Nat.reduceAdd, ne_eq, not_false_eq_true, oS_ck, oS_g0, oS_p0, oS_g1, oS_p1, oS_g2, oS_p2, oS_g3, oS_p3, oS_g4, oS_p4, oS_g5, oS_p5, oS_g6, oS_p6, oP_ck, oP_g0, oP_p0, oP_g1, oP_p1, oP_g2, oP_p2, oP_g3, oP_p3, oP_g4, oP_p4, oP_g5, oP_p5, oP_g6, oP_p6, oP_g7, oP_p7, oP_g8, oP_p8, oP_g9, oP_p9, oP_g10, oP_p10, oP_g11, oP_p11, oP_g12, oP_p12, oR_ck, oR_g0, oR_p0, oR_g1, oR_p1, oR_g2, oR_p2, oR_g3, oR_p3, oG_ck, oG_g0, oG_p0, oG_g1, oG_p1, oG_g2, oG_p2, oW_ck, oW_g0, oW_p0, oW_g1, oW_p1, oW_g2, oW_p2, oB_ck, oB_g0, oB_p0, oB_g1, oB_p1, oB_g2, oB_p2, oB_g3, oB_p3, oB_g4, oB_p4, oB_g5, oB_p5, oB_g6, oB_p6, oC_ck, oC_g0, oC_p0, oC_g1, oC_p1, oC_g2, oC_p2, oC_g3, oC_p3, oC_g4, oC_p4, oC_g5, oC_p5, oC_g6, oC_p6, oH_ck, oH_g0, oH_p0, oH_g1, oH_p1, oH_g2, oH_p2, oH_g3, oH_p3, oM_ck, oM_g0, oM_p0, oM_g1, oM_p1, oM_g2, oM_p2, oM_g3, oM_p3, oM_g4, oM_p4, oM_g5, oM_p5, oM_g6, oM_p6, oM_g7, oM_p7, oM_g8, oM_p8, oM_g9, oM_p9, oM_g10, oM_p10, oM_g11, oM_p11, oM_g12, oM_p12, oM_g13, oM_p13, oM_g14, oM_p14, oM_g15, oM_p15, oM_g16, oM_p16, oM_g17, oM_p17, oM_g18, oM_p18, oM_g19, oM_p19, oM_g20, oM_p20, oM_g21, oM_p21, oM_g22, oM_p22, oM_g23, oM_p23, oM_g24, oM_p24, oM_g25, oM_p25, oM_g26, oM_p26, oM_g27, oM_p27, oM_g28, oM_p28, oM_g29, oM_p29, rdset_23, l1, l1', if_false, hF0, hF1, b2_0, D0, D1, not_true_eq_false, hB0, hB1, e0, e1, s0, s1, pk_mul, nI_add]
        exact af
      · have af := after (T p - 48) (p + 1) (by omega) (by omega) (by omega) ((if_pos d0).trans (if_neg d1))
        simp only [m132_7, m132_8, m132_11, m132_12, m132_13, m132_16, m132_19, m132_20, m132_21, m132_24, m132_26, m132_27, m132_29, m132_32, m132_33, m132_34, m132_37, ob_some, pushr_s, pushr_n, iget_eq, gf_eq, pf_eq, ck_eq, alen_eq, rget_eq, iset_eq, Option.bind_some, Option.map_some, Option.elim_some, hput_at, ↓reduceIte, Nat.reduceEqDiff, Nat.reduceAdd, ne_eq, not_false_eq_true, oS_ck, oS_g0, oS_p0, oS_g1, oS_p1, oS_g2, oS_p2, oS_g3, oS_p3, oS_g4, oS_p4, oS_g5, oS_p5, oS_g6, oS_p6, oP_ck, oP_g0, oP_p0, oP_g1, oP_p1, oP_g2, oP_p2, oP_g3, oP_p3, oP_g4, oP_p4, oP_g5, oP_p5, oP_g6, oP_p6, oP_g7, oP_p7, oP_g8, oP_p8, oP_g9, oP_p9, oP_g10, oP_p10, oP_g11, oP_p11, oP_g12, oP_p12, oR_ck, oR_g0, oR_p0, oR_g1, oR_p1, oR_g2, oR_p2, oR_g3, oR_p3, oG_ck, oG_g0, oG_p0, oG_g1, oG_p1, oG_g2, oG_p2, oW_ck, oW_g0, oW_p0, oW_g1, oW_p1, oW_g2, oW_p2, oB_ck, oB_g0, oB_p0, oB_g1, oB_p1, oB_g2, oB_p2, oB_g3, oB_p3, oB_g4, oB_p4, oB_g5, oB_p5, oB_g6, oB_p6, oC_ck, oC_g0, oC_p0, oC_g1, oC_p1, oC_g2, oC_p2, oC_g3, oC_p3, oC_g4, oC_p4, oC_g5, oC_p5, oC_g6, oC_p6, oH_ck, oH_g0, oH_p0, oH_g1, oH_p1, oH_g2, oH_p2, oH_g3, oH_p3, oM_ck, oM_g0, oM_p0, oM_g1, oM_p1, oM_g2, oM_p2, oM_g3, oM_p3, oM_g4, oM_p4, oM_g5, oM_p5, oM_g6, oM_p6, oM_g7, oM_p7, oM_g8, oM_p8, oM_g9, oM_p9, oM_g10, oM_p10, oM_g11, oM_p11, oM_g12, oM_p12, oM_g13, oM_p13, oM_g14, oM_p14, oM_g15, oM_p15, oM_g16, oM_p16, oM_g17, oM_p17, oM_g18, oM_p18, oM_g19, oM_p19, oM_g20, oM_p20, oM_g21, oM_p21, oM_g22, oM_p22, oM_g23, oM_p23, oM_g24, oM_p24, oM_g25, oM_p25, oM_g26, oM_p26, oM_g27, oM_p27, oM_g28, oM_p28, oM_g29, oM_p29, rdset_23, l1, l1', if_false, if_true, hF0, hF1, b2_0, D0, d1, not_true_eq_false, hB0, e0, s0, nI_add]
        exact af
    · have en : numL T len (n + 1) p = none := by rw [numL, show one T len p = none from if_neg d0]
      have er : resI T len (n + 1) start p acc P = none := by rw [resI, en]
      rw [er] at hQ
      simp only [m132_0, m132_1, m132_2, m132_3, m132_4, m132_5, m132_7, m132_8, m132_11, m132_12, m132_13, m132_16, m132_19, m132_20, m132_21, m132_24, m132_26, m132_27, m132_29, m132_32, m132_33, m132_34, m132_37, m132_40, m132_42, m132_44, m132_45, m132_46, m132_47, m132_50, m132_51, m132_53, m132_54, m132_56, m132_59, m132_60, m132_63, m132_64, m132_65, m132_66, m132_68, m132_69, m132_70, m132_71, m132_74, m132_76, m132_79, m132_81, m132_83, m132_86, m132_87, m132_88, m132_89, m132_92, m132_93, m132_96, m132_99, m132_100, m132_103, m132_105, m132_106, m132_108, m132_110, m132_113, m132_115, m132_116, m132_119, m132_122, m132_124, ob_some, pushr_s, pushr_n, iget_eq, gf_eq, pf_eq, ck_eq, alen_eq, rget_eq, iset_eq, Option.bind_some, Option.map_some, Option.elim_some, hput_at, ↓reduceIte, Nat.reduceEqDiff, Nat.reduceAdd, ne_eq, not_false_eq_true, oS_ck, oS_g0, oS_p0, oS_g1, oS_p1, oS_g2, oS_p2, oS_g3, oS_p3, oS_g4, oS_p4, oS_g5, oS_p5, oS_g6, oS_p6, oP_ck, oP_g0, oP_p0, oP_g1, oP_p1, oP_g2, oP_p2, oP_g3, oP_p3, oP_g4, oP_p4, oP_g5, oP_p5, oP_g6, oP_p6, oP_g7, oP_p7, oP_g8, oP_p8, oP_g9, oP_p9, oP_g10, oP_p10, oP_g11, oP_p11, oP_g12, oP_p12, oR_ck, oR_g0, oR_p0, oR_g1, oR_p1, oR_g2, oR_p2, oR_g3, oR_p3, oG_ck, oG_g0, oG_p0, oG_g1, oG_p1, oG_g2, oG_p2, oW_ck, oW_g0, oW_p0, oW_g1, oW_p1, oW_g2, oW_p2, oB_ck, oB_g0, oB_p0, oB_g1, oB_p1, oB_g2, oB_p2, oB_g3, oB_p3, oB_g4, oB_p4, oB_g5, oB_p5, oB_g6, oB_p6, oC_ck, oC_g0, oC_p0, oC_g1, oC_p1, oC_g2, oC_p2, oC_g3, oC_p3, oC_g4, oC_p4, oC_g5, oC_p5, oC_g6, oC_p6, oH_ck, oH_g0, oH_p0, oH_g1, oH_p1, oH_g2, oH_p2, oH_g3, oH_p3, oM_ck, oM_g0, oM_p0, oM_g1, oM_p1, oM_g2, oM_p2, oM_g3, oM_p3, oM_g4, oM_p4, oM_g5, oM_p5, oM_g6, oM_p6, oM_g7, oM_p7, oM_g8, oM_p8, oM_g9, oM_p9, oM_g10, oM_p10, oM_g11, oM_p11, oM_g12, oM_p12, oM_g13, oM_p13, oM_g14, oM_p14, oM_g15, oM_p15, oM_g16, oM_p16, oM_g17, oM_p17, oM_g18, oM_p18, oM_g19, oM_p19, oM_g20, oM_p20, oM_g21, oM_p21, oM_g22, oM_p22, oM_g23, oM_p23, oM_g24, oM_p24, oM_g25, oM_p25, oM_g26, oM_p26, oM_g27, oM_p27, oM_g28, oM_p28, oM_g29, oM_p29, rdset_23, l1, l1', if_false, if_true, hF0, b2_0, d0, not_false_eq_true]
      exact hQ _ hNb
