/-! the class: the first fault of a text -/
theorem one_bnd {T : Nat → Nat} {len p v p' : Nat} (h : one T len p = some (v, p')) : p < p' ∧ p' ≤ p + 2 := by
  unfold one at h
  split at h
  · split at h
    · cases h; omega
    · cases h; omega
  · cases h
theorem numL_bnd {T : Nat → Nat} {len : Nat} : ∀ n p l p', numL T len n p = some (l, p') → p < p' ∧ p' ≤ p + 3 * n
  | 0, _, _, _, h => by cases h
  | n + 1, p, l, p', h => by
    rw [numL] at h
    cases ho : one T len p with
    | none => rw [ho] at h; cases h
    | some q =>
      obtain ⟨v, p1⟩ := q
      rw [ho] at h
      have hb := one_bnd ho
      dsimp only at h
      split at h
      · cases h; omega
      · split at h
        · cases hn : numL T len n (p1 + 1) with
          | none => rw [hn] at h; cases h
          | some q =>
            obtain ⟨l2, p2⟩ := q
            rw [hn] at h
            cases h
            have := numL_bnd n _ _ _ hn
            omega
        · cases h
theorem resI_item (T : Nat → Nat) (len start : Nat) (P : Pl) : resI T len 3 start (start + 1) [] P = itemF T len P start := by
  unfold resI itemF
  cases numL T len 3 (start + 1) with
  | none => rfl
  | some q => rfl
theorem itemF_bnd {T : Nat → Nat} {len a p' : Nat} {P P' : Pl} (hV : bndP P) (h : itemF T len P a = some (p', P')) : a < p' ∧ p' ≤ a + 10 ∧ bndP P' := by
  unfold itemF at h
  cases hn : numL T len 3 (a + 1) with
  | none => rw [hn] at h; cases h
  | some q =>
    obtain ⟨l, p2⟩ := q
    rw [hn] at h
    have hb := numL_bnd _ _ _ _ hn
    dsimp only at h
    cases ht : tellL P (T a) l with
    | none => rw [ht] at h; cases h
    | some P2 =>
      rw [ht] at h
      cases h
      exact ⟨by omega, by omega, tellL_bnd hV ht⟩
theorem readItem_go {h : Hp} {len : Nat} {T : Nat → Nat} (hT : ∀ j, T j ≤ 255) (h2 : h 3 = some (AI 300 T)) (hl : len ≤ 300) {start : Nat} (hst : start < len) {P : Pl} (hV : bndP P) {N : Nat → Nat} (hN : ∀ k, N k < 100000) (z : Zc) (Q : Option Value → Zc → Hp → Prop)
    (hQ : ∀ N', (∀ k, N' k < 100000) → Q (some (.int (rvI (itemF T len P start)))) z (rdset h len N' (rpI P (itemF T len P start)))) :
    Ev 132 (0, [some (.ref 2), some (.int (nI start)), none, none, none, none], [], z, rdset h len N P) Q := by
  simp only [m132_0, m132_1, m132_2, m132_3, m132_4, m132_5, ob_some, pushr_s, pushr_n, iget_eq, gf_eq, pf_eq, ck_eq, alen_eq, rget_eq, iset_eq, Option.bind_some, Option.map_some, Option.elim_some, hput_at, ↓reduceIte, Nat.reduceEqDiff, Nat.reduceAdd, ne_eq, not_false_eq_true, oS_ck, oS_g0, oS_p0, oS_g1, oS_p1, oS_g2, oS_p2, oS_g3, oS_p3, oS_g4, oS_p4, oS_g5, oS_p5, oS_g6, oS_p6, oP_ck, oP_g0, oP_p0, oP_g1, oP_p1, oP_g2, oP_p2, oP_g3, oP_p3, oP_g4, oP_p4, oP_g5, oP_p5, oP_g6, oP_p6, oP_g7, oP_p7, oP_g8, oP_p8, oP_g9, oP_p9, oP_g10, oP_p10, oP_g11, oP_p11, oP_g12, oP_p12, oR_ck, oR_g0, oR_p0, oR_g1, oR_p1, oR_g2, oR_p2, oR_g3, oR_p3, oG_ck, oG_g0, oG_p0, oG_g1, oG_p1, oG_g2, oG_p2, oW_ck, oW_g0, oW_p0, oW_g1, oW_p1, oW_g2, oW_p2, oB_ck, oB_g0, oB_p0, oB_g1, oB_p1, oB_g2, oB_p2, oB_g3, oB_p3, oB_g4, oB_p4, oB_g5, oB_p5, oB_g6, oB_p6, oC_ck, oC_g0, oC_p0, oC_g1, oC_p1, oC_g2, oC_p2, oC_g3, oC_p3, oC_g4, oC_p4, oC_g5, oC_p5, oC_g6, oC_p6, oH_ck, oH_g0, oH_p0, oH_g1, oH_p1, oH_g2, oH_p2, oH_g3, oH_p3, oM_ck, oM_g0, oM_p0, oM_g1, oM_p1, oM_g2, oM_p2, oM_g3, oM_p3, oM_g4, oM_p4, oM_g5, oM_p5, oM_g6, oM_p6, oM_g7, oM_p7, oM_g8, oM_p8, oM_g9, oM_p9, oM_g10, oM_p10, oM_g11, oM_p11, oM_g12, oM_p12, oM_g13, oM_p13, oM_g14, oM_p14, oM_g15, oM_p15, oM_g16, oM_p16, oM_g17, oM_p17, oM_g18, oM_p18, oM_g19, oM_p19, oM_g20, oM_p20, oM_g21, oM_p21, oM_g22, oM_p22, oM_g23, oM_p23, oM_g24, oM_p24, oM_g25, oM_p25, oM_g26, oM_p26, oM_g27, oM_p27, oM_g28, oM_p28, oM_g29, oM_p29, rdset_23, nI_add]
  refine readItem_loop hT h2 hl hst hV z Q 3 1 rfl (by decide) N [] (start + 1) none trivial rfl hN (by omega) ?_
  rw [resI_item]
  exact hQ
def faV : Pl × Option Nat → Int32
  | (_, none) => -4
  | (_, some a) => nI a
theorem firstFault_loop {h : Hp} {len : Nat} {T : Nat → Nat} (hT : ∀ j, T j ≤ 255) (h2 : h 3 = some (AI 300 T)) (hl : len ≤ 300) (z : Zc) (Q : Option Value → Zc → Hp → Prop) :
    ∀ n m, n + m = 300 → ∀ (a : Nat) (N : Nat → Nat) (P : Pl) (x3 : Option Value), a ≤ 400 → bndP P → (∀ k, N k < 100000) →
    (∀ N', (∀ k, N' k < 100000) → Q (some (.int (faV (allF T len n P a)))) z (rdset h len N' (allF T len n P a).1)) →
    Ev 129 (11, [some (.ref 2), some (.int (nI a)), some (.int (nI m)), x3], [], z, rdset h len N P) Q := by
  intro n
  induction n with
  | zero =>
    intro m hm a N P x3 ha hV hN hQ
    have em : m = 300 := by omega
    subst em
    rw [m129_11]
    simp only [m129_0, m129_1, m129_4, m129_7, m129_8, m129_9, m129_10, m129_12, m129_15, m129_18, m129_19, m129_20, m129_23, m129_26, m129_27, m129_28, m129_31, m129_32, m129_33, m129_35, m129_38, m129_39, m129_40, m129_41, m129_42, m129_45, m129_48, m129_50, nlt (a := 300) (b := 300) (by decide) (by decide), Nat.lt_irrefl, if_false]
    exact hQ _ hN
  | succ n ih =>
    intro m hm a N P x3 ha hV hN hQ
    have lm : m < 300 := by omega
    rw [allF] at hQ
    rw [m129_11]
    by_cases c : a < len
    · rw [if_pos c] at hQ
      simp only [m129_12, m129_15, m129_18, m129_19, m129_20, m129_23, m129_26, m129_27, m129_28, ob_some, pushr_s, pushr_n, iget_eq, gf_eq, pf_eq, ck_eq, alen_eq, rget_eq, iset_eq, Option.bind_some, Option.map_some, Option.elim_some, hput_at, ↓reduceIte, Nat.reduceEqDiff, Nat.reduceAdd, ne_eq, not_false_eq_true, oS_ck, oS_g0, oS_p0, oS_g1, oS_p1, oS_g2, oS_p2, oS_g3, oS_p3, oS_g4, oS_p4, oS_g5, oS_p5, oS_g6, oS_p6, oP_ck, oP_g0, oP_p0, oP_g1, oP_p1, oP_g2, oP_p2, oP_g3, oP_p3, oP_g4, oP_p4, oP_g5, oP_p5, oP_g6, oP_p6, oP_g7, oP_p7, oP_g8, oP_p8, oP_g9, oP_p9, oP_g10, oP_p10, oP_g11, oP_p11, oP_g12, oP_p12, oR_ck, oR_g0, oR_p0, oR_g1, oR_p1, oR_g2, oR_p2, oR_g3, oR_p3, oG_ck, oG_g0, oG_p0, oG_g1, oG_p1, oG_g2, oG_p2, oW_ck, oW_g0, oW_p0, oW_g1, oW_p1, oW_g2, oW_p2, oB_ck, oB_g0, oB_p0, oB_g1, oB_p1, oB_g2, oB_p2, oB_g3, oB_p3, oB_g4, oB_p4, oB_g5, oB_p5, oB_g6, oB_p6, oC_ck, oC_g0, oC_p0, oC_g1, oC_p1, oC_g2, oC_p2, oC_g3, oC_p3, oC_g4, oC_p4, oC_g5, oC_p5, oC_g6, oC_p6, oH_ck, oH_g0, oH_p0, oH_g1, oH_p1, oH_g2, oH_p2, oH_g3, oH_p3, oM_ck, oM_g0, oM_p0, oM_g1, oM_p1, oM_g2, oM_p2, oM_g3, oM_p3, oM_g4, oM_p4, oM_g5, oM_p5, oM_g6, oM_p6, oM_g7, oM_p7, oM_g8, oM_p8, oM_g9, oM_p9, oM_g10, oM_p10, oM_g11, oM_p11, oM_g12, oM_p12, oM_g13, oM_p13, oM_g14, oM_p14, oM_g15, oM_p15, oM_g16, oM_p16, oM_g17, oM_p17, oM_g18, oM_p18, oM_g19, oM_p19, oM_g20, oM_p20, oM_g21, oM_p21, oM_g22, oM_p22, oM_g23, oM_p23, oM_g24, oM_p24, oM_g25, oM_p25, oM_g26, oM_p26, oM_g27, oM_p27, oM_g28, oM_p28, oM_g29, oM_p29, nlt (a := m) (b := 300) (by omega) (by decide), lm, if_true, rdset_23, nlt (a := a) (b := len) (by omega) (by omega), c]
      refine readItem_go hT h2 hl c hV hN z _ (fun N' hN' => ?_)
      cases hi : itemF T len P a with
      | none =>
        rw [hi] at hQ
        have l4 : (rvI none = -4) = True := eq_true rfl
        simp only [m129_31, m129_32, m129_33, m129_35, m129_38, m129_39, pushr_s, l4, if_true]
        exact hQ _ hN'
      | some q =>
        obtain ⟨p', P'⟩ := q
        rw [hi] at hQ
        obtain ⟨b1, b2, b3⟩ := itemF_bnd hV hi
        have e4 : rvI (some (p', P')) = nI p' := rfl
        have l4 : (nI p' = -4) = False := by
          refine eq_false (fun r => ?_)
          have h1 : ¬ nI p' < nI 0 := nI_not_neg (by omega)
          rw [r] at h1
          exact absurd (by decide) h1
        simp only [m129_31, m129_32, m129_33, m129_35, m129_40, m129_41, m129_42, m129_45, pushr_s, e4, l4, if_false, nI_add]
        exact ih (m + 1) (by omega) p' N' P' _ (by omega) b3 hN' hQ
    · rw [if_neg c] at hQ
      simp only [m129_0, m129_1, m129_4, m129_7, m129_8, m129_9, m129_10, m129_12, m129_15, m129_18, m129_19, m129_20, m129_23, m129_26, m129_27, m129_28, m129_31, m129_32, m129_33, m129_35, m129_38, m129_39, m129_40, m129_41, m129_42, m129_45, m129_48, m129_50, ob_some, pushr_s, pushr_n, iget_eq, gf_eq, pf_eq, ck_eq, alen_eq, rget_eq, iset_eq, Option.bind_some, Option.map_some, Option.elim_some, hput_at, ↓reduceIte, Nat.reduceEqDiff, Nat.reduceAdd, ne_eq, not_false_eq_true, oS_ck, oS_g0, oS_p0, oS_g1, oS_p1, oS_g2, oS_p2, oS_g3, oS_p3, oS_g4, oS_p4, oS_g5, oS_p5, oS_g6, oS_p6, oP_ck, oP_g0, oP_p0, oP_g1, oP_p1, oP_g2, oP_p2, oP_g3, oP_p3, oP_g4, oP_p4, oP_g5, oP_p5, oP_g6, oP_p6, oP_g7, oP_p7, oP_g8, oP_p8, oP_g9, oP_p9, oP_g10, oP_p10, oP_g11, oP_p11, oP_g12, oP_p12, oR_ck, oR_g0, oR_p0, oR_g1, oR_p1, oR_g2, oR_p2, oR_g3, oR_p3, oG_ck, oG_g0, oG_p0, oG_g1, oG_p1, oG_g2, oG_p2, oW_ck, oW_g0, oW_p0, oW_g1, oW_p1, oW_g2, oW_p2, oB_ck, oB_g0, oB_p0, oB_g1, oB_p1, oB_g2, oB_p2, oB_g3, oB_p3, oB_g4, oB_p4, oB_g5, oB_p5, oB_g6, oB_p6, oC_ck, oC_g0, oC_p0, oC_g1, oC_p1, oC_g2, oC_p2, oC_g3, oC_p3, oC_g4, oC_p4, oC_g5, oC_p5, oC_g6, oC_p6, oH_ck, oH_g0, oH_p0, oH_g1, oH_p1, oH_g2, oH_p2, oH_g3, oH_p3, oM_ck, oM_g0, oM_p0, oM_g1, oM_p1, oM_g2, oM_p2, oM_g3, oM_p3, oM_g4, oM_p4, oM_g5, oM_p5, oM_g6, oM_p6, oM_g7, oM_p7, oM_g8, oM_p8, oM_g9, oM_p9, oM_g10, oM_p10, oM_g11, oM_p11, oM_g12, oM_p12, oM_g13, oM_p13, oM_g14, oM_p14, oM_g15, oM_p15, oM_g16, oM_p16, oM_g17, oM_p17, oM_g18, oM_p18, oM_g19, oM_p19, oM_g20, oM_p20, oM_g21, oM_p21, oM_g22, oM_p22, oM_g23, oM_p23, oM_g24, oM_p24, oM_g25, oM_p25, oM_g26, oM_p26, oM_g27, oM_p27, oM_g28, oM_p28, oM_g29, oM_p29, nlt (a := m) (b := 300) (by omega) (by decide), lm, if_true, rdset_23, nlt (a := a) (b := len) (by omega) (by omega), c, if_false]
      exact hQ _ hN
theorem rdset_mk {h : Hp} {len : Nat} {N : Nat → Nat} {P : Pl} (h23 : h 2 = some (oR (.ref 3) (.int (nI len)) (.ref 4) (.ref 14))) (h24 : h 14 = some (AI 3 N)) : pset h 4 P = rdset h len N P := by
  funext j
  unfold rdset
  by_cases c : j = 2
  · subst c
    rw [if_pos rfl, pset_ne _ _ (by omega), h23]
  · rw [if_neg c]
    by_cases c2 : j = 14
    · subst c2
      rw [if_pos rfl, pset_ne _ _ (by omega), h24]
    · rw [if_neg c2]
theorem noneP_bnd (P : Pl) : bndP (noneP P) := ⟨by show (0 : Nat) ≤ 3; omega, by show (0 : Nat) ≤ 6; omega, by show (0 : Nat) ≤ 6; omega⟩
theorem firstFault_eq {h : Hp} {len : Nat} {T N : Nat → Nat} {P0 : Pl} (hT : ∀ j, T j ≤ 255) (h2 : h 3 = some (AI 300 T)) (hl : len ≤ 300) (h23 : h 2 = some (oR (.ref 3) (.int (nI len)) (.ref 4) (.ref 14))) (h24 : h 14 = some (AI 3 N)) (h13 : PlanC h 4 P0) (hN : ∀ k, N k < 100000) (z : Zc) (Q : Option Value → Zc → Hp → Prop)
    (hQ : ∀ N', (∀ k, N' k < 100000) → Q (some (.int (faV (allF T len 300 (noneP P0) 0)))) z (rdset h len N' (allF T len 300 (noneP P0) 0).1)) :
    Ev 129 (0, [some (.ref 2), none, none, none], [], z, h) Q := by
  have hcl := fun Q => clear_eq h13 z Q
  have hmk := fun P => rdset_mk (P := P) h23 h24
  have p1 := h13.2.1
  simp only [hmk] at hcl
  simp only [m129_0, m129_1, m129_4, ob_some, pushr_s, pushr_n, iget_eq, gf_eq, pf_eq, ck_eq, alen_eq, rget_eq, iset_eq, Option.bind_some, Option.map_some, Option.elim_some, hput_at, ↓reduceIte, Nat.reduceEqDiff, Nat.reduceAdd, ne_eq, not_false_eq_true, oS_ck, oS_g0, oS_p0, oS_g1, oS_p1, oS_g2, oS_p2, oS_g3, oS_p3, oS_g4, oS_p4, oS_g5, oS_p5, oS_g6, oS_p6, oP_ck, oP_g0, oP_p0, oP_g1, oP_p1, oP_g2, oP_p2, oP_g3, oP_p3, oP_g4, oP_p4, oP_g5, oP_p5, oP_g6, oP_p6, oP_g7, oP_p7, oP_g8, oP_p8, oP_g9, oP_p9, oP_g10, oP_p10, oP_g11, oP_p11, oP_g12, oP_p12, oR_ck, oR_g0, oR_p0, oR_g1, oR_p1, oR_g2, oR_p2, oR_g3, oR_p3, oG_ck, oG_g0, oG_p0, oG_g1, oG_p1, oG_g2, oG_p2, oW_ck, oW_g0, oW_p0, oW_g1, oW_p1, oW_g2, oW_p2, oB_ck, oB_g0, oB_p0, oB_g1, oB_p1, oB_g2, oB_p2, oB_g3, oB_p3, oB_g4, oB_p4, oB_g5, oB_p5, oB_g6, oB_p6, oC_ck, oC_g0, oC_p0, oC_g1, oC_p1, oC_g2, oC_p2, oC_g3, oC_p3, oC_g4, oC_p4, oC_g5, oC_p5, oC_g6, oC_p6, oH_ck, oH_g0, oH_p0, oH_g1, oH_p1, oH_g2, oH_p2, oH_g3, oH_p3, oM_ck, oM_g0, oM_p0, oM_g1, oM_p1, oM_g2, oM_p2, oM_g3, oM_p3, oM_g4, oM_p4, oM_g5, oM_p5, oM_g6, oM_p6, oM_g7, oM_p7, oM_g8, oM_p8, oM_g9, oM_p9, oM_g10, oM_p10, oM_g11, oM_p11, oM_g12, oM_p12, oM_g13, oM_p13, oM_g14, oM_p14, oM_g15, oM_p15, oM_g16, oM_p16, oM_g17, oM_p17, oM_g18, oM_p18, oM_g19, oM_p19, oM_g20, oM_p20, oM_g21, oM_p21, oM_g22, oM_p22, oM_g23, oM_p23, oM_g24, oM_p24, oM_g25, oM_p25, oM_g26, oM_p26, oM_g27, oM_p27, oM_g28, oM_p28, oM_g29, oM_p29, h23, p1, hcl, pushr_n, m129_7, m129_8, m129_9, m129_10]
  exact firstFault_loop hT h2 hl z Q 300 0 rfl 0 N (noneP P0) _ (by omega) (noneP_bnd P0) hN hQ
