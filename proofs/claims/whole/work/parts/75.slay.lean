/-! the class: lay -/
theorem noneP_valid (P : Pl) : Valid (noneP P) := by
  refine ⟨?_, ?_, ?_, ?_, fun e he => ?_, fun i hi => ?_, fun c hc => ?_, fun j hj => ?_⟩
  · show (0 : Nat) ≤ 3; omega
  · show (0 : Nat) ≤ 6; omega
  · show (2 : Nat) ≤ 9; omega
  · show (0 : Nat) ≤ 6; omega
  · have he : e < 0 := he
    omega
  · have hi : i < 0 := hi
    omega
  · show (10 : Nat) ≤ 60; omega
  · have hj : j < 0 := hj
    omega
theorem addE_valid {P : Pl} (hV : Valid P) {a s k : Nat} (h0 : P 0 0 < 3) (ha : 1 ≤ a ∧ a ≤ 9) (hs : s ≤ 60) (hk : k ≤ 3) : Valid (addE P a s k) := by
  obtain ⟨v0, v1, v2, v3, v4, v5, v6, v7⟩ := hV
  refine ⟨show P 0 0 + 1 ≤ 3 by omega, v1, v2, v3, fun e he => ?_, fun i hi => ?_, v6, v7⟩
  · have he : e < P 0 0 + 1 := he
    show 1 ≤ fup (P 1) (P 0 0) a e ∧ fup (P 1) (P 0 0) a e ≤ 9 ∧ fup (P 2) (P 0 0) s e ≤ 60 ∧ fup (P 3) (P 0 0) k e ≤ 3 ∧ fup (P 4) (P 0 0) 1 e ≤ 9
    rw [fup_at, fup_at, fup_at, fup_at]
    by_cases c : e = P 0 0
    · rw [if_pos c, if_pos c, if_pos c, if_pos c]; omega
    · rw [if_neg c, if_neg c, if_neg c, if_neg c]
      exact v4 e (by omega)
  · obtain ⟨a1, a2⟩ := v5 i hi
    exact ⟨show P 5 i < P 0 0 + 1 by omega, a2⟩
theorem addS_valid {P : Pl} (hV : Valid P) {e d w : Nat} (h0 : P 0 1 < 6) (he : e < P 0 0) (hd : 1 ≤ d ∧ d ≤ 30) (hw : 1 ≤ w ∧ w ≤ 20) : Valid (addS P e d w) := by
  obtain ⟨v0, v1, v2, v3, v4, v5, v6, v7⟩ := hV
  refine ⟨v0, show P 0 1 + 1 ≤ 6 by omega, v2, v3, v4, fun i hi => ?_, v6, v7⟩
  have hi : i < P 0 1 + 1 := hi
  show fup (P 5) (P 0 1) e i < P 0 0 ∧ 1 ≤ fup (P 6) (P 0 1) d i ∧ fup (P 6) (P 0 1) d i ≤ 30 ∧ 1 ≤ fup (P 7) (P 0 1) w i ∧ fup (P 7) (P 0 1) w i ≤ 20
  rw [fup_at, fup_at, fup_at]
  by_cases c : i = P 0 1
  · rw [if_pos c, if_pos c, if_pos c]; omega
  · rw [if_neg c, if_neg c, if_neg c]
    exact v5 i (by omega)
theorem addR_valid {P : Pl} (hV : Valid P) {d : Nat} (h0 : P 0 3 < 6) (hd : 1 ≤ d ∧ d ≤ 30) : Valid (addR P d) := by
  obtain ⟨v0, v1, v2, v3, v4, v5, v6, v7⟩ := hV
  refine ⟨v0, v1, v2, show P 0 3 + 1 ≤ 6 by omega, v4, v5, v6, fun j hj => ?_⟩
  have hj : j < P 0 3 + 1 := hj
  show fup (P 9) (P 0 3) d j ≤ 30
  rw [fup_at]
  by_cases c : j = P 0 3
  · rw [if_pos c]; omega
  · rw [if_neg c]
    exact v7 j (by omega)
theorem wRow_8_valid {P : Pl} (hV : Valid P) {c s : Nat} (hs : s ≤ 60) : Valid (fup P 8 (fup (P 8) c s)) := by
  obtain ⟨v0, v1, v2, v3, v4, v5, v6, v7⟩ := hV
  refine ⟨v0, v1, v2, v3, v4, v5, fun j hj => ?_, v7⟩
  show fup (P 8) c s j ≤ 60
  rw [fup_at]
  split
  · exact hs
  · exact v6 j hj
theorem tellL_valid {P P' : Pl} {L : Nat} {l : List Nat} (hV : Valid P) (h : tellL P L l = some P') : Valid P' := by
  unfold tellL at h
  split at h
  · split at h
    · split at h
      · rename_i q
        cases h
        exact addE_valid hV q.1 q.2.1 q.2.2.1.2 q.2.2.2.2
      · cases h
    · split at h
      · split at h
        · rename_i q
          cases h
          exact addS_valid hV q.1 q.2.1 q.2.2.1 q.2.2.2
        · cases h
      · cases h
  · split at h
    · split at h
      · rename_i q
        cases h
        exact wRow_8_valid hV q.2.2
      · cases h
    · split at h
      · split at h
        · rename_i q
          cases h
          exact wRow_4_valid hV q.2.2
        · cases h
      · cases h
  · split at h
    · split at h
      · rename_i q
        cases h
        exact wRow_0_valid hV q.2
      · cases h
    · split at h
      · split at h
        · rename_i q
          cases h
          exact addR_valid hV q.1 q.2
        · cases h
      · cases h
  · cases h
theorem itemF_valid {T : Nat → Nat} {len a p' : Nat} {P P' : Pl} (hV : Valid P) (h : itemF T len P a = some (p', P')) : Valid P' := by
  unfold itemF at h
  cases hn : numL T len 3 (a + 1) with
  | none => rw [hn] at h; cases h
  | some q =>
    obtain ⟨l, p2⟩ := q
    rw [hn] at h
    dsimp only at h
    cases ht : tellL P (T a) l with
    | none => rw [ht] at h; cases h
    | some P2 =>
      rw [ht] at h
      cases h
      exact tellL_valid hV ht
theorem allF_valid {T : Nat → Nat} {len : Nat} : ∀ n P a, Valid P → Valid (allF T len n P a).1
  | 0, P, a, hV => hV
  | n + 1, P, a, hV => by
    rw [allF]
    split
    · cases hi : itemF T len P a with
      | none => exact hV
      | some q =>
        obtain ⟨p', P'⟩ := q
        exact allF_valid n P' p' (itemF_valid hV hi)
    · exact hV
theorem allF_lt {T : Nat → Nat} {len b : Nat} : ∀ n P a, (allF T len n P a).2 = some b → b < len
  | 0, P, a, h => by rw [allF] at h; cases h
  | n + 1, P, a, h => by
    rw [allF] at h
    split at h
    · rename_i q
      cases hi : itemF T len P a with
      | none => rw [hi] at h; cases h; exact q
      | some r =>
        obtain ⟨p', P'⟩ := r
        rw [hi] at h
        exact allF_lt n P' p' h
    · cases h
theorem faV_eq {R : Pl × Option Nat} (h : ∀ b, R.2 = some b → b < 400) : (faV R = -4) = (R.2 = none) := by
  obtain ⟨P, o⟩ := R
  cases o with
  | none => exact propext ⟨fun _ => rfl, fun _ => rfl⟩
  | some a =>
    have ha : a < 400 := h a rfl
    refine propext ⟨fun q => ?_, fun q => by cases q⟩
    have h1 : ¬ nI a < nI 0 := nI_not_neg (by omega)
    have e : nI a = -4 := q
    rw [e] at h1
    exact absurd (by decide) h1
-- the blocks one ahead of another
theorem rdset_in (h h2 : Hp) (len : Nat) (N : Nat → Nat) (P : Pl) {j : Nat} (h1 : j = 2 ∨ (4 ≤ j ∧ j ≤ 14)) : rdset h len N P j = rdset h2 len N P j := by
  unfold rdset pset
  split
  · rfl
  · split
    · rfl
    · split
      · rfl
      · split
        · rfl
        · omega
theorem w3_in (h h2 : Hp) (P : Pl) (Sb : Nat → Int32) (Ab : Nat → Nat → Nat) (S : Nat → Int32) (A : Nat → Nat → Nat) {j : Nat} (hj : (15 ≤ j ∧ j ≤ 24) ∨ (39 ≤ j ∧ j ≤ 43) ∨ (65 ≤ j ∧ j ≤ 74)) : W3 h P Sb Ab S A j = W3 h2 P Sb Ab S A j := by
  unfold W3
  by_cases c : 65 ≤ j ∧ j ≤ 74
  · rw [cset_in _ _ _ c.1 c.2, cset_in _ _ _ c.1 c.2]
  · rw [cset_ne _ _ _ (by omega), cset_ne _ _ _ (by omega)]
    by_cases c2 : 39 ≤ j ∧ j ≤ 43
    · rw [bset_in _ _ _ c2.1 c2.2, bset_in _ _ _ c2.1 c2.2]
    · rw [bset_ne _ _ _ (by omega), bset_ne _ _ _ (by omega)]
      unfold pset
      split
      · rfl
      · split
        · rfl
        · omega
theorem rd_w3 (h : Hp) (len : Nat) (N : Nat → Nat) (O P : Pl) (Sb : Nat → Int32) (Ab : Nat → Nat → Nat) (S : Nat → Int32) (A : Nat → Nat → Nat) : rdset (W3 h P Sb Ab S A) len N O = W3 (rdset h len N O) P Sb Ab S A := by
  funext j
  by_cases c : j = 2 ∨ (4 ≤ j ∧ j ≤ 14)
  · rw [w3_ne _ _ _ _ _ _ (by omega)]
    exact rdset_in _ _ _ _ _ c
  · rw [rdset_ne _ _ _ _ (by omega)]
    by_cases c2 : (15 ≤ j ∧ j ≤ 24) ∨ (39 ≤ j ∧ j ≤ 43) ∨ (65 ≤ j ∧ j ≤ 74)
    · exact w3_in _ _ _ _ _ _ _ c2
    · rw [w3_ne _ _ _ _ _ _ (by omega), w3_ne _ _ _ _ _ _ (by omega), rdset_ne _ _ _ _ (by omega)]
theorem w3_setP (h : Hp) (P O : Pl) (Sb : Nat → Int32) (Ab : Nat → Nat → Nat) (S : Nat → Int32) (A : Nat → Nat → Nat) : pset (W3 h P Sb Ab S A) 15 O = W3 h O Sb Ab S A := by
  funext j
  by_cases c : 15 ≤ j ∧ j ≤ 24
  · have e : W3 h O Sb Ab S A j = pset h 15 O j := by
      unfold W3
      rw [cset_ne _ _ _ (by omega), bset_ne _ _ _ (by omega)]
    rw [e]
    unfold pset
    split
    · rfl
    · split
      · rfl
      · omega
  · rw [pset_ne _ _ (by omega)]
    by_cases c2 : (39 ≤ j ∧ j ≤ 43) ∨ (65 ≤ j ∧ j ≤ 74)
    · unfold W3
      by_cases c3 : 65 ≤ j ∧ j ≤ 74
      · rw [cset_in _ _ _ c3.1 c3.2, cset_in _ _ _ c3.1 c3.2]
      · rw [cset_ne _ _ _ (by omega), cset_ne _ _ _ (by omega), bset_in _ _ _ (by omega) (by omega), bset_in _ _ _ (by omega) (by omega)]
    · rw [w3_ne _ _ _ _ _ _ (by omega), w3_ne _ _ _ _ _ _ (by omega)]
theorem w3_clear {h : Hp} {P : Pl} {Sb : Nat → Int32} {Ab : Nat → Nat → Nat} {S : Nat → Int32} {A : Nat → Nat → Nat} (z : Zc) (Q : Option Value → Zc → Hp → Prop) : Ev 100 (0, [some (.ref 65)], [], z, W3 h P Sb Ab S A) Q = Q none z (W3 h P Sb Ab (cv (nI 0) (nI 0)) A) := cclear_eq z Q
theorem slay_eq {h : Hp} {len : Nat} {T N : Nat → Nat} {P P0 : Pl} {Sb : Nat → Int32} {Ab : Nat → Nat → Nat} {S : Nat → Int32} {A : Nat → Nat → Nat} (hS : SO h len) (hT : ∀ j, T j ≤ 255) (h2 : h 3 = some (AI 300 T)) (hl : len ≤ 300) (h23 : h 2 = some (oR (.ref 3) (.int (nI len)) (.ref 4) (.ref 14))) (h24 : h 14 = some (AI 3 N)) (h13 : PlanC h 4 P0) (hN : ∀ k, N k < 100000) (z : Zc) (Q : Option Value → Zc → Hp → Prop) (R : Pl × Option Nat) (hR : allF T len 300 (noneP P0) 0 = R)
    (hQ : ∀ N', (∀ k, N' k < 100000) → (R.2 = none → R.1 0 0 ≠ 0 → Q (some (.int (nI (R.1 0 0)))) z (W3 (rdset h len N' R.1) R.1 (bv (nI 0) (Sb 1) (Sb 2)) Ab (cv (nI 0) (nI 0)) A)) ∧ (¬ (R.2 = none ∧ R.1 0 0 ≠ 0) → Q (some (.int (-2))) z (W3 (rdset h len N' R.1) P Sb Ab S A))) :
    Ev 5 (0, [some (.ref 1)], [], z, W3 h P Sb Ab S A) Q := by
  have o1 : ∀ h' P Sb Ab S A, W3 h' P Sb Ab S A 1 = h' 1 := fun h' P Sb Ab S A => w3_ne h' P Sb Ab S A (by omega)
  have o2 : ∀ h' P Sb Ab S A, W3 h' P Sb Ab S A 3 = h' 3 := fun h' P Sb Ab S A => w3_ne h' P Sb Ab S A (by omega)
  have o23 : ∀ h' P Sb Ab S A, W3 h' P Sb Ab S A 2 = h' 2 := fun h' P Sb Ab S A => w3_ne h' P Sb Ab S A (by omega)
  have o24 : ∀ h' P Sb Ab S A, W3 h' P Sb Ab S A 14 = h' 14 := fun h' P Sb Ab S A => w3_ne h' P Sb Ab S A (by omega)
  have oq : ∀ h' P Sb Ab S A, W3 h' P Sb Ab S A 4 = h' 4 := fun h' P Sb Ab S A => w3_ne h' P Sb Ab S A (by omega)
  have hS' := hS
  unfold SO at hS
  simp only [m5_0, m5_1, m5_4, ob_some, pushr_s, pushr_n, iget_eq, gf_eq, pf_eq, ck_eq, alen_eq, rget_eq, iset_eq, Option.bind_some, Option.map_some, Option.elim_some, hput_at, ↓reduceIte, Nat.reduceEqDiff, Nat.reduceAdd, ne_eq, not_false_eq_true, oS_ck, oS_g0, oS_p0, oS_g1, oS_p1, oS_g2, oS_p2, oS_g3, oS_p3, oS_g4, oS_p4, oS_g5, oS_p5, oS_g6, oS_p6, oP_ck, oP_g0, oP_p0, oP_g1, oP_p1, oP_g2, oP_p2, oP_g3, oP_p3, oP_g4, oP_p4, oP_g5, oP_p5, oP_g6, oP_p6, oP_g7, oP_p7, oP_g8, oP_p8, oP_g9, oP_p9, oP_g10, oP_p10, oP_g11, oP_p11, oP_g12, oP_p12, oR_ck, oR_g0, oR_p0, oR_g1, oR_p1, oR_g2, oR_p2, oR_g3, oR_p3, oG_ck, oG_g0, oG_p0, oG_g1, oG_p1, oG_g2, oG_p2, oW_ck, oW_g0, oW_p0, oW_g1, oW_p1, oW_g2, oW_p2, oB_ck, oB_g0, oB_p0, oB_g1, oB_p1, oB_g2, oB_p2, oB_g3, oB_p3, oB_g4, oB_p4, oB_g5, oB_p5, oB_g6, oB_p6, oC_ck, oC_g0, oC_p0, oC_g1, oC_p1, oC_g2, oC_p2, oC_g3, oC_p3, oC_g4, oC_p4, oC_g5, oC_p5, oC_g6, oC_p6, oH_ck, oH_g0, oH_p0, oH_g1, oH_p1, oH_g2, oH_p2, oH_g3, oH_p3, oM_ck, oM_g0, oM_p0, oM_g1, oM_p1, oM_g2, oM_p2, oM_g3, oM_p3, oM_g4, oM_p4, oM_g5, oM_p5, oM_g6, oM_p6, oM_g7, oM_p7, oM_g8, oM_p8, oM_g9, oM_p9, oM_g10, oM_p10, oM_g11, oM_p11, oM_g12, oM_p12, oM_g13, oM_p13, oM_g14, oM_p14, oM_g15, oM_p15, oM_g16, oM_p16, oM_g17, oM_p17, oM_g18, oM_p18, oM_g19, oM_p19, oM_g20, oM_p20, oM_g21, oM_p21, oM_g22, oM_p22, oM_g23, oM_p23, oM_g24, oM_p24, oM_g25, oM_p25, oM_g26, oM_p26, oM_g27, oM_p27, oM_g28, oM_p28, oM_g29, oM_p29, o1, hS, o23, h23]
  refine firstFault_eq (h := W3 h P Sb Ab S A) (P0 := P0) hT ((o2 ..).trans h2) hl ((o23 ..).trans h23) ((o24 ..).trans h24) (h13.same (fun j a b => w3_ne h P Sb Ab S A (by omega))) hN z _ (fun N' hN' => ?_)
  have hlt := fun b hb => allF_lt (T := T) (len := len) (b := b) 300 (noneP P0) 0 hb
  have hv := allF_valid (T := T) (len := len) 300 (noneP P0) 0 (noneP_valid P0)
  rw [hR] at hlt hv ⊢
  obtain ⟨q1, q2⟩ := hQ N' hN'
  have ef : (faV R = -4) = (R.2 = none) := faV_eq (fun b hb => by have := hlt b hb; omega)
  have v0 := hv.1
  have r1 : rdset h len N' R.1 1 = h 1 := rdset_ne _ _ _ _ (by omega)
  have rP := rdset_P h len N' R.1
  have rq := rP.2.1
  have l0 := neq (a := R.1 0 0) (b := 0) (by omega) (by decide)
  rw [rd_w3]
  simp only [pushr_s]
  by_cases c1 : R.2 = none
  · by_cases c2 : R.1 0 0 = 0
    · have q := q2 (fun r => r.2 c2)
      simp only [m5_7, m5_9, m5_12, m5_13, m5_16, m5_19, m5_22, m5_25, m5_27, ob_some, pushr_s, pushr_n, iget_eq, gf_eq, pf_eq, ck_eq, alen_eq, rget_eq, iset_eq, Option.bind_some, Option.map_some, Option.elim_some, hput_at, ↓reduceIte, Nat.reduceEqDiff, Nat.reduceAdd, ne_eq, not_false_eq_true, oS_ck, oS_g0, oS_p0, oS_g1, oS_p1, oS_g2, oS_p2, oS_g3, oS_p3, oS_g4, oS_p4, oS_g5, oS_p5, oS_g6, oS_p6, oP_ck, oP_g0, oP_p0, oP_g1, oP_p1, oP_g2, oP_p2, oP_g3, oP_p3, oP_g4, oP_p4, oP_g5, oP_p5, oP_g6, oP_p6, oP_g7, oP_p7, oP_g8, oP_p8, oP_g9, oP_p9, oP_g10, oP_p10, oP_g11, oP_p11, oP_g12, oP_p12, oR_ck, oR_g0, oR_p0, oR_g1, oR_p1, oR_g2, oR_p2, oR_g3, oR_p3, oG_ck, oG_g0, oG_p0, oG_g1, oG_p1, oG_g2, oG_p2, oW_ck, oW_g0, oW_p0, oW_g1, oW_p1, oW_g2, oW_p2, oB_ck, oB_g0, oB_p0, oB_g1, oB_p1, oB_g2, oB_p2, oB_g3, oB_p3, oB_g4, oB_p4, oB_g5, oB_p5, oB_g6, oB_p6, oC_ck, oC_g0, oC_p0, oC_g1, oC_p1, oC_g2, oC_p2, oC_g3, oC_p3, oC_g4, oC_p4, oC_g5, oC_p5, oC_g6, oC_p6, oH_ck, oH_g0, oH_p0, oH_g1, oH_p1, oH_g2, oH_p2, oH_g3, oH_p3, oM_ck, oM_g0, oM_p0, oM_g1, oM_p1, oM_g2, oM_p2, oM_g3, oM_p3, oM_g4, oM_p4, oM_g5, oM_p5, oM_g6, oM_p6, oM_g7, oM_p7, oM_g8, oM_p8, oM_g9, oM_p9, oM_g10, oM_p10, oM_g11, oM_p11, oM_g12, oM_p12, oM_g13, oM_p13, oM_g14, oM_p14, oM_g15, oM_p15, oM_g16, oM_p16, oM_g17, oM_p17, oM_g18, oM_p18, oM_g19, oM_p19, oM_g20, oM_p20, oM_g21, oM_p21, oM_g22, oM_p22, oM_g23, oM_p23, oM_g24, oM_p24, oM_g25, oM_p25, oM_g26, oM_p26, oM_g27, oM_p27, oM_g28, oM_p28, oM_g29, oM_p29, ef, c1, if_true, o1, o23, oq, r1, hS, rdset_23, rq, l0, c2]
      exact q
    · have q := q1 c1 c2
      have hc := fun Q => copyFrom_eq (w3_P (rdset h len N' R.1) P Sb Ab S A) (rP.same (h' := W3 (rdset h len N' R.1) P Sb Ab S A) (fun j a b => w3_ne _ P Sb Ab S A (by omega))) (by omega) z Q
      simp only [w3_setP] at hc
      simp only [m5_7, m5_9, m5_12, m5_13, m5_16, m5_19, m5_22, m5_28, m5_29, m5_32, m5_33, m5_36, m5_39, m5_42, m5_43, m5_46, m5_49, m5_50, m5_53, m5_56, m5_57, m5_60, m5_63, ob_some, pushr_s, pushr_n, iget_eq, gf_eq, pf_eq, ck_eq, alen_eq, rget_eq, iset_eq, Option.bind_some, Option.map_some, Option.elim_some, hput_at, ↓reduceIte, Nat.reduceEqDiff, Nat.reduceAdd, ne_eq, not_false_eq_true, oS_ck, oS_g0, oS_p0, oS_g1, oS_p1, oS_g2, oS_p2, oS_g3, oS_p3, oS_g4, oS_p4, oS_g5, oS_p5, oS_g6, oS_p6, oP_ck, oP_g0, oP_p0, oP_g1, oP_p1, oP_g2, oP_p2, oP_g3, oP_p3, oP_g4, oP_p4, oP_g5, oP_p5, oP_g6, oP_p6, oP_g7, oP_p7, oP_g8, oP_p8, oP_g9, oP_p9, oP_g10, oP_p10, oP_g11, oP_p11, oP_g12, oP_p12, oR_ck, oR_g0, oR_p0, oR_g1, oR_p1, oR_g2, oR_p2, oR_g3, oR_p3, oG_ck, oG_g0, oG_p0, oG_g1, oG_p1, oG_g2, oG_p2, oW_ck, oW_g0, oW_p0, oW_g1, oW_p1, oW_g2, oW_p2, oB_ck, oB_g0, oB_p0, oB_g1, oB_p1, oB_g2, oB_p2, oB_g3, oB_p3, oB_g4, oB_p4, oB_g5, oB_p5, oB_g6, oB_p6, oC_ck, oC_g0, oC_p0, oC_g1, oC_p1, oC_g2, oC_p2, oC_g3, oC_p3, oC_g4, oC_p4, oC_g5, oC_p5, oC_g6, oC_p6, oH_ck, oH_g0, oH_p0, oH_g1, oH_p1, oH_g2, oH_p2, oH_g3, oH_p3, oM_ck, oM_g0, oM_p0, oM_g1, oM_p1, oM_g2, oM_p2, oM_g3, oM_p3, oM_g4, oM_p4, oM_g5, oM_p5, oM_g6, oM_p6, oM_g7, oM_p7, oM_g8, oM_p8, oM_g9, oM_p9, oM_g10, oM_p10, oM_g11, oM_p11, oM_g12, oM_p12, oM_g13, oM_p13, oM_g14, oM_p14, oM_g15, oM_p15, oM_g16, oM_p16, oM_g17, oM_p17, oM_g18, oM_p18, oM_g19, oM_p19, oM_g20, oM_p20, oM_g21, oM_p21, oM_g22, oM_p22, oM_g23, oM_p23, oM_g24, oM_p24, oM_g25, oM_p25, oM_g26, oM_p26, oM_g27, oM_p27, oM_g28, oM_p28, oM_g29, oM_p29, w3_c, w3_bo, w3_po, w3_p7, w3_p2, w3_r7, w3_r2, w3_forget, ef, c1, if_true, o1, o23, oq, r1, hS, rdset_23, rq, l0, c2, if_false, hc, w3_clear]
      exact q
  · have q := q2 (fun r => c1 r.1)
    simp only [m5_7, m5_9, m5_25, m5_27, ef, c1, if_false]
    exact q
