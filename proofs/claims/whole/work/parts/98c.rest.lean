/-! what the constructors make, rest -/
theorem n2lit : nI 2 = (2 : Int32) := rfl
set_option maxHeartbeats 2000000 in
theorem iC_65 (h : Hp) (hp : h 65 = some (oC (.int (nI 0)) .null .null .null (.int (nI 0)) .null .null)) (Q : Option Value → Zc → Hp → Prop) : Ev 99 (0, [some (.ref 65)], [], (65, 717), h) Q = Q none (74, 763) (hput (hput (hput (hput (hput (hput (hput (hput (hput (hput h 65 (oC (.int (nI 0)) (.ref 66) (.ref 67) (.ref 68) (.int (nI 0)) (.ref 69) (.ref 72))) 66 (AZ 8 zF)) 67 (AI 8 zF)) 68 (AI 8 zF)) 69 (.inr (.inr (.inr (1, [some 70, some 71]))))) 70 (AI 6 zF)) 71 (AI 6 zF)) 72 (.inr (.inr (.inr (1, [some 73, some 74]))))) 73 (AI 3 zF)) 74 (AI 3 zF)) := by
  simp only [m99_0, m99_1, m99_4, m99_5, m99_7, m99_9, m99_12, m99_13, m99_15, m99_17, m99_20, m99_21, m99_23, m99_25, m99_28, m99_29, m99_30, m99_32, m99_36, m99_39, m99_40, m99_41, m99_42, m99_46, m99_49, ob_some, pushr_s, pushr_n, iget_eq, gf_eq, pf_eq, ck_eq, alen_eq, rget_eq, iset_eq, Option.bind_some, Option.map_some, Option.elim_some, hput_at, ↓reduceIte, Nat.reduceEqDiff, Nat.reduceAdd, ne_eq, not_false_eq_true, oS_ck, oS_g0, oS_p0, oS_g1, oS_p1, oS_g2, oS_p2, oS_g3, oS_p3, oS_g4, oS_p4, oS_g5, oS_p5, oS_g6, oS_p6, oP_ck, oP_g0, oP_p0, oP_g1, oP_p1, oP_g2, oP_p2, oP_g3, oP_p3, oP_g4, oP_p4, oP_g5, oP_p5, oP_g6, oP_p6, oP_g7, oP_p7, oP_g8, oP_p8, oP_g9, oP_p9, oP_g10, oP_p10, oP_g11, oP_p11, oP_g12, oP_p12, oR_ck, oR_g0, oR_p0, oR_g1, oR_p1, oR_g2, oR_p2, oR_g3, oR_p3, oG_ck, oG_g0, oG_p0, oG_g1, oG_p1, oG_g2, oG_p2, oW_ck, oW_g0, oW_p0, oW_g1, oW_p1, oW_g2, oW_p2, oB_ck, oB_g0, oB_p0, oB_g1, oB_p1, oB_g2, oB_p2, oB_g3, oB_p3, oB_g4, oB_p4, oB_g5, oB_p5, oB_g6, oB_p6, oC_ck, oC_g0, oC_p0, oC_g1, oC_p1, oC_g2, oC_p2, oC_g3, oC_p3, oC_g4, oC_p4, oC_g5, oC_p5, oC_g6, oC_p6, oH_ck, oH_g0, oH_p0, oH_g1, oH_p1, oH_g2, oH_p2, oH_g3, oH_p3, oM_ck, oM_g0, oM_p0, oM_g1, oM_p1, oM_g2, oM_p2, oM_g3, oM_p3, oM_g4, oM_p4, oM_g5, oM_p5, oM_g6, oM_p6, oM_g7, oM_p7, oM_g8, oM_p8, oM_g9, oM_p9, oM_g10, oM_p10, oM_g11, oM_p11, oM_g12, oM_p12, oM_g13, oM_p13, oM_g14, oM_p14, oM_g15, oM_p15, oM_g16, oM_p16, oM_g17, oM_p17, oM_g18, oM_p18, oM_g19, oM_p19, oM_g20, oM_p20, oM_g21, oM_p21, oM_g22, oM_p22, oM_g23, oM_p23, oM_g24, oM_p24, oM_g25, oM_p25, oM_g26, oM_p26, oM_g27, oM_p27, oM_g28, oM_p28, oM_g29, oM_p29, ng3, nc3, ng6, nc6, ng7, nc7, ng8, nc8, ng10, nc10, ng12, nc12, ng20, nc20, ng24, nc24, ng41, nc41, ng300, nc300, n2lit, rplI, rplZ, rplJ, bl0, bl1, bl2, bl3, bl4, bl5, bl6, bl7, bl8, Nat.reduceLeDiff, not_false_eq_true, hp]
  refine congrArg (Q none (74, 763)) (funext fun j => ?_)
  by_cases c : 65 ≤ j ∧ j ≤ 74
  · obtain ⟨k, rfl⟩ : ∃ k, j = 65 + k := ⟨j - 65, by omega⟩
    have hk : k < 10 := by omega
    match k, hk with
    | 0, _ => rfl
    | 1, _ => rfl
    | 2, _ => rfl
    | 3, _ => rfl
    | 4, _ => rfl
    | 5, _ => rfl
    | 6, _ => rfl
    | 7, _ => rfl
    | 8, _ => rfl
    | 9, _ => rfl
    | k + 10, q => omega
  · have ne : ∀ a : Nat, 65 ≤ a → a ≤ 74 → (j = a) = False := fun a a1 a2 => eq_false (by omega)
    simp only [hput_at, ne 65 (by decide) (by decide), ne 66 (by decide) (by decide), ne 67 (by decide) (by decide), ne 68 (by decide) (by decide), ne 69 (by decide) (by decide), ne 70 (by decide) (by decide), ne 71 (by decide) (by decide), ne 72 (by decide) (by decide), ne 73 (by decide) (by decide), ne 74 (by decide) (by decide), if_false]
set_option maxHeartbeats 2000000 in
theorem iH_75 (h : Hp) (hp : h 75 = some (oH (.long (jN 0)) (.long (jN 0)) .null .null)) (Q : Option Value → Zc → Hp → Prop) : Ev 95 (0, [some (.ref 75)], [], (75, 767), h) Q = Q none (77, 849) (hput (hput (hput h 75 (oH (.long (jN 0)) (.long (jN 0)) (.ref 76) (.ref 77))) 76 (AN 41 zF)) 77 (AN 41 zF)) := by
  simp only [m95_0, m95_1, m95_4, m95_5, m95_7, m95_9, m95_12, m95_13, m95_15, m95_17, m95_20, ob_some, pushr_s, pushr_n, iget_eq, gf_eq, pf_eq, ck_eq, alen_eq, rget_eq, iset_eq, Option.bind_some, Option.map_some, Option.elim_some, hput_at, ↓reduceIte, Nat.reduceEqDiff, Nat.reduceAdd, ne_eq, not_false_eq_true, oS_ck, oS_g0, oS_p0, oS_g1, oS_p1, oS_g2, oS_p2, oS_g3, oS_p3, oS_g4, oS_p4, oS_g5, oS_p5, oS_g6, oS_p6, oP_ck, oP_g0, oP_p0, oP_g1, oP_p1, oP_g2, oP_p2, oP_g3, oP_p3, oP_g4, oP_p4, oP_g5, oP_p5, oP_g6, oP_p6, oP_g7, oP_p7, oP_g8, oP_p8, oP_g9, oP_p9, oP_g10, oP_p10, oP_g11, oP_p11, oP_g12, oP_p12, oR_ck, oR_g0, oR_p0, oR_g1, oR_p1, oR_g2, oR_p2, oR_g3, oR_p3, oG_ck, oG_g0, oG_p0, oG_g1, oG_p1, oG_g2, oG_p2, oW_ck, oW_g0, oW_p0, oW_g1, oW_p1, oW_g2, oW_p2, oB_ck, oB_g0, oB_p0, oB_g1, oB_p1, oB_g2, oB_p2, oB_g3, oB_p3, oB_g4, oB_p4, oB_g5, oB_p5, oB_g6, oB_p6, oC_ck, oC_g0, oC_p0, oC_g1, oC_p1, oC_g2, oC_p2, oC_g3, oC_p3, oC_g4, oC_p4, oC_g5, oC_p5, oC_g6, oC_p6, oH_ck, oH_g0, oH_p0, oH_g1, oH_p1, oH_g2, oH_p2, oH_g3, oH_p3, oM_ck, oM_g0, oM_p0, oM_g1, oM_p1, oM_g2, oM_p2, oM_g3, oM_p3, oM_g4, oM_p4, oM_g5, oM_p5, oM_g6, oM_p6, oM_g7, oM_p7, oM_g8, oM_p8, oM_g9, oM_p9, oM_g10, oM_p10, oM_g11, oM_p11, oM_g12, oM_p12, oM_g13, oM_p13, oM_g14, oM_p14, oM_g15, oM_p15, oM_g16, oM_p16, oM_g17, oM_p17, oM_g18, oM_p18, oM_g19, oM_p19, oM_g20, oM_p20, oM_g21, oM_p21, oM_g22, oM_p22, oM_g23, oM_p23, oM_g24, oM_p24, oM_g25, oM_p25, oM_g26, oM_p26, oM_g27, oM_p27, oM_g28, oM_p28, oM_g29, oM_p29, ng2, nc2, ng3, nc3, ng6, nc6, ng7, nc7, ng8, nc8, ng10, nc10, ng12, nc12, ng20, nc20, ng24, nc24, ng41, nc41, ng300, nc300, rplI, rplZ, rplJ, bl0, bl1, bl2, bl3, bl4, bl5, bl6, bl7, bl8, Nat.reduceLeDiff, not_false_eq_true, hp]
  refine congrArg (Q none (77, 849)) (funext fun j => ?_)
  by_cases c : 75 ≤ j ∧ j ≤ 77
  · obtain ⟨k, rfl⟩ : ∃ k, j = 75 + k := ⟨j - 75, by omega⟩
    have hk : k < 3 := by omega
    match k, hk with
    | 0, _ => rfl
    | 1, _ => rfl
    | 2, _ => rfl
    | k + 3, q => omega
  · have ne : ∀ a : Nat, 75 ≤ a → a ≤ 77 → (j = a) = False := fun a a1 a2 => eq_false (by omega)
    simp only [hput_at, ne 75 (by decide) (by decide), ne 76 (by decide) (by decide), ne 77 (by decide) (by decide), if_false]
def hS (sc : List Int32) : Hp := (hput (hput (hput (hput (hput (hput (hput (hput (hput (hput (hput (hput (hput (hput (hput (hput (hput (hput (hput (hput (hput (hput (hput (hput (hput (hput (hput (hput (hput (hput (hput (hput (hput (hput (hput (hput (hput (hput (hput (hput (hput (hput (hput (hput (hput (hput (hput (hput (hput (hput (hput (hput (hput (hput (hput (hput (hput (hput (hput (hput (hput (hput (hput (hput (hput (hput (hput (hput (hput (hput (hput (hput (hput (hput (hput (hput (hput (heap0 sc) 1 (oS (.ref 2) (.ref 15) (.ref 25) (.ref 35) (.ref 39) (.ref 65) (.ref 75))) 2 (oR (.ref 3) (.int (nI 0)) (.ref 4) (.ref 14))) 3 (AI 300 zF)) 4 (oP (.int (nI 0)) (.ref 5) (.ref 6) (.ref 7) (.ref 8) (.int (nI 0)) (.ref 9) (.ref 10) (.ref 11) (.ref 12) (.int (nI 0)) (.int (nI 0)) (.ref 13))) 5 (AI 3 zF)) 6 (AI 3 zF)) 7 (AI 3 zF)) 8 (AI 3 zF)) 9 (AI 6 zF)) 10 (AI 6 zF)) 11 (AI 6 zF)) 12 (AI 10 zF)) 13 (AI 6 zF)) 14 (AI 3 zF)) 15 (oP (.int (nI 0)) (.ref 16) (.ref 17) (.ref 18) (.ref 19) (.int (nI 0)) (.ref 20) (.ref 21) (.ref 22) (.ref 23) (.int (nI 0)) (.int (nI 0)) (.ref 24))) 16 (AI 3 zF)) 17 (AI 3 zF)) 18 (AI 3 zF)) 19 (AI 3 zF)) 20 (AI 6 zF)) 21 (AI 6 zF)) 22 (AI 6 zF)) 23 (AI 10 zF)) 24 (AI 6 zF)) 25 (oP (.int (nI 0)) (.ref 26) (.ref 27) (.ref 28) (.ref 29) (.int (nI 0)) (.ref 30) (.ref 31) (.ref 32) (.ref 33) (.int (nI 0)) (.int (nI 0)) (.ref 34))) 26 (AI 3 zF)) 27 (AI 3 zF)) 28 (AI 3 zF)) 29 (AI 3 zF)) 30 (AI 6 zF)) 31 (AI 6 zF)) 32 (AI 6 zF)) 33 (AI 10 zF)) 34 (AI 6 zF)) 35 (oG (.ref 36) (.int (nI 0)) (.int (nI 0)))) 36 (oW (.ref 37) (.ref 38) (.int (nI 0)))) 37 (AI 10 zF)) 38 (AI 10 zF)) 39 (oB (.int (nI 0)) (.int (nI 0)) (.ref 40) (.int (nI 0)) (.ref 41) (.ref 42) (.ref 43))) 40 (AI 6 zF)) 41 (AI 6 zF)) 42 (AI 6 zF)) 43 (.inr (.inr (.inr (0, [some 44, some 47, some 50, some 53, some 56, some 59, some 62]))))) 44 (oW (.ref 45) (.ref 46) (.int (nI 0)))) 45 (AI 10 zF)) 46 (AI 10 zF)) 47 (oW (.ref 48) (.ref 49) (.int (nI 0)))) 48 (AI 10 zF)) 49 (AI 10 zF)) 50 (oW (.ref 51) (.ref 52) (.int (nI 0)))) 51 (AI 10 zF)) 52 (AI 10 zF)) 53 (oW (.ref 54) (.ref 55) (.int (nI 0)))) 54 (AI 10 zF)) 55 (AI 10 zF)) 56 (oW (.ref 57) (.ref 58) (.int (nI 0)))) 57 (AI 10 zF)) 58 (AI 10 zF)) 59 (oW (.ref 60) (.ref 61) (.int (nI 0)))) 60 (AI 10 zF)) 61 (AI 10 zF)) 62 (oW (.ref 63) (.ref 64) (.int (nI 0)))) 63 (AI 10 zF)) 64 (AI 10 zF)) 65 (oC (.int (nI 0)) (.ref 66) (.ref 67) (.ref 68) (.int (nI 0)) (.ref 69) (.ref 72))) 66 (AZ 8 zF)) 67 (AI 8 zF)) 68 (AI 8 zF)) 69 (.inr (.inr (.inr (1, [some 70, some 71]))))) 70 (AI 6 zF)) 71 (AI 6 zF)) 72 (.inr (.inr (.inr (1, [some 73, some 74]))))) 73 (AI 3 zF)) 74 (AI 3 zF)) 75 (oH (.long (jN 0)) (.long (jN 0)) (.ref 76) (.ref 77))) 76 (AN 41 zF)) 77 (AN 41 zF))
theorem heap0_0 (sc : List Int32) : heap0 sc 0 = some (.inr (.inl (false, sc))) := rfl
theorem hS_0 (sc : List Int32) : hS sc 0 = some (.inr (.inl (false, sc))) := by unfold hS; simp only [heap0_0, hput_at, ↓reduceIte, Nat.reduceEqDiff]
theorem hS_1 (sc : List Int32) : hS sc 1 = some (oS (.ref 2) (.ref 15) (.ref 25) (.ref 35) (.ref 39) (.ref 65) (.ref 75)) := by unfold hS; simp only [heap0_0, hput_at, ↓reduceIte, Nat.reduceEqDiff]
theorem hS_2 (sc : List Int32) : hS sc 2 = some (oR (.ref 3) (.int (nI 0)) (.ref 4) (.ref 14)) := by unfold hS; simp only [heap0_0, hput_at, ↓reduceIte, Nat.reduceEqDiff]
theorem hS_3 (sc : List Int32) : hS sc 3 = some (AI 300 zF) := by unfold hS; simp only [heap0_0, hput_at, ↓reduceIte, Nat.reduceEqDiff]
theorem hS_4 (sc : List Int32) : hS sc 4 = some (oP (.int (nI 0)) (.ref 5) (.ref 6) (.ref 7) (.ref 8) (.int (nI 0)) (.ref 9) (.ref 10) (.ref 11) (.ref 12) (.int (nI 0)) (.int (nI 0)) (.ref 13)) := by unfold hS; simp only [heap0_0, hput_at, ↓reduceIte, Nat.reduceEqDiff]
theorem hS_5 (sc : List Int32) : hS sc 5 = some (AI 3 zF) := by unfold hS; simp only [heap0_0, hput_at, ↓reduceIte, Nat.reduceEqDiff]
theorem hS_6 (sc : List Int32) : hS sc 6 = some (AI 3 zF) := by unfold hS; simp only [heap0_0, hput_at, ↓reduceIte, Nat.reduceEqDiff]
theorem hS_7 (sc : List Int32) : hS sc 7 = some (AI 3 zF) := by unfold hS; simp only [heap0_0, hput_at, ↓reduceIte, Nat.reduceEqDiff]
theorem hS_8 (sc : List Int32) : hS sc 8 = some (AI 3 zF) := by unfold hS; simp only [heap0_0, hput_at, ↓reduceIte, Nat.reduceEqDiff]
theorem hS_9 (sc : List Int32) : hS sc 9 = some (AI 6 zF) := by unfold hS; simp only [heap0_0, hput_at, ↓reduceIte, Nat.reduceEqDiff]
theorem hS_10 (sc : List Int32) : hS sc 10 = some (AI 6 zF) := by unfold hS; simp only [heap0_0, hput_at, ↓reduceIte, Nat.reduceEqDiff]
theorem hS_11 (sc : List Int32) : hS sc 11 = some (AI 6 zF) := by unfold hS; simp only [heap0_0, hput_at, ↓reduceIte, Nat.reduceEqDiff]
theorem hS_12 (sc : List Int32) : hS sc 12 = some (AI 10 zF) := by unfold hS; simp only [heap0_0, hput_at, ↓reduceIte, Nat.reduceEqDiff]
theorem hS_13 (sc : List Int32) : hS sc 13 = some (AI 6 zF) := by unfold hS; simp only [heap0_0, hput_at, ↓reduceIte, Nat.reduceEqDiff]
theorem hS_14 (sc : List Int32) : hS sc 14 = some (AI 3 zF) := by unfold hS; simp only [heap0_0, hput_at, ↓reduceIte, Nat.reduceEqDiff]
theorem hS_15 (sc : List Int32) : hS sc 15 = some (oP (.int (nI 0)) (.ref 16) (.ref 17) (.ref 18) (.ref 19) (.int (nI 0)) (.ref 20) (.ref 21) (.ref 22) (.ref 23) (.int (nI 0)) (.int (nI 0)) (.ref 24)) := by unfold hS; simp only [heap0_0, hput_at, ↓reduceIte, Nat.reduceEqDiff]
theorem hS_16 (sc : List Int32) : hS sc 16 = some (AI 3 zF) := by unfold hS; simp only [heap0_0, hput_at, ↓reduceIte, Nat.reduceEqDiff]
theorem hS_17 (sc : List Int32) : hS sc 17 = some (AI 3 zF) := by unfold hS; simp only [heap0_0, hput_at, ↓reduceIte, Nat.reduceEqDiff]
theorem hS_18 (sc : List Int32) : hS sc 18 = some (AI 3 zF) := by unfold hS; simp only [heap0_0, hput_at, ↓reduceIte, Nat.reduceEqDiff]
theorem hS_19 (sc : List Int32) : hS sc 19 = some (AI 3 zF) := by unfold hS; simp only [heap0_0, hput_at, ↓reduceIte, Nat.reduceEqDiff]
theorem hS_20 (sc : List Int32) : hS sc 20 = some (AI 6 zF) := by unfold hS; simp only [heap0_0, hput_at, ↓reduceIte, Nat.reduceEqDiff]
theorem hS_21 (sc : List Int32) : hS sc 21 = some (AI 6 zF) := by unfold hS; simp only [heap0_0, hput_at, ↓reduceIte, Nat.reduceEqDiff]
theorem hS_22 (sc : List Int32) : hS sc 22 = some (AI 6 zF) := by unfold hS; simp only [heap0_0, hput_at, ↓reduceIte, Nat.reduceEqDiff]
theorem hS_23 (sc : List Int32) : hS sc 23 = some (AI 10 zF) := by unfold hS; simp only [heap0_0, hput_at, ↓reduceIte, Nat.reduceEqDiff]
theorem hS_24 (sc : List Int32) : hS sc 24 = some (AI 6 zF) := by unfold hS; simp only [heap0_0, hput_at, ↓reduceIte, Nat.reduceEqDiff]
theorem hS_25 (sc : List Int32) : hS sc 25 = some (oP (.int (nI 0)) (.ref 26) (.ref 27) (.ref 28) (.ref 29) (.int (nI 0)) (.ref 30) (.ref 31) (.ref 32) (.ref 33) (.int (nI 0)) (.int (nI 0)) (.ref 34)) := by unfold hS; simp only [heap0_0, hput_at, ↓reduceIte, Nat.reduceEqDiff]
theorem hS_26 (sc : List Int32) : hS sc 26 = some (AI 3 zF) := by unfold hS; simp only [heap0_0, hput_at, ↓reduceIte, Nat.reduceEqDiff]
theorem hS_27 (sc : List Int32) : hS sc 27 = some (AI 3 zF) := by unfold hS; simp only [heap0_0, hput_at, ↓reduceIte, Nat.reduceEqDiff]
theorem hS_28 (sc : List Int32) : hS sc 28 = some (AI 3 zF) := by unfold hS; simp only [heap0_0, hput_at, ↓reduceIte, Nat.reduceEqDiff]
theorem hS_29 (sc : List Int32) : hS sc 29 = some (AI 3 zF) := by unfold hS; simp only [heap0_0, hput_at, ↓reduceIte, Nat.reduceEqDiff]
theorem hS_30 (sc : List Int32) : hS sc 30 = some (AI 6 zF) := by unfold hS; simp only [heap0_0, hput_at, ↓reduceIte, Nat.reduceEqDiff]
theorem hS_31 (sc : List Int32) : hS sc 31 = some (AI 6 zF) := by unfold hS; simp only [heap0_0, hput_at, ↓reduceIte, Nat.reduceEqDiff]
theorem hS_32 (sc : List Int32) : hS sc 32 = some (AI 6 zF) := by unfold hS; simp only [heap0_0, hput_at, ↓reduceIte, Nat.reduceEqDiff]
theorem hS_33 (sc : List Int32) : hS sc 33 = some (AI 10 zF) := by unfold hS; simp only [heap0_0, hput_at, ↓reduceIte, Nat.reduceEqDiff]
theorem hS_34 (sc : List Int32) : hS sc 34 = some (AI 6 zF) := by unfold hS; simp only [heap0_0, hput_at, ↓reduceIte, Nat.reduceEqDiff]
theorem hS_35 (sc : List Int32) : hS sc 35 = some (oG (.ref 36) (.int (nI 0)) (.int (nI 0))) := by unfold hS; simp only [heap0_0, hput_at, ↓reduceIte, Nat.reduceEqDiff]
theorem hS_36 (sc : List Int32) : hS sc 36 = some (oW (.ref 37) (.ref 38) (.int (nI 0))) := by unfold hS; simp only [heap0_0, hput_at, ↓reduceIte, Nat.reduceEqDiff]
theorem hS_37 (sc : List Int32) : hS sc 37 = some (AI 10 zF) := by unfold hS; simp only [heap0_0, hput_at, ↓reduceIte, Nat.reduceEqDiff]
theorem hS_38 (sc : List Int32) : hS sc 38 = some (AI 10 zF) := by unfold hS; simp only [heap0_0, hput_at, ↓reduceIte, Nat.reduceEqDiff]
theorem hS_39 (sc : List Int32) : hS sc 39 = some (oB (.int (nI 0)) (.int (nI 0)) (.ref 40) (.int (nI 0)) (.ref 41) (.ref 42) (.ref 43)) := by unfold hS; simp only [heap0_0, hput_at, ↓reduceIte, Nat.reduceEqDiff]
theorem hS_40 (sc : List Int32) : hS sc 40 = some (AI 6 zF) := by unfold hS; simp only [heap0_0, hput_at, ↓reduceIte, Nat.reduceEqDiff]
theorem hS_41 (sc : List Int32) : hS sc 41 = some (AI 6 zF) := by unfold hS; simp only [heap0_0, hput_at, ↓reduceIte, Nat.reduceEqDiff]
theorem hS_42 (sc : List Int32) : hS sc 42 = some (AI 6 zF) := by unfold hS; simp only [heap0_0, hput_at, ↓reduceIte, Nat.reduceEqDiff]
theorem hS_43 (sc : List Int32) : hS sc 43 = some (.inr (.inr (.inr (0, [some 44, some 47, some 50, some 53, some 56, some 59, some 62])))) := by unfold hS; simp only [heap0_0, hput_at, ↓reduceIte, Nat.reduceEqDiff]
theorem hS_44 (sc : List Int32) : hS sc 44 = some (oW (.ref 45) (.ref 46) (.int (nI 0))) := by unfold hS; simp only [heap0_0, hput_at, ↓reduceIte, Nat.reduceEqDiff]
theorem hS_45 (sc : List Int32) : hS sc 45 = some (AI 10 zF) := by unfold hS; simp only [heap0_0, hput_at, ↓reduceIte, Nat.reduceEqDiff]
theorem hS_46 (sc : List Int32) : hS sc 46 = some (AI 10 zF) := by unfold hS; simp only [heap0_0, hput_at, ↓reduceIte, Nat.reduceEqDiff]
theorem hS_47 (sc : List Int32) : hS sc 47 = some (oW (.ref 48) (.ref 49) (.int (nI 0))) := by unfold hS; simp only [heap0_0, hput_at, ↓reduceIte, Nat.reduceEqDiff]
theorem hS_48 (sc : List Int32) : hS sc 48 = some (AI 10 zF) := by unfold hS; simp only [heap0_0, hput_at, ↓reduceIte, Nat.reduceEqDiff]
theorem hS_49 (sc : List Int32) : hS sc 49 = some (AI 10 zF) := by unfold hS; simp only [heap0_0, hput_at, ↓reduceIte, Nat.reduceEqDiff]
theorem hS_50 (sc : List Int32) : hS sc 50 = some (oW (.ref 51) (.ref 52) (.int (nI 0))) := by unfold hS; simp only [heap0_0, hput_at, ↓reduceIte, Nat.reduceEqDiff]
theorem hS_51 (sc : List Int32) : hS sc 51 = some (AI 10 zF) := by unfold hS; simp only [heap0_0, hput_at, ↓reduceIte, Nat.reduceEqDiff]
theorem hS_52 (sc : List Int32) : hS sc 52 = some (AI 10 zF) := by unfold hS; simp only [heap0_0, hput_at, ↓reduceIte, Nat.reduceEqDiff]
theorem hS_53 (sc : List Int32) : hS sc 53 = some (oW (.ref 54) (.ref 55) (.int (nI 0))) := by unfold hS; simp only [heap0_0, hput_at, ↓reduceIte, Nat.reduceEqDiff]
theorem hS_54 (sc : List Int32) : hS sc 54 = some (AI 10 zF) := by unfold hS; simp only [heap0_0, hput_at, ↓reduceIte, Nat.reduceEqDiff]
theorem hS_55 (sc : List Int32) : hS sc 55 = some (AI 10 zF) := by unfold hS; simp only [heap0_0, hput_at, ↓reduceIte, Nat.reduceEqDiff]
theorem hS_56 (sc : List Int32) : hS sc 56 = some (oW (.ref 57) (.ref 58) (.int (nI 0))) := by unfold hS; simp only [heap0_0, hput_at, ↓reduceIte, Nat.reduceEqDiff]
theorem hS_57 (sc : List Int32) : hS sc 57 = some (AI 10 zF) := by unfold hS; simp only [heap0_0, hput_at, ↓reduceIte, Nat.reduceEqDiff]
theorem hS_58 (sc : List Int32) : hS sc 58 = some (AI 10 zF) := by unfold hS; simp only [heap0_0, hput_at, ↓reduceIte, Nat.reduceEqDiff]
theorem hS_59 (sc : List Int32) : hS sc 59 = some (oW (.ref 60) (.ref 61) (.int (nI 0))) := by unfold hS; simp only [heap0_0, hput_at, ↓reduceIte, Nat.reduceEqDiff]
theorem hS_60 (sc : List Int32) : hS sc 60 = some (AI 10 zF) := by unfold hS; simp only [heap0_0, hput_at, ↓reduceIte, Nat.reduceEqDiff]
theorem hS_61 (sc : List Int32) : hS sc 61 = some (AI 10 zF) := by unfold hS; simp only [heap0_0, hput_at, ↓reduceIte, Nat.reduceEqDiff]
theorem hS_62 (sc : List Int32) : hS sc 62 = some (oW (.ref 63) (.ref 64) (.int (nI 0))) := by unfold hS; simp only [heap0_0, hput_at, ↓reduceIte, Nat.reduceEqDiff]
theorem hS_63 (sc : List Int32) : hS sc 63 = some (AI 10 zF) := by unfold hS; simp only [heap0_0, hput_at, ↓reduceIte, Nat.reduceEqDiff]
theorem hS_64 (sc : List Int32) : hS sc 64 = some (AI 10 zF) := by unfold hS; simp only [heap0_0, hput_at, ↓reduceIte, Nat.reduceEqDiff]
theorem hS_65 (sc : List Int32) : hS sc 65 = some (oC (.int (nI 0)) (.ref 66) (.ref 67) (.ref 68) (.int (nI 0)) (.ref 69) (.ref 72)) := by unfold hS; simp only [heap0_0, hput_at, ↓reduceIte, Nat.reduceEqDiff]
theorem hS_66 (sc : List Int32) : hS sc 66 = some (AZ 8 zF) := by unfold hS; simp only [heap0_0, hput_at, ↓reduceIte, Nat.reduceEqDiff]
theorem hS_67 (sc : List Int32) : hS sc 67 = some (AI 8 zF) := by unfold hS; simp only [heap0_0, hput_at, ↓reduceIte, Nat.reduceEqDiff]
theorem hS_68 (sc : List Int32) : hS sc 68 = some (AI 8 zF) := by unfold hS; simp only [heap0_0, hput_at, ↓reduceIte, Nat.reduceEqDiff]
theorem hS_69 (sc : List Int32) : hS sc 69 = some (.inr (.inr (.inr (1, [some 70, some 71])))) := by unfold hS; simp only [heap0_0, hput_at, ↓reduceIte, Nat.reduceEqDiff]
theorem hS_70 (sc : List Int32) : hS sc 70 = some (AI 6 zF) := by unfold hS; simp only [heap0_0, hput_at, ↓reduceIte, Nat.reduceEqDiff]
theorem hS_71 (sc : List Int32) : hS sc 71 = some (AI 6 zF) := by unfold hS; simp only [heap0_0, hput_at, ↓reduceIte, Nat.reduceEqDiff]
theorem hS_72 (sc : List Int32) : hS sc 72 = some (.inr (.inr (.inr (1, [some 73, some 74])))) := by unfold hS; simp only [heap0_0, hput_at, ↓reduceIte, Nat.reduceEqDiff]
theorem hS_73 (sc : List Int32) : hS sc 73 = some (AI 3 zF) := by unfold hS; simp only [heap0_0, hput_at, ↓reduceIte, Nat.reduceEqDiff]
theorem hS_74 (sc : List Int32) : hS sc 74 = some (AI 3 zF) := by unfold hS; simp only [heap0_0, hput_at, ↓reduceIte, Nat.reduceEqDiff]
theorem hS_75 (sc : List Int32) : hS sc 75 = some (oH (.long (jN 0)) (.long (jN 0)) (.ref 76) (.ref 77)) := by unfold hS; simp only [heap0_0, hput_at, ↓reduceIte, Nat.reduceEqDiff]
theorem hS_76 (sc : List Int32) : hS sc 76 = some (AN 41 zF) := by unfold hS; simp only [heap0_0, hput_at, ↓reduceIte, Nat.reduceEqDiff]
theorem hS_77 (sc : List Int32) : hS sc 77 = some (AN 41 zF) := by unfold hS; simp only [heap0_0, hput_at, ↓reduceIte, Nat.reduceEqDiff]
set_option maxHeartbeats 8000000 in
theorem iS_a (sc : List Int32) (Q : Option Value → Zc → Hp → Prop) : Ev 1 (0, [some (.ref 1)], [], (1, 7), hput (heap0 sc) 1 (oS .null .null .null .null .null .null .null)) Q = Ev 1 (81, [some (.ref 1)], [], (77, 849), hS sc) Q := by
  simp only [m1_0, m1_1, m1_4, m1_5, m1_8, m1_9, m1_12, m1_15, m1_16, m1_19, m1_20, m1_23, m1_26, m1_27, m1_30, m1_31, m1_34, m1_37, m1_38, m1_41, m1_42, m1_45, m1_48, m1_49, m1_52, m1_53, m1_56, m1_59, m1_60, m1_63, m1_64, m1_67, m1_70, m1_71, m1_74, m1_75, m1_78, ob_some, pushr_s, pushr_n, iget_eq, gf_eq, pf_eq, ck_eq, alen_eq, rget_eq, iset_eq, Option.bind_some, Option.map_some, Option.elim_some, hput_at, ↓reduceIte, Nat.reduceEqDiff, Nat.reduceAdd, ne_eq, not_false_eq_true, oS_ck, oS_g0, oS_p0, oS_g1, oS_p1, oS_g2, oS_p2, oS_g3, oS_p3, oS_g4, oS_p4, oS_g5, oS_p5, oS_g6, oS_p6, oP_ck, oP_g0, oP_p0, oP_g1, oP_p1, oP_g2, oP_p2, oP_g3, oP_p3, oP_g4, oP_p4, oP_g5, oP_p5, oP_g6, oP_p6, oP_g7, oP_p7, oP_g8, oP_p8, oP_g9, oP_p9, oP_g10, oP_p10, oP_g11, oP_p11, oP_g12, oP_p12, oR_ck, oR_g0, oR_p0, oR_g1, oR_p1, oR_g2, oR_p2, oR_g3, oR_p3, oG_ck, oG_g0, oG_p0, oG_g1, oG_p1, oG_g2, oG_p2, oW_ck, oW_g0, oW_p0, oW_g1, oW_p1, oW_g2, oW_p2, oB_ck, oB_g0, oB_p0, oB_g1, oB_p1, oB_g2, oB_p2, oB_g3, oB_p3, oB_g4, oB_p4, oB_g5, oB_p5, oB_g6, oB_p6, oC_ck, oC_g0, oC_p0, oC_g1, oC_p1, oC_g2, oC_p2, oC_g3, oC_p3, oC_g4, oC_p4, oC_g5, oC_p5, oC_g6, oC_p6, oH_ck, oH_g0, oH_p0, oH_g1, oH_p1, oH_g2, oH_p2, oH_g3, oH_p3, oM_ck, oM_g0, oM_p0, oM_g1, oM_p1, oM_g2, oM_p2, oM_g3, oM_p3, oM_g4, oM_p4, oM_g5, oM_p5, oM_g6, oM_p6, oM_g7, oM_p7, oM_g8, oM_p8, oM_g9, oM_p9, oM_g10, oM_p10, oM_g11, oM_p11, oM_g12, oM_p12, oM_g13, oM_p13, oM_g14, oM_p14, oM_g15, oM_p15, oM_g16, oM_p16, oM_g17, oM_p17, oM_g18, oM_p18, oM_g19, oM_p19, oM_g20, oM_p20, oM_g21, oM_p21, oM_g22, oM_p22, oM_g23, oM_p23, oM_g24, oM_p24, oM_g25, oM_p25, oM_g26, oM_p26, oM_g27, oM_p27, oM_g28, oM_p28, oM_g29, oM_p29, ng2, nc2, ng3, nc3, ng6, nc6, ng7, nc7, ng8, nc8, ng10, nc10, ng12, nc12, ng20, nc20, ng24, nc24, ng41, nc41, ng300, nc300, rplI, rplZ, rplJ, bl0, bl1, bl2, bl3, bl4, bl5, bl6, bl7, bl8, Nat.reduceLeDiff, not_false_eq_true, iR_2, iP_15, iP_25, iG_35, iB_39, iC_65, iH_75]
  refine congrArg (fun h2 => Ev 1 (81, [some (.ref 1)], [], (77, 849), h2) Q) (funext fun j => ?_)
  by_cases c : j ≤ 77
  · have hk : j < 78 := by omega
    match j, hk with
    | 0, _ => simp only [hS_0, heap0_0, hput_at, ↓reduceIte, Nat.reduceEqDiff]
    | 1, _ => simp only [hS_1, heap0_0, hput_at, ↓reduceIte, Nat.reduceEqDiff]
    | 2, _ => simp only [hS_2, heap0_0, hput_at, ↓reduceIte, Nat.reduceEqDiff]
    | 3, _ => simp only [hS_3, heap0_0, hput_at, ↓reduceIte, Nat.reduceEqDiff]
    | 4, _ => simp only [hS_4, heap0_0, hput_at, ↓reduceIte, Nat.reduceEqDiff]
    | 5, _ => simp only [hS_5, heap0_0, hput_at, ↓reduceIte, Nat.reduceEqDiff]
    | 6, _ => simp only [hS_6, heap0_0, hput_at, ↓reduceIte, Nat.reduceEqDiff]
    | 7, _ => simp only [hS_7, heap0_0, hput_at, ↓reduceIte, Nat.reduceEqDiff]
    | 8, _ => simp only [hS_8, heap0_0, hput_at, ↓reduceIte, Nat.reduceEqDiff]
    | 9, _ => simp only [hS_9, heap0_0, hput_at, ↓reduceIte, Nat.reduceEqDiff]
    | 10, _ => simp only [hS_10, heap0_0, hput_at, ↓reduceIte, Nat.reduceEqDiff]
    | 11, _ => simp only [hS_11, heap0_0, hput_at, ↓reduceIte, Nat.reduceEqDiff]
    | 12, _ => simp only [hS_12, heap0_0, hput_at, ↓reduceIte, Nat.reduceEqDiff]
    | 13, _ => simp only [hS_13, heap0_0, hput_at, ↓reduceIte, Nat.reduceEqDiff]
    | 14, _ => simp only [hS_14, heap0_0, hput_at, ↓reduceIte, Nat.reduceEqDiff]
    | 15, _ => simp only [hS_15, heap0_0, hput_at, ↓reduceIte, Nat.reduceEqDiff]
    | 16, _ => simp only [hS_16, heap0_0, hput_at, ↓reduceIte, Nat.reduceEqDiff]
    | 17, _ => simp only [hS_17, heap0_0, hput_at, ↓reduceIte, Nat.reduceEqDiff]
    | 18, _ => simp only [hS_18, heap0_0, hput_at, ↓reduceIte, Nat.reduceEqDiff]
    | 19, _ => simp only [hS_19, heap0_0, hput_at, ↓reduceIte, Nat.reduceEqDiff]
    | 20, _ => simp only [hS_20, heap0_0, hput_at, ↓reduceIte, Nat.reduceEqDiff]
    | 21, _ => simp only [hS_21, heap0_0, hput_at, ↓reduceIte, Nat.reduceEqDiff]
    | 22, _ => simp only [hS_22, heap0_0, hput_at, ↓reduceIte, Nat.reduceEqDiff]
    | 23, _ => simp only [hS_23, heap0_0, hput_at, ↓reduceIte, Nat.reduceEqDiff]
    | 24, _ => simp only [hS_24, heap0_0, hput_at, ↓reduceIte, Nat.reduceEqDiff]
    | 25, _ => simp only [hS_25, heap0_0, hput_at, ↓reduceIte, Nat.reduceEqDiff]
    | 26, _ => simp only [hS_26, heap0_0, hput_at, ↓reduceIte, Nat.reduceEqDiff]
    | 27, _ => simp only [hS_27, heap0_0, hput_at, ↓reduceIte, Nat.reduceEqDiff]
    | 28, _ => simp only [hS_28, heap0_0, hput_at, ↓reduceIte, Nat.reduceEqDiff]
    | 29, _ => simp only [hS_29, heap0_0, hput_at, ↓reduceIte, Nat.reduceEqDiff]
    | 30, _ => simp only [hS_30, heap0_0, hput_at, ↓reduceIte, Nat.reduceEqDiff]
    | 31, _ => simp only [hS_31, heap0_0, hput_at, ↓reduceIte, Nat.reduceEqDiff]
    | 32, _ => simp only [hS_32, heap0_0, hput_at, ↓reduceIte, Nat.reduceEqDiff]
    | 33, _ => simp only [hS_33, heap0_0, hput_at, ↓reduceIte, Nat.reduceEqDiff]
    | 34, _ => simp only [hS_34, heap0_0, hput_at, ↓reduceIte, Nat.reduceEqDiff]
    | 35, _ => simp only [hS_35, heap0_0, hput_at, ↓reduceIte, Nat.reduceEqDiff]
    | 36, _ => simp only [hS_36, heap0_0, hput_at, ↓reduceIte, Nat.reduceEqDiff]
    | 37, _ => simp only [hS_37, heap0_0, hput_at, ↓reduceIte, Nat.reduceEqDiff]
    | 38, _ => simp only [hS_38, heap0_0, hput_at, ↓reduceIte, Nat.reduceEqDiff]
    | 39, _ => simp only [hS_39, heap0_0, hput_at, ↓reduceIte, Nat.reduceEqDiff]
    | 40, _ => simp only [hS_40, heap0_0, hput_at, ↓reduceIte, Nat.reduceEqDiff]
    | 41, _ => simp only [hS_41, heap0_0, hput_at, ↓reduceIte, Nat.reduceEqDiff]
    | 42, _ => simp only [hS_42, heap0_0, hput_at, ↓reduceIte, Nat.reduceEqDiff]
    | 43, _ => simp only [hS_43, heap0_0, hput_at, ↓reduceIte, Nat.reduceEqDiff]
    | 44, _ => simp only [hS_44, heap0_0, hput_at, ↓reduceIte, Nat.reduceEqDiff]
    | 45, _ => simp only [hS_45, heap0_0, hput_at, ↓reduceIte, Nat.reduceEqDiff]
    | 46, _ => simp only [hS_46, heap0_0, hput_at, ↓reduceIte, Nat.reduceEqDiff]
    | 47, _ => simp only [hS_47, heap0_0, hput_at, ↓reduceIte, Nat.reduceEqDiff]
    | 48, _ => simp only [hS_48, heap0_0, hput_at, ↓reduceIte, Nat.reduceEqDiff]
    | 49, _ => simp only [hS_49, heap0_0, hput_at, ↓reduceIte, Nat.reduceEqDiff]
    | 50, _ => simp only [hS_50, heap0_0, hput_at, ↓reduceIte, Nat.reduceEqDiff]
    | 51, _ => simp only [hS_51, heap0_0, hput_at, ↓reduceIte, Nat.reduceEqDiff]
    | 52, _ => simp only [hS_52, heap0_0, hput_at, ↓reduceIte, Nat.reduceEqDiff]
    | 53, _ => simp only [hS_53, heap0_0, hput_at, ↓reduceIte, Nat.reduceEqDiff]
    | 54, _ => simp only [hS_54, heap0_0, hput_at, ↓reduceIte, Nat.reduceEqDiff]
    | 55, _ => simp only [hS_55, heap0_0, hput_at, ↓reduceIte, Nat.reduceEqDiff]
    | 56, _ => simp only [hS_56, heap0_0, hput_at, ↓reduceIte, Nat.reduceEqDiff]
    | 57, _ => simp only [hS_57, heap0_0, hput_at, ↓reduceIte, Nat.reduceEqDiff]
    | 58, _ => simp only [hS_58, heap0_0, hput_at, ↓reduceIte, Nat.reduceEqDiff]
    | 59, _ => simp only [hS_59, heap0_0, hput_at, ↓reduceIte, Nat.reduceEqDiff]
    | 60, _ => simp only [hS_60, heap0_0, hput_at, ↓reduceIte, Nat.reduceEqDiff]
    | 61, _ => simp only [hS_61, heap0_0, hput_at, ↓reduceIte, Nat.reduceEqDiff]
    | 62, _ => simp only [hS_62, heap0_0, hput_at, ↓reduceIte, Nat.reduceEqDiff]
    | 63, _ => simp only [hS_63, heap0_0, hput_at, ↓reduceIte, Nat.reduceEqDiff]
    | 64, _ => simp only [hS_64, heap0_0, hput_at, ↓reduceIte, Nat.reduceEqDiff]
    | 65, _ => simp only [hS_65, heap0_0, hput_at, ↓reduceIte, Nat.reduceEqDiff]
    | 66, _ => simp only [hS_66, heap0_0, hput_at, ↓reduceIte, Nat.reduceEqDiff]
    | 67, _ => simp only [hS_67, heap0_0, hput_at, ↓reduceIte, Nat.reduceEqDiff]
    | 68, _ => simp only [hS_68, heap0_0, hput_at, ↓reduceIte, Nat.reduceEqDiff]
    | 69, _ => simp only [hS_69, heap0_0, hput_at, ↓reduceIte, Nat.reduceEqDiff]
    | 70, _ => simp only [hS_70, heap0_0, hput_at, ↓reduceIte, Nat.reduceEqDiff]
    | 71, _ => simp only [hS_71, heap0_0, hput_at, ↓reduceIte, Nat.reduceEqDiff]
    | 72, _ => simp only [hS_72, heap0_0, hput_at, ↓reduceIte, Nat.reduceEqDiff]
    | 73, _ => simp only [hS_73, heap0_0, hput_at, ↓reduceIte, Nat.reduceEqDiff]
    | 74, _ => simp only [hS_74, heap0_0, hput_at, ↓reduceIte, Nat.reduceEqDiff]
    | 75, _ => simp only [hS_75, heap0_0, hput_at, ↓reduceIte, Nat.reduceEqDiff]
    | 76, _ => simp only [hS_76, heap0_0, hput_at, ↓reduceIte, Nat.reduceEqDiff]
    | 77, _ => simp only [hS_77, heap0_0, hput_at, ↓reduceIte, Nat.reduceEqDiff]
    | k + 78, q => omega
  · have ne : ∀ a : Nat, a ≤ 77 → (j = a) = False := fun a a1 => eq_false (by omega)
    unfold hS
    simp only [hput_at, ne 1 (by decide), ne 2 (by decide), ne 3 (by decide), ne 4 (by decide), ne 5 (by decide), ne 6 (by decide), ne 7 (by decide), ne 8 (by decide), ne 9 (by decide), ne 10 (by decide), ne 11 (by decide), ne 12 (by decide), ne 13 (by decide), ne 14 (by decide), ne 15 (by decide), ne 16 (by decide), ne 17 (by decide), ne 18 (by decide), ne 19 (by decide), ne 20 (by decide), ne 21 (by decide), ne 22 (by decide), ne 23 (by decide), ne 24 (by decide), ne 25 (by decide), ne 26 (by decide), ne 27 (by decide), ne 28 (by decide), ne 29 (by decide), ne 30 (by decide), ne 31 (by decide), ne 32 (by decide), ne 33 (by decide), ne 34 (by decide), ne 35 (by decide), ne 36 (by decide), ne 37 (by decide), ne 38 (by decide), ne 39 (by decide), ne 40 (by decide), ne 41 (by decide), ne 42 (by decide), ne 43 (by decide), ne 44 (by decide), ne 45 (by decide), ne 46 (by decide), ne 47 (by decide), ne 48 (by decide), ne 49 (by decide), ne 50 (by decide), ne 51 (by decide), ne 52 (by decide), ne 53 (by decide), ne 54 (by decide), ne 55 (by decide), ne 56 (by decide), ne 57 (by decide), ne 58 (by decide), ne 59 (by decide), ne 60 (by decide), ne 61 (by decide), ne 62 (by decide), ne 63 (by decide), ne 64 (by decide), ne 65 (by decide), ne 66 (by decide), ne 67 (by decide), ne 68 (by decide), ne 69 (by decide), ne 70 (by decide), ne 71 (by decide), ne 72 (by decide), ne 73 (by decide), ne 74 (by decide), ne 75 (by decide), ne 76 (by decide), ne 77 (by decide), if_false]
def pS : Pl := addS (addS (addE (noneP zP) 5 20 0) 0 1 10) 0 2 10
theorem hS_P (sc : List Int32) : PlanC (hS sc) 15 zP := ⟨by decide, hS_15 sc, hS_16 sc, hS_17 sc, hS_18 sc, hS_19 sc, hS_20 sc, hS_21 sc, hS_22 sc, hS_23 sc, hS_24 sc⟩
theorem hS_q (sc : List Int32) (P : Pl) : pset (hS sc) 15 P 1 = some (oS (.ref 2) (.ref 15) (.ref 25) (.ref 35) (.ref 39) (.ref 65) (.ref 75)) := (pset_ne _ _ (by decide)).trans (hS_1 sc)
set_option maxHeartbeats 2000000 in
theorem iS_b (sc : List Int32) (z : Zc) (Q : Option Value → Zc → Hp → Prop) : Ev 1 (81, [some (.ref 1)], [], z, hS sc) Q = Q none z (pset (hS sc) 15 pS) := by
  have c1 := fun Q => clear_eq (hS_P sc) z Q
  have pC := fun P => pset_C (hS sc) (p := 15) (by decide) P
  have c2 := fun Q => addEngine_eq (a := 5) (s := 20) (kd := 0) (pC (noneP zP)) ⟨by decide, by decide, by decide⟩ (by decide) (by decide) (by decide) z Q
  have c3 := fun Q => addStone_eq (e := 0) (d := 1) (w := 10) (pC (addE (noneP zP) 5 20 0)) ⟨by decide, by decide, by decide⟩ (by decide) (by decide) (by decide) z Q
  have c4 := fun Q => addStone_eq (e := 0) (d := 2) (w := 10) (pC (addS (addE (noneP zP) 5 20 0) 0 1 10)) ⟨by decide, by decide, by decide⟩ (by decide) (by decide) (by decide) z Q
  rw [pset_pset] at c2
  simp only [if_pos (show noneP zP 0 0 < 3 ∧ (1 ≤ 5 ∧ 5 ≤ 9) ∧ (0 ≤ 20 ∧ 20 ≤ 60) ∧ (0 ≤ 0 ∧ 0 ≤ 3) by decide)] at c2
  rw [pset_pset] at c3 c4
  rw [if_pos (by decide)] at c3 c4
  have k3 : ∀ P, pset (hS sc) 15 P 15 = some (poE 15 P) := fun P => pset_o _ _ _
  have k0 : hS sc 15 = some (poE 15 zP) := hS_15 sc
  have ckp : ∀ P, ckE (poE 15 P) 1 = true := fun P => rfl
  simp only [m1_0, m1_1, m1_4, m1_5, m1_8, m1_9, m1_12, m1_15, m1_16, m1_19, m1_20, m1_23, m1_26, m1_27, m1_30, m1_31, m1_34, m1_37, m1_38, m1_41, m1_42, m1_45, m1_48, m1_49, m1_52, m1_53, m1_56, m1_59, m1_60, m1_63, m1_64, m1_67, m1_70, m1_71, m1_74, m1_75, m1_78, m1_81, m1_82, m1_85, m1_88, m1_89, m1_92, m1_93, m1_95, m1_96, m1_99, m1_100, m1_101, m1_104, m1_105, m1_106, m1_108, m1_111, m1_112, m1_113, m1_116, m1_117, m1_118, m1_120, m1_123, m1_124, ob_some, pushr_s, pushr_n, iget_eq, gf_eq, pf_eq, ck_eq, alen_eq, rget_eq, iset_eq, Option.bind_some, Option.map_some, Option.elim_some, hput_at, ↓reduceIte, Nat.reduceEqDiff, Nat.reduceAdd, ne_eq, not_false_eq_true, oS_ck, oS_g0, oS_p0, oS_g1, oS_p1, oS_g2, oS_p2, oS_g3, oS_p3, oS_g4, oS_p4, oS_g5, oS_p5, oS_g6, oS_p6, oP_ck, oP_g0, oP_p0, oP_g1, oP_p1, oP_g2, oP_p2, oP_g3, oP_p3, oP_g4, oP_p4, oP_g5, oP_p5, oP_g6, oP_p6, oP_g7, oP_p7, oP_g8, oP_p8, oP_g9, oP_p9, oP_g10, oP_p10, oP_g11, oP_p11, oP_g12, oP_p12, oR_ck, oR_g0, oR_p0, oR_g1, oR_p1, oR_g2, oR_p2, oR_g3, oR_p3, oG_ck, oG_g0, oG_p0, oG_g1, oG_p1, oG_g2, oG_p2, oW_ck, oW_g0, oW_p0, oW_g1, oW_p1, oW_g2, oW_p2, oB_ck, oB_g0, oB_p0, oB_g1, oB_p1, oB_g2, oB_p2, oB_g3, oB_p3, oB_g4, oB_p4, oB_g5, oB_p5, oB_g6, oB_p6, oC_ck, oC_g0, oC_p0, oC_g1, oC_p1, oC_g2, oC_p2, oC_g3, oC_p3, oC_g4, oC_p4, oC_g5, oC_p5, oC_g6, oC_p6, oH_ck, oH_g0, oH_p0, oH_g1, oH_p1, oH_g2, oH_p2, oH_g3, oH_p3, oM_ck, oM_g0, oM_p0, oM_g1, oM_p1, oM_g2, oM_p2, oM_g3, oM_p3, oM_g4, oM_p4, oM_g5, oM_p5, oM_g6, oM_p6, oM_g7, oM_p7, oM_g8, oM_p8, oM_g9, oM_p9, oM_g10, oM_p10, oM_g11, oM_p11, oM_g12, oM_p12, oM_g13, oM_p13, oM_g14, oM_p14, oM_g15, oM_p15, oM_g16, oM_p16, oM_g17, oM_p17, oM_g18, oM_p18, oM_g19, oM_p19, oM_g20, oM_p20, oM_g21, oM_p21, oM_g22, oM_p22, oM_g23, oM_p23, oM_g24, oM_p24, oM_g25, oM_p25, oM_g26, oM_p26, oM_g27, oM_p27, oM_g28, oM_p28, oM_g29, oM_p29, hS_1, hS_q, c1, c2, c3, c4, k3, k0, ckp, if_true]
  rfl
