/-! what the constructors make -/
def zF : Nat → Nat := fun _ => 0
def zP : Pl := fun _ _ => 0
theorem ng2 : (nI 2 < (0 : Int32)) = False := eq_false (by decide)
theorem nc2 : (nI 2).toNatClampNeg = 2 := by decide
theorem ng3 : (nI 3 < (0 : Int32)) = False := eq_false (by decide)
theorem nc3 : (nI 3).toNatClampNeg = 3 := by decide
theorem ng6 : (nI 6 < (0 : Int32)) = False := eq_false (by decide)
theorem nc6 : (nI 6).toNatClampNeg = 6 := by decide
theorem ng7 : (nI 7 < (0 : Int32)) = False := eq_false (by decide)
theorem nc7 : (nI 7).toNatClampNeg = 7 := by decide
theorem ng8 : (nI 8 < (0 : Int32)) = False := eq_false (by decide)
theorem nc8 : (nI 8).toNatClampNeg = 8 := by decide
theorem ng10 : (nI 10 < (0 : Int32)) = False := eq_false (by decide)
theorem nc10 : (nI 10).toNatClampNeg = 10 := by decide
theorem ng12 : (nI 12 < (0 : Int32)) = False := eq_false (by decide)
theorem nc12 : (nI 12).toNatClampNeg = 12 := by decide
theorem ng20 : (nI 20 < (0 : Int32)) = False := eq_false (by decide)
theorem nc20 : (nI 20).toNatClampNeg = 20 := by decide
theorem ng24 : (nI 24 < (0 : Int32)) = False := eq_false (by decide)
theorem nc24 : (nI 24).toNatClampNeg = 24 := by decide
theorem ng41 : (nI 41 < (0 : Int32)) = False := eq_false (by decide)
theorem nc41 : (nI 41).toNatClampNeg = 41 := by decide
theorem ng300 : (nI 300 < (0 : Int32)) = False := eq_false (by decide)
theorem nc300 : (nI 300).toNatClampNeg = 300 := by decide
theorem lsN_z : ∀ n, lsN n zF = List.replicate n 0 := fun n => by
  unfold lsN
  refine List.ext_getElem (by rw [List.length_map, List.length_range, List.length_replicate]) (fun i a b => ?_)
  rw [List.getElem_map, List.getElem_replicate]
  rfl
theorem rplI (n : Nat) : (Sum.inr (Sum.inl (false, List.replicate n (0 : Int32))) : AE) = AI n zF := by unfold AI; rw [lsN_z]
theorem rplZ (n : Nat) : (Sum.inr (Sum.inl (true, List.replicate n (0 : Int32))) : AE) = AZ n zF := by unfold AZ; rw [lsN_z]
theorem rplJ (n : Nat) : (Sum.inr (Sum.inr (Sum.inl (List.replicate n (0 : Int64)))) : AE) = AN n zF := by
  unfold AN AJ lsJ
  refine congrArg (fun l => (Sum.inr (Sum.inr (Sum.inl l)) : AE)) (List.ext_getElem (by rw [List.length_map, List.length_range, List.length_replicate]) (fun i a b => ?_))
  rw [List.getElem_map, List.getElem_replicate]
  rfl
theorem bl0 : blankE 0 = (oS .null (.int (nI 0)) .null .null .null .null .null .null .null) := by rfl
theorem bl1 : blankE 1 = (oP (.int (nI 0)) .null .null .null .null (.int (nI 0)) .null .null .null .null (.int (nI 0)) (.int (nI 0)) .null) := by rfl
theorem bl2 : blankE 2 = (oR .null (.int (nI 0)) .null .null (.int (nI 0))) := by rfl
theorem bl3 : blankE 3 = (oG .null (.int (nI 0)) (.int (nI 0))) := by rfl
theorem bl4 : blankE 4 = (oW .null .null (.int (nI 0))) := by rfl
theorem bl5 : blankE 5 = (oB (.int (nI 0)) (.int (nI 0)) .null (.int (nI 0)) .null .null .null) := by rfl
theorem bl6 : blankE 6 = (oC (.int (nI 0)) .null .null .null (.int (nI 0)) .null .null) := by rfl
theorem bl7 : blankE 7 = (oH (.long (jN 0)) (.long (jN 0)) .null .null) := by rfl
theorem bl8 : blankE 8 = (oM (.int (nI 0)) .null .null .null .null .null .null .null .null .null .null .null .null .null .null (.int (nI 0)) (.int (nI 0)) .null (.int (nI 0)) .null .null (.int (nI 0)) (.int (nI 0)) (.int (nI 0)) .null .null .null .null .null .null) := by rfl
set_option maxHeartbeats 2000000 in
theorem iP_3 (h : Hp) (hp : h 3 = some (oP (.int (nI 0)) .null .null .null .null (.int (nI 0)) .null .null .null .null (.int (nI 0)) (.int (nI 0)) .null)) (Q : Option Value → Zc → Hp → Prop) : Ev 106 (0, [some (.ref 3)], [], (3, 322), h) Q = Q none (12, 368) (hput (hput (hput (hput (hput (hput (hput (hput (hput (hput h 3 (oP (.int (nI 0)) (.ref 4) (.ref 5) (.ref 6) (.ref 7) (.int (nI 0)) (.ref 8) (.ref 9) (.ref 10) (.ref 11) (.int (nI 0)) (.int (nI 0)) (.ref 12))) 4 (AI 3 zF)) 5 (AI 3 zF)) 6 (AI 3 zF)) 7 (AI 3 zF)) 8 (AI 6 zF)) 9 (AI 6 zF)) 10 (AI 6 zF)) 11 (AI 10 zF)) 12 (AI 6 zF)) := by
  simp only [m106_0, m106_1, m106_4, m106_5, m106_6, m106_8, m106_11, m106_12, m106_13, m106_15, m106_18, m106_19, m106_20, m106_22, m106_25, m106_26, m106_27, m106_29, m106_32, m106_33, m106_35, m106_37, m106_40, m106_41, m106_43, m106_45, m106_48, m106_49, m106_51, m106_53, m106_56, m106_57, m106_59, m106_61, m106_64, m106_65, m106_67, m106_69, m106_72, ob_some, pushr_s, pushr_n, iget_eq, gf_eq, pf_eq, ck_eq, alen_eq, rget_eq, iset_eq, Option.bind_some, Option.map_some, Option.elim_some, hput_at, ↓reduceIte, Nat.reduceEqDiff, Nat.reduceAdd, ne_eq, not_false_eq_true, oS_ck, oS_g0, oS_p0, oS_g1, oS_p1, oS_g2, oS_p2, oS_g3, oS_p3, oS_g4, oS_p4, oS_g5, oS_p5, oS_g6, oS_p6, oS_g7, oS_p7, oS_g8, oS_p8, oP_ck, oP_g0, oP_p0, oP_g1, oP_p1, oP_g2, oP_p2, oP_g3, oP_p3, oP_g4, oP_p4, oP_g5, oP_p5, oP_g6, oP_p6, oP_g7, oP_p7, oP_g8, oP_p8, oP_g9, oP_p9, oP_g10, oP_p10, oP_g11, oP_p11, oP_g12, oP_p12, oR_ck, oR_g0, oR_p0, oR_g1, oR_p1, oR_g2, oR_p2, oR_g3, oR_p3, oR_g4, oR_p4, oG_ck, oG_g0, oG_p0, oG_g1, oG_p1, oG_g2, oG_p2, oW_ck, oW_g0, oW_p0, oW_g1, oW_p1, oW_g2, oW_p2, oB_ck, oB_g0, oB_p0, oB_g1, oB_p1, oB_g2, oB_p2, oB_g3, oB_p3, oB_g4, oB_p4, oB_g5, oB_p5, oB_g6, oB_p6, oC_ck, oC_g0, oC_p0, oC_g1, oC_p1, oC_g2, oC_p2, oC_g3, oC_p3, oC_g4, oC_p4, oC_g5, oC_p5, oC_g6, oC_p6, oH_ck, oH_g0, oH_p0, oH_g1, oH_p1, oH_g2, oH_p2, oH_g3, oH_p3, oM_ck, oM_g0, oM_p0, oM_g1, oM_p1, oM_g2, oM_p2, oM_g3, oM_p3, oM_g4, oM_p4, oM_g5, oM_p5, oM_g6, oM_p6, oM_g7, oM_p7, oM_g8, oM_p8, oM_g9, oM_p9, oM_g10, oM_p10, oM_g11, oM_p11, oM_g12, oM_p12, oM_g13, oM_p13, oM_g14, oM_p14, oM_g15, oM_p15, oM_g16, oM_p16, oM_g17, oM_p17, oM_g18, oM_p18, oM_g19, oM_p19, oM_g20, oM_p20, oM_g21, oM_p21, oM_g22, oM_p22, oM_g23, oM_p23, oM_g24, oM_p24, oM_g25, oM_p25, oM_g26, oM_p26, oM_g27, oM_p27, oM_g28, oM_p28, oM_g29, oM_p29, ng2, nc2, ng3, nc3, ng6, nc6, ng7, nc7, ng8, nc8, ng10, nc10, ng12, nc12, ng20, nc20, ng24, nc24, ng41, nc41, ng300, nc300, rplI, rplZ, rplJ, bl0, bl1, bl2, bl3, bl4, bl5, bl6, bl7, bl8, Nat.reduceLeDiff, not_false_eq_true, hp]
  refine congrArg (Q none (12, 368)) (funext fun j => ?_)
  by_cases c : 3 ≤ j ∧ j ≤ 12
  · obtain ⟨k, rfl⟩ : ∃ k, j = 3 + k := ⟨j - 3, by omega⟩
    have hk : k < 10 := by omega
    match k, hk with
    | 0, _ => rfl
    | 1, _ => rfl
    | 2, _ => rfl
    | 3, _ => rfl
    | 4, _ => rfl
    | 5, _ => rfl
    | 6, _ => rfl
    | 7, _ => rfl
    | 8, _ => rfl
    | 9, _ => rfl
    | k + 10, q => omega
  · have ne : ∀ a : Nat, 3 ≤ a → a ≤ 12 → (j = a) = False := fun a a1 a2 => eq_false (by omega)
    simp only [hput_at, ne 3 (by decide) (by decide), ne 4 (by decide) (by decide), ne 5 (by decide) (by decide), ne 6 (by decide) (by decide), ne 7 (by decide) (by decide), ne 8 (by decide) (by decide), ne 9 (by decide) (by decide), ne 10 (by decide) (by decide), ne 11 (by decide) (by decide), ne 12 (by decide) (by decide), if_false]
set_option maxHeartbeats 2000000 in
theorem iP_13 (h : Hp) (hp : h 13 = some (oP (.int (nI 0)) .null .null .null .null (.int (nI 0)) .null .null .null .null (.int (nI 0)) (.int (nI 0)) .null)) (Q : Option Value → Zc → Hp → Prop) : Ev 106 (0, [some (.ref 13)], [], (13, 381), h) Q = Q none (22, 427) (hput (hput (hput (hput (hput (hput (hput (hput (hput (hput h 13 (oP (.int (nI 0)) (.ref 14) (.ref 15) (.ref 16) (.ref 17) (.int (nI 0)) (.ref 18) (.ref 19) (.ref 20) (.ref 21) (.int (nI 0)) (.int (nI 0)) (.ref 22))) 14 (AI 3 zF)) 15 (AI 3 zF)) 16 (AI 3 zF)) 17 (AI 3 zF)) 18 (AI 6 zF)) 19 (AI 6 zF)) 20 (AI 6 zF)) 21 (AI 10 zF)) 22 (AI 6 zF)) := by
  simp only [m106_0, m106_1, m106_4, m106_5, m106_6, m106_8, m106_11, m106_12, m106_13, m106_15, m106_18, m106_19, m106_20, m106_22, m106_25, m106_26, m106_27, m106_29, m106_32, m106_33, m106_35, m106_37, m106_40, m106_41, m106_43, m106_45, m106_48, m106_49, m106_51, m106_53, m106_56, m106_57, m106_59, m106_61, m106_64, m106_65, m106_67, m106_69, m106_72, ob_some, pushr_s, pushr_n, iget_eq, gf_eq, pf_eq, ck_eq, alen_eq, rget_eq, iset_eq, Option.bind_some, Option.map_some, Option.elim_some, hput_at, ↓reduceIte, Nat.reduceEqDiff, Nat.reduceAdd, ne_eq, not_false_eq_true, oS_ck, oS_g0, oS_p0, oS_g1, oS_p1, oS_g2, oS_p2, oS_g3, oS_p3, oS_g4, oS_p4, oS_g5, oS_p5, oS_g6, oS_p6, oS_g7, oS_p7, oS_g8, oS_p8, oP_ck, oP_g0, oP_p0, oP_g1, oP_p1, oP_g2, oP_p2, oP_g3, oP_p3, oP_g4, oP_p4, oP_g5, oP_p5, oP_g6, oP_p6, oP_g7, oP_p7, oP_g8, oP_p8, oP_g9, oP_p9, oP_g10, oP_p10, oP_g11, oP_p11, oP_g12, oP_p12, oR_ck, oR_g0, oR_p0, oR_g1, oR_p1, oR_g2, oR_p2, oR_g3, oR_p3, oR_g4, oR_p4, oG_ck, oG_g0, oG_p0, oG_g1, oG_p1, oG_g2, oG_p2, oW_ck, oW_g0, oW_p0, oW_g1, oW_p1, oW_g2, oW_p2, oB_ck, oB_g0, oB_p0, oB_g1, oB_p1, oB_g2, oB_p2, oB_g3, oB_p3, oB_g4, oB_p4, oB_g5, oB_p5, oB_g6, oB_p6, oC_ck, oC_g0, oC_p0, oC_g1, oC_p1, oC_g2, oC_p2, oC_g3, oC_p3, oC_g4, oC_p4, oC_g5, oC_p5, oC_g6, oC_p6, oH_ck, oH_g0, oH_p0, oH_g1, oH_p1, oH_g2, oH_p2, oH_g3, oH_p3, oM_ck, oM_g0, oM_p0, oM_g1, oM_p1, oM_g2, oM_p2, oM_g3, oM_p3, oM_g4, oM_p4, oM_g5, oM_p5, oM_g6, oM_p6, oM_g7, oM_p7, oM_g8, oM_p8, oM_g9, oM_p9, oM_g10, oM_p10, oM_g11, oM_p11, oM_g12, oM_p12, oM_g13, oM_p13, oM_g14, oM_p14, oM_g15, oM_p15, oM_g16, oM_p16, oM_g17, oM_p17, oM_g18, oM_p18, oM_g19, oM_p19, oM_g20, oM_p20, oM_g21, oM_p21, oM_g22, oM_p22, oM_g23, oM_p23, oM_g24, oM_p24, oM_g25, oM_p25, oM_g26, oM_p26, oM_g27, oM_p27, oM_g28, oM_p28, oM_g29, oM_p29, ng2, nc2, ng3, nc3, ng6, nc6, ng7, nc7, ng8, nc8, ng10, nc10, ng12, nc12, ng20, nc20, ng24, nc24, ng41, nc41, ng300, nc300, rplI, rplZ, rplJ, bl0, bl1, bl2, bl3, bl4, bl5, bl6, bl7, bl8, Nat.reduceLeDiff, not_false_eq_true, hp]
  refine congrArg (Q none (22, 427)) (funext fun j => ?_)
  by_cases c : 13 ≤ j ∧ j ≤ 22
  · obtain ⟨k, rfl⟩ : ∃ k, j = 13 + k := ⟨j - 13, by omega⟩
    have hk : k < 10 := by omega
    match k, hk with
    | 0, _ => rfl
    | 1, _ => rfl
    | 2, _ => rfl
    | 3, _ => rfl
    | 4, _ => rfl
    | 5, _ => rfl
    | 6, _ => rfl
    | 7, _ => rfl
    | 8, _ => rfl
    | 9, _ => rfl
    | k + 10, q => omega
  · have ne : ∀ a : Nat, 13 ≤ a → a ≤ 22 → (j = a) = False := fun a a1 a2 => eq_false (by omega)
    simp only [hput_at, ne 13 (by decide) (by decide), ne 14 (by decide) (by decide), ne 15 (by decide) (by decide), ne 16 (by decide) (by decide), ne 17 (by decide) (by decide), ne 18 (by decide) (by decide), ne 19 (by decide) (by decide), ne 20 (by decide) (by decide), ne 21 (by decide) (by decide), ne 22 (by decide) (by decide), if_false]
set_option maxHeartbeats 2000000 in
theorem iR_23 (h : Hp) (hp : h 23 = some (oR .null (.int (nI 0)) .null .null (.int (nI 0)))) (Q : Option Value → Zc → Hp → Prop) : Ev 122 (0, [some (.ref 23)], [], (23, 432), h) Q = Q none (24, 435) (hput (hput h 23 (oR .null (.int (nI 0)) .null (.ref 24) (.int (nI 0)))) 24 (AI 3 zF)) := by
  simp only [m122_0, m122_1, m122_4, m122_5, m122_6, m122_8, m122_11, ob_some, pushr_s, pushr_n, iget_eq, gf_eq, pf_eq, ck_eq, alen_eq, rget_eq, iset_eq, Option.bind_some, Option.map_some, Option.elim_some, hput_at, ↓reduceIte, Nat.reduceEqDiff, Nat.reduceAdd, ne_eq, not_false_eq_true, oS_ck, oS_g0, oS_p0, oS_g1, oS_p1, oS_g2, oS_p2, oS_g3, oS_p3, oS_g4, oS_p4, oS_g5, oS_p5, oS_g6, oS_p6, oS_g7, oS_p7, oS_g8, oS_p8, oP_ck, oP_g0, oP_p0, oP_g1, oP_p1, oP_g2, oP_p2, oP_g3, oP_p3, oP_g4, oP_p4, oP_g5, oP_p5, oP_g6, oP_p6, oP_g7, oP_p7, oP_g8, oP_p8, oP_g9, oP_p9, oP_g10, oP_p10, oP_g11, oP_p11, oP_g12, oP_p12, oR_ck, oR_g0, oR_p0, oR_g1, oR_p1, oR_g2, oR_p2, oR_g3, oR_p3, oR_g4, oR_p4, oG_ck, oG_g0, oG_p0, oG_g1, oG_p1, oG_g2, oG_p2, oW_ck, oW_g0, oW_p0, oW_g1, oW_p1, oW_g2, oW_p2, oB_ck, oB_g0, oB_p0, oB_g1, oB_p1, oB_g2, oB_p2, oB_g3, oB_p3, oB_g4, oB_p4, oB_g5, oB_p5, oB_g6, oB_p6, oC_ck, oC_g0, oC_p0, oC_g1, oC_p1, oC_g2, oC_p2, oC_g3, oC_p3, oC_g4, oC_p4, oC_g5, oC_p5, oC_g6, oC_p6, oH_ck, oH_g0, oH_p0, oH_g1, oH_p1, oH_g2, oH_p2, oH_g3, oH_p3, oM_ck, oM_g0, oM_p0, oM_g1, oM_p1, oM_g2, oM_p2, oM_g3, oM_p3, oM_g4, oM_p4, oM_g5, oM_p5, oM_g6, oM_p6, oM_g7, oM_p7, oM_g8, oM_p8, oM_g9, oM_p9, oM_g10, oM_p10, oM_g11, oM_p11, oM_g12, oM_p12, oM_g13, oM_p13, oM_g14, oM_p14, oM_g15, oM_p15, oM_g16, oM_p16, oM_g17, oM_p17, oM_g18, oM_p18, oM_g19, oM_p19, oM_g20, oM_p20, oM_g21, oM_p21, oM_g22, oM_p22, oM_g23, oM_p23, oM_g24, oM_p24, oM_g25, oM_p25, oM_g26, oM_p26, oM_g27, oM_p27, oM_g28, oM_p28, oM_g29, oM_p29, ng2, nc2, ng3, nc3, ng6, nc6, ng7, nc7, ng8, nc8, ng10, nc10, ng12, nc12, ng20, nc20, ng24, nc24, ng41, nc41, ng300, nc300, rplI, rplZ, rplJ, bl0, bl1, bl2, bl3, bl4, bl5, bl6, bl7, bl8, Nat.reduceLeDiff, not_false_eq_true, hp]
  refine congrArg (Q none (24, 435)) (funext fun j => ?_)
  by_cases c : 23 ≤ j ∧ j ≤ 24
  · obtain ⟨k, rfl⟩ : ∃ k, j = 23 + k := ⟨j - 23, by omega⟩
    have hk : k < 2 := by omega
    match k, hk with
    | 0, _ => rfl
    | 1, _ => rfl
    | k + 2, q => omega
  · have ne : ∀ a : Nat, 23 ≤ a → a ≤ 24 → (j = a) = False := fun a a1 a2 => eq_false (by omega)
    simp only [hput_at, ne 23 (by decide) (by decide), ne 24 (by decide) (by decide), if_false]
set_option maxHeartbeats 2000000 in
theorem iW_26 (h : Hp) (hp : h 26 = some (oW .null .null (.int (nI 0)))) (Q : Option Value → Zc → Hp → Prop) : Ev 133 (0, [some (.ref 26)], [], (26, 441), h) Q = Q none (28, 461) (hput (hput (hput h 26 (oW (.ref 27) (.ref 28) (.int (nI 0)))) 27 (AI 10 zF)) 28 (AI 10 zF)) := by
  simp only [m133_0, m133_1, m133_4, m133_5, m133_7, m133_9, m133_12, m133_13, m133_15, m133_17, m133_20, ob_some, pushr_s, pushr_n, iget_eq, gf_eq, pf_eq, ck_eq, alen_eq, rget_eq, iset_eq, Option.bind_some, Option.map_some, Option.elim_some, hput_at, ↓reduceIte, Nat.reduceEqDiff, Nat.reduceAdd, ne_eq, not_false_eq_true, oS_ck, oS_g0, oS_p0, oS_g1, oS_p1, oS_g2, oS_p2, oS_g3, oS_p3, oS_g4, oS_p4, oS_g5, oS_p5, oS_g6, oS_p6, oS_g7, oS_p7, oS_g8, oS_p8, oP_ck, oP_g0, oP_p0, oP_g1, oP_p1, oP_g2, oP_p2, oP_g3, oP_p3, oP_g4, oP_p4, oP_g5, oP_p5, oP_g6, oP_p6, oP_g7, oP_p7, oP_g8, oP_p8, oP_g9, oP_p9, oP_g10, oP_p10, oP_g11, oP_p11, oP_g12, oP_p12, oR_ck, oR_g0, oR_p0, oR_g1, oR_p1, oR_g2, oR_p2, oR_g3, oR_p3, oR_g4, oR_p4, oG_ck, oG_g0, oG_p0, oG_g1, oG_p1, oG_g2, oG_p2, oW_ck, oW_g0, oW_p0, oW_g1, oW_p1, oW_g2, oW_p2, oB_ck, oB_g0, oB_p0, oB_g1, oB_p1, oB_g2, oB_p2, oB_g3, oB_p3, oB_g4, oB_p4, oB_g5, oB_p5, oB_g6, oB_p6, oC_ck, oC_g0, oC_p0, oC_g1, oC_p1, oC_g2, oC_p2, oC_g3, oC_p3, oC_g4, oC_p4, oC_g5, oC_p5, oC_g6, oC_p6, oH_ck, oH_g0, oH_p0, oH_g1, oH_p1, oH_g2, oH_p2, oH_g3, oH_p3, oM_ck, oM_g0, oM_p0, oM_g1, oM_p1, oM_g2, oM_p2, oM_g3, oM_p3, oM_g4, oM_p4, oM_g5, oM_p5, oM_g6, oM_p6, oM_g7, oM_p7, oM_g8, oM_p8, oM_g9, oM_p9, oM_g10, oM_p10, oM_g11, oM_p11, oM_g12, oM_p12, oM_g13, oM_p13, oM_g14, oM_p14, oM_g15, oM_p15, oM_g16, oM_p16, oM_g17, oM_p17, oM_g18, oM_p18, oM_g19, oM_p19, oM_g20, oM_p20, oM_g21, oM_p21, oM_g22, oM_p22, oM_g23, oM_p23, oM_g24, oM_p24, oM_g25, oM_p25, oM_g26, oM_p26, oM_g27, oM_p27, oM_g28, oM_p28, oM_g29, oM_p29, ng2, nc2, ng3, nc3, ng6, nc6, ng7, nc7, ng8, nc8, ng10, nc10, ng12, nc12, ng20, nc20, ng24, nc24, ng41, nc41, ng300, nc300, rplI, rplZ, rplJ, bl0, bl1, bl2, bl3, bl4, bl5, bl6, bl7, bl8, Nat.reduceLeDiff, not_false_eq_true, hp]
  refine congrArg (Q none (28, 461)) (funext fun j => ?_)
  by_cases c : 26 ≤ j ∧ j ≤ 28
  · obtain ⟨k, rfl⟩ : ∃ k, j = 26 + k := ⟨j - 26, by omega⟩
    have hk : k < 3 := by omega
    match k, hk with
    | 0, _ => rfl
    | 1, _ => rfl
    | 2, _ => rfl
    | k + 3, q => omega
  · have ne : ∀ a : Nat, 26 ≤ a → a ≤ 28 → (j = a) = False := fun a a1 a2 => eq_false (by omega)
    simp only [hput_at, ne 26 (by decide) (by decide), ne 27 (by decide) (by decide), ne 28 (by decide) (by decide), if_false]
set_option maxHeartbeats 2000000 in
theorem iG_25 (h : Hp) (hp : h 25 = some (oG .null (.int (nI 0)) (.int (nI 0)))) (Q : Option Value → Zc → Hp → Prop) : Ev 128 (0, [some (.ref 25)], [], (25, 438), h) Q = Q none (28, 461) (hput (hput (hput (hput h 25 (oG (.ref 26) (.int (nI 0)) (.int (nI 0)))) 26 (oW (.ref 27) (.ref 28) (.int (nI 0)))) 27 (AI 10 zF)) 28 (AI 10 zF)) := by
  simp only [m128_0, m128_1, m128_4, m128_5, m128_8, m128_9, m128_12, m128_15, ob_some, pushr_s, pushr_n, iget_eq, gf_eq, pf_eq, ck_eq, alen_eq, rget_eq, iset_eq, Option.bind_some, Option.map_some, Option.elim_some, hput_at, ↓reduceIte, Nat.reduceEqDiff, Nat.reduceAdd, ne_eq, not_false_eq_true, oS_ck, oS_g0, oS_p0, oS_g1, oS_p1, oS_g2, oS_p2, oS_g3, oS_p3, oS_g4, oS_p4, oS_g5, oS_p5, oS_g6, oS_p6, oS_g7, oS_p7, oS_g8, oS_p8, oP_ck, oP_g0, oP_p0, oP_g1, oP_p1, oP_g2, oP_p2, oP_g3, oP_p3, oP_g4, oP_p4, oP_g5, oP_p5, oP_g6, oP_p6, oP_g7, oP_p7, oP_g8, oP_p8, oP_g9, oP_p9, oP_g10, oP_p10, oP_g11, oP_p11, oP_g12, oP_p12, oR_ck, oR_g0, oR_p0, oR_g1, oR_p1, oR_g2, oR_p2, oR_g3, oR_p3, oR_g4, oR_p4, oG_ck, oG_g0, oG_p0, oG_g1, oG_p1, oG_g2, oG_p2, oW_ck, oW_g0, oW_p0, oW_g1, oW_p1, oW_g2, oW_p2, oB_ck, oB_g0, oB_p0, oB_g1, oB_p1, oB_g2, oB_p2, oB_g3, oB_p3, oB_g4, oB_p4, oB_g5, oB_p5, oB_g6, oB_p6, oC_ck, oC_g0, oC_p0, oC_g1, oC_p1, oC_g2, oC_p2, oC_g3, oC_p3, oC_g4, oC_p4, oC_g5, oC_p5, oC_g6, oC_p6, oH_ck, oH_g0, oH_p0, oH_g1, oH_p1, oH_g2, oH_p2, oH_g3, oH_p3, oM_ck, oM_g0, oM_p0, oM_g1, oM_p1, oM_g2, oM_p2, oM_g3, oM_p3, oM_g4, oM_p4, oM_g5, oM_p5, oM_g6, oM_p6, oM_g7, oM_p7, oM_g8, oM_p8, oM_g9, oM_p9, oM_g10, oM_p10, oM_g11, oM_p11, oM_g12, oM_p12, oM_g13, oM_p13, oM_g14, oM_p14, oM_g15, oM_p15, oM_g16, oM_p16, oM_g17, oM_p17, oM_g18, oM_p18, oM_g19, oM_p19, oM_g20, oM_p20, oM_g21, oM_p21, oM_g22, oM_p22, oM_g23, oM_p23, oM_g24, oM_p24, oM_g25, oM_p25, oM_g26, oM_p26, oM_g27, oM_p27, oM_g28, oM_p28, oM_g29, oM_p29, ng2, nc2, ng3, nc3, ng6, nc6, ng7, nc7, ng8, nc8, ng10, nc10, ng12, nc12, ng20, nc20, ng24, nc24, ng41, nc41, ng300, nc300, rplI, rplZ, rplJ, bl0, bl1, bl2, bl3, bl4, bl5, bl6, bl7, bl8, Nat.reduceLeDiff, not_false_eq_true, hp, iW_26]
  refine congrArg (Q none (28, 461)) (funext fun j => ?_)
  by_cases c : 25 ≤ j ∧ j ≤ 28
  · obtain ⟨k, rfl⟩ : ∃ k, j = 25 + k := ⟨j - 25, by omega⟩
    have hk : k < 4 := by omega
    match k, hk with
    | 0, _ => rfl
    | 1, _ => rfl
    | 2, _ => rfl
    | 3, _ => rfl
    | k + 4, q => omega
  · have ne : ∀ a : Nat, 25 ≤ a → a ≤ 28 → (j = a) = False := fun a a1 a2 => eq_false (by omega)
    simp only [hput_at, ne 25 (by decide) (by decide), ne 26 (by decide) (by decide), ne 27 (by decide) (by decide), ne 28 (by decide) (by decide), if_false]
set_option maxHeartbeats 2000000 in
theorem iW_34 (h : Hp) (hp : h 34 = some (oW .null .null (.int (nI 0)))) (Q : Option Value → Zc → Hp → Prop) : Ev 133 (0, [some (.ref 34)], [], (34, 496), h) Q = Q none (36, 516) (hput (hput (hput h 34 (oW (.ref 35) (.ref 36) (.int (nI 0)))) 35 (AI 10 zF)) 36 (AI 10 zF)) := by
  simp only [m133_0, m133_1, m133_4, m133_5, m133_7, m133_9, m133_12, m133_13, m133_15, m133_17, m133_20, ob_some, pushr_s, pushr_n, iget_eq, gf_eq, pf_eq, ck_eq, alen_eq, rget_eq, iset_eq, Option.bind_some, Option.map_some, Option.elim_some, hput_at, ↓reduceIte, Nat.reduceEqDiff, Nat.reduceAdd, ne_eq, not_false_eq_true, oS_ck, oS_g0, oS_p0, oS_g1, oS_p1, oS_g2, oS_p2, oS_g3, oS_p3, oS_g4, oS_p4, oS_g5, oS_p5, oS_g6, oS_p6, oS_g7, oS_p7, oS_g8, oS_p8, oP_ck, oP_g0, oP_p0, oP_g1, oP_p1, oP_g2, oP_p2, oP_g3, oP_p3, oP_g4, oP_p4, oP_g5, oP_p5, oP_g6, oP_p6, oP_g7, oP_p7, oP_g8, oP_p8, oP_g9, oP_p9, oP_g10, oP_p10, oP_g11, oP_p11, oP_g12, oP_p12, oR_ck, oR_g0, oR_p0, oR_g1, oR_p1, oR_g2, oR_p2, oR_g3, oR_p3, oR_g4, oR_p4, oG_ck, oG_g0, oG_p0, oG_g1, oG_p1, oG_g2, oG_p2, oW_ck, oW_g0, oW_p0, oW_g1, oW_p1, oW_g2, oW_p2, oB_ck, oB_g0, oB_p0, oB_g1, oB_p1, oB_g2, oB_p2, oB_g3, oB_p3, oB_g4, oB_p4, oB_g5, oB_p5, oB_g6, oB_p6, oC_ck, oC_g0, oC_p0, oC_g1, oC_p1, oC_g2, oC_p2, oC_g3, oC_p3, oC_g4, oC_p4, oC_g5, oC_p5, oC_g6, oC_p6, oH_ck, oH_g0, oH_p0, oH_g1, oH_p1, oH_g2, oH_p2, oH_g3, oH_p3, oM_ck, oM_g0, oM_p0, oM_g1, oM_p1, oM_g2, oM_p2, oM_g3, oM_p3, oM_g4, oM_p4, oM_g5, oM_p5, oM_g6, oM_p6, oM_g7, oM_p7, oM_g8, oM_p8, oM_g9, oM_p9, oM_g10, oM_p10, oM_g11, oM_p11, oM_g12, oM_p12, oM_g13, oM_p13, oM_g14, oM_p14, oM_g15, oM_p15, oM_g16, oM_p16, oM_g17, oM_p17, oM_g18, oM_p18, oM_g19, oM_p19, oM_g20, oM_p20, oM_g21, oM_p21, oM_g22, oM_p22, oM_g23, oM_p23, oM_g24, oM_p24, oM_g25, oM_p25, oM_g26, oM_p26, oM_g27, oM_p27, oM_g28, oM_p28, oM_g29, oM_p29, ng2, nc2, ng3, nc3, ng6, nc6, ng7, nc7, ng8, nc8, ng10, nc10, ng12, nc12, ng20, nc20, ng24, nc24, ng41, nc41, ng300, nc300, rplI, rplZ, rplJ, bl0, bl1, bl2, bl3, bl4, bl5, bl6, bl7, bl8, Nat.reduceLeDiff, not_false_eq_true, hp]
  refine congrArg (Q none (36, 516)) (funext fun j => ?_)
  by_cases c : 34 ≤ j ∧ j ≤ 36
  · obtain ⟨k, rfl⟩ : ∃ k, j = 34 + k := ⟨j - 34, by omega⟩
    have hk : k < 3 := by omega
    match k, hk with
    | 0, _ => rfl
    | 1, _ => rfl
    | 2, _ => rfl
    | k + 3, q => omega
  · have ne : ∀ a : Nat, 34 ≤ a → a ≤ 36 → (j = a) = False := fun a a1 a2 => eq_false (by omega)
    simp only [hput_at, ne 34 (by decide) (by decide), ne 35 (by decide) (by decide), ne 36 (by decide) (by decide), if_false]
set_option maxHeartbeats 2000000 in
theorem iW_37 (h : Hp) (hp : h 37 = some (oW .null .null (.int (nI 0)))) (Q : Option Value → Zc → Hp → Prop) : Ev 133 (0, [some (.ref 37)], [], (37, 519), h) Q = Q none (39, 539) (hput (hput (hput h 37 (oW (.ref 38) (.ref 39) (.int (nI 0)))) 38 (AI 10 zF)) 39 (AI 10 zF)) := by
  simp only [m133_0, m133_1, m133_4, m133_5, m133_7, m133_9, m133_12, m133_13, m133_15, m133_17, m133_20, ob_some, pushr_s, pushr_n, iget_eq, gf_eq, pf_eq, ck_eq, alen_eq, rget_eq, iset_eq, Option.bind_some, Option.map_some, Option.elim_some, hput_at, ↓reduceIte, Nat.reduceEqDiff, Nat.reduceAdd, ne_eq, not_false_eq_true, oS_ck, oS_g0, oS_p0, oS_g1, oS_p1, oS_g2, oS_p2, oS_g3, oS_p3, oS_g4, oS_p4, oS_g5, oS_p5, oS_g6, oS_p6, oS_g7, oS_p7, oS_g8, oS_p8, oP_ck, oP_g0, oP_p0, oP_g1, oP_p1, oP_g2, oP_p2, oP_g3, oP_p3, oP_g4, oP_p4, oP_g5, oP_p5, oP_g6, oP_p6, oP_g7, oP_p7, oP_g8, oP_p8, oP_g9, oP_p9, oP_g10, oP_p10, oP_g11, oP_p11, oP_g12, oP_p12, oR_ck, oR_g0, oR_p0, oR_g1, oR_p1, oR_g2, oR_p2, oR_g3, oR_p3, oR_g4, oR_p4, oG_ck, oG_g0, oG_p0, oG_g1, oG_p1, oG_g2, oG_p2, oW_ck, oW_g0, oW_p0, oW_g1, oW_p1, oW_g2, oW_p2, oB_ck, oB_g0, oB_p0, oB_g1, oB_p1, oB_g2, oB_p2, oB_g3, oB_p3, oB_g4, oB_p4, oB_g5, oB_p5, oB_g6, oB_p6, oC_ck, oC_g0, oC_p0, oC_g1, oC_p1, oC_g2, oC_p2, oC_g3, oC_p3, oC_g4, oC_p4, oC_g5, oC_p5, oC_g6, oC_p6, oH_ck, oH_g0, oH_p0, oH_g1, oH_p1, oH_g2, oH_p2, oH_g3, oH_p3, oM_ck, oM_g0, oM_p0, oM_g1, oM_p1, oM_g2, oM_p2, oM_g3, oM_p3, oM_g4, oM_p4, oM_g5, oM_p5, oM_g6, oM_p6, oM_g7, oM_p7, oM_g8, oM_p8, oM_g9, oM_p9, oM_g10, oM_p10, oM_g11, oM_p11, oM_g12, oM_p12, oM_g13, oM_p13, oM_g14, oM_p14, oM_g15, oM_p15, oM_g16, oM_p16, oM_g17, oM_p17, oM_g18, oM_p18, oM_g19, oM_p19, oM_g20, oM_p20, oM_g21, oM_p21, oM_g22, oM_p22, oM_g23, oM_p23, oM_g24, oM_p24, oM_g25, oM_p25, oM_g26, oM_p26, oM_g27, oM_p27, oM_g28, oM_p28, oM_g29, oM_p29, ng2, nc2, ng3, nc3, ng6, nc6, ng7, nc7, ng8, nc8, ng10, nc10, ng12, nc12, ng20, nc20, ng24, nc24, ng41, nc41, ng300, nc300, rplI, rplZ, rplJ, bl0, bl1, bl2, bl3, bl4, bl5, bl6, bl7, bl8, Nat.reduceLeDiff, not_false_eq_true, hp]
  refine congrArg (Q none (39, 539)) (funext fun j => ?_)
  by_cases c : 37 ≤ j ∧ j ≤ 39
  · obtain ⟨k, rfl⟩ : ∃ k, j = 37 + k := ⟨j - 37, by omega⟩
    have hk : k < 3 := by omega
    match k, hk with
    | 0, _ => rfl
    | 1, _ => rfl
    | 2, _ => rfl
    | k + 3, q => omega
  · have ne : ∀ a : Nat, 37 ≤ a → a ≤ 39 → (j = a) = False := fun a a1 a2 => eq_false (by omega)
    simp only [hput_at, ne 37 (by decide) (by decide), ne 38 (by decide) (by decide), ne 39 (by decide) (by decide), if_false]
set_option maxHeartbeats 2000000 in
theorem iW_40 (h : Hp) (hp : h 40 = some (oW .null .null (.int (nI 0)))) (Q : Option Value → Zc → Hp → Prop) : Ev 133 (0, [some (.ref 40)], [], (40, 542), h) Q = Q none (42, 562) (hput (hput (hput h 40 (oW (.ref 41) (.ref 42) (.int (nI 0)))) 41 (AI 10 zF)) 42 (AI 10 zF)) := by
  simp only [m133_0, m133_1, m133_4, m133_5, m133_7, m133_9, m133_12, m133_13, m133_15, m133_17, m133_20, ob_some, pushr_s, pushr_n, iget_eq, gf_eq, pf_eq, ck_eq, alen_eq, rget_eq, iset_eq, Option.bind_some, Option.map_some, Option.elim_some, hput_at, ↓reduceIte, Nat.reduceEqDiff, Nat.reduceAdd, ne_eq, not_false_eq_true, oS_ck, oS_g0, oS_p0, oS_g1, oS_p1, oS_g2, oS_p2, oS_g3, oS_p3, oS_g4, oS_p4, oS_g5, oS_p5, oS_g6, oS_p6, oS_g7, oS_p7, oS_g8, oS_p8, oP_ck, oP_g0, oP_p0, oP_g1, oP_p1, oP_g2, oP_p2, oP_g3, oP_p3, oP_g4, oP_p4, oP_g5, oP_p5, oP_g6, oP_p6, oP_g7, oP_p7, oP_g8, oP_p8, oP_g9, oP_p9, oP_g10, oP_p10, oP_g11, oP_p11, oP_g12, oP_p12, oR_ck, oR_g0, oR_p0, oR_g1, oR_p1, oR_g2, oR_p2, oR_g3, oR_p3, oR_g4, oR_p4, oG_ck, oG_g0, oG_p0, oG_g1, oG_p1, oG_g2, oG_p2, oW_ck, oW_g0, oW_p0, oW_g1, oW_p1, oW_g2, oW_p2, oB_ck, oB_g0, oB_p0, oB_g1, oB_p1, oB_g2, oB_p2, oB_g3, oB_p3, oB_g4, oB_p4, oB_g5, oB_p5, oB_g6, oB_p6, oC_ck, oC_g0, oC_p0, oC_g1, oC_p1, oC_g2, oC_p2, oC_g3, oC_p3, oC_g4, oC_p4, oC_g5, oC_p5, oC_g6, oC_p6, oH_ck, oH_g0, oH_p0, oH_g1, oH_p1, oH_g2, oH_p2, oH_g3, oH_p3, oM_ck, oM_g0, oM_p0, oM_g1, oM_p1, oM_g2, oM_p2, oM_g3, oM_p3, oM_g4, oM_p4, oM_g5, oM_p5, oM_g6, oM_p6, oM_g7, oM_p7, oM_g8, oM_p8, oM_g9, oM_p9, oM_g10, oM_p10, oM_g11, oM_p11, oM_g12, oM_p12, oM_g13, oM_p13, oM_g14, oM_p14, oM_g15, oM_p15, oM_g16, oM_p16, oM_g17, oM_p17, oM_g18, oM_p18, oM_g19, oM_p19, oM_g20, oM_p20, oM_g21, oM_p21, oM_g22, oM_p22, oM_g23, oM_p23, oM_g24, oM_p24, oM_g25, oM_p25, oM_g26, oM_p26, oM_g27, oM_p27, oM_g28, oM_p28, oM_g29, oM_p29, ng2, nc2, ng3, nc3, ng6, nc6, ng7, nc7, ng8, nc8, ng10, nc10, ng12, nc12, ng20, nc20, ng24, nc24, ng41, nc41, ng300, nc300, rplI, rplZ, rplJ, bl0, bl1, bl2, bl3, bl4, bl5, bl6, bl7, bl8, Nat.reduceLeDiff, not_false_eq_true, hp]
  refine congrArg (Q none (42, 562)) (funext fun j => ?_)
  by_cases c : 40 ≤ j ∧ j ≤ 42
  · obtain ⟨k, rfl⟩ : ∃ k, j = 40 + k := ⟨j - 40, by omega⟩
    have hk : k < 3 := by omega
    match k, hk with
    | 0, _ => rfl
    | 1, _ => rfl
    | 2, _ => rfl
    | k + 3, q => omega
  · have ne : ∀ a : Nat, 40 ≤ a → a ≤ 42 → (j = a) = False := fun a a1 a2 => eq_false (by omega)
    simp only [hput_at, ne 40 (by decide) (by decide), ne 41 (by decide) (by decide), ne 42 (by decide) (by decide), if_false]
set_option maxHeartbeats 2000000 in
theorem iW_43 (h : Hp) (hp : h 43 = some (oW .null .null (.int (nI 0)))) (Q : Option Value → Zc → Hp → Prop) : Ev 133 (0, [some (.ref 43)], [], (43, 565), h) Q = Q none (45, 585) (hput (hput (hput h 43 (oW (.ref 44) (.ref 45) (.int (nI 0)))) 44 (AI 10 zF)) 45 (AI 10 zF)) := by
  simp only [m133_0, m133_1, m133_4, m133_5, m133_7, m133_9, m133_12, m133_13, m133_15, m133_17, m133_20, ob_some, pushr_s, pushr_n, iget_eq, gf_eq, pf_eq, ck_eq, alen_eq, rget_eq, iset_eq, Option.bind_some, Option.map_some, Option.elim_some, hput_at, ↓reduceIte, Nat.reduceEqDiff, Nat.reduceAdd, ne_eq, not_false_eq_true, oS_ck, oS_g0, oS_p0, oS_g1, oS_p1, oS_g2, oS_p2, oS_g3, oS_p3, oS_g4, oS_p4, oS_g5, oS_p5, oS_g6, oS_p6, oS_g7, oS_p7, oS_g8, oS_p8, oP_ck, oP_g0, oP_p0, oP_g1, oP_p1, oP_g2, oP_p2, oP_g3, oP_p3, oP_g4, oP_p4, oP_g5, oP_p5, oP_g6, oP_p6, oP_g7, oP_p7, oP_g8, oP_p8, oP_g9, oP_p9, oP_g10, oP_p10, oP_g11, oP_p11, oP_g12, oP_p12, oR_ck, oR_g0, oR_p0, oR_g1, oR_p1, oR_g2, oR_p2, oR_g3, oR_p3, oR_g4, oR_p4, oG_ck, oG_g0, oG_p0, oG_g1, oG_p1, oG_g2, oG_p2, oW_ck, oW_g0, oW_p0, oW_g1, oW_p1, oW_g2, oW_p2, oB_ck, oB_g0, oB_p0, oB_g1, oB_p1, oB_g2, oB_p2, oB_g3, oB_p3, oB_g4, oB_p4, oB_g5, oB_p5, oB_g6, oB_p6, oC_ck, oC_g0, oC_p0, oC_g1, oC_p1, oC_g2, oC_p2, oC_g3, oC_p3, oC_g4, oC_p4, oC_g5, oC_p5, oC_g6, oC_p6, oH_ck, oH_g0, oH_p0, oH_g1, oH_p1, oH_g2, oH_p2, oH_g3, oH_p3, oM_ck, oM_g0, oM_p0, oM_g1, oM_p1, oM_g2, oM_p2, oM_g3, oM_p3, oM_g4, oM_p4, oM_g5, oM_p5, oM_g6, oM_p6, oM_g7, oM_p7, oM_g8, oM_p8, oM_g9, oM_p9, oM_g10, oM_p10, oM_g11, oM_p11, oM_g12, oM_p12, oM_g13, oM_p13, oM_g14, oM_p14, oM_g15, oM_p15, oM_g16, oM_p16, oM_g17, oM_p17, oM_g18, oM_p18, oM_g19, oM_p19, oM_g20, oM_p20, oM_g21, oM_p21, oM_g22, oM_p22, oM_g23, oM_p23, oM_g24, oM_p24, oM_g25, oM_p25, oM_g26, oM_p26, oM_g27, oM_p27, oM_g28, oM_p28, oM_g29, oM_p29, ng2, nc2, ng3, nc3, ng6, nc6, ng7, nc7, ng8, nc8, ng10, nc10, ng12, nc12, ng20, nc20, ng24, nc24, ng41, nc41, ng300, nc300, rplI, rplZ, rplJ, bl0, bl1, bl2, bl3, bl4, bl5, bl6, bl7, bl8, Nat.reduceLeDiff, not_false_eq_true, hp]
  refine congrArg (Q none (45, 585)) (funext fun j => ?_)
  by_cases c : 43 ≤ j ∧ j ≤ 45
  · obtain ⟨k, rfl⟩ : ∃ k, j = 43 + k := ⟨j - 43, by omega⟩
    have hk : k < 3 := by omega
    match k, hk with
    | 0, _ => rfl
    | 1, _ => rfl
    | 2, _ => rfl
    | k + 3, q => omega
  · have ne : ∀ a : Nat, 43 ≤ a → a ≤ 45 → (j = a) = False := fun a a1 a2 => eq_false (by omega)
    simp only [hput_at, ne 43 (by decide) (by decide), ne 44 (by decide) (by decide), ne 45 (by decide) (by decide), if_false]
set_option maxHeartbeats 2000000 in
theorem iW_46 (h : Hp) (hp : h 46 = some (oW .null .null (.int (nI 0)))) (Q : Option Value → Zc → Hp → Prop) : Ev 133 (0, [some (.ref 46)], [], (46, 588), h) Q = Q none (48, 608) (hput (hput (hput h 46 (oW (.ref 47) (.ref 48) (.int (nI 0)))) 47 (AI 10 zF)) 48 (AI 10 zF)) := by
  simp only [m133_0, m133_1, m133_4, m133_5, m133_7, m133_9, m133_12, m133_13, m133_15, m133_17, m133_20, ob_some, pushr_s, pushr_n, iget_eq, gf_eq, pf_eq, ck_eq, alen_eq, rget_eq, iset_eq, Option.bind_some, Option.map_some, Option.elim_some, hput_at, ↓reduceIte, Nat.reduceEqDiff, Nat.reduceAdd, ne_eq, not_false_eq_true, oS_ck, oS_g0, oS_p0, oS_g1, oS_p1, oS_g2, oS_p2, oS_g3, oS_p3, oS_g4, oS_p4, oS_g5, oS_p5, oS_g6, oS_p6, oS_g7, oS_p7, oS_g8, oS_p8, oP_ck, oP_g0, oP_p0, oP_g1, oP_p1, oP_g2, oP_p2, oP_g3, oP_p3, oP_g4, oP_p4, oP_g5, oP_p5, oP_g6, oP_p6, oP_g7, oP_p7, oP_g8, oP_p8, oP_g9, oP_p9, oP_g10, oP_p10, oP_g11, oP_p11, oP_g12, oP_p12, oR_ck, oR_g0, oR_p0, oR_g1, oR_p1, oR_g2, oR_p2, oR_g3, oR_p3, oR_g4, oR_p4, oG_ck, oG_g0, oG_p0, oG_g1, oG_p1, oG_g2, oG_p2, oW_ck, oW_g0, oW_p0, oW_g1, oW_p1, oW_g2, oW_p2, oB_ck, oB_g0, oB_p0, oB_g1, oB_p1, oB_g2, oB_p2, oB_g3, oB_p3, oB_g4, oB_p4, oB_g5, oB_p5, oB_g6, oB_p6, oC_ck, oC_g0, oC_p0, oC_g1, oC_p1, oC_g2, oC_p2, oC_g3, oC_p3, oC_g4, oC_p4, oC_g5, oC_p5, oC_g6, oC_p6, oH_ck, oH_g0, oH_p0, oH_g1, oH_p1, oH_g2, oH_p2, oH_g3, oH_p3, oM_ck, oM_g0, oM_p0, oM_g1, oM_p1, oM_g2, oM_p2, oM_g3, oM_p3, oM_g4, oM_p4, oM_g5, oM_p5, oM_g6, oM_p6, oM_g7, oM_p7, oM_g8, oM_p8, oM_g9, oM_p9, oM_g10, oM_p10, oM_g11, oM_p11, oM_g12, oM_p12, oM_g13, oM_p13, oM_g14, oM_p14, oM_g15, oM_p15, oM_g16, oM_p16, oM_g17, oM_p17, oM_g18, oM_p18, oM_g19, oM_p19, oM_g20, oM_p20, oM_g21, oM_p21, oM_g22, oM_p22, oM_g23, oM_p23, oM_g24, oM_p24, oM_g25, oM_p25, oM_g26, oM_p26, oM_g27, oM_p27, oM_g28, oM_p28, oM_g29, oM_p29, ng2, nc2, ng3, nc3, ng6, nc6, ng7, nc7, ng8, nc8, ng10, nc10, ng12, nc12, ng20, nc20, ng24, nc24, ng41, nc41, ng300, nc300, rplI, rplZ, rplJ, bl0, bl1, bl2, bl3, bl4, bl5, bl6, bl7, bl8, Nat.reduceLeDiff, not_false_eq_true, hp]
  refine congrArg (Q none (48, 608)) (funext fun j => ?_)
  by_cases c : 46 ≤ j ∧ j ≤ 48
  · obtain ⟨k, rfl⟩ : ∃ k, j = 46 + k := ⟨j - 46, by omega⟩
    have hk : k < 3 := by omega
    match k, hk with
    | 0, _ => rfl
    | 1, _ => rfl
    | 2, _ => rfl
    | k + 3, q => omega
  · have ne : ∀ a : Nat, 46 ≤ a → a ≤ 48 → (j = a) = False := fun a a1 a2 => eq_false (by omega)
    simp only [hput_at, ne 46 (by decide) (by decide), ne 47 (by decide) (by decide), ne 48 (by decide) (by decide), if_false]
set_option maxHeartbeats 2000000 in
theorem iW_49 (h : Hp) (hp : h 49 = some (oW .null .null (.int (nI 0)))) (Q : Option Value → Zc → Hp → Prop) : Ev 133 (0, [some (.ref 49)], [], (49, 611), h) Q = Q none (51, 631) (hput (hput (hput h 49 (oW (.ref 50) (.ref 51) (.int (nI 0)))) 50 (AI 10 zF)) 51 (AI 10 zF)) := by
  simp only [m133_0, m133_1, m133_4, m133_5, m133_7, m133_9, m133_12, m133_13, m133_15, m133_17, m133_20, ob_some, pushr_s, pushr_n, iget_eq, gf_eq, pf_eq, ck_eq, alen_eq, rget_eq, iset_eq, Option.bind_some, Option.map_some, Option.elim_some, hput_at, ↓reduceIte, Nat.reduceEqDiff, Nat.reduceAdd, ne_eq, not_false_eq_true, oS_ck, oS_g0, oS_p0, oS_g1, oS_p1, oS_g2, oS_p2, oS_g3, oS_p3, oS_g4, oS_p4, oS_g5, oS_p5, oS_g6, oS_p6, oS_g7, oS_p7, oS_g8, oS_p8, oP_ck, oP_g0, oP_p0, oP_g1, oP_p1, oP_g2, oP_p2, oP_g3, oP_p3, oP_g4, oP_p4, oP_g5, oP_p5, oP_g6, oP_p6, oP_g7, oP_p7, oP_g8, oP_p8, oP_g9, oP_p9, oP_g10, oP_p10, oP_g11, oP_p11, oP_g12, oP_p12, oR_ck, oR_g0, oR_p0, oR_g1, oR_p1, oR_g2, oR_p2, oR_g3, oR_p3, oR_g4, oR_p4, oG_ck, oG_g0, oG_p0, oG_g1, oG_p1, oG_g2, oG_p2, oW_ck, oW_g0, oW_p0, oW_g1, oW_p1, oW_g2, oW_p2, oB_ck, oB_g0, oB_p0, oB_g1, oB_p1, oB_g2, oB_p2, oB_g3, oB_p3, oB_g4, oB_p4, oB_g5, oB_p5, oB_g6, oB_p6, oC_ck, oC_g0, oC_p0, oC_g1, oC_p1, oC_g2, oC_p2, oC_g3, oC_p3, oC_g4, oC_p4, oC_g5, oC_p5, oC_g6, oC_p6, oH_ck, oH_g0, oH_p0, oH_g1, oH_p1, oH_g2, oH_p2, oH_g3, oH_p3, oM_ck, oM_g0, oM_p0, oM_g1, oM_p1, oM_g2, oM_p2, oM_g3, oM_p3, oM_g4, oM_p4, oM_g5, oM_p5, oM_g6, oM_p6, oM_g7, oM_p7, oM_g8, oM_p8, oM_g9, oM_p9, oM_g10, oM_p10, oM_g11, oM_p11, oM_g12, oM_p12, oM_g13, oM_p13, oM_g14, oM_p14, oM_g15, oM_p15, oM_g16, oM_p16, oM_g17, oM_p17, oM_g18, oM_p18, oM_g19, oM_p19, oM_g20, oM_p20, oM_g21, oM_p21, oM_g22, oM_p22, oM_g23, oM_p23, oM_g24, oM_p24, oM_g25, oM_p25, oM_g26, oM_p26, oM_g27, oM_p27, oM_g28, oM_p28, oM_g29, oM_p29, ng2, nc2, ng3, nc3, ng6, nc6, ng7, nc7, ng8, nc8, ng10, nc10, ng12, nc12, ng20, nc20, ng24, nc24, ng41, nc41, ng300, nc300, rplI, rplZ, rplJ, bl0, bl1, bl2, bl3, bl4, bl5, bl6, bl7, bl8, Nat.reduceLeDiff, not_false_eq_true, hp]
  refine congrArg (Q none (51, 631)) (funext fun j => ?_)
  by_cases c : 49 ≤ j ∧ j ≤ 51
  · obtain ⟨k, rfl⟩ : ∃ k, j = 49 + k := ⟨j - 49, by omega⟩
    have hk : k < 3 := by omega
    match k, hk with
    | 0, _ => rfl
    | 1, _ => rfl
    | 2, _ => rfl
    | k + 3, q => omega
  · have ne : ∀ a : Nat, 49 ≤ a → a ≤ 51 → (j = a) = False := fun a a1 a2 => eq_false (by omega)
    simp only [hput_at, ne 49 (by decide) (by decide), ne 50 (by decide) (by decide), ne 51 (by decide) (by decide), if_false]
set_option maxHeartbeats 2000000 in
theorem iW_52 (h : Hp) (hp : h 52 = some (oW .null .null (.int (nI 0)))) (Q : Option Value → Zc → Hp → Prop) : Ev 133 (0, [some (.ref 52)], [], (52, 634), h) Q = Q none (54, 654) (hput (hput (hput h 52 (oW (.ref 53) (.ref 54) (.int (nI 0)))) 53 (AI 10 zF)) 54 (AI 10 zF)) := by
  simp only [m133_0, m133_1, m133_4, m133_5, m133_7, m133_9, m133_12, m133_13, m133_15, m133_17, m133_20, ob_some, pushr_s, pushr_n, iget_eq, gf_eq, pf_eq, ck_eq, alen_eq, rget_eq, iset_eq, Option.bind_some, Option.map_some, Option.elim_some, hput_at, ↓reduceIte, Nat.reduceEqDiff, Nat.reduceAdd, ne_eq, not_false_eq_true, oS_ck, oS_g0, oS_p0, oS_g1, oS_p1, oS_g2, oS_p2, oS_g3, oS_p3, oS_g4, oS_p4, oS_g5, oS_p5, oS_g6, oS_p6, oS_g7, oS_p7, oS_g8, oS_p8, oP_ck, oP_g0, oP_p0, oP_g1, oP_p1, oP_g2, oP_p2, oP_g3, oP_p3, oP_g4, oP_p4, oP_g5, oP_p5, oP_g6, oP_p6, oP_g7, oP_p7, oP_g8, oP_p8, oP_g9, oP_p9, oP_g10, oP_p10, oP_g11, oP_p11, oP_g12, oP_p12, oR_ck, oR_g0, oR_p0, oR_g1, oR_p1, oR_g2, oR_p2, oR_g3, oR_p3, oR_g4, oR_p4, oG_ck, oG_g0, oG_p0, oG_g1, oG_p1, oG_g2, oG_p2, oW_ck, oW_g0, oW_p0, oW_g1, oW_p1, oW_g2, oW_p2, oB_ck, oB_g0, oB_p0, oB_g1, oB_p1, oB_g2, oB_p2, oB_g3, oB_p3, oB_g4, oB_p4, oB_g5, oB_p5, oB_g6, oB_p6, oC_ck, oC_g0, oC_p0, oC_g1, oC_p1, oC_g2, oC_p2, oC_g3, oC_p3, oC_g4, oC_p4, oC_g5, oC_p5, oC_g6, oC_p6, oH_ck, oH_g0, oH_p0, oH_g1, oH_p1, oH_g2, oH_p2, oH_g3, oH_p3, oM_ck, oM_g0, oM_p0, oM_g1, oM_p1, oM_g2, oM_p2, oM_g3, oM_p3, oM_g4, oM_p4, oM_g5, oM_p5, oM_g6, oM_p6, oM_g7, oM_p7, oM_g8, oM_p8, oM_g9, oM_p9, oM_g10, oM_p10, oM_g11, oM_p11, oM_g12, oM_p12, oM_g13, oM_p13, oM_g14, oM_p14, oM_g15, oM_p15, oM_g16, oM_p16, oM_g17, oM_p17, oM_g18, oM_p18, oM_g19, oM_p19, oM_g20, oM_p20, oM_g21, oM_p21, oM_g22, oM_p22, oM_g23, oM_p23, oM_g24, oM_p24, oM_g25, oM_p25, oM_g26, oM_p26, oM_g27, oM_p27, oM_g28, oM_p28, oM_g29, oM_p29, ng2, nc2, ng3, nc3, ng6, nc6, ng7, nc7, ng8, nc8, ng10, nc10, ng12, nc12, ng20, nc20, ng24, nc24, ng41, nc41, ng300, nc300, rplI, rplZ, rplJ, bl0, bl1, bl2, bl3, bl4, bl5, bl6, bl7, bl8, Nat.reduceLeDiff, not_false_eq_true, hp]
  refine congrArg (Q none (54, 654)) (funext fun j => ?_)
  by_cases c : 52 ≤ j ∧ j ≤ 54
  · obtain ⟨k, rfl⟩ : ∃ k, j = 52 + k := ⟨j - 52, by omega⟩
    have hk : k < 3 := by omega
    match k, hk with
    | 0, _ => rfl
    | 1, _ => rfl
    | 2, _ => rfl
    | k + 3, q => omega
  · have ne : ∀ a : Nat, 52 ≤ a → a ≤ 54 → (j = a) = False := fun a a1 a2 => eq_false (by omega)
    simp only [hput_at, ne 52 (by decide) (by decide), ne 53 (by decide) (by decide), ne 54 (by decide) (by decide), if_false]
