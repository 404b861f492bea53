/-! what the constructors make -/
def zF : Nat → Nat := fun _ => 0
def zP : Pl := fun _ _ => 0
theorem ng2 : (nI 2 < (0 : Int32)) = False := eq_false (by decide)
theorem nc2 : (nI 2).toNatClampNeg = 2 := by decide
theorem ng3 : (nI 3 < (0 : Int32)) = False := eq_false (by decide)
theorem nc3 : (nI 3).toNatClampNeg = 3 := by decide
theorem ng6 : (nI 6 < (0 : Int32)) = False := eq_false (by decide)
theorem nc6 : (nI 6).toNatClampNeg = 6 := by decide
theorem ng7 : (nI 7 < (0 : Int32)) = False := eq_false (by decide)
theorem nc7 : (nI 7).toNatClampNeg = 7 := by decide
theorem ng8 : (nI 8 < (0 : Int32)) = False := eq_false (by decide)
theorem nc8 : (nI 8).toNatClampNeg = 8 := by decide
theorem ng10 : (nI 10 < (0 : Int32)) = False := eq_false (by decide)
theorem nc10 : (nI 10).toNatClampNeg = 10 := by decide
theorem ng12 : (nI 12 < (0 : Int32)) = False := eq_false (by decide)
theorem nc12 : (nI 12).toNatClampNeg = 12 := by decide
theorem ng20 : (nI 20 < (0 : Int32)) = False := eq_false (by decide)
theorem nc20 : (nI 20).toNatClampNeg = 20 := by decide
theorem ng24 : (nI 24 < (0 : Int32)) = False := eq_false (by decide)
theorem nc24 : (nI 24).toNatClampNeg = 24 := by decide
theorem ng41 : (nI 41 < (0 : Int32)) = False := eq_false (by decide)
theorem nc41 : (nI 41).toNatClampNeg = 41 := by decide
theorem ng300 : (nI 300 < (0 : Int32)) = False := eq_false (by decide)
theorem nc300 : (nI 300).toNatClampNeg = 300 := by decide
theorem lsN_z : ∀ n, lsN n zF = List.replicate n 0 := fun n => by
  unfold lsN
  refine List.ext_getElem (by rw [List.length_map, List.length_range, List.length_replicate]) (fun i a b => ?_)
  rw [List.getElem_map, List.getElem_replicate]
  rfl
theorem rplI (n : Nat) : (Sum.inr (Sum.inl (false, List.replicate n (0 : Int32))) : AE) = AI n zF := by unfold AI; rw [lsN_z]
theorem rplZ (n : Nat) : (Sum.inr (Sum.inl (true, List.replicate n (0 : Int32))) : AE) = AZ n zF := by unfold AZ; rw [lsN_z]
theorem rplJ (n : Nat) : (Sum.inr (Sum.inr (Sum.inl (List.replicate n (0 : Int64)))) : AE) = AN n zF := by
  unfold AN AJ lsJ
  refine congrArg (fun l => (Sum.inr (Sum.inr (Sum.inl l)) : AE)) (List.ext_getElem (by rw [List.length_map, List.length_range, List.length_replicate]) (fun i a b => ?_))
  rw [List.getElem_map, List.getElem_replicate]
  rfl
theorem bl0 : blankE 0 = (oS .null .null .null .null .null .null .null) := by rfl
theorem bl1 : blankE 1 = (oP (.int (nI 0)) .null .null .null .null (.int (nI 0)) .null .null .null .null (.int (nI 0)) (.int (nI 0)) .null) := by rfl
theorem bl2 : blankE 2 = (oR .null (.int (nI 0)) .null .null) := by rfl
theorem bl3 : blankE 3 = (oG .null (.int (nI 0)) (.int (nI 0))) := by rfl
theorem bl4 : blankE 4 = (oW .null .null (.int (nI 0))) := by rfl
theorem bl5 : blankE 5 = (oB (.int (nI 0)) (.int (nI 0)) .null (.int (nI 0)) .null .null .null) := by rfl
theorem bl6 : blankE 6 = (oC (.int (nI 0)) .null .null .null (.int (nI 0)) .null .null) := by rfl
theorem bl7 : blankE 7 = (oH (.long (jN 0)) (.long (jN 0)) .null .null) := by rfl
theorem bl8 : blankE 8 = (oM (.int (nI 0)) .null .null .null .null .null .null .null .null .null .null .null .null .null .null (.int (nI 0)) (.int (nI 0)) .null (.int (nI 0)) .null .null (.int (nI 0)) (.int (nI 0)) (.int (nI 0)) .null .null .null .null .null .null) := by rfl
set_option maxHeartbeats 2000000 in
theorem iP_4 (h : Hp) (hp : h 4 = some (oP (.int (nI 0)) .null .null .null .null (.int (nI 0)) .null .null .null .null (.int (nI 0)) (.int (nI 0)) .null)) (Q : Option Value → Zc → Hp → Prop) : Ev 106 (0, [some (.ref 4)], [], (4, 324), h) Q = Q none (13, 370) (hput (hput (hput (hput (hput (hput (hput (hput (hput (hput h 4 (oP (.int (nI 0)) (.ref 5) (.ref 6) (.ref 7) (.ref 8) (.int (nI 0)) (.ref 9) (.ref 10) (.ref 11) (.ref 12) (.int (nI 0)) (.int (nI 0)) (.ref 13))) 5 (AI 3 zF)) 6 (AI 3 zF)) 7 (AI 3 zF)) 8 (AI 3 zF)) 9 (AI 6 zF)) 10 (AI 6 zF)) 11 (AI 6 zF)) 12 (AI 10 zF)) 13 (AI 6 zF)) := by
  simp only [m106_0, m106_1, m106_4, m106_5, m106_6, m106_8, m106_11, m106_12, m106_13, m106_15, m106_18, m106_19, m106_20, m106_22, m106_25, m106_26, m106_27, m106_29, m106_32, m106_33, m106_35, m106_37, m106_40, m106_41, m106_43, m106_45, m106_48, m106_49, m106_51, m106_53, m106_56, m106_57, m106_59, m106_61, m106_64, m106_65, m106_67, m106_69, m106_72, ob_some, pushr_s, pushr_n, iget_eq, gf_eq, pf_eq, ck_eq, alen_eq, rget_eq, iset_eq, Option.bind_some, Option.map_some, Option.elim_some, hput_at, ↓reduceIte, Nat.reduceEqDiff, Nat.reduceAdd, ne_eq, not_false_eq_true, oS_ck, oS_g0, oS_p0, oS_g1, oS_p1, oS_g2, oS_p2, oS_g3, oS_p3, oS_g4, oS_p4, oS_g5, oS_p5, oS_g6, oS_p6, oP_ck, oP_g0, oP_p0, oP_g1, oP_p1, oP_g2, oP_p2, oP_g3, oP_p3, oP_g4, oP_p4, oP_g5, oP_p5, oP_g6, oP_p6, oP_g7, oP_p7, oP_g8, oP_p8, oP_g9, oP_p9, oP_g10, oP_p10, oP_g11, oP_p11, oP_g12, oP_p12, oR_ck, oR_g0, oR_p0, oR_g1, oR_p1, oR_g2, oR_p2, oR_g3, oR_p3, oG_ck, oG_g0, oG_p0, oG_g1, oG_p1, oG_g2, oG_p2, oW_ck, oW_g0, oW_p0, oW_g1, oW_p1, oW_g2, oW_p2, oB_ck, oB_g0, oB_p0, oB_g1, oB_p1, oB_g2, oB_p2, oB_g3, oB_p3, oB_g4, oB_p4, oB_g5, oB_p5, oB_g6, oB_p6, oC_ck, oC_g0, oC_p0, oC_g1, oC_p1, oC_g2, oC_p2, oC_g3, oC_p3, oC_g4, oC_p4, oC_g5, oC_p5, oC_g6, oC_p6, oH_ck, oH_g0, oH_p0, oH_g1, oH_p1, oH_g2, oH_p2, oH_g3, oH_p3, oM_ck, oM_g0, oM_p0, oM_g1, oM_p1, oM_g2, oM_p2, oM_g3, oM_p3, oM_g4, oM_p4, oM_g5, oM_p5, oM_g6, oM_p6, oM_g7, oM_p7, oM_g8, oM_p8, oM_g9, oM_p9, oM_g10, oM_p10, oM_g11, oM_p11, oM_g12, oM_p12, oM_g13, oM_p13, oM_g14, oM_p14, oM_g15, oM_p15, oM_g16, oM_p16, oM_g17, oM_p17, oM_g18, oM_p18, oM_g19, oM_p19, oM_g20, oM_p20, oM_g21, oM_p21, oM_g22, oM_p22, oM_g23, oM_p23, oM_g24, oM_p24, oM_g25, oM_p25, oM_g26, oM_p26, oM_g27, oM_p27, oM_g28, oM_p28, oM_g29, oM_p29, ng2, nc2, ng3, nc3, ng6, nc6, ng7, nc7, ng8, nc8, ng10, nc10, ng12, nc12, ng20, nc20, ng24, nc24, ng41, nc41, ng300, nc300, rplI, rplZ, rplJ, bl0, bl1, bl2, bl3, bl4, bl5, bl6, bl7, bl8, Nat.reduceLeDiff, not_false_eq_true, hp]
  refine congrArg (Q none (13, 370)) (funext fun j => ?_)
  by_cases c : 4 ≤ j ∧ j ≤ 13
  · obtain ⟨k, rfl⟩ : ∃ k, j = 4 + k := ⟨j - 4, by omega⟩
    have hk : k < 10 := by omega
    match k, hk with
    | 0, _ => rfl
    | 1, _ => rfl
    | 2, _ => rfl
    | 3, _ => rfl
    | 4, _ => rfl
    | 5, _ => rfl
    | 6, _ => rfl
    | 7, _ => rfl
    | 8, _ => rfl
    | 9, _ => rfl
    | k + 10, q => omega
  · have ne : ∀ a : Nat, 4 ≤ a → a ≤ 13 → (j = a) = False := fun a a1 a2 => eq_false (by omega)
    simp only [hput_at, ne 4 (by decide) (by decide), ne 5 (by decide) (by decide), ne 6 (by decide) (by decide), ne 7 (by decide) (by decide), ne 8 (by decide) (by decide), ne 9 (by decide) (by decide), ne 10 (by decide) (by decide), ne 11 (by decide) (by decide), ne 12 (by decide) (by decide), ne 13 (by decide) (by decide), if_false]
set_option maxHeartbeats 2000000 in
theorem iR_2 (h : Hp) (hp : h 2 = some (oR .null (.int (nI 0)) .null .null)) (Q : Option Value → Zc → Hp → Prop) : Ev 127 (0, [some (.ref 2)], [], (2, 11), h) Q = Q none (14, 373) (hput (hput (hput (hput (hput (hput (hput (hput (hput (hput (hput (hput (hput h 2 (oR (.ref 3) (.int (nI 0)) (.ref 4) (.ref 14))) 3 (AI 300 zF)) 4 (oP (.int (nI 0)) (.ref 5) (.ref 6) (.ref 7) (.ref 8) (.int (nI 0)) (.ref 9) (.ref 10) (.ref 11) (.ref 12) (.int (nI 0)) (.int (nI 0)) (.ref 13))) 5 (AI 3 zF)) 6 (AI 3 zF)) 7 (AI 3 zF)) 8 (AI 3 zF)) 9 (AI 6 zF)) 10 (AI 6 zF)) 11 (AI 6 zF)) 12 (AI 10 zF)) 13 (AI 6 zF)) 14 (AI 3 zF)) := by
  simp only [m127_0, m127_1, m127_4, m127_5, m127_8, m127_10, m127_13, m127_14, m127_17, m127_18, m127_21, m127_24, m127_25, m127_26, m127_28, m127_31, ob_some, pushr_s, pushr_n, iget_eq, gf_eq, pf_eq, ck_eq, alen_eq, rget_eq, iset_eq, Option.bind_some, Option.map_some, Option.elim_some, hput_at, ↓reduceIte, Nat.reduceEqDiff, Nat.reduceAdd, ne_eq, not_false_eq_true, oS_ck, oS_g0, oS_p0, oS_g1, oS_p1, oS_g2, oS_p2, oS_g3, oS_p3, oS_g4, oS_p4, oS_g5, oS_p5, oS_g6, oS_p6, oP_ck, oP_g0, oP_p0, oP_g1, oP_p1, oP_g2, oP_p2, oP_g3, oP_p3, oP_g4, oP_p4, oP_g5, oP_p5, oP_g6, oP_p6, oP_g7, oP_p7, oP_g8, oP_p8, oP_g9, oP_p9, oP_g10, oP_p10, oP_g11, oP_p11, oP_g12, oP_p12, oR_ck, oR_g0, oR_p0, oR_g1, oR_p1, oR_g2, oR_p2, oR_g3, oR_p3, oG_ck, oG_g0, oG_p0, oG_g1, oG_p1, oG_g2, oG_p2, oW_ck, oW_g0, oW_p0, oW_g1, oW_p1, oW_g2, oW_p2, oB_ck, oB_g0, oB_p0, oB_g1, oB_p1, oB_g2, oB_p2, oB_g3, oB_p3, oB_g4, oB_p4, oB_g5, oB_p5, oB_g6, oB_p6, oC_ck, oC_g0, oC_p0, oC_g1, oC_p1, oC_g2, oC_p2, oC_g3, oC_p3, oC_g4, oC_p4, oC_g5, oC_p5, oC_g6, oC_p6, oH_ck, oH_g0, oH_p0, oH_g1, oH_p1, oH_g2, oH_p2, oH_g3, oH_p3, oM_ck, oM_g0, oM_p0, oM_g1, oM_p1, oM_g2, oM_p2, oM_g3, oM_p3, oM_g4, oM_p4, oM_g5, oM_p5, oM_g6, oM_p6, oM_g7, oM_p7, oM_g8, oM_p8, oM_g9, oM_p9, oM_g10, oM_p10, oM_g11, oM_p11, oM_g12, oM_p12, oM_g13, oM_p13, oM_g14, oM_p14, oM_g15, oM_p15, oM_g16, oM_p16, oM_g17, oM_p17, oM_g18, oM_p18, oM_g19, oM_p19, oM_g20, oM_p20, oM_g21, oM_p21, oM_g22, oM_p22, oM_g23, oM_p23, oM_g24, oM_p24, oM_g25, oM_p25, oM_g26, oM_p26, oM_g27, oM_p27, oM_g28, oM_p28, oM_g29, oM_p29, ng2, nc2, ng3, nc3, ng6, nc6, ng7, nc7, ng8, nc8, ng10, nc10, ng12, nc12, ng20, nc20, ng24, nc24, ng41, nc41, ng300, nc300, rplI, rplZ, rplJ, bl0, bl1, bl2, bl3, bl4, bl5, bl6, bl7, bl8, Nat.reduceLeDiff, not_false_eq_true, hp, iP_4]
  refine congrArg (Q none (14, 373)) (funext fun j => ?_)
  by_cases c : 2 ≤ j ∧ j ≤ 14
  · obtain ⟨k, rfl⟩ : ∃ k, j = 2 + k := ⟨j - 2, by omega⟩
    have hk : k < 13 := by omega
    match k, hk with
    | 0, _ => rfl
    | 1, _ => rfl
    | 2, _ => rfl
    | 3, _ => rfl
    | 4, _ => rfl
    | 5, _ => rfl
    | 6, _ => rfl
    | 7, _ => rfl
    | 8, _ => rfl
    | 9, _ => rfl
    | 10, _ => rfl
    | 11, _ => rfl
    | 12, _ => rfl
    | k + 13, q => omega
  · have ne : ∀ a : Nat, 2 ≤ a → a ≤ 14 → (j = a) = False := fun a a1 a2 => eq_false (by omega)
    simp only [hput_at, ne 2 (by decide) (by decide), ne 3 (by decide) (by decide), ne 4 (by decide) (by decide), ne 5 (by decide) (by decide), ne 6 (by decide) (by decide), ne 7 (by decide) (by decide), ne 8 (by decide) (by decide), ne 9 (by decide) (by decide), ne 10 (by decide) (by decide), ne 11 (by decide) (by decide), ne 12 (by decide) (by decide), ne 13 (by decide) (by decide), ne 14 (by decide) (by decide), if_false]
set_option maxHeartbeats 2000000 in
theorem iP_15 (h : Hp) (hp : h 15 = some (oP (.int (nI 0)) .null .null .null .null (.int (nI 0)) .null .null .null .null (.int (nI 0)) (.int (nI 0)) .null)) (Q : Option Value → Zc → Hp → Prop) : Ev 106 (0, [some (.ref 15)], [], (15, 386), h) Q = Q none (24, 432) (hput (hput (hput (hput (hput (hput (hput (hput (hput (hput h 15 (oP (.int (nI 0)) (.ref 16) (.ref 17) (.ref 18) (.ref 19) (.int (nI 0)) (.ref 20) (.ref 21) (.ref 22) (.ref 23) (.int (nI 0)) (.int (nI 0)) (.ref 24))) 16 (AI 3 zF)) 17 (AI 3 zF)) 18 (AI 3 zF)) 19 (AI 3 zF)) 20 (AI 6 zF)) 21 (AI 6 zF)) 22 (AI 6 zF)) 23 (AI 10 zF)) 24 (AI 6 zF)) := by
  simp only [m106_0, m106_1, m106_4, m106_5, m106_6, m106_8, m106_11, m106_12, m106_13, m106_15, m106_18, m106_19, m106_20, m106_22, m106_25, m106_26, m106_27, m106_29, m106_32, m106_33, m106_35, m106_37, m106_40, m106_41, m106_43, m106_45, m106_48, m106_49, m106_51, m106_53, m106_56, m106_57, m106_59, m106_61, m106_64, m106_65, m106_67, m106_69, m106_72, ob_some, pushr_s, pushr_n, iget_eq, gf_eq, pf_eq, ck_eq, alen_eq, rget_eq, iset_eq, Option.bind_some, Option.map_some, Option.elim_some, hput_at, ↓reduceIte, Nat.reduceEqDiff, Nat.reduceAdd, ne_eq, not_false_eq_true, oS_ck, oS_g0, oS_p0, oS_g1, oS_p1, oS_g2, oS_p2, oS_g3, oS_p3, oS_g4, oS_p4, oS_g5, oS_p5, oS_g6, oS_p6, oP_ck, oP_g0, oP_p0, oP_g1, oP_p1, oP_g2, oP_p2, oP_g3, oP_p3, oP_g4, oP_p4, oP_g5, oP_p5, oP_g6, oP_p6, oP_g7, oP_p7, oP_g8, oP_p8, oP_g9, oP_p9, oP_g10, oP_p10, oP_g11, oP_p11, oP_g12, oP_p12, oR_ck, oR_g0, oR_p0, oR_g1, oR_p1, oR_g2, oR_p2, oR_g3, oR_p3, oG_ck, oG_g0, oG_p0, oG_g1, oG_p1, oG_g2, oG_p2, oW_ck, oW_g0, oW_p0, oW_g1, oW_p1, oW_g2, oW_p2, oB_ck, oB_g0, oB_p0, oB_g1, oB_p1, oB_g2, oB_p2, oB_g3, oB_p3, oB_g4, oB_p4, oB_g5, oB_p5, oB_g6, oB_p6, oC_ck, oC_g0, oC_p0, oC_g1, oC_p1, oC_g2, oC_p2, oC_g3, oC_p3, oC_g4, oC_p4, oC_g5, oC_p5, oC_g6, oC_p6, oH_ck, oH_g0, oH_p0, oH_g1, oH_p1, oH_g2, oH_p2, oH_g3, oH_p3, oM_ck, oM_g0, oM_p0, oM_g1, oM_p1, oM_g2, oM_p2, oM_g3, oM_p3, oM_g4, oM_p4, oM_g5, oM_p5, oM_g6, oM_p6, oM_g7, oM_p7, oM_g8, oM_p8, oM_g9, oM_p9, oM_g10, oM_p10, oM_g11, oM_p11, oM_g12, oM_p12, oM_g13, oM_p13, oM_g14, oM_p14, oM_g15, oM_p15, oM_g16, oM_p16, oM_g17, oM_p17, oM_g18, oM_p18, oM_g19, oM_p19, oM_g20, oM_p20, oM_g21, oM_p21, oM_g22, oM_p22, oM_g23, oM_p23, oM_g24, oM_p24, oM_g25, oM_p25, oM_g26, oM_p26, oM_g27, oM_p27, oM_g28, oM_p28, oM_g29, oM_p29, ng2, nc2, ng3, nc3, ng6, nc6, ng7, nc7, ng8, nc8, ng10, nc10, ng12, nc12, ng20, nc20, ng24, nc24, ng41, nc41, ng300, nc300, rplI, rplZ, rplJ, bl0, bl1, bl2, bl3, bl4, bl5, bl6, bl7, bl8, Nat.reduceLeDiff, not_false_eq_true, hp]
  refine congrArg (Q none (24, 432)) (funext fun j => ?_)
  by_cases c : 15 ≤ j ∧ j ≤ 24
  · obtain ⟨k, rfl⟩ : ∃ k, j = 15 + k := ⟨j - 15, by omega⟩
    have hk : k < 10 := by omega
    match k, hk with
    | 0, _ => rfl
    | 1, _ => rfl
    | 2, _ => rfl
    | 3, _ => rfl
    | 4, _ => rfl
    | 5, _ => rfl
    | 6, _ => rfl
    | 7, _ => rfl
    | 8, _ => rfl
    | 9, _ => rfl
    | k + 10, q => omega
  · have ne : ∀ a : Nat, 15 ≤ a → a ≤ 24 → (j = a) = False := fun a a1 a2 => eq_false (by omega)
    simp only [hput_at, ne 15 (by decide) (by decide), ne 16 (by decide) (by decide), ne 17 (by decide) (by decide), ne 18 (by decide) (by decide), ne 19 (by decide) (by decide), ne 20 (by decide) (by decide), ne 21 (by decide) (by decide), ne 22 (by decide) (by decide), ne 23 (by decide) (by decide), ne 24 (by decide) (by decide), if_false]
set_option maxHeartbeats 2000000 in
theorem iP_25 (h : Hp) (hp : h 25 = some (oP (.int (nI 0)) .null .null .null .null (.int (nI 0)) .null .null .null .null (.int (nI 0)) (.int (nI 0)) .null)) (Q : Option Value → Zc → Hp → Prop) : Ev 106 (0, [some (.ref 25)], [], (25, 445), h) Q = Q none (34, 491) (hput (hput (hput (hput (hput (hput (hput (hput (hput (hput h 25 (oP (.int (nI 0)) (.ref 26) (.ref 27) (.ref 28) (.ref 29) (.int (nI 0)) (.ref 30) (.ref 31) (.ref 32) (.ref 33) (.int (nI 0)) (.int (nI 0)) (.ref 34))) 26 (AI 3 zF)) 27 (AI 3 zF)) 28 (AI 3 zF)) 29 (AI 3 zF)) 30 (AI 6 zF)) 31 (AI 6 zF)) 32 (AI 6 zF)) 33 (AI 10 zF)) 34 (AI 6 zF)) := by
  simp only [m106_0, m106_1, m106_4, m106_5, m106_6, m106_8, m106_11, m106_12, m106_13, m106_15, m106_18, m106_19, m106_20, m106_22, m106_25, m106_26, m106_27, m106_29, m106_32, m106_33, m106_35, m106_37, m106_40, m106_41, m106_43, m106_45, m106_48, m106_49, m106_51, m106_53, m106_56, m106_57, m106_59, m106_61, m106_64, m106_65, m106_67, m106_69, m106_72, ob_some, pushr_s, pushr_n, iget_eq, gf_eq, pf_eq, ck_eq, alen_eq, rget_eq, iset_eq, Option.bind_some, Option.map_some, Option.elim_some, hput_at, ↓reduceIte, Nat.reduceEqDiff, Nat.reduceAdd, ne_eq, not_false_eq_true, oS_ck, oS_g0, oS_p0, oS_g1, oS_p1, oS_g2, oS_p2, oS_g3, oS_p3, oS_g4, oS_p4, oS_g5, oS_p5, oS_g6, oS_p6, oP_ck, oP_g0, oP_p0, oP_g1, oP_p1, oP_g2, oP_p2, oP_g3, oP_p3, oP_g4, oP_p4, oP_g5, oP_p5, oP_g6, oP_p6, oP_g7, oP_p7, oP_g8, oP_p8, oP_g9, oP_p9, oP_g10, oP_p10, oP_g11, oP_p11, oP_g12, oP_p12, oR_ck, oR_g0, oR_p0, oR_g1, oR_p1, oR_g2, oR_p2, oR_g3, oR_p3, oG_ck, oG_g0, oG_p0, oG_g1, oG_p1, oG_g2, oG_p2, oW_ck, oW_g0, oW_p0, oW_g1, oW_p1, oW_g2, oW_p2, oB_ck, oB_g0, oB_p0, oB_g1, oB_p1, oB_g2, oB_p2, oB_g3, oB_p3, oB_g4, oB_p4, oB_g5, oB_p5, oB_g6, oB_p6, oC_ck, oC_g0, oC_p0, oC_g1, oC_p1, oC_g2, oC_p2, oC_g3, oC_p3, oC_g4, oC_p4, oC_g5, oC_p5, oC_g6, oC_p6, oH_ck, oH_g0, oH_p0, oH_g1, oH_p1, oH_g2, oH_p2, oH_g3, oH_p3, oM_ck, oM_g0, oM_p0, oM_g1, oM_p1, oM_g2, oM_p2, oM_g3, oM_p3, oM_g4, oM_p4, oM_g5, oM_p5, oM_g6, oM_p6, oM_g7, oM_p7, oM_g8, oM_p8, oM_g9, oM_p9, oM_g10, oM_p10, oM_g11, oM_p11, oM_g12, oM_p12, oM_g13, oM_p13, oM_g14, oM_p14, oM_g15, oM_p15, oM_g16, oM_p16, oM_g17, oM_p17, oM_g18, oM_p18, oM_g19, oM_p19, oM_g20, oM_p20, oM_g21, oM_p21, oM_g22, oM_p22, oM_g23, oM_p23, oM_g24, oM_p24, oM_g25, oM_p25, oM_g26, oM_p26, oM_g27, oM_p27, oM_g28, oM_p28, oM_g29, oM_p29, ng2, nc2, ng3, nc3, ng6, nc6, ng7, nc7, ng8, nc8, ng10, nc10, ng12, nc12, ng20, nc20, ng24, nc24, ng41, nc41, ng300, nc300, rplI, rplZ, rplJ, bl0, bl1, bl2, bl3, bl4, bl5, bl6, bl7, bl8, Nat.reduceLeDiff, not_false_eq_true, hp]
  refine congrArg (Q none (34, 491)) (funext fun j => ?_)
  by_cases c : 25 ≤ j ∧ j ≤ 34
  · obtain ⟨k, rfl⟩ : ∃ k, j = 25 + k := ⟨j - 25, by omega⟩
    have hk : k < 10 := by omega
    match k, hk with
    | 0, _ => rfl
    | 1, _ => rfl
    | 2, _ => rfl
    | 3, _ => rfl
    | 4, _ => rfl
    | 5, _ => rfl
    | 6, _ => rfl
    | 7, _ => rfl
    | 8, _ => rfl
    | 9, _ => rfl
    | k + 10, q => omega
  · have ne : ∀ a : Nat, 25 ≤ a → a ≤ 34 → (j = a) = False := fun a a1 a2 => eq_false (by omega)
    simp only [hput_at, ne 25 (by decide) (by decide), ne 26 (by decide) (by decide), ne 27 (by decide) (by decide), ne 28 (by decide) (by decide), ne 29 (by decide) (by decide), ne 30 (by decide) (by decide), ne 31 (by decide) (by decide), ne 32 (by decide) (by decide), ne 33 (by decide) (by decide), ne 34 (by decide) (by decide), if_false]
set_option maxHeartbeats 2000000 in
theorem iW_36 (h : Hp) (hp : h 36 = some (oW .null .null (.int (nI 0)))) (Q : Option Value → Zc → Hp → Prop) : Ev 134 (0, [some (.ref 36)], [], (36, 497), h) Q = Q none (38, 517) (hput (hput (hput h 36 (oW (.ref 37) (.ref 38) (.int (nI 0)))) 37 (AI 10 zF)) 38 (AI 10 zF)) := by
  simp only [m134_0, m134_1, m134_4, m134_5, m134_7, m134_9, m134_12, m134_13, m134_15, m134_17, m134_20, ob_some, pushr_s, pushr_n, iget_eq, gf_eq, pf_eq, ck_eq, alen_eq, rget_eq, iset_eq, Option.bind_some, Option.map_some, Option.elim_some, hput_at, ↓reduceIte, Nat.reduceEqDiff, Nat.reduceAdd, ne_eq, not_false_eq_true, oS_ck, oS_g0, oS_p0, oS_g1, oS_p1, oS_g2, oS_p2, oS_g3, oS_p3, oS_g4, oS_p4, oS_g5, oS_p5, oS_g6, oS_p6, oP_ck, oP_g0, oP_p0, oP_g1, oP_p1, oP_g2, oP_p2, oP_g3, oP_p3, oP_g4, oP_p4, oP_g5, oP_p5, oP_g6, oP_p6, oP_g7, oP_p7, oP_g8, oP_p8, oP_g9, oP_p9, oP_g10, oP_p10, oP_g11, oP_p11, oP_g12, oP_p12, oR_ck, oR_g0, oR_p0, oR_g1, oR_p1, oR_g2, oR_p2, oR_g3, oR_p3, oG_ck, oG_g0, oG_p0, oG_g1, oG_p1, oG_g2, oG_p2, oW_ck, oW_g0, oW_p0, oW_g1, oW_p1, oW_g2, oW_p2, oB_ck, oB_g0, oB_p0, oB_g1, oB_p1, oB_g2, oB_p2, oB_g3, oB_p3, oB_g4, oB_p4, oB_g5, oB_p5, oB_g6, oB_p6, oC_ck, oC_g0, oC_p0, oC_g1, oC_p1, oC_g2, oC_p2, oC_g3, oC_p3, oC_g4, oC_p4, oC_g5, oC_p5, oC_g6, oC_p6, oH_ck, oH_g0, oH_p0, oH_g1, oH_p1, oH_g2, oH_p2, oH_g3, oH_p3, oM_ck, oM_g0, oM_p0, oM_g1, oM_p1, oM_g2, oM_p2, oM_g3, oM_p3, oM_g4, oM_p4, oM_g5, oM_p5, oM_g6, oM_p6, oM_g7, oM_p7, oM_g8, oM_p8, oM_g9, oM_p9, oM_g10, oM_p10, oM_g11, oM_p11, oM_g12, oM_p12, oM_g13, oM_p13, oM_g14, oM_p14, oM_g15, oM_p15, oM_g16, oM_p16, oM_g17, oM_p17, oM_g18, oM_p18, oM_g19, oM_p19, oM_g20, oM_p20, oM_g21, oM_p21, oM_g22, oM_p22, oM_g23, oM_p23, oM_g24, oM_p24, oM_g25, oM_p25, oM_g26, oM_p26, oM_g27, oM_p27, oM_g28, oM_p28, oM_g29, oM_p29, ng2, nc2, ng3, nc3, ng6, nc6, ng7, nc7, ng8, nc8, ng10, nc10, ng12, nc12, ng20, nc20, ng24, nc24, ng41, nc41, ng300, nc300, rplI, rplZ, rplJ, bl0, bl1, bl2, bl3, bl4, bl5, bl6, bl7, bl8, Nat.reduceLeDiff, not_false_eq_true, hp]
  refine congrArg (Q none (38, 517)) (funext fun j => ?_)
  by_cases c : 36 ≤ j ∧ j ≤ 38
  · obtain ⟨k, rfl⟩ : ∃ k, j = 36 + k := ⟨j - 36, by omega⟩
    have hk : k < 3 := by omega
    match k, hk with
    | 0, _ => rfl
    | 1, _ => rfl
    | 2, _ => rfl
    | k + 3, q => omega
  · have ne : ∀ a : Nat, 36 ≤ a → a ≤ 38 → (j = a) = False := fun a a1 a2 => eq_false (by omega)
    simp only [hput_at, ne 36 (by decide) (by decide), ne 37 (by decide) (by decide), ne 38 (by decide) (by decide), if_false]
set_option maxHeartbeats 2000000 in
theorem iG_35 (h : Hp) (hp : h 35 = some (oG .null (.int (nI 0)) (.int (nI 0)))) (Q : Option Value → Zc → Hp → Prop) : Ev 122 (0, [some (.ref 35)], [], (35, 494), h) Q = Q none (38, 517) (hput (hput (hput (hput h 35 (oG (.ref 36) (.int (nI 0)) (.int (nI 0)))) 36 (oW (.ref 37) (.ref 38) (.int (nI 0)))) 37 (AI 10 zF)) 38 (AI 10 zF)) := by
  simp only [m122_0, m122_1, m122_4, m122_5, m122_8, m122_9, m122_12, m122_15, ob_some, pushr_s, pushr_n, iget_eq, gf_eq, pf_eq, ck_eq, alen_eq, rget_eq, iset_eq, Option.bind_some, Option.map_some, Option.elim_some, hput_at, ↓reduceIte, Nat.reduceEqDiff, Nat.reduceAdd, ne_eq, not_false_eq_true, oS_ck, oS_g0, oS_p0, oS_g1, oS_p1, oS_g2, oS_p2, oS_g3, oS_p3, oS_g4, oS_p4, oS_g5, oS_p5, oS_g6, oS_p6, oP_ck, oP_g0, oP_p0, oP_g1, oP_p1, oP_g2, oP_p2, oP_g3, oP_p3, oP_g4, oP_p4, oP_g5, oP_p5, oP_g6, oP_p6, oP_g7, oP_p7, oP_g8, oP_p8, oP_g9, oP_p9, oP_g10, oP_p10, oP_g11, oP_p11, oP_g12, oP_p12, oR_ck, oR_g0, oR_p0, oR_g1, oR_p1, oR_g2, oR_p2, oR_g3, oR_p3, oG_ck, oG_g0, oG_p0, oG_g1, oG_p1, oG_g2, oG_p2, oW_ck, oW_g0, oW_p0, oW_g1, oW_p1, oW_g2, oW_p2, oB_ck, oB_g0, oB_p0, oB_g1, oB_p1, oB_g2, oB_p2, oB_g3, oB_p3, oB_g4, oB_p4, oB_g5, oB_p5, oB_g6, oB_p6, oC_ck, oC_g0, oC_p0, oC_g1, oC_p1, oC_g2, oC_p2, oC_g3, oC_p3, oC_g4, oC_p4, oC_g5, oC_p5, oC_g6, oC_p6, oH_ck, oH_g0, oH_p0, oH_g1, oH_p1, oH_g2, oH_p2, oH_g3, oH_p3, oM_ck, oM_g0, oM_p0, oM_g1, oM_p1, oM_g2, oM_p2, oM_g3, oM_p3, oM_g4, oM_p4, oM_g5, oM_p5, oM_g6, oM_p6, oM_g7, oM_p7, oM_g8, oM_p8, oM_g9, oM_p9, oM_g10, oM_p10, oM_g11, oM_p11, oM_g12, oM_p12, oM_g13, oM_p13, oM_g14, oM_p14, oM_g15, oM_p15, oM_g16, oM_p16, oM_g17, oM_p17, oM_g18, oM_p18, oM_g19, oM_p19, oM_g20, oM_p20, oM_g21, oM_p21, oM_g22, oM_p22, oM_g23, oM_p23, oM_g24, oM_p24, oM_g25, oM_p25, oM_g26, oM_p26, oM_g27, oM_p27, oM_g28, oM_p28, oM_g29, oM_p29, ng2, nc2, ng3, nc3, ng6, nc6, ng7, nc7, ng8, nc8, ng10, nc10, ng12, nc12, ng20, nc20, ng24, nc24, ng41, nc41, ng300, nc300, rplI, rplZ, rplJ, bl0, bl1, bl2, bl3, bl4, bl5, bl6, bl7, bl8, Nat.reduceLeDiff, not_false_eq_true, hp, iW_36]
  refine congrArg (Q none (38, 517)) (funext fun j => ?_)
  by_cases c : 35 ≤ j ∧ j ≤ 38
  · obtain ⟨k, rfl⟩ : ∃ k, j = 35 + k := ⟨j - 35, by omega⟩
    have hk : k < 4 := by omega
    match k, hk with
    | 0, _ => rfl
    | 1, _ => rfl
    | 2, _ => rfl
    | 3, _ => rfl
    | k + 4, q => omega
  · have ne : ∀ a : Nat, 35 ≤ a → a ≤ 38 → (j = a) = False := fun a a1 a2 => eq_false (by omega)
    simp only [hput_at, ne 35 (by decide) (by decide), ne 36 (by decide) (by decide), ne 37 (by decide) (by decide), ne 38 (by decide) (by decide), if_false]
set_option maxHeartbeats 2000000 in
theorem iW_44 (h : Hp) (hp : h 44 = some (oW .null .null (.int (nI 0)))) (Q : Option Value → Zc → Hp → Prop) : Ev 134 (0, [some (.ref 44)], [], (44, 552), h) Q = Q none (46, 572) (hput (hput (hput h 44 (oW (.ref 45) (.ref 46) (.int (nI 0)))) 45 (AI 10 zF)) 46 (AI 10 zF)) := by
  simp only [m134_0, m134_1, m134_4, m134_5, m134_7, m134_9, m134_12, m134_13, m134_15, m134_17, m134_20, ob_some, pushr_s, pushr_n, iget_eq, gf_eq, pf_eq, ck_eq, alen_eq, rget_eq, iset_eq, Option.bind_some, Option.map_some, Option.elim_some, hput_at, ↓reduceIte, Nat.reduceEqDiff, Nat.reduceAdd, ne_eq, not_false_eq_true, oS_ck, oS_g0, oS_p0, oS_g1, oS_p1, oS_g2, oS_p2, oS_g3, oS_p3, oS_g4, oS_p4, oS_g5, oS_p5, oS_g6, oS_p6, oP_ck, oP_g0, oP_p0, oP_g1, oP_p1, oP_g2, oP_p2, oP_g3, oP_p3, oP_g4, oP_p4, oP_g5, oP_p5, oP_g6, oP_p6, oP_g7, oP_p7, oP_g8, oP_p8, oP_g9, oP_p9, oP_g10, oP_p10, oP_g11, oP_p11, oP_g12, oP_p12, oR_ck, oR_g0, oR_p0, oR_g1, oR_p1, oR_g2, oR_p2, oR_g3, oR_p3, oG_ck, oG_g0, oG_p0, oG_g1, oG_p1, oG_g2, oG_p2, oW_ck, oW_g0, oW_p0, oW_g1, oW_p1, oW_g2, oW_p2, oB_ck, oB_g0, oB_p0, oB_g1, oB_p1, oB_g2, oB_p2, oB_g3, oB_p3, oB_g4, oB_p4, oB_g5, oB_p5, oB_g6, oB_p6, oC_ck, oC_g0, oC_p0, oC_g1, oC_p1, oC_g2, oC_p2, oC_g3, oC_p3, oC_g4, oC_p4, oC_g5, oC_p5, oC_g6, oC_p6, oH_ck, oH_g0, oH_p0, oH_g1, oH_p1, oH_g2, oH_p2, oH_g3, oH_p3, oM_ck, oM_g0, oM_p0, oM_g1, oM_p1, oM_g2, oM_p2, oM_g3, oM_p3, oM_g4, oM_p4, oM_g5, oM_p5, oM_g6, oM_p6, oM_g7, oM_p7, oM_g8, oM_p8, oM_g9, oM_p9, oM_g10, oM_p10, oM_g11, oM_p11, oM_g12, oM_p12, oM_g13, oM_p13, oM_g14, oM_p14, oM_g15, oM_p15, oM_g16, oM_p16, oM_g17, oM_p17, oM_g18, oM_p18, oM_g19, oM_p19, oM_g20, oM_p20, oM_g21, oM_p21, oM_g22, oM_p22, oM_g23, oM_p23, oM_g24, oM_p24, oM_g25, oM_p25, oM_g26, oM_p26, oM_g27, oM_p27, oM_g28, oM_p28, oM_g29, oM_p29, ng2, nc2, ng3, nc3, ng6, nc6, ng7, nc7, ng8, nc8, ng10, nc10, ng12, nc12, ng20, nc20, ng24, nc24, ng41, nc41, ng300, nc300, rplI, rplZ, rplJ, bl0, bl1, bl2, bl3, bl4, bl5, bl6, bl7, bl8, Nat.reduceLeDiff, not_false_eq_true, hp]
  refine congrArg (Q none (46, 572)) (funext fun j => ?_)
  by_cases c : 44 ≤ j ∧ j ≤ 46
  · obtain ⟨k, rfl⟩ : ∃ k, j = 44 + k := ⟨j - 44, by omega⟩
    have hk : k < 3 := by omega
    match k, hk with
    | 0, _ => rfl
    | 1, _ => rfl
    | 2, _ => rfl
    | k + 3, q => omega
  · have ne : ∀ a : Nat, 44 ≤ a → a ≤ 46 → (j = a) = False := fun a a1 a2 => eq_false (by omega)
    simp only [hput_at, ne 44 (by decide) (by decide), ne 45 (by decide) (by decide), ne 46 (by decide) (by decide), if_false]
set_option maxHeartbeats 2000000 in
theorem iW_47 (h : Hp) (hp : h 47 = some (oW .null .null (.int (nI 0)))) (Q : Option Value → Zc → Hp → Prop) : Ev 134 (0, [some (.ref 47)], [], (47, 575), h) Q = Q none (49, 595) (hput (hput (hput h 47 (oW (.ref 48) (.ref 49) (.int (nI 0)))) 48 (AI 10 zF)) 49 (AI 10 zF)) := by
  simp only [m134_0, m134_1, m134_4, m134_5, m134_7, m134_9, m134_12, m134_13, m134_15, m134_17, m134_20, ob_some, pushr_s, pushr_n, iget_eq, gf_eq, pf_eq, ck_eq, alen_eq, rget_eq, iset_eq, Option.bind_some, Option.map_some, Option.elim_some, hput_at, ↓reduceIte, Nat.reduceEqDiff, Nat.reduceAdd, ne_eq, not_false_eq_true, oS_ck, oS_g0, oS_p0, oS_g1, oS_p1, oS_g2, oS_p2, oS_g3, oS_p3, oS_g4, oS_p4, oS_g5, oS_p5, oS_g6, oS_p6, oP_ck, oP_g0, oP_p0, oP_g1, oP_p1, oP_g2, oP_p2, oP_g3, oP_p3, oP_g4, oP_p4, oP_g5, oP_p5, oP_g6, oP_p6, oP_g7, oP_p7, oP_g8, oP_p8, oP_g9, oP_p9, oP_g10, oP_p10, oP_g11, oP_p11, oP_g12, oP_p12, oR_ck, oR_g0, oR_p0, oR_g1, oR_p1, oR_g2, oR_p2, oR_g3, oR_p3, oG_ck, oG_g0, oG_p0, oG_g1, oG_p1, oG_g2, oG_p2, oW_ck, oW_g0, oW_p0, oW_g1, oW_p1, oW_g2, oW_p2, oB_ck, oB_g0, oB_p0, oB_g1, oB_p1, oB_g2, oB_p2, oB_g3, oB_p3, oB_g4, oB_p4, oB_g5, oB_p5, oB_g6, oB_p6, oC_ck, oC_g0, oC_p0, oC_g1, oC_p1, oC_g2, oC_p2, oC_g3, oC_p3, oC_g4, oC_p4, oC_g5, oC_p5, oC_g6, oC_p6, oH_ck, oH_g0, oH_p0, oH_g1, oH_p1, oH_g2, oH_p2, oH_g3, oH_p3, oM_ck, oM_g0, oM_p0, oM_g1, oM_p1, oM_g2, oM_p2, oM_g3, oM_p3, oM_g4, oM_p4, oM_g5, oM_p5, oM_g6, oM_p6, oM_g7, oM_p7, oM_g8, oM_p8, oM_g9, oM_p9, oM_g10, oM_p10, oM_g11, oM_p11, oM_g12, oM_p12, oM_g13, oM_p13, oM_g14, oM_p14, oM_g15, oM_p15, oM_g16, oM_p16, oM_g17, oM_p17, oM_g18, oM_p18, oM_g19, oM_p19, oM_g20, oM_p20, oM_g21, oM_p21, oM_g22, oM_p22, oM_g23, oM_p23, oM_g24, oM_p24, oM_g25, oM_p25, oM_g26, oM_p26, oM_g27, oM_p27, oM_g28, oM_p28, oM_g29, oM_p29, ng2, nc2, ng3, nc3, ng6, nc6, ng7, nc7, ng8, nc8, ng10, nc10, ng12, nc12, ng20, nc20, ng24, nc24, ng41, nc41, ng300, nc300, rplI, rplZ, rplJ, bl0, bl1, bl2, bl3, bl4, bl5, bl6, bl7, bl8, Nat.reduceLeDiff, not_false_eq_true, hp]
  refine congrArg (Q none (49, 595)) (funext fun j => ?_)
  by_cases c : 47 ≤ j ∧ j ≤ 49
  · obtain ⟨k, rfl⟩ : ∃ k, j = 47 + k := ⟨j - 47, by omega⟩
    have hk : k < 3 := by omega
    match k, hk with
    | 0, _ => rfl
    | 1, _ => rfl
    | 2, _ => rfl
    | k + 3, q => omega
  · have ne : ∀ a : Nat, 47 ≤ a → a ≤ 49 → (j = a) = False := fun a a1 a2 => eq_false (by omega)
    simp only [hput_at, ne 47 (by decide) (by decide), ne 48 (by decide) (by decide), ne 49 (by decide) (by decide), if_false]
set_option maxHeartbeats 2000000 in
theorem iW_50 (h : Hp) (hp : h 50 = some (oW .null .null (.int (nI 0)))) (Q : Option Value → Zc → Hp → Prop) : Ev 134 (0, [some (.ref 50)], [], (50, 598), h) Q = Q none (52, 618) (hput (hput (hput h 50 (oW (.ref 51) (.ref 52) (.int (nI 0)))) 51 (AI 10 zF)) 52 (AI 10 zF)) := by
  simp only [m134_0, m134_1, m134_4, m134_5, m134_7, m134_9, m134_12, m134_13, m134_15, m134_17, m134_20, ob_some, pushr_s, pushr_n, iget_eq, gf_eq, pf_eq, ck_eq, alen_eq, rget_eq, iset_eq, Option.bind_some, Option.map_some, Option.elim_some, hput_at, ↓reduceIte, Nat.reduceEqDiff, Nat.reduceAdd, ne_eq, not_false_eq_true, oS_ck, oS_g0, oS_p0, oS_g1, oS_p1, oS_g2, oS_p2, oS_g3, oS_p3, oS_g4, oS_p4, oS_g5, oS_p5, oS_g6, oS_p6, oP_ck, oP_g0, oP_p0, oP_g1, oP_p1, oP_g2, oP_p2, oP_g3, oP_p3, oP_g4, oP_p4, oP_g5, oP_p5, oP_g6, oP_p6, oP_g7, oP_p7, oP_g8, oP_p8, oP_g9, oP_p9, oP_g10, oP_p10, oP_g11, oP_p11, oP_g12, oP_p12, oR_ck, oR_g0, oR_p0, oR_g1, oR_p1, oR_g2, oR_p2, oR_g3, oR_p3, oG_ck, oG_g0, oG_p0, oG_g1, oG_p1, oG_g2, oG_p2, oW_ck, oW_g0, oW_p0, oW_g1, oW_p1, oW_g2, oW_p2, oB_ck, oB_g0, oB_p0, oB_g1, oB_p1, oB_g2, oB_p2, oB_g3, oB_p3, oB_g4, oB_p4, oB_g5, oB_p5, oB_g6, oB_p6, oC_ck, oC_g0, oC_p0, oC_g1, oC_p1, oC_g2, oC_p2, oC_g3, oC_p3, oC_g4, oC_p4, oC_g5, oC_p5, oC_g6, oC_p6, oH_ck, oH_g0, oH_p0, oH_g1, oH_p1, oH_g2, oH_p2, oH_g3, oH_p3, oM_ck, oM_g0, oM_p0, oM_g1, oM_p1, oM_g2, oM_p2, oM_g3, oM_p3, oM_g4, oM_p4, oM_g5, oM_p5, oM_g6, oM_p6, oM_g7, oM_p7, oM_g8, oM_p8, oM_g9, oM_p9, oM_g10, oM_p10, oM_g11, oM_p11, oM_g12, oM_p12, oM_g13, oM_p13, oM_g14, oM_p14, oM_g15, oM_p15, oM_g16, oM_p16, oM_g17, oM_p17, oM_g18, oM_p18, oM_g19, oM_p19, oM_g20, oM_p20, oM_g21, oM_p21, oM_g22, oM_p22, oM_g23, oM_p23, oM_g24, oM_p24, oM_g25, oM_p25, oM_g26, oM_p26, oM_g27, oM_p27, oM_g28, oM_p28, oM_g29, oM_p29, ng2, nc2, ng3, nc3, ng6, nc6, ng7, nc7, ng8, nc8, ng10, nc10, ng12, nc12, ng20, nc20, ng24, nc24, ng41, nc41, ng300, nc300, rplI, rplZ, rplJ, bl0, bl1, bl2, bl3, bl4, bl5, bl6, bl7, bl8, Nat.reduceLeDiff, not_false_eq_true, hp]
  refine congrArg (Q none (52, 618)) (funext fun j => ?_)
  by_cases c : 50 ≤ j ∧ j ≤ 52
  · obtain ⟨k, rfl⟩ : ∃ k, j = 50 + k := ⟨j - 50, by omega⟩
    have hk : k < 3 := by omega
    match k, hk with
    | 0, _ => rfl
    | 1, _ => rfl
    | 2, _ => rfl
    | k + 3, q => omega
  · have ne : ∀ a : Nat, 50 ≤ a → a ≤ 52 → (j = a) = False := fun a a1 a2 => eq_false (by omega)
    simp only [hput_at, ne 50 (by decide) (by decide), ne 51 (by decide) (by decide), ne 52 (by decide) (by decide), if_false]
set_option maxHeartbeats 2000000 in
theorem iW_53 (h : Hp) (hp : h 53 = some (oW .null .null (.int (nI 0)))) (Q : Option Value → Zc → Hp → Prop) : Ev 134 (0, [some (.ref 53)], [], (53, 621), h) Q = Q none (55, 641) (hput (hput (hput h 53 (oW (.ref 54) (.ref 55) (.int (nI 0)))) 54 (AI 10 zF)) 55 (AI 10 zF)) := by
  simp only [m134_0, m134_1, m134_4, m134_5, m134_7, m134_9, m134_12, m134_13, m134_15, m134_17, m134_20, ob_some, pushr_s, pushr_n, iget_eq, gf_eq, pf_eq, ck_eq, alen_eq, rget_eq, iset_eq, Option.bind_some, Option.map_some, Option.elim_some, hput_at, ↓reduceIte, Nat.reduceEqDiff, Nat.reduceAdd, ne_eq, not_false_eq_true, oS_ck, oS_g0, oS_p0, oS_g1, oS_p1, oS_g2, oS_p2, oS_g3, oS_p3, oS_g4, oS_p4, oS_g5, oS_p5, oS_g6, oS_p6, oP_ck, oP_g0, oP_p0, oP_g1, oP_p1, oP_g2, oP_p2, oP_g3, oP_p3, oP_g4, oP_p4, oP_g5, oP_p5, oP_g6, oP_p6, oP_g7, oP_p7, oP_g8, oP_p8, oP_g9, oP_p9, oP_g10, oP_p10, oP_g11, oP_p11, oP_g12, oP_p12, oR_ck, oR_g0, oR_p0, oR_g1, oR_p1, oR_g2, oR_p2, oR_g3, oR_p3, oG_ck, oG_g0, oG_p0, oG_g1, oG_p1, oG_g2, oG_p2, oW_ck, oW_g0, oW_p0, oW_g1, oW_p1, oW_g2, oW_p2, oB_ck, oB_g0, oB_p0, oB_g1, oB_p1, oB_g2, oB_p2, oB_g3, oB_p3, oB_g4, oB_p4, oB_g5, oB_p5, oB_g6, oB_p6, oC_ck, oC_g0, oC_p0, oC_g1, oC_p1, oC_g2, oC_p2, oC_g3, oC_p3, oC_g4, oC_p4, oC_g5, oC_p5, oC_g6, oC_p6, oH_ck, oH_g0, oH_p0, oH_g1, oH_p1, oH_g2, oH_p2, oH_g3, oH_p3, oM_ck, oM_g0, oM_p0, oM_g1, oM_p1, oM_g2, oM_p2, oM_g3, oM_p3, oM_g4, oM_p4, oM_g5, oM_p5, oM_g6, oM_p6, oM_g7, oM_p7, oM_g8, oM_p8, oM_g9, oM_p9, oM_g10, oM_p10, oM_g11, oM_p11, oM_g12, oM_p12, oM_g13, oM_p13, oM_g14, oM_p14, oM_g15, oM_p15, oM_g16, oM_p16, oM_g17, oM_p17, oM_g18, oM_p18, oM_g19, oM_p19, oM_g20, oM_p20, oM_g21, oM_p21, oM_g22, oM_p22, oM_g23, oM_p23, oM_g24, oM_p24, oM_g25, oM_p25, oM_g26, oM_p26, oM_g27, oM_p27, oM_g28, oM_p28, oM_g29, oM_p29, ng2, nc2, ng3, nc3, ng6, nc6, ng7, nc7, ng8, nc8, ng10, nc10, ng12, nc12, ng20, nc20, ng24, nc24, ng41, nc41, ng300, nc300, rplI, rplZ, rplJ, bl0, bl1, bl2, bl3, bl4, bl5, bl6, bl7, bl8, Nat.reduceLeDiff, not_false_eq_true, hp]
  refine congrArg (Q none (55, 641)) (funext fun j => ?_)
  by_cases c : 53 ≤ j ∧ j ≤ 55
  · obtain ⟨k, rfl⟩ : ∃ k, j = 53 + k := ⟨j - 53, by omega⟩
    have hk : k < 3 := by omega
    match k, hk with
    | 0, _ => rfl
    | 1, _ => rfl
    | 2, _ => rfl
    | k + 3, q => omega
  · have ne : ∀ a : Nat, 53 ≤ a → a ≤ 55 → (j = a) = False := fun a a1 a2 => eq_false (by omega)
    simp only [hput_at, ne 53 (by decide) (by decide), ne 54 (by decide) (by decide), ne 55 (by decide) (by decide), if_false]
set_option maxHeartbeats 2000000 in
theorem iW_56 (h : Hp) (hp : h 56 = some (oW .null .null (.int (nI 0)))) (Q : Option Value → Zc → Hp → Prop) : Ev 134 (0, [some (.ref 56)], [], (56, 644), h) Q = Q none (58, 664) (hput (hput (hput h 56 (oW (.ref 57) (.ref 58) (.int (nI 0)))) 57 (AI 10 zF)) 58 (AI 10 zF)) := by
  simp only [m134_0, m134_1, m134_4, m134_5, m134_7, m134_9, m134_12, m134_13, m134_15, m134_17, m134_20, ob_some, pushr_s, pushr_n, iget_eq, gf_eq, pf_eq, ck_eq, alen_eq, rget_eq, iset_eq, Option.bind_some, Option.map_some, Option.elim_some, hput_at, ↓reduceIte, Nat.reduceEqDiff, Nat.reduceAdd, ne_eq, not_false_eq_true, oS_ck, oS_g0, oS_p0, oS_g1, oS_p1, oS_g2, oS_p2, oS_g3, oS_p3, oS_g4, oS_p4, oS_g5, oS_p5, oS_g6, oS_p6, oP_ck, oP_g0, oP_p0, oP_g1, oP_p1, oP_g2, oP_p2, oP_g3, oP_p3, oP_g4, oP_p4, oP_g5, oP_p5, oP_g6, oP_p6, oP_g7, oP_p7, oP_g8, oP_p8, oP_g9, oP_p9, oP_g10, oP_p10, oP_g11, oP_p11, oP_g12, oP_p12, oR_ck, oR_g0, oR_p0, oR_g1, oR_p1, oR_g2, oR_p2, oR_g3, oR_p3, oG_ck, oG_g0, oG_p0, oG_g1, oG_p1, oG_g2, oG_p2, oW_ck, oW_g0, oW_p0, oW_g1, oW_p1, oW_g2, oW_p2, oB_ck, oB_g0, oB_p0, oB_g1, oB_p1, oB_g2, oB_p2, oB_g3, oB_p3, oB_g4, oB_p4, oB_g5, oB_p5, oB_g6, oB_p6, oC_ck, oC_g0, oC_p0, oC_g1, oC_p1, oC_g2, oC_p2, oC_g3, oC_p3, oC_g4, oC_p4, oC_g5, oC_p5, oC_g6, oC_p6, oH_ck, oH_g0, oH_p0, oH_g1, oH_p1, oH_g2, oH_p2, oH_g3, oH_p3, oM_ck, oM_g0, oM_p0, oM_g1, oM_p1, oM_g2, oM_p2, oM_g3, oM_p3, oM_g4, oM_p4, oM_g5, oM_p5, oM_g6, oM_p6, oM_g7, oM_p7, oM_g8, oM_p8, oM_g9, oM_p9, oM_g10, oM_p10, oM_g11, oM_p11, oM_g12, oM_p12, oM_g13, oM_p13, oM_g14, oM_p14, oM_g15, oM_p15, oM_g16, oM_p16, oM_g17, oM_p17, oM_g18, oM_p18, oM_g19, oM_p19, oM_g20, oM_p20, oM_g21, oM_p21, oM_g22, oM_p22, oM_g23, oM_p23, oM_g24, oM_p24, oM_g25, oM_p25, oM_g26, oM_p26, oM_g27, oM_p27, oM_g28, oM_p28, oM_g29, oM_p29, ng2, nc2, ng3, nc3, ng6, nc6, ng7, nc7, ng8, nc8, ng10, nc10, ng12, nc12, ng20, nc20, ng24, nc24, ng41, nc41, ng300, nc300, rplI, rplZ, rplJ, bl0, bl1, bl2, bl3, bl4, bl5, bl6, bl7, bl8, Nat.reduceLeDiff, not_false_eq_true, hp]
  refine congrArg (Q none (58, 664)) (funext fun j => ?_)
  by_cases c : 56 ≤ j ∧ j ≤ 58
  · obtain ⟨k, rfl⟩ : ∃ k, j = 56 + k := ⟨j - 56, by omega⟩
    have hk : k < 3 := by omega
    match k, hk with
    | 0, _ => rfl
    | 1, _ => rfl
    | 2, _ => rfl
    | k + 3, q => omega
  · have ne : ∀ a : Nat, 56 ≤ a → a ≤ 58 → (j = a) = False := fun a a1 a2 => eq_false (by omega)
    simp only [hput_at, ne 56 (by decide) (by decide), ne 57 (by decide) (by decide), ne 58 (by decide) (by decide), if_false]
set_option maxHeartbeats 2000000 in
theorem iW_59 (h : Hp) (hp : h 59 = some (oW .null .null (.int (nI 0)))) (Q : Option Value → Zc → Hp → Prop) : Ev 134 (0, [some (.ref 59)], [], (59, 667), h) Q = Q none (61, 687) (hput (hput (hput h 59 (oW (.ref 60) (.ref 61) (.int (nI 0)))) 60 (AI 10 zF)) 61 (AI 10 zF)) := by
  simp only [m134_0, m134_1, m134_4, m134_5, m134_7, m134_9, m134_12, m134_13, m134_15, m134_17, m134_20, ob_some, pushr_s, pushr_n, iget_eq, gf_eq, pf_eq, ck_eq, alen_eq, rget_eq, iset_eq, Option.bind_some, Option.map_some, Option.elim_some, hput_at, ↓reduceIte, Nat.reduceEqDiff, Nat.reduceAdd, ne_eq, not_false_eq_true, oS_ck, oS_g0, oS_p0, oS_g1, oS_p1, oS_g2, oS_p2, oS_g3, oS_p3, oS_g4, oS_p4, oS_g5, oS_p5, oS_g6, oS_p6, oP_ck, oP_g0, oP_p0, oP_g1, oP_p1, oP_g2, oP_p2, oP_g3, oP_p3, oP_g4, oP_p4, oP_g5, oP_p5, oP_g6, oP_p6, oP_g7, oP_p7, oP_g8, oP_p8, oP_g9, oP_p9, oP_g10, oP_p10, oP_g11, oP_p11, oP_g12, oP_p12, oR_ck, oR_g0, oR_p0, oR_g1, oR_p1, oR_g2, oR_p2, oR_g3, oR_p3, oG_ck, oG_g0, oG_p0, oG_g1, oG_p1, oG_g2, oG_p2, oW_ck, oW_g0, oW_p0, oW_g1, oW_p1, oW_g2, oW_p2, oB_ck, oB_g0, oB_p0, oB_g1, oB_p1, oB_g2, oB_p2, oB_g3, oB_p3, oB_g4, oB_p4, oB_g5, oB_p5, oB_g6, oB_p6, oC_ck, oC_g0, oC_p0, oC_g1, oC_p1, oC_g2, oC_p2, oC_g3, oC_p3, oC_g4, oC_p4, oC_g5, oC_p5, oC_g6, oC_p6, oH_ck, oH_g0, oH_p0, oH_g1, oH_p1, oH_g2, oH_p2, oH_g3, oH_p3, oM_ck, oM_g0, oM_p0, oM_g1, oM_p1, oM_g2, oM_p2, oM_g3, oM_p3, oM_g4, oM_p4, oM_g5, oM_p5, oM_g6, oM_p6, oM_g7, oM_p7, oM_g8, oM_p8, oM_g9, oM_p9, oM_g10, oM_p10, oM_g11, oM_p11, oM_g12, oM_p12, oM_g13, oM_p13, oM_g14, oM_p14, oM_g15, oM_p15, oM_g16, oM_p16, oM_g17, oM_p17, oM_g18, oM_p18, oM_g19, oM_p19, oM_g20, oM_p20, oM_g21, oM_p21, oM_g22, oM_p22, oM_g23, oM_p23, oM_g24, oM_p24, oM_g25, oM_p25, oM_g26, oM_p26, oM_g27, oM_p27, oM_g28, oM_p28, oM_g29, oM_p29, ng2, nc2, ng3, nc3, ng6, nc6, ng7, nc7, ng8, nc8, ng10, nc10, ng12, nc12, ng20, nc20, ng24, nc24, ng41, nc41, ng300, nc300, rplI, rplZ, rplJ, bl0, bl1, bl2, bl3, bl4, bl5, bl6, bl7, bl8, Nat.reduceLeDiff, not_false_eq_true, hp]
  refine congrArg (Q none (61, 687)) (funext fun j => ?_)
  by_cases c : 59 ≤ j ∧ j ≤ 61
  · obtain ⟨k, rfl⟩ : ∃ k, j = 59 + k := ⟨j - 59, by omega⟩
    have hk : k < 3 := by omega
    match k, hk with
    | 0, _ => rfl
    | 1, _ => rfl
    | 2, _ => rfl
    | k + 3, q => omega
  · have ne : ∀ a : Nat, 59 ≤ a → a ≤ 61 → (j = a) = False := fun a a1 a2 => eq_false (by omega)
    simp only [hput_at, ne 59 (by decide) (by decide), ne 60 (by decide) (by decide), ne 61 (by decide) (by decide), if_false]
set_option maxHeartbeats 2000000 in
theorem iW_62 (h : Hp) (hp : h 62 = some (oW .null .null (.int (nI 0)))) (Q : Option Value → Zc → Hp → Prop) : Ev 134 (0, [some (.ref 62)], [], (62, 690), h) Q = Q none (64, 710) (hput (hput (hput h 62 (oW (.ref 63) (.ref 64) (.int (nI 0)))) 63 (AI 10 zF)) 64 (AI 10 zF)) := by
  simp only [m134_0, m134_1, m134_4, m134_5, m134_7, m134_9, m134_12, m134_13, m134_15, m134_17, m134_20, ob_some, pushr_s, pushr_n, iget_eq, gf_eq, pf_eq, ck_eq, alen_eq, rget_eq, iset_eq, Option.bind_some, Option.map_some, Option.elim_some, hput_at, ↓reduceIte, Nat.reduceEqDiff, Nat.reduceAdd, ne_eq, not_false_eq_true, oS_ck, oS_g0, oS_p0, oS_g1, oS_p1, oS_g2, oS_p2, oS_g3, oS_p3, oS_g4, oS_p4, oS_g5, oS_p5, oS_g6, oS_p6, oP_ck, oP_g0, oP_p0, oP_g1, oP_p1, oP_g2, oP_p2, oP_g3, oP_p3, oP_g4, oP_p4, oP_g5, oP_p5, oP_g6, oP_p6, oP_g7, oP_p7, oP_g8, oP_p8, oP_g9, oP_p9, oP_g10, oP_p10, oP_g11, oP_p11, oP_g12, oP_p12, oR_ck, oR_g0, oR_p0, oR_g1, oR_p1, oR_g2, oR_p2, oR_g3, oR_p3, oG_ck, oG_g0, oG_p0, oG_g1, oG_p1, oG_g2, oG_p2, oW_ck, oW_g0, oW_p0, oW_g1, oW_p1, oW_g2, oW_p2, oB_ck, oB_g0, oB_p0, oB_g1, oB_p1, oB_g2, oB_p2, oB_g3, oB_p3, oB_g4, oB_p4, oB_g5, oB_p5, oB_g6, oB_p6, oC_ck, oC_g0, oC_p0, oC_g1, oC_p1, oC_g2, oC_p2, oC_g3, oC_p3, oC_g4, oC_p4, oC_g5, oC_p5, oC_g6, oC_p6, oH_ck, oH_g0, oH_p0, oH_g1, oH_p1, oH_g2, oH_p2, oH_g3, oH_p3, oM_ck, oM_g0, oM_p0, oM_g1, oM_p1, oM_g2, oM_p2, oM_g3, oM_p3, oM_g4, oM_p4, oM_g5, oM_p5, oM_g6, oM_p6, oM_g7, oM_p7, oM_g8, oM_p8, oM_g9, oM_p9, oM_g10, oM_p10, oM_g11, oM_p11, oM_g12, oM_p12, oM_g13, oM_p13, oM_g14, oM_p14, oM_g15, oM_p15, oM_g16, oM_p16, oM_g17, oM_p17, oM_g18, oM_p18, oM_g19, oM_p19, oM_g20, oM_p20, oM_g21, oM_p21, oM_g22, oM_p22, oM_g23, oM_p23, oM_g24, oM_p24, oM_g25, oM_p25, oM_g26, oM_p26, oM_g27, oM_p27, oM_g28, oM_p28, oM_g29, oM_p29, ng2, nc2, ng3, nc3, ng6, nc6, ng7, nc7, ng8, nc8, ng10, nc10, ng12, nc12, ng20, nc20, ng24, nc24, ng41, nc41, ng300, nc300, rplI, rplZ, rplJ, bl0, bl1, bl2, bl3, bl4, bl5, bl6, bl7, bl8, Nat.reduceLeDiff, not_false_eq_true, hp]
  refine congrArg (Q none (64, 710)) (funext fun j => ?_)
  by_cases c : 62 ≤ j ∧ j ≤ 64
  · obtain ⟨k, rfl⟩ : ∃ k, j = 62 + k := ⟨j - 62, by omega⟩
    have hk : k < 3 := by omega
    match k, hk with
    | 0, _ => rfl
    | 1, _ => rfl
    | 2, _ => rfl
    | k + 3, q => omega
  · have ne : ∀ a : Nat, 62 ≤ a → a ≤ 64 → (j = a) = False := fun a a1 a2 => eq_false (by omega)
    simp only [hput_at, ne 62 (by decide) (by decide), ne 63 (by decide) (by decide), ne 64 (by decide) (by decide), if_false]
