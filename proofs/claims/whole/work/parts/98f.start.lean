/-! what holds at the start -/
theorem pS_valid : Valid pS := addS_valid (addS_valid (addE_valid (noneP_valid zP) (by decide) (by decide) (by decide) (by decide)) (by decide) (by decide) (by decide) (by decide)) (by decide) (by decide) (by decide) (by decide)
theorem pS_eq : PEq pS (MP N10) := by
  refine ⟨⟨rfl, rfl, rfl, rfl⟩, fun e he => ?_, fun i hi => ?_, fun c hc => ?_, fun k hk => ?_⟩
  · have h1 : pS 0 0 = 1 := rfl
    have h2 : e = 0 := by omega
    subst h2
    exact ⟨rfl, rfl, rfl, rfl⟩
  · have h1 : pS 0 1 = 2 := rfl
    have h2 : i = 0 ∨ i = 1 := by omega
    rcases h2 with h2 | h2
    · subst h2; exact ⟨rfl, rfl, rfl⟩
    · subst h2; exact ⟨rfl, rfl, rfl⟩
  · show 10 = wallF 0 10 (A0 9) c
    unfold wallF
    rw [if_pos (by omega)]
  · have h1 : pS 0 3 = 0 := rfl
    omega
theorem d_zero : dN 4294967296 = nI 0 := by decide
theorem c_zero : cN4 0 = nI 0 := by decide
theorem b_start {sc : List Int32} {Hc : Hp} (ne : ∀ j, j < 78 → (j < 15 ∨ 24 < j) → Hc j = hS sc j) : bset Hc (fun _ => nI 0) (fun _ => zF) = Hc := by
  funext j
  by_cases c : 39 ≤ j ∧ j ≤ 43
  · obtain ⟨k, rfl⟩ : ∃ k, j = 39 + k := ⟨j - 39, by omega⟩
    have hk : k < 5 := by omega
    match k, hk with
    | 0, _ => exact ((ne 39 (by decide) (by decide)).trans (hS_39 sc)).symm
    | 1, _ => exact ((ne 40 (by decide) (by decide)).trans (hS_40 sc)).symm
    | 2, _ => exact ((ne 41 (by decide) (by decide)).trans (hS_41 sc)).symm
    | 3, _ => exact ((ne 42 (by decide) (by decide)).trans (hS_42 sc)).symm
    | 4, _ => exact ((ne 43 (by decide) (by decide)).trans (hS_43 sc)).symm
    | k + 5, q => omega
  · exact bset_ne _ _ _ (by omega)
theorem v_start {sc : List Int32} {Hc : Hp} (ne : ∀ j, j < 78 → (j < 15 ∨ 24 < j) → Hc j = hS sc j) : vset Hc (fun _ => (zF, (zF, 0))) = Hc := by
  funext j
  by_cases c : 44 ≤ j ∧ j ≤ 64
  · obtain ⟨k, rfl⟩ : ∃ k, j = 44 + k := ⟨j - 44, by omega⟩
    have hk : k < 21 := by omega
    match k, hk with
    | 0, _ => exact ((ne 44 (by decide) (by decide)).trans (hS_44 sc)).symm
    | 1, _ => exact ((ne 45 (by decide) (by decide)).trans (hS_45 sc)).symm
    | 2, _ => exact ((ne 46 (by decide) (by decide)).trans (hS_46 sc)).symm
    | 3, _ => exact ((ne 47 (by decide) (by decide)).trans (hS_47 sc)).symm
    | 4, _ => exact ((ne 48 (by decide) (by decide)).trans (hS_48 sc)).symm
    | 5, _ => exact ((ne 49 (by decide) (by decide)).trans (hS_49 sc)).symm
    | 6, _ => exact ((ne 50 (by decide) (by decide)).trans (hS_50 sc)).symm
    | 7, _ => exact ((ne 51 (by decide) (by decide)).trans (hS_51 sc)).symm
    | 8, _ => exact ((ne 52 (by decide) (by decide)).trans (hS_52 sc)).symm
    | 9, _ => exact ((ne 53 (by decide) (by decide)).trans (hS_53 sc)).symm
    | 10, _ => exact ((ne 54 (by decide) (by decide)).trans (hS_54 sc)).symm
    | 11, _ => exact ((ne 55 (by decide) (by decide)).trans (hS_55 sc)).symm
    | 12, _ => exact ((ne 56 (by decide) (by decide)).trans (hS_56 sc)).symm
    | 13, _ => exact ((ne 57 (by decide) (by decide)).trans (hS_57 sc)).symm
    | 14, _ => exact ((ne 58 (by decide) (by decide)).trans (hS_58 sc)).symm
    | 15, _ => exact ((ne 59 (by decide) (by decide)).trans (hS_59 sc)).symm
    | 16, _ => exact ((ne 60 (by decide) (by decide)).trans (hS_60 sc)).symm
    | 17, _ => exact ((ne 61 (by decide) (by decide)).trans (hS_61 sc)).symm
    | 18, _ => exact ((ne 62 (by decide) (by decide)).trans (hS_62 sc)).symm
    | 19, _ => exact ((ne 63 (by decide) (by decide)).trans (hS_63 sc)).symm
    | 20, _ => exact ((ne 64 (by decide) (by decide)).trans (hS_64 sc)).symm
    | k + 21, q => omega
  · exact vset_ne _ _ (by omega)
theorem c_start {sc : List Int32} {Hc : Hp} (ne : ∀ j, j < 78 → (j < 15 ∨ 24 < j) → Hc j = hS sc j) : cset Hc (fun _ => nI 0) (fun _ => zF) = Hc := by
  funext j
  by_cases c : 65 ≤ j ∧ j ≤ 74
  · obtain ⟨k, rfl⟩ : ∃ k, j = 65 + k := ⟨j - 65, by omega⟩
    have hk : k < 10 := by omega
    match k, hk with
    | 0, _ => exact ((ne 65 (by decide) (by decide)).trans (hS_65 sc)).symm
    | 1, _ => exact ((ne 66 (by decide) (by decide)).trans (hS_66 sc)).symm
    | 2, _ => exact ((ne 67 (by decide) (by decide)).trans (hS_67 sc)).symm
    | 3, _ => exact ((ne 68 (by decide) (by decide)).trans (hS_68 sc)).symm
    | 4, _ => exact ((ne 69 (by decide) (by decide)).trans (hS_69 sc)).symm
    | 5, _ => exact ((ne 70 (by decide) (by decide)).trans (hS_70 sc)).symm
    | 6, _ => exact ((ne 71 (by decide) (by decide)).trans (hS_71 sc)).symm
    | 7, _ => exact ((ne 72 (by decide) (by decide)).trans (hS_72 sc)).symm
    | 8, _ => exact ((ne 73 (by decide) (by decide)).trans (hS_73 sc)).symm
    | 9, _ => exact ((ne 74 (by decide) (by decide)).trans (hS_74 sc)).symm
    | k + 10, q => omega
  · exact cset_ne _ _ _ (by omega)
theorem q_start {sc : List Int32} {Hc : Hp} (ne : ∀ j, j < 78 → (j < 15 ∨ 24 < j) → Hc j = hS sc j) : qset Hc 0 0 zF zF = Hc := by
  funext j
  by_cases c : 75 ≤ j ∧ j ≤ 77
  · obtain ⟨k, rfl⟩ : ∃ k, j = 75 + k := ⟨j - 75, by omega⟩
    have hk : k < 3 := by omega
    match k, hk with
    | 0, _ => exact ((ne 75 (by decide) (by decide)).trans (hS_75 sc)).symm
    | 1, _ => exact ((ne 76 (by decide) (by decide)).trans (hS_76 sc)).symm
    | 2, _ => exact ((ne 77 (by decide) (by decide)).trans (hS_77 sc)).symm
    | k + 3, q => omega
  · exact qset_ne _ _ _ _ _ (by omega)
theorem inv0 (sc : List Int32) (o : AE) : INV sc (mset (hput (pset (hS sc) 15 pS) 78 o) S0 N10 W0) := by
  have ne : ∀ j, j < 78 → (j < 15 ∨ 24 < j) → mset (hput (pset (hS sc) 15 pS) 78 o) S0 N10 W0 j = hS sc j := fun j a b => by
    rw [mset_ne _ _ _ _ (by omega), hput_at, if_neg (by omega), pset_ne _ _ (by omega)]
  have hP : PlanC (mset (hput (pset (hS sc) 15 pS) 78 o) S0 N10 W0) 15 pS := (pset_C (hS sc) (by decide) pS).same (fun j a b => by
    rw [mset_ne _ _ _ _ (by omega), hput_at, if_neg (by omega)])
  have hm := mset_set (hput (pset (hS sc) 15 pS) 78 o) S0 N10 W0 S0 N10 W0
  generalize mset (hput (pset (hS sc) 15 pS) 78 o) S0 N10 W0 = Hc at ne hP hm ⊢
  have look : ∀ {j : Nat} {e : AE}, j < 78 → (j < 15 ∨ 24 < j) → hS sc j = some e → Hc j = some e := fun a b c => (ne _ a b).trans c
  have hJ : PlanC Hc 25 zP := ⟨by decide, look (by decide) (by decide) (hS_25 sc), look (by decide) (by decide) (hS_26 sc), look (by decide) (by decide) (hS_27 sc), look (by decide) (by decide) (hS_28 sc), look (by decide) (by decide) (hS_29 sc), look (by decide) (by decide) (hS_30 sc), look (by decide) (by decide) (hS_31 sc), look (by decide) (by decide) (hS_32 sc), look (by decide) (by decide) (hS_33 sc), look (by decide) (by decide) (hS_34 sc)⟩
  have hT : PlanC Hc 4 zP := ⟨by decide, look (by decide) (by decide) (hS_4 sc), look (by decide) (by decide) (hS_5 sc), look (by decide) (by decide) (hS_6 sc), look (by decide) (by decide) (hS_7 sc), look (by decide) (by decide) (hS_8 sc), look (by decide) (by decide) (hS_9 sc), look (by decide) (by decide) (hS_10 sc), look (by decide) (by decide) (hS_11 sc), look (by decide) (by decide) (hS_12 sc), look (by decide) (by decide) (hS_13 sc)⟩
  have hG : SiegeC Hc 35 zF ((zF, 0), 4294967296, 0) := by
    refine ⟨by decide, ?_, by decide, look (by decide) (by decide) (hS_36 sc), look (by decide) (by decide) (hS_37 sc), look (by decide) (by decide) (hS_38 sc)⟩
    show Hc 35 = some (oG (.ref 36) (.int (dN 4294967296)) (.int (cN4 0)))
    rw [d_zero, c_zero]
    exact look (by decide) (by decide) (hS_35 sc)
  refine ⟨0, zF, pS, fun _ => nI 0, fun _ => zF, fun _ => nI 0, fun _ => zF, S0, N10, W0, ⟨⟨look (by decide) (by decide) (hS_0 sc), look (by decide) (by decide) (hS_1 sc), look (by decide) (by decide) (hS_3 sc)⟩, hP, ⟨⟨zP, hJ⟩, zF, ((zF, 0), 4294967296, 0), hG⟩, ⟨zF, zP, look (by decide) (by decide) (hS_2 sc), look (by decide) (by decide) (hS_14 sc), fun k => by show 0 < 100000; decide, hT⟩, b_start ne, ⟨_, v_start ne⟩, c_start ne, 0, 0, zF, zF, q_start ne⟩, hm, ⟨by decide, fun j => by show 0 ≤ 255; decide, rfl, fun j hj => absurd hj (Nat.not_lt_zero j), fun j => by show 0 ≤ 255; decide⟩, pS_valid, pS_eq, ⟨fun j => by show 0 < 100000; decide, Or.inl rfl⟩, fun j => Or.inl rfl, 0, 0, ⟨rfl, by decide, rfl, by decide, rfl, rfl⟩, fun j hj => absurd hj (Nat.not_lt_zero j), fun j hj => absurd hj (Nat.not_lt_zero j)⟩

