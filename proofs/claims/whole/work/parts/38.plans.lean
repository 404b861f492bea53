/-! plans as blocks -/
def pn (k : Nat) : Nat := if k ≤ 4 then 3 else if k = 8 then 10 else 6
def poE (p : Nat) (P : Pl) : AE := oP (.int (nI (P 0 0))) (.ref (p + 1)) (.ref (p + 2)) (.ref (p + 3)) (.ref (p + 4)) (.int (nI (P 0 1))) (.ref (p + 5)) (.ref (p + 6)) (.ref (p + 7)) (.ref (p + 8)) (.int (nI (P 0 2))) (.int (nI (P 0 3))) (.ref (p + 9))
def pset (h : Hp) (p : Nat) (P : Pl) : Hp := fun j => if j = p then some (poE p P) else if p < j ∧ j ≤ p + 9 then some (AI (pn (j - p)) (P (j - p))) else h j
theorem pset_ne (h : Hp) {p j : Nat} (P : Pl) (hj : j < p ∨ p + 9 < j) : pset h p P j = h j := by
  unfold pset
  rw [if_neg (by omega), if_neg (by omega)]
theorem pset_o (h : Hp) (p : Nat) (P : Pl) : pset h p P p = some (poE p P) := if_pos rfl
theorem pset_k (h : Hp) (p : Nat) (P : Pl) {k : Nat} (h1 : 1 ≤ k) (h9 : k ≤ 9) : pset h p P (p + k) = some (AI (pn k) (P k)) := by
  unfold pset
  rw [if_neg (by omega), if_pos (by omega), show p + k - p = k by omega]
theorem pset_C (h : Hp) {p : Nat} (hp : p ≠ 0) (P : Pl) : PlanC (pset h p P) p P :=
  ⟨hp, pset_o h p P, pset_k h p P (by decide) (by decide), pset_k h p P (by decide) (by decide), pset_k h p P (by decide) (by decide), pset_k h p P (by decide) (by decide), pset_k h p P (by decide) (by decide), pset_k h p P (by decide) (by decide), pset_k h p P (by decide) (by decide), pset_k h p P (by decide) (by decide), pset_k h p P (by decide) (by decide)⟩
theorem pset_pset (h : Hp) (p : Nat) (P P' : Pl) : pset (pset h p P) p P' = pset h p P' := by
  funext j
  unfold pset
  by_cases h1 : j = p
  · rw [if_pos h1, if_pos h1]
  · rw [if_neg h1, if_neg h1]
    by_cases h2 : p < j ∧ j ≤ p + 9
    · simp only [h1, h2, and_self, if_true, if_false]
    · simp only [h1, h2, if_false]
theorem PlanC.id {h : Hp} {p : Nat} {P : Pl} (hp : PlanC h p P) : pset h p P = h := by
  obtain ⟨h0, h1, h2, h3, h4, h5, h6, h7, h8, h9, h10⟩ := hp
  funext j
  unfold pset
  split
  · rename_i e; rw [e, h1]; rfl
  · split
    · rename_i e q
      have hk : j = p + (j - p) := by omega
      generalize hkk : j - p = k at hk
      have c : k = 1 ∨ k = 2 ∨ k = 3 ∨ k = 4 ∨ k = 5 ∨ k = 6 ∨ k = 7 ∨ k = 8 ∨ k = 9 := by omega
      rcases c with rfl | rfl | rfl | rfl | rfl | rfl | rfl | rfl | rfl <;> (rw [hk]; first | exact h2.symm | exact h3.symm | exact h4.symm | exact h5.symm | exact h6.symm | exact h7.symm | exact h8.symm | exact h9.symm | exact h10.symm)
    · rfl
theorem pset_row (h : Hp) (p : Nat) (P : Pl) {k : Nat} (h1 : 1 ≤ k) (h9 : k ≤ 9) (f : Nat → Nat) : hput (pset h p P) (p + k) (AI (pn k) f) = pset h p (fup P k f) := by
  funext j
  rw [hput_at]
  unfold pset
  by_cases c : j = p + k
  · rw [if_pos c, if_neg (by omega), if_pos (by omega), show j - p = k by omega, fup_self]
  · rw [if_neg c]
    by_cases c2 : j = p
    · rw [if_pos c2, if_pos c2]
      have e : fup P k f 0 = P 0 := fup_ne _ _ (by omega)
      unfold poE
      rw [e]
    · rw [if_neg c2, if_neg c2]
      by_cases c3 : p < j ∧ j ≤ p + 9
      · rw [if_pos c3, if_pos c3, fup_ne _ _ (by omega)]
      · rw [if_neg c3, if_neg c3]
theorem pset_obj (h : Hp) (p : Nat) (P : Pl) (f : Nat → Nat) : hput (pset h p P) p (poE p (fup P 0 f)) = pset h p (fup P 0 f) := by
  funext j
  rw [hput_at]
  unfold pset
  by_cases c : j = p
  · rw [if_pos c, if_pos c]
  · rw [if_neg c, if_neg c, if_neg c]
    by_cases c3 : p < j ∧ j ≤ p + 9
    · rw [if_pos c3, if_pos c3, fup_ne _ _ (by omega)]
    · rw [if_neg c3, if_neg c3]
theorem pset_of {h : Hp} {p : Nat} {P : Pl} (P' : Pl) (hp : PlanC h p P) (hs : ∀ j, j ≤ 9 → P' j = P j) : pset h p P' = h := by
  rw [← hp.id, pset_pset]
  funext j
  unfold pset
  split
  · unfold poE; rw [hs 0 (by omega)]
  · split
    · rw [hs _ (by omega)]
    · rfl
theorem pset_congr (h : Hp) (p : Nat) {P P' : Pl} (h0 : ∀ i, i < 4 → P 0 i = P' 0 i) (hk : ∀ k, 1 ≤ k → k ≤ 9 → P k = P' k) : pset h p P = pset h p P' := by
  funext j
  unfold pset
  split
  · unfold poE; rw [h0 0 (by decide), h0 1 (by decide), h0 2 (by decide), h0 3 (by decide)]
  · split
    · rw [hk _ (by omega) (by omega)]
    · rfl
theorem pset_k1 (h : Hp) (p : Nat) (P : Pl) : pset h p P (p + 1) = some (AI 3 (P 1)) := pset_k h p P (by decide) (by decide)
theorem pset_r1 (h : Hp) (p : Nat) (P : Pl) (f : Nat → Nat) : hput (pset h p P) (p + 1) (AI 3 f) = pset h p (fup P 1 f) := pset_row h p P (by decide) (by decide) f
theorem pset_k2 (h : Hp) (p : Nat) (P : Pl) : pset h p P (p + 2) = some (AI 3 (P 2)) := pset_k h p P (by decide) (by decide)
theorem pset_r2 (h : Hp) (p : Nat) (P : Pl) (f : Nat → Nat) : hput (pset h p P) (p + 2) (AI 3 f) = pset h p (fup P 2 f) := pset_row h p P (by decide) (by decide) f
theorem pset_k3 (h : Hp) (p : Nat) (P : Pl) : pset h p P (p + 3) = some (AI 3 (P 3)) := pset_k h p P (by decide) (by decide)
theorem pset_r3 (h : Hp) (p : Nat) (P : Pl) (f : Nat → Nat) : hput (pset h p P) (p + 3) (AI 3 f) = pset h p (fup P 3 f) := pset_row h p P (by decide) (by decide) f
theorem pset_k4 (h : Hp) (p : Nat) (P : Pl) : pset h p P (p + 4) = some (AI 3 (P 4)) := pset_k h p P (by decide) (by decide)
theorem pset_r4 (h : Hp) (p : Nat) (P : Pl) (f : Nat → Nat) : hput (pset h p P) (p + 4) (AI 3 f) = pset h p (fup P 4 f) := pset_row h p P (by decide) (by decide) f
theorem pset_k5 (h : Hp) (p : Nat) (P : Pl) : pset h p P (p + 5) = some (AI 6 (P 5)) := pset_k h p P (by decide) (by decide)
theorem pset_r5 (h : Hp) (p : Nat) (P : Pl) (f : Nat → Nat) : hput (pset h p P) (p + 5) (AI 6 f) = pset h p (fup P 5 f) := pset_row h p P (by decide) (by decide) f
theorem pset_k6 (h : Hp) (p : Nat) (P : Pl) : pset h p P (p + 6) = some (AI 6 (P 6)) := pset_k h p P (by decide) (by decide)
theorem pset_r6 (h : Hp) (p : Nat) (P : Pl) (f : Nat → Nat) : hput (pset h p P) (p + 6) (AI 6 f) = pset h p (fup P 6 f) := pset_row h p P (by decide) (by decide) f
theorem pset_k7 (h : Hp) (p : Nat) (P : Pl) : pset h p P (p + 7) = some (AI 6 (P 7)) := pset_k h p P (by decide) (by decide)
theorem pset_r7 (h : Hp) (p : Nat) (P : Pl) (f : Nat → Nat) : hput (pset h p P) (p + 7) (AI 6 f) = pset h p (fup P 7 f) := pset_row h p P (by decide) (by decide) f
theorem pset_k8 (h : Hp) (p : Nat) (P : Pl) : pset h p P (p + 8) = some (AI 10 (P 8)) := pset_k h p P (by decide) (by decide)
theorem pset_r8 (h : Hp) (p : Nat) (P : Pl) (f : Nat → Nat) : hput (pset h p P) (p + 8) (AI 10 f) = pset h p (fup P 8 f) := pset_row h p P (by decide) (by decide) f
theorem pset_k9 (h : Hp) (p : Nat) (P : Pl) : pset h p P (p + 9) = some (AI 6 (P 9)) := pset_k h p P (by decide) (by decide)
theorem pset_r9 (h : Hp) (p : Nat) (P : Pl) (f : Nat → Nat) : hput (pset h p P) (p + 9) (AI 6 f) = pset h p (fup P 9 f) := pset_row h p P (by decide) (by decide) f
def vec4 (a b c d : Nat) : Nat → Nat := fun i => if i = 0 then a else if i = 1 then b else if i = 2 then c else d
theorem pset_s (h : Hp) (p : Nat) (P : Pl) (a b c d : Nat) : hput (pset h p P) p (oP (.int (nI a)) (.ref (p + 1)) (.ref (p + 2)) (.ref (p + 3)) (.ref (p + 4)) (.int (nI b)) (.ref (p + 5)) (.ref (p + 6)) (.ref (p + 7)) (.ref (p + 8)) (.int (nI c)) (.int (nI d)) (.ref (p + 9))) = pset h p (fup P 0 (vec4 a b c d)) := pset_obj h p P (vec4 a b c d)
theorem pset_oo (h : Hp) (p : Nat) (P : Pl) : pset h p P p = some (oP (.int (nI (P 0 0))) (.ref (p + 1)) (.ref (p + 2)) (.ref (p + 3)) (.ref (p + 4)) (.int (nI (P 0 1))) (.ref (p + 5)) (.ref (p + 6)) (.ref (p + 7)) (.ref (p + 8)) (.int (nI (P 0 2))) (.int (nI (P 0 3))) (.ref (p + 9))) := pset_o h p P
theorem z9 (p : Nat) : (p + 1 ≠ 0 ∧ p + 2 ≠ 0 ∧ p + 3 ≠ 0 ∧ p + 4 ≠ 0 ∧ p + 5 ≠ 0) ∧ (p + 6 ≠ 0 ∧ p + 7 ≠ 0 ∧ p + 8 ≠ 0 ∧ p + 9 ≠ 0) := by omega
set_option maxHeartbeats 1000000 in
theorem copyFrom_eq {h : Hp} {p q : Nat} {P O : Pl} (hP : PlanC h p P) (hO : PlanC h q O) (hd : q + 9 < p ∨ p + 9 < q) (z : Zc) (Q : Option Value → Zc → Hp → Prop) : Ev 108 (0, [some (.ref p), some (.ref q)], [], z, h) Q = Q none z (pset h p O) := by
  obtain ⟨q0, q1, q2, q3, q4, q5, q6, q7, q8, q9, q10⟩ := hO
  have e : ∀ P', pset h p P' q = h q := fun P' => pset_ne h P' (by omega)
  have e1 : ∀ P', pset h p P' (q + 1) = h (q + 1) := fun P' => pset_ne h P' (by omega)
  have e2 : ∀ P', pset h p P' (q + 2) = h (q + 2) := fun P' => pset_ne h P' (by omega)
  have e3 : ∀ P', pset h p P' (q + 3) = h (q + 3) := fun P' => pset_ne h P' (by omega)
  have e4 : ∀ P', pset h p P' (q + 4) = h (q + 4) := fun P' => pset_ne h P' (by omega)
  have e5 : ∀ P', pset h p P' (q + 5) = h (q + 5) := fun P' => pset_ne h P' (by omega)
  have e6 : ∀ P', pset h p P' (q + 6) = h (q + 6) := fun P' => pset_ne h P' (by omega)
  have e7 : ∀ P', pset h p P' (q + 7) = h (q + 7) := fun P' => pset_ne h P' (by omega)
  have e8 : ∀ P', pset h p P' (q + 8) = h (q + 8) := fun P' => pset_ne h P' (by omega)
  have e9 : ∀ P', pset h p P' (q + 9) = h (q + 9) := fun P' => pset_ne h P' (by omega)
  obtain ⟨⟨a1, a2, a3, a4, a5⟩, a6, a7, a8, a9⟩ := z9 p
  obtain ⟨⟨b1, b2, b3, b4, b5⟩, b6, b7, b8, b9⟩ := z9 q
  have c3 := fun s t => cpE_AI (n := 3) s t (by decide)
  have c6 := fun s t => cpE_AI (n := 6) s t (by decide)
  have c10 := fun s t => cpE_AI (n := 10) s t (by decide)
  have fin : ∀ (P1 : Pl), (∀ i, i < 4 → P1 0 i = O 0 i) → (∀ k, 1 ≤ k → k ≤ 9 → P1 k = O k) → Q none z (pset h p P1) = Q none z (pset h p O) := fun P1 u1 u2 => by rw [pset_congr h p u1 u2]
  conv => lhs; rw [← hP.id]
  simp only [m108_0, m108_1, m108_2, m108_5, m108_8, m108_9, m108_12, m108_13, m108_14, m108_17, m108_18, m108_19, m108_22, m108_23, m108_26, m108_27, m108_28, m108_31, m108_32, m108_33, m108_36, m108_37, m108_40, m108_41, m108_42, m108_45, m108_46, m108_47, m108_50, m108_51, m108_54, m108_55, m108_56, m108_59, m108_60, m108_61, m108_64, m108_65, m108_66, m108_69, m108_72, m108_73, m108_76, m108_77, m108_78, m108_81, m108_82, m108_84, m108_87, m108_88, m108_91, m108_92, m108_93, m108_96, m108_97, m108_99, m108_102, m108_103, m108_106, m108_107, m108_108, m108_111, m108_112, m108_114, m108_117, m108_118, m108_121, m108_122, m108_123, m108_126, m108_127, m108_129, m108_132, m108_133, m108_134, m108_137, m108_140, m108_141, m108_142, m108_145, m108_148, m108_149, m108_152, m108_153, m108_154, m108_157, m108_158, m108_160, m108_163, ob_some, gf_eq, pf_eq, hcpy_eq, Option.bind_some, Option.map_some, oS_ck, oS_g0, oS_p0, oS_g1, oS_p1, oS_g2, oS_p2, oS_g3, oS_p3, oS_g4, oS_p4, oS_g5, oS_p5, oS_g6, oS_p6, oP_ck, oP_g0, oP_p0, oP_g1, oP_p1, oP_g2, oP_p2, oP_g3, oP_p3, oP_g4, oP_p4, oP_g5, oP_p5, oP_g6, oP_p6, oP_g7, oP_p7, oP_g8, oP_p8, oP_g9, oP_p9, oP_g10, oP_p10, oP_g11, oP_p11, oP_g12, oP_p12, oR_ck, oR_g0, oR_p0, oR_g1, oR_p1, oR_g2, oR_p2, oR_g3, oR_p3, oG_ck, oG_g0, oG_p0, oG_g1, oG_p1, oG_g2, oG_p2, oW_ck, oW_g0, oW_p0, oW_g1, oW_p1, oW_g2, oW_p2, oB_ck, oB_g0, oB_p0, oB_g1, oB_p1, oB_g2, oB_p2, oB_g3, oB_p3, oB_g4, oB_p4, oB_g5, oB_p5, oB_g6, oB_p6, oC_ck, oC_g0, oC_p0, oC_g1, oC_p1, oC_g2, oC_p2, oC_g3, oC_p3, oC_g4, oC_p4, oC_g5, oC_p5, oC_g6, oC_p6, oH_ck, oH_g0, oH_p0, oH_g1, oH_p1, oH_g2, oH_p2, oH_g3, oH_p3, oM_ck, oM_g0, oM_p0, oM_g1, oM_p1, oM_g2, oM_p2, oM_g3, oM_p3, oM_g4, oM_p4, oM_g5, oM_p5, oM_g6, oM_p6, oM_g7, oM_p7, oM_g8, oM_p8, oM_g9, oM_p9, oM_g10, oM_p10, oM_g11, oM_p11, oM_g12, oM_p12, oM_g13, oM_p13, oM_g14, oM_p14, oM_g15, oM_p15, oM_g16, oM_p16, oM_g17, oM_p17, oM_g18, oM_p18, oM_g19, oM_p19, oM_g20, oM_p20, oM_g21, oM_p21, oM_g22, oM_p22, oM_g23, oM_p23, oM_g24, oM_p24, oM_g25, oM_p25, oM_g26, oM_p26, oM_g27, oM_p27, oM_g28, oM_p28, oM_g29, oM_p29, pset_oo, pset_k1, pset_r1, pset_k2, pset_r2, pset_k3, pset_r3, pset_k4, pset_r4, pset_k5, pset_r5, pset_k6, pset_r6, pset_k7, pset_r7, pset_k8, pset_r8, pset_k9, pset_r9, pset_s, e, e1, e2, e3, e4, e5, e6, e7, e8, e9, q1, q2, q3, q4, q5, q6, q7, q8, q9, q10, a1, a2, a3, a4, a5, a6, a7, a8, a9, b1, b2, b3, b4, b5, b6, b7, b8, b9, ne_eq, not_false_eq_true, c3, c6, c10]
  refine fin _ (fun i hi => ?_) (fun k k1 k9 => ?_)
  · have c : i = 0 ∨ i = 1 ∨ i = 2 ∨ i = 3 := by omega
    rcases c with rfl | rfl | rfl | rfl <;> rfl
  · have c : k = 1 ∨ k = 2 ∨ k = 3 ∨ k = 4 ∨ k = 5 ∨ k = 6 ∨ k = 7 ∨ k = 8 ∨ k = 9 := by omega
    rcases c with rfl | rfl | rfl | rfl | rfl | rfl | rfl | rfl | rfl <;> rfl
