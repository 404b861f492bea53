/-! the reference: figures and items -/
def figs (T : Nat → Nat) (len : Nat) : Nat → Nat → Option (List Nat × Nat)
  | 0, p => some ([], p)
  | n + 1, p => match one T len p with
    | none => none
    | some (v, p') => if chr T len p' = (if n = 0 then 59 else 44) then (figs T len n (p' + 1)).map (fun q => (v :: q.1, q.2)) else none
theorem numL_figs {T : Nat → Nat} {len : Nat} : ∀ m p l p', numL T len m p = some (l, p') → figs T len l.length p = some (l, p') ∧ 1 ≤ l.length
  | 0, p, l, p', h => by cases h
  | m + 1, p, l, p', h => by
    rw [numL] at h
    cases ho : one T len p with
    | none => rw [ho] at h; cases h
    | some q =>
      obtain ⟨v, p1⟩ := q
      rw [ho] at h
      dsimp only at h
      by_cases c1 : chr T len p1 = 59
      · rw [if_pos c1] at h
        cases h
        refine ⟨?_, Nat.le_refl _⟩
        show figs T len (0 + 1) p = _
        rw [figs, ho]
        dsimp only
        rw [if_pos rfl, if_pos c1]
        rfl
      · rw [if_neg c1] at h
        by_cases c2 : chr T len p1 = 44
        · rw [if_pos c2] at h
          cases hn : numL T len m (p1 + 1) with
          | none => rw [hn] at h; cases h
          | some q =>
            obtain ⟨l2, p2⟩ := q
            rw [hn] at h
            cases h
            obtain ⟨i1, i2⟩ := numL_figs m _ _ _ hn
            refine ⟨?_, Nat.succ_le_succ (Nat.zero_le _)⟩
            show figs T len (l2.length + 1) p = _
            rw [figs, ho]
            dsimp only
            rw [if_neg (show ¬ l2.length = 0 by omega), if_pos c2, i1]
            rfl
        · rw [if_neg c2] at h
          cases h
theorem figs_numL {T : Nat → Nat} {len : Nat} : ∀ n m p l p', figs T len (n + 1) p = some (l, p') → n + 1 ≤ m → numL T len m p = some (l, p') ∧ l.length = n + 1
  | n, 0, p, l, p', h, hm => by omega
  | n, m + 1, p, l, p', h, hm => by
    rw [figs] at h
    cases ho : one T len p with
    | none => rw [ho] at h; cases h
    | some q =>
      obtain ⟨v, p1⟩ := q
      rw [ho] at h
      dsimp only at h
      rw [numL, ho]
      dsimp only
      cases n with
      | zero =>
        rw [if_pos rfl] at h
        by_cases c1 : chr T len p1 = 59
        · rw [if_pos c1, figs] at h
          cases h
          rw [if_pos c1]
          exact ⟨rfl, rfl⟩
        · rw [if_neg c1] at h; cases h
      | succ n =>
        rw [if_neg (show ¬ n + 1 = 0 by omega)] at h
        by_cases c2 : chr T len p1 = 44
        · rw [if_pos c2] at h
          cases hn : figs T len (n + 1) (p1 + 1) with
          | none => rw [hn] at h; cases h
          | some q =>
            obtain ⟨l2, p2⟩ := q
            rw [hn] at h
            cases h
            obtain ⟨i1, i2⟩ := figs_numL n m _ _ _ hn (by omega)
            rw [if_neg (by omega), if_pos c2, i1]
            refine ⟨rfl, ?_⟩
            show l2.length + 1 = _
            omega
        · rw [if_neg c2] at h; cases h
theorem one_lt {T : Nat → Nat} {len p v p' : Nat} (h : one T len p = some (v, p')) : v < 100 := by
  unfold one at h
  split at h
  · rename_i d0
    split at h
    · rename_i d1
      cases h
      omega
    · cases h
      omega
  · cases h
theorem figs_lt {T : Nat → Nat} {len : Nat} : ∀ n p l p', figs T len n p = some (l, p') → ∀ v, v ∈ l → v < 100
  | 0, p, l, p', h, v, hv => by rw [figs] at h; cases h; cases hv
  | n + 1, p, l, p', h, v, hv => by
    rw [figs] at h
    cases ho : one T len p with
    | none => rw [ho] at h; cases h
    | some q =>
      obtain ⟨v1, p1⟩ := q
      rw [ho] at h
      dsimp only at h
      by_cases cc : chr T len p1 = (if n = 0 then 59 else 44)
      · rw [if_pos cc] at h
        cases hn : figs T len n (p1 + 1) with
        | none => rw [hn] at h; cases h
        | some q =>
          obtain ⟨l2, p2⟩ := q
          rw [hn] at h
          cases h
          rcases List.mem_cons.mp hv with e | e
          · rw [e]; exact one_lt ho
          · exact figs_lt n _ _ _ hn v e
      · rw [if_neg cc] at h
        cases h
set_option maxHeartbeats 4000000 in
theorem mfigures_loop {h : Hp} {A : Nat → Nat → Nat} {W : Mw} {len : Nat} (hT : ∀ j, A 1 j ≤ 255) (hl : len ≤ 300) (s1 s2 s4 s5 s6 : Int32) {n : Nat} (hn : n ≤ 3) (z : Zc) (Q : Option Value → Zc → Hp → Prop) : ∀ m k, m + k = n → ∀ (p : Nat) (N : Nat → Nat) (l3 l4 : Option Value), p + 5 * m < 1000 →
    (figs (A 1) len m p = none → ∀ p' N', p' < 100000 → Q (some (.int (nI 0))) z (mset h (mv (nI len) s1 s2 (nI p') s4 s5 s6) (fup A 16 N') W)) →
    (∀ l p', figs (A 1) len m p = some (l, p') → ∀ N', (∀ j, j < k → N' j = N j) → agr N' k l → Q (some (.int (nI 1))) z (mset h (mv (nI len) s1 s2 (nI p') s4 s5 s6) (fup A 16 N') W)) →
    Ev 40 (2, [some (.ref 78), some (.int (nI n)), some (.int (nI k)), l3, l4], [], z, mset h (mv (nI len) s1 s2 (nI p) s4 s5 s6) (fup A 16 N) W) Q := by
  intro m
  induction m with
  | zero =>
    intro k hk p N l3 l4 hp hF hS
    have e : k = n := by omega
    subst e
    rw [m40_2]
    simp only [m40_0, m40_1, m40_3, m40_4, m40_7, m40_8, m40_9, m40_10, m40_13, m40_14, m40_17, m40_20, m40_21, m40_24, m40_27, m40_30, m40_33, m40_34, m40_35, m40_38, m40_40, m40_42, m40_43, m40_44, m40_45, m40_48, m40_51, m40_52, m40_54, m40_55, m40_57, m40_60, m40_61, m40_62, m40_65, m40_66, m40_67, m40_70, m40_73, m40_74, m40_75, m40_76, m40_79, m40_82, m40_85, m40_86, m40_87, m40_90, m40_93, m40_94, m40_95, m40_96, m40_97, m40_100, m40_102, m40_105, m40_107, m40_110, m40_111_0, m40_111_1, m40_111_b, m40_112, m40_113, m40_116, m40_117, m40_119, m40_120, m40_121, m40_122, m40_125, m40_126, m40_127, m40_130, m40_133, m40_136, m40_137_0, m40_137_1, m40_137_b, nlt (a := k) (b := k) (by omega) (by omega), Nat.lt_irrefl, if_false]
    exact hS [] p rfl N (fun _ _ => rfl) trivial
  | succ m ih =>
    intro k hk p N l3 l4 hp hF hS
    have hlt : k < n := by omega
    have hB := fun (s3 : Int32) (N : Nat → Nat) (j : Nat) (hj : j < 100000) (Q : Option Value → Zc → Hp → Prop) => mbyteAt_eq (h := h) (S := mv (nI len) s1 s2 s3 s4 s5 s6) (A := fup A 16 N) (W := W) (len := len) rfl hl hj z Q
    have f1 : ∀ N : Nat → Nat, fup A 16 N 1 = A 1 := fun N => rfl
    simp only [f1] at hB
    have hB0 := fun s3 N Q => hB s3 N p (by omega) Q
    have hB1 := fun s3 N Q => hB s3 N (p + 1) (by omega) Q
    have hB2 := fun s3 N Q => hB s3 N (p + 2) (by omega) Q
    have hB3 := fun s3 N Q => hB s3 N (p + 3) (by omega) Q
    have l1 := nlt (a := k) (b := n) (by omega) (by omega)
    have t03 : (nI 0 < nI 3) = True := eq_true (by decide)
    have t13 : (nI 1 < nI 3) = True := eq_true (by decide)
    have t23 : (nI 2 < nI 3) = True := eq_true (by decide)
    have t33 : (nI 3 < nI 3) = False := eq_false (by decide)
    have r0 : (b2 (rgI (nI 0) 1 2) = nI 0) = True := bf (by decide)
    have r1 : (b2 (rgI (nI 1) 1 2) = nI 0) = False := bt (by decide)
    have r2 : (b2 (rgI (nI 2) 1 2) = nI 0) = False := bt (by decide)
    have r3 : (b2 (rgI (nI 3) 1 2) = nI 0) = True := bf (by decide)
    have en : nI n - nI 1 = nI (n - 1) := pk_sub (by omega)
    have l2 := nlt (a := k) (b := n - 1) (by omega) (by omega)
    have i16 := fun v => isE_AI (n := 3) (j := k) N v (by omega) (by decide)
    have g16 : ∀ f, fup A 16 f 16 = f := fun f => rfl
    -- behind the number v, the mark at p1
    have after : ∀ (v p1 f : Nat), (f = 1 ∨ f = 2) → p < p1 → p1 ≤ p + 2 → one (A 1) len p = some (v, p1) →
        Ev 40 (73, [some (.ref 78), some (.int (nI n)), some (.int (nI k)), some (.int (nI f)), some (.int (nI v))], [], z, mset h (mv (nI len) s1 s2 (nI p1) s4 s5 s6) (fup A 16 N) W) Q := by
      intro v p1 f hf hp1 hp2 ho
      have rf : (b2 (rgI (nI f) 1 2) = nI 0) = False := by rcases hf with rfl | rfl <;> assumption
      have hBp := fun s3 N Q => hB s3 N p1 (by omega) Q
      have hmb : mB (A 1) len p1 ≤ 255 := by unfold mB; split; exact hT _; omega
      have m59 := neq (a := mB (A 1) len p1) (b := 59) (by omega) (by decide)
      have m44 := neq (a := mB (A 1) len p1) (b := 44) (by omega) (by decide)
      have q59 := propext (mB_chr (T := A 1) (len := len) (j := p1) (m := 59) (by decide) (by decide))
      have q44 := propext (mB_chr (T := A 1) (len := len) (j := p1) (m := 44) (by decide) (by decide))
      by_cases c : m = 0
      · have c2 : ¬ k < n - 1 := by omega
        by_cases c59 : chr (A 1) len p1 = 59
        · have hS2 := hS
          have ihk := ih (k + 1) (by omega) (p1 + 1) (fup N k v) (some (.int (nI f))) (some (.int (nI v))) (by omega) (fun hq => by
            rw [c, figs] at hq; cases hq) (fun l p' hq N' hN' hag => by
            refine hS (v :: l) p' ?_ N' (fun j hj => by rw [hN' j (by omega), fup_ne _ _ (by omega)]) ⟨by rw [hN' k (by omega), fup_self], hag⟩
            rw [figs, ho]
            dsimp only
            rw [if_pos c, if_pos c59, hq]
            rfl)
          simp only [m40_0, m40_1, m40_3, m40_4, m40_7, m40_8, m40_9, m40_10, m40_13, m40_14, m40_17, m40_20, m40_21, m40_24, m40_27, m40_30, m40_33, m40_34, m40_35, m40_38, m40_40, m40_42, m40_43, m40_44, m40_45, m40_48, m40_51, m40_52, m40_54, m40_55, m40_57, m40_60, m40_61, m40_62, m40_65, m40_66, m40_67, m40_70, m40_73, m40_74, m40_75, m40_76, m40_79, m40_82, m40_85, m40_86, m40_87, m40_90, m40_93, m40_94, m40_95, m40_96, m40_97, m40_100, m40_102, m40_105, m40_107, m40_110, m40_111_0, m40_111_1, m40_111_b, m40_112, m40_113, m40_116, m40_117, m40_119, m40_120, m40_121, m40_122, m40_125, m40_126, m40_127, m40_130, m40_133, m40_136, m40_137_0, m40_137_1, m40_137_b, ob_some, pushr_s, pushr_n, iget_eq, gf_eq, pf_eq, ck_eq, alen_eq, rget_eq, iset_eq, Option.bind_some, Option.map_some, Option.elim_some, hput_at, ↓reduceIte, Nat.reduceEqDiff, Nat.reduceAdd, ne_eq, not_false_eq_true, oS_ck, oS_g0, oS_p0, oS_g1, oS_p1, oS_g2, oS_p2, oS_g3, oS_p3, oS_g4, oS_p4, oS_g5, oS_p5, oS_g6, oS_p6, oP_ck, oP_g0, oP_p0, oP_g1, oP_p1, oP_g2, oP_p2, oP_g3, oP_p3, oP_g4, oP_p4, oP_g5, oP_p5, oP_g6, oP_p6, oP_g7, oP_p7, oP_g8, oP_p8, oP_g9, oP_p9, oP_g10, oP_p10, oP_g11, oP_p11, oP_g12, oP_p12, oR_ck, oR_g0, oR_p0, oR_g1, oR_p1, oR_g2, oR_p2, oR_g3, oR_p3, oG_ck, oG_g0, oG_p0, oG_g1, oG_p1, oG_g2, oG_p2, oW_ck, oW_g0, oW_p0, oW_g1, oW_p1, oW_g2, oW_p2, oB_ck, oB_g0, oB_p0, oB_g1, oB_p1, oB_g2, oB_p2, oB_g3, oB_p3, oB_g4, oB_p4, oB_g5, oB_p5, oB_g6, oB_p6, oC_ck, oC_g0, oC_p0, oC_g1, oC_p1, oC_g2, oC_p2, oC_g3, oC_p3, oC_g4, oC_p4, oC_g5, oC_p5, oC_g6, oC_p6, oH_ck, oH_g0, oH_p0, oH_g1, oH_p1, oH_g2, oH_p2, oH_g3, oH_p3, oM_ck, oM_g0, oM_p0, oM_g1, oM_p1, oM_g2, oM_p2, oM_g3, oM_p3, oM_g4, oM_p4, oM_g5, oM_p5, oM_g6, oM_p6, oM_g7, oM_p7, oM_g8, oM_p8, oM_g9, oM_p9, oM_g10, oM_p10, oM_g11, oM_p11, oM_g12, oM_p12, oM_g13, oM_p13, oM_g14, oM_p14, oM_g15, oM_p15, oM_g16, oM_p16, oM_g17, oM_p17, oM_g18, oM_p18, oM_g19, oM_p19, oM_g20, oM_p20, oM_g21, oM_p21, oM_g22, oM_p22, oM_g23, oM_p23, oM_g24, oM_p24, oM_g25, oM_p25, oM_g26, oM_p26, oM_g27, oM_p27, oM_g28, oM_p28, oM_g29, oM_p29, mv0, mv1, mv2, mv3, mv4, mv5, mv6, mset_o, mset_po, mset_k1, mset_r1, mset_k2, mset_r2, mset_k3, mset_r3, mset_k4, mset_r4, mset_k5, mset_r5, mset_k6, mset_r6, mset_k7, mset_r7, mset_k8, mset_r8, mset_k9, mset_r9, mset_k10, mset_r10, mset_k11, mset_r11, mset_k12, mset_r12, mset_k13, mset_r13, mset_k14, mset_r14, mset_k15, mset_r15, mset_k16, mset_r16, mset_k17, mset_r17, mset_k18, mset_r18, mset_k19, mset_r19, mset_k20, mset_r20, mset_k21, mset_r21, mset_k22, mset_r22, mset_k23, mset_r23, in_eq, i2l_toInt, L0, L1, L2, L3, L5, L8, L9, L10, L20, L30, L40, L48, L57, L60, L9999, rf, if_false, hBp, en, l2, c2, m59, q59, c59, if_true, g16, i16, fup_fup, nI_add]
          exact ihk
        · have hq : figs (A 1) len (m + 1) p = none := by
            rw [figs, ho]
            dsimp only
            rw [if_pos c, if_neg c59]
          simp only [m40_0, m40_1, m40_3, m40_4, m40_7, m40_8, m40_9, m40_10, m40_13, m40_14, m40_17, m40_20, m40_21, m40_24, m40_27, m40_30, m40_33, m40_34, m40_35, m40_38, m40_40, m40_42, m40_43, m40_44, m40_45, m40_48, m40_51, m40_52, m40_54, m40_55, m40_57, m40_60, m40_61, m40_62, m40_65, m40_66, m40_67, m40_70, m40_73, m40_74, m40_75, m40_76, m40_79, m40_82, m40_85, m40_86, m40_87, m40_90, m40_93, m40_94, m40_95, m40_96, m40_97, m40_100, m40_102, m40_105, m40_107, m40_110, m40_111_0, m40_111_1, m40_111_b, m40_112, m40_113, m40_116, m40_117, m40_119, m40_120, m40_121, m40_122, m40_125, m40_126, m40_127, m40_130, m40_133, m40_136, m40_137_0, m40_137_1, m40_137_b, ob_some, pushr_s, pushr_n, iget_eq, gf_eq, pf_eq, ck_eq, alen_eq, rget_eq, iset_eq, Option.bind_some, Option.map_some, Option.elim_some, hput_at, ↓reduceIte, Nat.reduceEqDiff, Nat.reduceAdd, ne_eq, not_false_eq_true, oS_ck, oS_g0, oS_p0, oS_g1, oS_p1, oS_g2, oS_p2, oS_g3, oS_p3, oS_g4, oS_p4, oS_g5, oS_p5, oS_g6, oS_p6, oP_ck, oP_g0, oP_p0, oP_g1, oP_p1, oP_g2, oP_p2, oP_g3, oP_p3, oP_g4, oP_p4, oP_g5, oP_p5, oP_g6, oP_p6, oP_g7, oP_p7, oP_g8, oP_p8, oP_g9, oP_p9, oP_g10, oP_p10, oP_g11, oP_p11, oP_g12, oP_p12, oR_ck, oR_g0, oR_p0, oR_g1, oR_p1, oR_g2, oR_p2, oR_g3, oR_p3, oG_ck, oG_g0, oG_p0, oG_g1, oG_p1, oG_g2, oG_p2, oW_ck, oW_g0, oW_p0, oW_g1, oW_p1, oW_g2, oW_p2, oB_ck, oB_g0, oB_p0, oB_g1, oB_p1, oB_g2, oB_p2, oB_g3, oB_p3, oB_g4, oB_p4, oB_g5, oB_p5, oB_g6, oB_p6, oC_ck, oC_g0, oC_p0, oC_g1, oC_p1, oC_g2, oC_p2, oC_g3, oC_p3, oC_g4, oC_p4, oC_g5, oC_p5, oC_g6, oC_p6, oH_ck, oH_g0, oH_p0, oH_g1, oH_p1, oH_g2, oH_p2, oH_g3, oH_p3, oM_ck, oM_g0, oM_p0, oM_g1, oM_p1, oM_g2, oM_p2, oM_g3, oM_p3, oM_g4, oM_p4, oM_g5, oM_p5, oM_g6, oM_p6, oM_g7, oM_p7, oM_g8, oM_p8, oM_g9, oM_p9, oM_g10, oM_p10, oM_g11, oM_p11, oM_g12, oM_p12, oM_g13, oM_p13, oM_g14, oM_p14, oM_g15, oM_p15, oM_g16, oM_p16, oM_g17, oM_p17, oM_g18, oM_p18, oM_g19, oM_p19, oM_g20, oM_p20, oM_g21, oM_p21, oM_g22, oM_p22, oM_g23, oM_p23, oM_g24, oM_p24, oM_g25, oM_p25, oM_g26, oM_p26, oM_g27, oM_p27, oM_g28, oM_p28, oM_g29, oM_p29, mv0, mv1, mv2, mv3, mv4, mv5, mv6, mset_o, mset_po, mset_k1, mset_r1, mset_k2, mset_r2, mset_k3, mset_r3, mset_k4, mset_r4, mset_k5, mset_r5, mset_k6, mset_r6, mset_k7, mset_r7, mset_k8, mset_r8, mset_k9, mset_r9, mset_k10, mset_r10, mset_k11, mset_r11, mset_k12, mset_r12, mset_k13, mset_r13, mset_k14, mset_r14, mset_k15, mset_r15, mset_k16, mset_r16, mset_k17, mset_r17, mset_k18, mset_r18, mset_k19, mset_r19, mset_k20, mset_r20, mset_k21, mset_r21, mset_k22, mset_r22, mset_k23, mset_r23, in_eq, i2l_toInt, L0, L1, L2, L3, L5, L8, L9, L10, L20, L30, L40, L48, L57, L60, L9999, rf, if_false, hBp, en, l2, c2, m59, q59, c59]
          exact hF hq _ _ (by omega)
      · have c2 : k < n - 1 := by omega
        by_cases c44 : chr (A 1) len p1 = 44
        · have ihk := ih (k + 1) (by omega) (p1 + 1) (fup N k v) (some (.int (nI f))) (some (.int (nI v))) (by omega) (fun hq => by
            refine hF ?_
            rw [figs, ho]
            dsimp only
            rw [if_neg c, if_pos c44, hq]
            rfl) (fun l p' hq N' hN' hag => by
            refine hS (v :: l) p' ?_ N' (fun j hj => by rw [hN' j (by omega), fup_ne _ _ (by omega)]) ⟨by rw [hN' k (by omega), fup_self], hag⟩
            rw [figs, ho]
            dsimp only
            rw [if_neg c, if_pos c44, hq]
            rfl)
          simp only [m40_0, m40_1, m40_3, m40_4, m40_7, m40_8, m40_9, m40_10, m40_13, m40_14, m40_17, m40_20, m40_21, m40_24, m40_27, m40_30, m40_33, m40_34, m40_35, m40_38, m40_40, m40_42, m40_43, m40_44, m40_45, m40_48, m40_51, m40_52, m40_54, m40_55, m40_57, m40_60, m40_61, m40_62, m40_65, m40_66, m40_67, m40_70, m40_73, m40_74, m40_75, m40_76, m40_79, m40_82, m40_85, m40_86, m40_87, m40_90, m40_93, m40_94, m40_95, m40_96, m40_97, m40_100, m40_102, m40_105, m40_107, m40_110, m40_111_0, m40_111_1, m40_111_b, m40_112, m40_113, m40_116, m40_117, m40_119, m40_120, m40_121, m40_122, m40_125, m40_126, m40_127, m40_130, m40_133, m40_136, m40_137_0, m40_137_1, m40_137_b, ob_some, pushr_s, pushr_n, iget_eq, gf_eq, pf_eq, ck_eq, alen_eq, rget_eq, iset_eq, Option.bind_some, Option.map_some, Option.elim_some, hput_at, ↓reduceIte, Nat.reduceEqDiff, Nat.reduceAdd, ne_eq, not_false_eq_true, oS_ck, oS_g0, oS_p0, oS_g1, oS_p1, oS_g2, oS_p2, oS_g3, oS_p3, oS_g4, oS_p4, oS_g5, oS_p5, oS_g6, oS_p6, oP_ck, oP_g0, oP_p0, oP_g1, oP_p1, oP_g2, oP_p2, oP_g3, oP_p3, oP_g4, oP_p4, oP_g5, oP_p5, oP_g6, oP_p6, oP_g7, oP_p7, oP_g8, oP_p8, oP_g9, oP_p9, oP_g10, oP_p10, oP_g11, oP_p11, oP_g12, oP_p12, oR_ck, oR_g0, oR_p0, oR_g1, oR_p1, oR_g2, oR_p2, oR_g3, oR_p3, oG_ck, oG_g0, oG_p0, oG_g1, oG_p1, oG_g2, oG_p2, oW_ck, oW_g0, oW_p0, oW_g1, oW_p1, oW_g2, oW_p2, oB_ck, oB_g0, oB_p0, oB_g1, oB_p1, oB_g2, oB_p2, oB_g3, oB_p3, oB_g4, oB_p4, oB_g5, oB_p5, oB_g6, oB_p6, oC_ck, oC_g0, oC_p0, oC_g1, oC_p1, oC_g2, oC_p2, oC_g3, oC_p3, oC_g4, oC_p4, oC_g5, oC_p5, oC_g6, oC_p6, oH_ck, oH_g0, oH_p0, oH_g1, oH_p1, oH_g2, oH_p2, oH_g3, oH_p3, oM_ck, oM_g0, oM_p0, oM_g1, oM_p1, oM_g2, oM_p2, oM_g3, oM_p3, oM_g4, oM_p4, oM_g5, oM_p5, oM_g6, oM_p6, oM_g7, oM_p7, oM_g8, oM_p8, oM_g9, oM_p9, oM_g10, oM_p10, oM_g11, oM_p11, oM_g12, oM_p12, oM_g13, oM_p13, oM_g14, oM_p14, oM_g15, oM_p15, oM_g16, oM_p16, oM_g17, oM_p17, oM_g18, oM_p18, oM_g19, oM_p19, oM_g20, oM_p20, oM_g21, oM_p21, oM_g22, oM_p22, oM_g23, oM_p23, oM_g24, oM_p24, oM_g25, oM_p25, oM_g26, oM_p26, oM_g27, oM_p27, oM_g28, oM_p28, oM_g29, oM_p29, mv0, mv1, mv2, mv3, mv4, mv5, mv6, mset_o, mset_po, mset_k1, mset_r1, mset_k2, mset_r2, mset_k3, mset_r3, mset_k4, mset_r4, mset_k5, mset_r5, mset_k6, mset_r6, mset_k7, mset_r7, mset_k8, mset_r8, mset_k9, mset_r9, mset_k10, mset_r10, mset_k11, mset_r11, mset_k12, mset_r12, mset_k13, mset_r13, mset_k14, mset_r14, mset_k15, mset_r15, mset_k16, mset_r16, mset_k17, mset_r17, mset_k18, mset_r18, mset_k19, mset_r19, mset_k20, mset_r20, mset_k21, mset_r21, mset_k22, mset_r22, mset_k23, mset_r23, in_eq, i2l_toInt, L0, L1, L2, L3, L5, L8, L9, L10, L20, L30, L40, L48, L57, L60, L9999, rf, if_false, hBp, en, l2, c2, m44, q44, c44, if_true, g16, i16, fup_fup, nI_add]
          exact ihk
        · have hq : figs (A 1) len (m + 1) p = none := by
            rw [figs, ho]
            dsimp only
            rw [if_neg c, if_neg c44]
          simp only [m40_0, m40_1, m40_3, m40_4, m40_7, m40_8, m40_9, m40_10, m40_13, m40_14, m40_17, m40_20, m40_21, m40_24, m40_27, m40_30, m40_33, m40_34, m40_35, m40_38, m40_40, m40_42, m40_43, m40_44, m40_45, m40_48, m40_51, m40_52, m40_54, m40_55, m40_57, m40_60, m40_61, m40_62, m40_65, m40_66, m40_67, m40_70, m40_73, m40_74, m40_75, m40_76, m40_79, m40_82, m40_85, m40_86, m40_87, m40_90, m40_93, m40_94, m40_95, m40_96, m40_97, m40_100, m40_102, m40_105, m40_107, m40_110, m40_111_0, m40_111_1, m40_111_b, m40_112, m40_113, m40_116, m40_117, m40_119, m40_120, m40_121, m40_122, m40_125, m40_126, m40_127, m40_130, m40_133, m40_136, m40_137_0, m40_137_1, m40_137_b, ob_some, pushr_s, pushr_n, iget_eq, gf_eq, pf_eq, ck_eq, alen_eq, rget_eq, iset_eq, Option.bind_some, Option.map_some, Option.elim_some, hput_at, ↓reduceIte, Nat.reduceEqDiff, Nat.reduceAdd, ne_eq, not_false_eq_true, oS_ck, oS_g0, oS_p0, oS_g1, oS_p1, oS_g2, oS_p2, oS_g3, oS_p3, oS_g4, oS_p4, oS_g5, oS_p5, oS_g6, oS_p6, oP_ck, oP_g0, oP_p0, oP_g1, oP_p1, oP_g2, oP_p2, oP_g3, oP_p3, oP_g4, oP_p4, oP_g5, oP_p5, oP_g6, oP_p6, oP_g7, oP_p7, oP_g8, oP_p8, oP_g9, oP_p9, oP_g10, oP_p10, oP_g11, oP_p11, oP_g12, oP_p12, oR_ck, oR_g0, oR_p0, oR_g1, oR_p1, oR_g2, oR_p2, oR_g3, oR_p3, oG_ck, oG_g0, oG_p0, oG_g1, oG_p1, oG_g2, oG_p2, oW_ck, oW_g0, oW_p0, oW_g1, oW_p1, oW_g2, oW_p2, oB_ck, oB_g0, oB_p0, oB_g1, oB_p1, oB_g2, oB_p2, oB_g3, oB_p3, oB_g4, oB_p4, oB_g5, oB_p5, oB_g6, oB_p6, oC_ck, oC_g0, oC_p0, oC_g1, oC_p1, oC_g2, oC_p2, oC_g3, oC_p3, oC_g4, oC_p4, oC_g5, oC_p5, oC_g6, oC_p6, oH_ck, oH_g0, oH_p0, oH_g1, oH_p1, oH_g2, oH_p2, oH_g3, oH_p3, oM_ck, oM_g0, oM_p0, oM_g1, oM_p1, oM_g2, oM_p2, oM_g3, oM_p3, oM_g4, oM_p4, oM_g5, oM_p5, oM_g6, oM_p6, oM_g7, oM_p7, oM_g8, oM_p8, oM_g9, oM_p9, oM_g10, oM_p10, oM_g11, oM_p11, oM_g12, oM_p12, oM_g13, oM_p13, oM_g14, oM_p14, oM_g15, oM_p15, oM_g16, oM_p16, oM_g17, oM_p17, oM_g18, oM_p18, oM_g19, oM_p19, oM_g20, oM_p20, oM_g21, oM_p21, oM_g22, oM_p22, oM_g23, oM_p23, oM_g24, oM_p24, oM_g25, oM_p25, oM_g26, oM_p26, oM_g27, oM_p27, oM_g28, oM_p28, oM_g29, oM_p29, mv0, mv1, mv2, mv3, mv4, mv5, mv6, mset_o, mset_po, mset_k1, mset_r1, mset_k2, mset_r2, mset_k3, mset_r3, mset_k4, mset_r4, mset_k5, mset_r5, mset_k6, mset_r6, mset_k7, mset_r7, mset_k8, mset_r8, mset_k9, mset_r9, mset_k10, mset_r10, mset_k11, mset_r11, mset_k12, mset_r12, mset_k13, mset_r13, mset_k14, mset_r14, mset_k15, mset_r15, mset_k16, mset_r16, mset_k17, mset_r17, mset_k18, mset_r18, mset_k19, mset_r19, mset_k20, mset_r20, mset_k21, mset_r21, mset_k22, mset_r22, mset_k23, mset_r23, in_eq, i2l_toInt, L0, L1, L2, L3, L5, L8, L9, L10, L20, L30, L40, L48, L57, L60, L9999, rf, if_false, hBp, en, l2, c2, if_true, m44, q44, c44]
          exact hF hq _ _ (by omega)
    rw [m40_2]
    by_cases d0 : isd (A 1) len p
    · have e0 : mB (A 1) len p = A 1 p := if_pos d0.1
      have c0 := (mB_isd (T := A 1) (len := len) hT).mpr d0
      rw [e0] at c0
      have k0 : (b2 (rgI (nI (A 1 p)) 48 57) = nI 0) = False := bt c0
      have s0 : nI (10 * 0 + A 1 p) - nI 48 = nI (A 1 p - 48) := by
        have := pk_sub (a := 10 * 0 + A 1 p) (b := 48) (by omega)
        rw [this]
        exact congrArg nI (by omega)
      by_cases d1 : isd (A 1) len (p + 1)
      · have e1 : mB (A 1) len (p + 1) = A 1 (p + 1) := if_pos d1.1
        have c1 := (mB_isd (T := A 1) (len := len) hT).mpr d1
        rw [e1] at c1
        have k1 : (b2 (rgI (nI (A 1 (p + 1))) 48 57) = nI 0) = False := bt c1
        have s1' : nI (10 * (A 1 p - 48) + A 1 (p + 1)) - nI 48 = nI ((A 1 p - 48) * 10 + A 1 (p + 1) - 48) := by
          have := pk_sub (a := 10 * (A 1 p - 48) + A 1 (p + 1)) (b := 48) (by omega)
          rw [this]
          exact congrArg nI (by omega)
        by_cases d2 : isd (A 1) len (p + 2)
        · have e2 : mB (A 1) len (p + 2) = A 1 (p + 2) := if_pos d2.1
          have c2 := (mB_isd (T := A 1) (len := len) hT).mpr d2
          rw [e2] at c2
          have k2 : (b2 (rgI (nI (A 1 (p + 2))) 48 57) = nI 0) = False := bt c2
          have hm3 : mB (A 1) len (p + 3) ≤ 255 := by unfold mB; split; exact hT _; omega
          have hq : figs (A 1) len (m + 1) p = none := by
            have ho : one (A 1) len p = some ((A 1 p - 48) * 10 + A 1 (p + 1) - 48, p + 2) := (if_pos d0).trans (if_pos d1)
            have hc : chr (A 1) len (p + 2) = A 1 (p + 2) := if_pos d2.1
            rw [figs, ho]
            dsimp only
            rw [hc, if_neg]
            split <;> omega
          by_cases d3 : rgI (nI (mB (A 1) len (p + 3))) 48 57
          · simp only [m40_0, m40_1, m40_3, m40_4, m40_7, m40_8, m40_9, m40_10, m40_13, m40_14, m40_17, m40_20, m40_21, m40_24, m40_27, m40_30, m40_33, m40_34, m40_35, m40_38, m40_40, m40_42, m40_43, m40_44, m40_45, m40_48, m40_51, m40_52, m40_54, m40_55, m40_57, m40_60, m40_61, m40_62, m40_65, m40_66, m40_67, m40_70, m40_73, m40_74, m40_75, m40_76, m40_79, m40_82, m40_85, m40_86, m40_87, m40_90, m40_93, m40_94, m40_95, m40_96, m40_97, m40_100, m40_102, m40_105, m40_107, m40_110, m40_111_0, m40_111_1, m40_111_b, m40_112, m40_113, m40_116, m40_117, m40_119, m40_120, m40_121, m40_122, m40_125, m40_126, m40_127, m40_130, m40_133, m40_136, m40_137_0, m40_137_1, m40_137_b, m40_12, ob_some, pushr_s, pushr_n, iget_eq, gf_eq, pf_eq, ck_eq, alen_eq, rget_eq, iset_eq, Option.bind_some, Option.map_some, Option.elim_some, hput_at, ↓reduceIte, Nat.reduceEqDiff, Nat.reduceAdd, ne_eq, not_false_eq_true, oS_ck, oS_g0, oS_p0, oS_g1, oS_p1, oS_g2, oS_p2, oS_g3, oS_p3, oS_g4, oS_p4, oS_g5, oS_p5, oS_g6, oS_p6, oP_ck, oP_g0, oP_p0, oP_g1, oP_p1, oP_g2, oP_p2, oP_g3, oP_p3, oP_g4, oP_p4, oP_g5, oP_p5, oP_g6, oP_p6, oP_g7, oP_p7, oP_g8, oP_p8, oP_g9, oP_p9, oP_g10, oP_p10, oP_g11, oP_p11, oP_g12, oP_p12, oR_ck, oR_g0, oR_p0, oR_g1, oR_p1, oR_g2, oR_p2, oR_g3, oR_p3, oG_ck, oG_g0, oG_p0, oG_g1, oG_p1, oG_g2, oG_p2, oW_ck, oW_g0, oW_p0, oW_g1, oW_p1, oW_g2, oW_p2, oB_ck, oB_g0, oB_p0, oB_g1, oB_p1, oB_g2, oB_p2, oB_g3, oB_p3, oB_g4, oB_p4, oB_g5, oB_p5, oB_g6, oB_p6, oC_ck, oC_g0, oC_p0, oC_g1, oC_p1, oC_g2, oC_p2, oC_g3, oC_p3, oC_g4, oC_p4, oC_g5, oC_p5, oC_g6, oC_p6, oH_ck, oH_g0, oH_p0, oH_g1, oH_p1, oH_g2, oH_p2, oH_g3, oH_p3, oM_ck, oM_g0, oM_p0, oM_g1, oM_p1, oM_g2, oM_p2, oM_g3, oM_p3, oM_g4, oM_p4, oM_g5, oM_p5, oM_g6, oM_p6, oM_g7, oM_p7, oM_g8, oM_p8, oM_g9, oM_p9, oM_g10, oM_p10, oM_g11, oM_p11, oM_g12, oM_p12, oM_g13, oM_p13, oM_g14, oM_p14, oM_g15, oM_p15, oM_g16, oM_p16, oM_g17, oM_p17, oM_g18, oM_p18, oM_g19, oM_p19, oM_g20, oM_p20, oM_g21, oM_p21, oM_g22, oM_p22, oM_g23, oM_p23, oM_g24, oM_p24, oM_g25, oM_p25, oM_g26, oM_p26, oM_g27, oM_p27, oM_g28, oM_p28, oM_g29, oM_p29, mv0, mv1, mv2, mv3, mv4, mv5, mv6, mset_o, mset_po, mset_k1, mset_r1, mset_k2, mset_r2, mset_k3, mset_r3, mset_k4, mset_r4, mset_k5, mset_r5, mset_k6, mset_r6, mset_k7, mset_r7, mset_k8, mset_r8, mset_k9, mset_r9, mset_k10, mset_r10, mset_k11, mset_r11, mset_k12, mset_r12, mset_k13, mset_r13, mset_k14, mset_r14, mset_k15, mset_r15, mset_k16, mset_r16, mset_k17, mset_r17, mset_k18, mset_r18, mset_k19, mset_r19, mset_k20, mset_r20, mset_k21, mset_r21, mset_k22, mset_r22, mset_k23, mset_r23, in_eq, i2l_toInt, L0, L1, L2, L3, L5, L8, L9, L10, L20, L30, L40, L48, L57, L60, L9999, l1, hlt, if_true, hB0, hB1, hB2, hB3, e0, e1, e2, k0, k1, k2, bt d3, t03, t13, t23, t33, if_false, pk_mul, nI_add, s0, s1', r3]
            exact hF hq _ _ (by omega)
          · simp only [m40_0, m40_1, m40_3, m40_4, m40_7, m40_8, m40_9, m40_10, m40_13, m40_14, m40_17, m40_20, m40_21, m40_24, m40_27, m40_30, m40_33, m40_34, m40_35, m40_38, m40_40, m40_42, m40_43, m40_44, m40_45, m40_48, m40_51, m40_52, m40_54, m40_55, m40_57, m40_60, m40_61, m40_62, m40_65, m40_66, m40_67, m40_70, m40_73, m40_74, m40_75, m40_76, m40_79, m40_82, m40_85, m40_86, m40_87, m40_90, m40_93, m40_94, m40_95, m40_96, m40_97, m40_100, m40_102, m40_105, m40_107, m40_110, m40_111_0, m40_111_1, m40_111_b, m40_112, m40_113, m40_116, m40_117, m40_119, m40_120, m40_121, m40_122, m40_125, m40_126, m40_127, m40_130, m40_133, m40_136, m40_137_0, m40_137_1, m40_137_b, m40_12, ob_some, pushr_s, pushr_n, iget_eq, gf_eq, pf_eq, ck_eq, alen_eq, rget_eq, iset_eq, Option.bind_some, Option.map_some, Option.elim_some, hput_at, ↓reduceIte, Nat.reduceEqDiff, Nat.reduceAdd, ne_eq, not_false_eq_true, oS_ck, oS_g0, oS_p0, oS_g1, oS_p1, oS_g2, oS_p2, oS_g3, oS_p3, oS_g4, oS_p4, oS_g5, oS_p5, oS_g6, oS_p6, oP_ck, oP_g0, oP_p0, oP_g1, oP_p1, oP_g2, oP_p2, oP_g3, oP_p3, oP_g4, oP_p4, oP_g5, oP_p5, oP_g6, oP_p6, oP_g7, oP_p7, oP_g8, oP_p8, oP_g9, oP_p9, oP_g10, oP_p10, oP_g11, oP_p11, oP_g12, oP_p12, oR_ck, oR_g0, oR_p0, oR_g1, oR_p1, oR_g2, oR_p2, oR_g3, oR_p3, oG_ck, oG_g0, oG_p0, oG_g1, oG_p1, oG_g2, oG_p2, oW_ck, oW_g0, oW_p0, oW_g1, oW_p1, oW_g2, oW_p2, oB_ck, oB_g0, oB_p0, oB_g1, oB_p1, oB_g2, oB_p2, oB_g3, oB_p3, oB_g4, oB_p4, oB_g5, oB_p5, oB_g6, oB_p6, oC_ck, oC_g0, oC_p0, oC_g1, oC_p1, oC_g2, oC_p2, oC_g3, oC_p3, oC_g4, oC_p4, oC_g5, oC_p5, oC_g6, oC_p6, oH_ck, oH_g0, oH_p0, oH_g1, oH_p1, oH_g2, oH_p2, oH_g3, oH_p3, oM_ck, oM_g0, oM_p0, oM_g1, oM_p1, oM_g2, oM_p2, oM_g3, oM_p3, oM_g4, oM_p4, oM_g5, oM_p5, oM_g6, oM_p6, oM_g7, oM_p7, oM_g8, oM_p8, oM_g9, oM_p9, oM_g10, oM_p10, oM_g11, oM_p11, oM_g12, oM_p12, oM_g13, oM_p13, oM_g14, oM_p14, oM_g15, oM_p15, oM_g16, oM_p16, oM_g17, oM_p17, oM_g18, oM_p18, oM_g19, oM_p19, oM_g20, oM_p20, oM_g21, oM_p21, oM_g22, oM_p22, oM_g23, oM_p23, oM_g24, oM_p24, oM_g25, oM_p25, oM_g26, oM_p26, oM_g27, oM_p27, oM_g28, oM_p28, oM_g29, oM_p29, mv0, mv1, mv2, mv3, mv4, mv5, mv6, mset_o, mset_po, mset_k1, mset_r1, mset_k2, mset_r2, mset_k3, mset_r3, mset_k4, mset_r4, mset_k5, mset_r5, mset_k6, mset_r6, mset_k7, mset_r7, mset_k8, mset_r8, mset_k9, mset_r9, mset_k10, mset_r10, mset_k11, mset_r11, mset_k12, mset_r12, mset_k13, mset_r13, mset_k14, mset_r14, mset_k15, mset_r15, mset_k16, mset_r16, mset_k17, mset_r17, mset_k18, mset_r18, mset_k19, mset_r19, mset_k20, mset_r20, mset_k21, mset_r21, mset_k22, mset_r22, mset_k23, mset_r23, in_eq, i2l_toInt, L0, L1, L2, L3, L5, L8, L9, L10, L20, L30, L40, L48, L57, L60, L9999, l1, hlt, if_true, hB0, hB1, hB2, hB3, e0, e1, e2, k0, k1, k2, bf d3, t03, t13, t23, t33, if_false, pk_mul, nI_add, s0, s1', r3]
            exact hF hq _ _ (by omega)
        · have k2 : (b2 (rgI (nI (mB (A 1) len (p + 2))) 48 57) = nI 0) = True := bf (fun q => d2 ((mB_isd hT).mp q))
          have af := after ((A 1 p - 48) * 10 + A 1 (p + 1) - 48) (p + 2) 2 (Or.inr rfl) (by omega) (by omega) ((if_pos d0).trans (if_pos d1))
          simp only [m40_3, m40_4, m40_7, m40_8, m40_9, m40_10, m40_12, m40_13, m40_14, m40_17, m40_20, m40_21, m40_24, m40_27, m40_30, m40_33, m40_34, m40_35, m40_38, m40_40, m40_42, m40_43, m40_44, m40_45, m40_48, m40_51, m40_52, m40_54, m40_55, m40_57, m40_60, m40_61, m40_62, m40_65, m40_66, m40_67, m40_70, ob_some, pushr_s, pushr_n, iget_eq, gf_eq, pf_eq, ck_eq, alen_eq, rget_eq, iset_eq, Option.bind_some, Option.map_some, Option.elim_some, hput_at, ↓reduceIte, Nat.reduceEqDiff, Nat.reduceAdd, ne_eq, not_false_eq_true, oS_ck, oS_g0, oS_p0, oS_g1, oS_p1, oS_g2, oS_p2, oS_g3, oS_p3, oS_g4, oS_p4, oS_g5, oS_p5, oS_g6, oS_p6, oP_ck, oP_g0, oP_p0, oP_g1, oP_p1, oP_g2, oP_p2, oP_g3, oP_p3, oP_g4, oP_p4, oP_g5, oP_p5, oP_g6, oP_p6, oP_g7, oP_p7, oP_g8, oP_p8, oP_g9, oP_p9, oP_g10, oP_p10, oP_g11, oP_p11, oP_g12, oP_p12, oR_ck, oR_g0, oR_p0, oR_g1, oR_p1, oR_g2, oR_p2, oR_g3, oR_p3, oG_ck, oG_g0, oG_p0, oG_g1, oG_p1, oG_g2, oG_p2, oW_ck, oW_g0, oW_p0, oW_g1, oW_p1, oW_g2, oW_p2, oB_ck, oB_g0, oB_p0, oB_g1, oB_p1, oB_g2, oB_p2, oB_g3, oB_p3, oB_g4, oB_p4, oB_g5, oB_p5, oB_g6, oB_p6, oC_ck, oC_g0, oC_p0, oC_g1, oC_p1, oC_g2, oC_p2, oC_g3, oC_p3, oC_g4, oC_p4, oC_g5, oC_p5, oC_g6, oC_p6, oH_ck, oH_g0, oH_p0, oH_g1, oH_p1, oH_g2, oH_p2, oH_g3, oH_p3, oM_ck, oM_g0, oM_p0, oM_g1, oM_p1, oM_g2, oM_p2, oM_g3, oM_p3, oM_g4, oM_p4, oM_g5, oM_p5, oM_g6, oM_p6, oM_g7, oM_p7, oM_g8, oM_p8, oM_g9, oM_p9, oM_g10, oM_p10, oM_g11, oM_p11, oM_g12, oM_p12, oM_g13, oM_p13, oM_g14, oM_p14, oM_g15, oM_p15, oM_g16, oM_p16, oM_g17, oM_p17, oM_g18, oM_p18, oM_g19, oM_p19, oM_g20, oM_p20, oM_g21, oM_p21, oM_g22, oM_p22, oM_g23, oM_p23, oM_g24, oM_p24, oM_g25, oM_p25, oM_g26, oM_p26, oM_g27, oM_p27, oM_g28, oM_p28, oM_g29, oM_p29, mv0, mv1, mv2, mv3, mv4, mv5, mv6, mset_o, mset_po, mset_k1, mset_r1, mset_k2, mset_r2, mset_k3, mset_r3, mset_k4, mset_r4, mset_k5, mset_r5, mset_k6, mset_r6, mset_k7, mset_r7, mset_k8, mset_r8, mset_k9, mset_r9, mset_k10, mset_r10, mset_k11, mset_r11, mset_k12, mset_r12, mset_k13, mset_r13, mset_k14, mset_r14, mset_k15, mset_r15, mset_k16, mset_r16, mset_k17, mset_r17, mset_k18, mset_r18, mset_k19, mset_r19, mset_k20, mset_r20, mset_k21, mset_r21, mset_k22, mset_r22, mset_k23, mset_r23, in_eq, i2l_toInt, L0, L1, L2, L3, L5, L8, L9, L10, L20, L30, L40, L48, L57, L60, L9999, l1, hlt, if_true, hB0, hB1, hB2, e0, e1, k0, k1, k2, t03, t13, t23, if_false, pk_mul, nI_add, s0, s1']
          exact af
      · have k1 : (b2 (rgI (nI (mB (A 1) len (p + 1))) 48 57) = nI 0) = True := bf (fun q => d1 ((mB_isd hT).mp q))
        have af := after (A 1 p - 48) (p + 1) 1 (Or.inl rfl) (by omega) (by omega) ((if_pos d0).trans (if_neg d1))
        simp only [m40_3, m40_4, m40_7, m40_8, m40_9, m40_10, m40_12, m40_13, m40_14, m40_17, m40_20, m40_21, m40_24, m40_27, m40_30, m40_33, m40_34, m40_35, m40_38, m40_40, m40_42, m40_43, m40_44, m40_45, m40_48, m40_51, m40_52, m40_54, m40_55, m40_57, m40_60, m40_61, m40_62, m40_65, m40_66, m40_67, m40_70, ob_some, pushr_s, pushr_n, iget_eq, gf_eq, pf_eq, ck_eq, alen_eq, rget_eq, iset_eq, Option.bind_some, Option.map_some, Option.elim_some, hput_at, ↓reduceIte, Nat.reduceEqDiff, Nat.reduceAdd, ne_eq, not_false_eq_true, oS_ck, oS_g0, oS_p0, oS_g1, oS_p1, oS_g2, oS_p2, oS_g3, oS_p3, oS_g4, oS_p4, oS_g5, oS_p5, oS_g6, oS_p6, oP_ck, oP_g0, oP_p0, oP_g1, oP_p1, oP_g2, oP_p2, oP_g3, oP_p3, oP_g4, oP_p4, oP_g5, oP_p5, oP_g6, oP_p6, oP_g7, oP_p7, oP_g8, oP_p8, oP_g9, oP_p9, oP_g10, oP_p10, oP_g11, oP_p11, oP_g12, oP_p12, oR_ck, oR_g0, oR_p0, oR_g1, oR_p1, oR_g2, oR_p2, oR_g3, oR_p3, oG_ck, oG_g0, oG_p0, oG_g1, oG_p1, oG_g2, oG_p2, oW_ck, oW_g0, oW_p0, oW_g1, oW_p1, oW_g2, oW_p2, oB_ck, oB_g0, oB_p0, oB_g1, oB_p1, oB_g2, oB_p2, oB_g3, oB_p3, oB_g4, oB_p4, oB_g5, oB_p5, oB_g6, oB_p6, oC_ck, oC_g0, oC_p0, oC_g1, oC_p1, oC_g2, oC_p2, oC_g3, oC_p3, oC_g4, oC_p4, oC_g5, oC_p5, oC_g6, oC_p6, oH_ck, oH_g0, oH_p0, oH_g1, oH_p1, oH_g2, oH_p2, oH_g3, oH_p3, oM_ck, oM_g0, oM_p0, oM_g1, oM_p1, oM_g2, oM_p2, oM_g3, oM_p3, oM_g4, oM_p4, oM_g5, oM_p5, oM_g6, oM_p6, oM_g7, oM_p7, oM_g8, oM_p8, oM_g9, oM_p9, oM_g10, oM_p10, oM_g11, oM_p11, oM_g12, oM_p12, oM_g13, oM_p13, oM_g14, oM_p14, oM_g15, oM_p15, oM_g16, oM_p16, oM_g17, oM_p17, oM_g18, oM_p18, oM_g19, oM_p19, oM_g20, oM_p20, oM_g21, oM_p21, oM_g22, oM_p22, oM_g23, oM_p23, oM_g24, oM_p24, oM_g25, oM_p25, oM_g26, oM_p26, oM_g27, oM_p27, oM_g28, oM_p28, oM_g29, oM_p29, mv0, mv1, mv2, mv3, mv4, mv5, mv6, mset_o, mset_po, mset_k1, mset_r1, mset_k2, mset_r2, mset_k3, mset_r3, mset_k4, mset_r4, mset_k5, mset_r5, mset_k6, mset_r6, mset_k7, mset_r7, mset_k8, mset_r8, mset_k9, mset_r9, mset_k10, mset_r10, mset_k11, mset_r11, mset_k12, mset_r12, mset_k13, mset_r13, mset_k14, mset_r14, mset_k15, mset_r15, mset_k16, mset_r16, mset_k17, mset_r17, mset_k18, mset_r18, mset_k19, mset_r19, mset_k20, mset_r20, mset_k21, mset_r21, mset_k22, mset_r22, mset_k23, mset_r23, in_eq, i2l_toInt, L0, L1, L2, L3, L5, L8, L9, L10, L20, L30, L40, L48, L57, L60, L9999, l1, hlt, if_true, hB0, hB1, e0, k0, k1, t03, t13, if_false, pk_mul, nI_add, s0]
        exact af
    · have k0 : (b2 (rgI (nI (mB (A 1) len p)) 48 57) = nI 0) = True := bf (fun q => d0 ((mB_isd hT).mp q))
      have hq : figs (A 1) len (m + 1) p = none := by rw [figs, show one (A 1) len p = none from if_neg d0]
      simp only [m40_0, m40_1, m40_3, m40_4, m40_7, m40_8, m40_9, m40_10, m40_13, m40_14, m40_17, m40_20, m40_21, m40_24, m40_27, m40_30, m40_33, m40_34, m40_35, m40_38, m40_40, m40_42, m40_43, m40_44, m40_45, m40_48, m40_51, m40_52, m40_54, m40_55, m40_57, m40_60, m40_61, m40_62, m40_65, m40_66, m40_67, m40_70, m40_73, m40_74, m40_75, m40_76, m40_79, m40_82, m40_85, m40_86, m40_87, m40_90, m40_93, m40_94, m40_95, m40_96, m40_97, m40_100, m40_102, m40_105, m40_107, m40_110, m40_111_0, m40_111_1, m40_111_b, m40_112, m40_113, m40_116, m40_117, m40_119, m40_120, m40_121, m40_122, m40_125, m40_126, m40_127, m40_130, m40_133, m40_136, m40_137_0, m40_137_1, m40_137_b, m40_12, ob_some, pushr_s, pushr_n, iget_eq, gf_eq, pf_eq, ck_eq, alen_eq, rget_eq, iset_eq, Option.bind_some, Option.map_some, Option.elim_some, hput_at, ↓reduceIte, Nat.reduceEqDiff, Nat.reduceAdd, ne_eq, not_false_eq_true, oS_ck, oS_g0, oS_p0, oS_g1, oS_p1, oS_g2, oS_p2, oS_g3, oS_p3, oS_g4, oS_p4, oS_g5, oS_p5, oS_g6, oS_p6, oP_ck, oP_g0, oP_p0, oP_g1, oP_p1, oP_g2, oP_p2, oP_g3, oP_p3, oP_g4, oP_p4, oP_g5, oP_p5, oP_g6, oP_p6, oP_g7, oP_p7, oP_g8, oP_p8, oP_g9, oP_p9, oP_g10, oP_p10, oP_g11, oP_p11, oP_g12, oP_p12, oR_ck, oR_g0, oR_p0, oR_g1, oR_p1, oR_g2, oR_p2, oR_g3, oR_p3, oG_ck, oG_g0, oG_p0, oG_g1, oG_p1, oG_g2, oG_p2, oW_ck, oW_g0, oW_p0, oW_g1, oW_p1, oW_g2, oW_p2, oB_ck, oB_g0, oB_p0, oB_g1, oB_p1, oB_g2, oB_p2, oB_g3, oB_p3, oB_g4, oB_p4, oB_g5, oB_p5, oB_g6, oB_p6, oC_ck, oC_g0, oC_p0, oC_g1, oC_p1, oC_g2, oC_p2, oC_g3, oC_p3, oC_g4, oC_p4, oC_g5, oC_p5, oC_g6, oC_p6, oH_ck, oH_g0, oH_p0, oH_g1, oH_p1, oH_g2, oH_p2, oH_g3, oH_p3, oM_ck, oM_g0, oM_p0, oM_g1, oM_p1, oM_g2, oM_p2, oM_g3, oM_p3, oM_g4, oM_p4, oM_g5, oM_p5, oM_g6, oM_p6, oM_g7, oM_p7, oM_g8, oM_p8, oM_g9, oM_p9, oM_g10, oM_p10, oM_g11, oM_p11, oM_g12, oM_p12, oM_g13, oM_p13, oM_g14, oM_p14, oM_g15, oM_p15, oM_g16, oM_p16, oM_g17, oM_p17, oM_g18, oM_p18, oM_g19, oM_p19, oM_g20, oM_p20, oM_g21, oM_p21, oM_g22, oM_p22, oM_g23, oM_p23, oM_g24, oM_p24, oM_g25, oM_p25, oM_g26, oM_p26, oM_g27, oM_p27, oM_g28, oM_p28, oM_g29, oM_p29, mv0, mv1, mv2, mv3, mv4, mv5, mv6, mset_o, mset_po, mset_k1, mset_r1, mset_k2, mset_r2, mset_k3, mset_r3, mset_k4, mset_r4, mset_k5, mset_r5, mset_k6, mset_r6, mset_k7, mset_r7, mset_k8, mset_r8, mset_k9, mset_r9, mset_k10, mset_r10, mset_k11, mset_r11, mset_k12, mset_r12, mset_k13, mset_r13, mset_k14, mset_r14, mset_k15, mset_r15, mset_k16, mset_r16, mset_k17, mset_r17, mset_k18, mset_r18, mset_k19, mset_r19, mset_k20, mset_r20, mset_k21, mset_r21, mset_k22, mset_r22, mset_k23, mset_r23, in_eq, i2l_toInt, L0, L1, L2, L3, L5, L8, L9, L10, L20, L30, L40, L48, L57, L60, L9999, l1, hlt, if_true, hB0, k0, r0]
      exact hF hq _ _ (by omega)
theorem mfigures_eq {h : Hp} {A : Nat → Nat → Nat} {W : Mw} {len : Nat} (hT : ∀ j, A 1 j ≤ 255) (hl : len ≤ 300) (s1 s2 s4 s5 s6 : Int32) {n p : Nat} (hn : n ≤ 3) (hp : p < 900) (z : Zc) (Q : Option Value → Zc → Hp → Prop)
    (hF : figs (A 1) len n p = none → ∀ p' N', p' < 100000 → Q (some (.int (nI 0))) z (mset h (mv (nI len) s1 s2 (nI p') s4 s5 s6) (fup A 16 N') W))
    (hS : ∀ l p', figs (A 1) len n p = some (l, p') → ∀ N', agr N' 0 l → Q (some (.int (nI 1))) z (mset h (mv (nI len) s1 s2 (nI p') s4 s5 s6) (fup A 16 N') W)) :
    Ev 40 (0, [some (.ref 78), some (.int (nI n)), none, none, none], [], z, mset h (mv (nI len) s1 s2 (nI p) s4 s5 s6) A W) Q := by
  have e : mset h (mv (nI len) s1 s2 (nI p) s4 s5 s6) A W = mset h (mv (nI len) s1 s2 (nI p) s4 s5 s6) (fup A 16 (A 16)) W := by rw [fup_id]
  simp only [m40_0, m40_1]
  rw [e]
  exact mfigures_loop hT hl s1 s2 s4 s5 s6 hn z Q n 0 rfl p (A 16) none none (by omega) hF (fun l p' hq N' _ hag => hS l p' hq N' hag)
