/-! bytes written, on both sides -/
theorem by_sh (v : Int64) (s : UInt64) (t : Int64) (d : Nat) (hd : d ≤ 56) (hs : (s.toBitVec % 64).toNat = d) (ht : (t.toBitVec.smod 64).toNat = d) : ((v.toUInt64 >>> s).toInt64 &&& 255) = ((v >>> t) &&& 255) := by
  apply Int64.toBitVec_inj.mp
  apply BitVec.eq_of_getLsbD_eq
  intro i hi
  have e1 : ((v.toUInt64 >>> s).toInt64 &&& 255).toBitVec = (v.toBitVec >>> (s.toBitVec % 64).toNat) &&& 255#64 := rfl
  have e2 : ((v >>> t) &&& 255).toBitVec = (v.toBitVec.sshiftRight (t.toBitVec.smod 64).toNat) &&& 255#64 := rfl
  rw [e1, e2, hs, ht, BitVec.getLsbD_and, BitVec.getLsbD_and, BitVec.getLsbD_sshiftRight, BitVec.getLsbD_ushiftRight]
  by_cases c : i < 8
  · have h6 : decide (64 ≤ i) = false := decide_eq_false (by omega)
    rw [if_pos (by omega), h6]
    simp
  · have h2 : (255#64).getLsbD i = false := by
      show (255#64).toNat.testBit i = false
      have h255 : (255#64).toNat = 255 := rfl
      rw [h255]
      apply Nat.testBit_lt_two_pow
      exact Nat.lt_of_lt_of_le (by decide : 255 < 2 ^ 8) (Nat.pow_le_pow_right (by decide) (by omega))
    rw [h2, Bool.and_false, Bool.and_false]
theorem by_val (y : Int64) : (y &&& 255).toInt32 = nI (y.toBitVec.toNat % 256) := by
  have hm : y.toBitVec.toNat % 256 < 256 := Nat.mod_lt _ (by decide)
  have e : y &&& 255 = jN (y.toBitVec.toNat % 256) := by
    apply Int64.toBitVec_inj.mp
    apply BitVec.eq_of_toNat_eq
    have e1 : (y &&& 255).toBitVec.toNat = y.toBitVec.toNat &&& 255 := rfl
    have e2 : (jN (y.toBitVec.toNat % 256)).toBitVec = BitVec.ofNat 64 (y.toBitVec.toNat % 256) := rfl
    rw [e1, e2, BitVec.toNat_ofNat, show (255 : Nat) = 2 ^ 8 - 1 from rfl, Nat.and_two_pow_sub_one_eq_mod]
    show _ % 256 = _ % 2 ^ 64
    rw [Nat.mod_eq_of_lt (a := y.toBitVec.toNat % 256) (b := 2 ^ 64) (by omega)]
  rw [e, jN_l2i (by omega)]
def byT (v : Int64) (k : Nat) : Nat := (v >>> ((nI 8 * nI k).toInt64 &&& 63)).toBitVec.toNat % 256
theorem byT_le (v : Int64) (k : Nat) : byT v k ≤ 255 := by
  have : byT v k < 256 := Nat.mod_lt _ (by decide)
  omega
theorem by_m (v : Int64) (k : Nat) : ((v >>> ((nI 8 * nI k).toInt64 &&& 63)) &&& 255).toInt32 = nI (byT v k) := by_val _
theorem by_c (v : Int64) {k : Nat} (hk : k < 8) : ((v.toUInt64 >>> ((nI 8 * nI k).toInt64.toUInt64 &&& Int64.toUInt64 63)).toInt64 &&& 255).toInt32 = nI (byT v k) := by
  rw [← by_m]
  have c : k = 0 ∨ k = 1 ∨ k = 2 ∨ k = 3 ∨ k = 4 ∨ k = 5 ∨ k = 6 ∨ k = 7 := by omega
  rcases c with rfl | rfl | rfl | rfl | rfl | rfl | rfl | rfl
  · rw [by_sh v _ ((nI 8 * nI 0).toInt64 &&& 63) 0 (by decide) (by decide) (by decide)]
  · rw [by_sh v _ ((nI 8 * nI 1).toInt64 &&& 63) 8 (by decide) (by decide) (by decide)]
  · rw [by_sh v _ ((nI 8 * nI 2).toInt64 &&& 63) 16 (by decide) (by decide) (by decide)]
  · rw [by_sh v _ ((nI 8 * nI 3).toInt64 &&& 63) 24 (by decide) (by decide) (by decide)]
  · rw [by_sh v _ ((nI 8 * nI 4).toInt64 &&& 63) 32 (by decide) (by decide) (by decide)]
  · rw [by_sh v _ ((nI 8 * nI 5).toInt64 &&& 63) 40 (by decide) (by decide) (by decide)]
  · rw [by_sh v _ ((nI 8 * nI 6).toInt64 &&& 63) 48 (by decide) (by decide) (by decide)]
  · rw [by_sh v _ ((nI 8 * nI 7).toInt64 &&& 63) 56 (by decide) (by decide) (by decide)]
/-- k bytes more of v, the highest first, behind the first len of T -/
def wrL (v : Int64) : Nat → Nat → (Nat → Nat) → Nat → Nat
  | 0, _, T => T
  | k + 1, len, T => wrL v k (len + 1) (fup T len (byT v k))
theorem wrL_le {v : Int64} : ∀ k len (T : Nat → Nat), (∀ j, T j ≤ 255) → ∀ j, wrL v k len T j ≤ 255
  | 0, _, _, h, j => h j
  | k + 1, len, T, h, j => wrL_le k (len + 1) _ (fun i => by
      rw [fup_at]
      split
      · exact byT_le v k
      · exact h i) j
theorem wrL_cg {v : Int64} : ∀ k len (T U : Nat → Nat), (∀ j, j < len → T j = U j) → ∀ j, j < len + k → wrL v k len T j = wrL v k len U j
  | 0, _, _, _, h, j, hj => h j hj
  | k + 1, len, T, U, h, j, hj => wrL_cg k (len + 1) _ _ (fun i hi => by
      rw [fup_at, fup_at]
      split
      · rfl
      · exact h i (by omega)) j (by omega)
theorem kdec (k : Nat) (hk : k < 1000) : nI (k + 1) - nI 1 + -1 = nI k - nI 1 := by
  have e : nI (k + 1) - nI 1 = nI (k + 1 - 1) := pk_sub (by omega)
  rw [e, Nat.add_sub_cancel, Int32.sub_eq_add_neg]
  rfl
theorem ksub (k : Nat) : nI (k + 1) - nI 1 = nI k := by
  have e : nI (k + 1) - nI 1 = nI (k + 1 - 1) := pk_sub (by omega)
  rwa [Nat.add_sub_cancel] at e
theorem kneg : (nI 0 - nI 1 < nI 0) = True := eq_true (by decide)
theorem append_eq {h : Hp} {S : Nat → Int32} {A : Nat → Nat → Nat} {len b : Nat} (hS : S 0 = nI len) (hl : len < 300) (z : Zc) (Q : Option Value → Zc → Hp → Prop) : Ev 128 (0, [some (.ref 2), some (.int (nI b))], [], z, tset h S A) Q = Q none z (tset h (tv (nI (len + 1))) (fup A 1 (fup (A 1) len b))) := by
  have a1 := isE_AI (n := 300) (j := len) (A 1) b hl (by decide)
  have l1 := nlt (a := len) (b := 300) (by omega) (by decide)
  simp only [m128_0, m128_1, m128_4, m128_7, m128_10, m128_11, m128_14, m128_15, m128_18, m128_19, m128_20, m128_21, m128_22, m128_25, m128_26, m128_27, m128_30, ob_some, pushr_s, pushr_n, iget_eq, gf_eq, pf_eq, ck_eq, alen_eq, rget_eq, iset_eq, Option.bind_some, Option.map_some, Option.elim_some, hput_at, ↓reduceIte, Nat.reduceEqDiff, Nat.reduceAdd, ne_eq, not_false_eq_true, oS_ck, oS_g0, oS_p0, oS_g1, oS_p1, oS_g2, oS_p2, oS_g3, oS_p3, oS_g4, oS_p4, oS_g5, oS_p5, oS_g6, oS_p6, oP_ck, oP_g0, oP_p0, oP_g1, oP_p1, oP_g2, oP_p2, oP_g3, oP_p3, oP_g4, oP_p4, oP_g5, oP_p5, oP_g6, oP_p6, oP_g7, oP_p7, oP_g8, oP_p8, oP_g9, oP_p9, oP_g10, oP_p10, oP_g11, oP_p11, oP_g12, oP_p12, oR_ck, oR_g0, oR_p0, oR_g1, oR_p1, oR_g2, oR_p2, oR_g3, oR_p3, oG_ck, oG_g0, oG_p0, oG_g1, oG_p1, oG_g2, oG_p2, oW_ck, oW_g0, oW_p0, oW_g1, oW_p1, oW_g2, oW_p2, oB_ck, oB_g0, oB_p0, oB_g1, oB_p1, oB_g2, oB_p2, oB_g3, oB_p3, oB_g4, oB_p4, oB_g5, oB_p5, oB_g6, oB_p6, oC_ck, oC_g0, oC_p0, oC_g1, oC_p1, oC_g2, oC_p2, oC_g3, oC_p3, oC_g4, oC_p4, oC_g5, oC_p5, oC_g6, oC_p6, oH_ck, oH_g0, oH_p0, oH_g1, oH_p1, oH_g2, oH_p2, oH_g3, oH_p3, oM_ck, oM_g0, oM_p0, oM_g1, oM_p1, oM_g2, oM_p2, oM_g3, oM_p3, oM_g4, oM_p4, oM_g5, oM_p5, oM_g6, oM_p6, oM_g7, oM_p7, oM_g8, oM_p8, oM_g9, oM_p9, oM_g10, oM_p10, oM_g11, oM_p11, oM_g12, oM_p12, oM_g13, oM_p13, oM_g14, oM_p14, oM_g15, oM_p15, oM_g16, oM_p16, oM_g17, oM_p17, oM_g18, oM_p18, oM_g19, oM_p19, oM_g20, oM_p20, oM_g21, oM_p21, oM_g22, oM_p22, oM_g23, oM_p23, oM_g24, oM_p24, oM_g25, oM_p25, oM_g26, oM_p26, oM_g27, oM_p27, oM_g28, oM_p28, oM_g29, oM_p29, tv0, tset_o, tset_po, tset_k1, tset_r1, hS, l1, hl, if_true, a1, nI_add]
theorem swrite_loop {h : Hp} {l0 : Nat} (hO : SO h l0) (x1 : Option Value) (v : Int64) (z : Zc) (Q : Option Value → Zc → Hp → Prop) : ∀ k len (S : Nat → Int32) (A : Nat → Nat → Nat), k ≤ 8 → S 0 = nI len → len + k ≤ 300 →
    Ev 2 (35, [some (.ref 1), x1, some (.long v), none, some (.int (nI k - nI 1))], [], z, tset h S A) Q = Q (some (.int (nI (len + k)))) z (tset h (tv (nI (len + k))) (fup A 1 (wrL v k len (A 1)))) := by
  have o1 : ∀ S A, tset h S A 1 = h 1 := fun S A => tset_ne _ _ _ (by omega)
  unfold SO at hO
  intro k
  induction k with
  | zero =>
    intro len S A hk hS hl
    have e : tset h S A = tset h (tv (nI len)) (fup A 1 (A 1)) := by
      rw [fup_id]
      refine tset_congr h (fun i hi => ?_) (fun _ _ _ => rfl)
      have c : i = 0 := by omega
      rw [c]
      exact hS
    rw [m2_35, wrL, Nat.add_zero]
    simp only [m2_0, m2_1, m2_2, m2_4, m2_7, m2_10, m2_11, m2_12, m2_13, m2_16, m2_19, m2_20, m2_21, m2_24, m2_27, m2_29, m2_30, m2_31, m2_32, m2_33, m2_37, m2_40, m2_41, m2_44, m2_45, m2_47, m2_49, m2_50, m2_51, m2_54, m2_55, m2_56, m2_59, m2_62, m2_65, m2_66, m2_69, m2_72, ob_some, pushr_s, pushr_n, iget_eq, gf_eq, pf_eq, ck_eq, alen_eq, rget_eq, iset_eq, Option.bind_some, Option.map_some, Option.elim_some, hput_at, ↓reduceIte, Nat.reduceEqDiff, Nat.reduceAdd, ne_eq, not_false_eq_true, oS_ck, oS_g0, oS_p0, oS_g1, oS_p1, oS_g2, oS_p2, oS_g3, oS_p3, oS_g4, oS_p4, oS_g5, oS_p5, oS_g6, oS_p6, oP_ck, oP_g0, oP_p0, oP_g1, oP_p1, oP_g2, oP_p2, oP_g3, oP_p3, oP_g4, oP_p4, oP_g5, oP_p5, oP_g6, oP_p6, oP_g7, oP_p7, oP_g8, oP_p8, oP_g9, oP_p9, oP_g10, oP_p10, oP_g11, oP_p11, oP_g12, oP_p12, oR_ck, oR_g0, oR_p0, oR_g1, oR_p1, oR_g2, oR_p2, oR_g3, oR_p3, oG_ck, oG_g0, oG_p0, oG_g1, oG_p1, oG_g2, oG_p2, oW_ck, oW_g0, oW_p0, oW_g1, oW_p1, oW_g2, oW_p2, oB_ck, oB_g0, oB_p0, oB_g1, oB_p1, oB_g2, oB_p2, oB_g3, oB_p3, oB_g4, oB_p4, oB_g5, oB_p5, oB_g6, oB_p6, oC_ck, oC_g0, oC_p0, oC_g1, oC_p1, oC_g2, oC_p2, oC_g3, oC_p3, oC_g4, oC_p4, oC_g5, oC_p5, oC_g6, oC_p6, oH_ck, oH_g0, oH_p0, oH_g1, oH_p1, oH_g2, oH_p2, oH_g3, oH_p3, oM_ck, oM_g0, oM_p0, oM_g1, oM_p1, oM_g2, oM_p2, oM_g3, oM_p3, oM_g4, oM_p4, oM_g5, oM_p5, oM_g6, oM_p6, oM_g7, oM_p7, oM_g8, oM_p8, oM_g9, oM_p9, oM_g10, oM_p10, oM_g11, oM_p11, oM_g12, oM_p12, oM_g13, oM_p13, oM_g14, oM_p14, oM_g15, oM_p15, oM_g16, oM_p16, oM_g17, oM_p17, oM_g18, oM_p18, oM_g19, oM_p19, oM_g20, oM_p20, oM_g21, oM_p21, oM_g22, oM_p22, oM_g23, oM_p23, oM_g24, oM_p24, oM_g25, oM_p25, oM_g26, oM_p26, oM_g27, oM_p27, oM_g28, oM_p28, oM_g29, oM_p29, tv0, tset_o, tset_po, tset_k1, tset_r1, o1, hO, kneg, if_true, hS]
    rw [e]
  | succ k ih =>
    intro len S A hk hS hl
    have hb := by_c v (k := k) (by omega)
    have ap := fun Q => append_eq (h := h) (A := A) (b := byT v k) hS (by omega) z Q
    have l0 : ¬ nI k < nI 0 := nI_not_neg (by omega)
    have hd : nI k + -1 = nI k - nI 1 := by rw [← kdec k (by omega), ksub]
    have ihk := ih (len + 1) (tv (nI (len + 1))) (fup A 1 (fup (A 1) len (byT v k))) (by omega) rfl (by omega)
    rw [fup_self, fup_fup, show len + 1 + k = len + (k + 1) by omega] at ihk
    rw [m2_35, wrL]
    simp only [m2_0, m2_1, m2_2, m2_4, m2_7, m2_10, m2_11, m2_12, m2_13, m2_16, m2_19, m2_20, m2_21, m2_24, m2_27, m2_29, m2_30, m2_31, m2_32, m2_33, m2_37, m2_40, m2_41, m2_44, m2_45, m2_47, m2_49, m2_50, m2_51, m2_54, m2_55, m2_56, m2_59, m2_62, m2_65, m2_66, m2_69, m2_72, ob_some, pushr_s, pushr_n, iget_eq, gf_eq, pf_eq, ck_eq, alen_eq, rget_eq, iset_eq, Option.bind_some, Option.map_some, Option.elim_some, hput_at, ↓reduceIte, Nat.reduceEqDiff, Nat.reduceAdd, ne_eq, not_false_eq_true, oS_ck, oS_g0, oS_p0, oS_g1, oS_p1, oS_g2, oS_p2, oS_g3, oS_p3, oS_g4, oS_p4, oS_g5, oS_p5, oS_g6, oS_p6, oP_ck, oP_g0, oP_p0, oP_g1, oP_p1, oP_g2, oP_p2, oP_g3, oP_p3, oP_g4, oP_p4, oP_g5, oP_p5, oP_g6, oP_p6, oP_g7, oP_p7, oP_g8, oP_p8, oP_g9, oP_p9, oP_g10, oP_p10, oP_g11, oP_p11, oP_g12, oP_p12, oR_ck, oR_g0, oR_p0, oR_g1, oR_p1, oR_g2, oR_p2, oR_g3, oR_p3, oG_ck, oG_g0, oG_p0, oG_g1, oG_p1, oG_g2, oG_p2, oW_ck, oW_g0, oW_p0, oW_g1, oW_p1, oW_g2, oW_p2, oB_ck, oB_g0, oB_p0, oB_g1, oB_p1, oB_g2, oB_p2, oB_g3, oB_p3, oB_g4, oB_p4, oB_g5, oB_p5, oB_g6, oB_p6, oC_ck, oC_g0, oC_p0, oC_g1, oC_p1, oC_g2, oC_p2, oC_g3, oC_p3, oC_g4, oC_p4, oC_g5, oC_p5, oC_g6, oC_p6, oH_ck, oH_g0, oH_p0, oH_g1, oH_p1, oH_g2, oH_p2, oH_g3, oH_p3, oM_ck, oM_g0, oM_p0, oM_g1, oM_p1, oM_g2, oM_p2, oM_g3, oM_p3, oM_g4, oM_p4, oM_g5, oM_p5, oM_g6, oM_p6, oM_g7, oM_p7, oM_g8, oM_p8, oM_g9, oM_p9, oM_g10, oM_p10, oM_g11, oM_p11, oM_g12, oM_p12, oM_g13, oM_p13, oM_g14, oM_p14, oM_g15, oM_p15, oM_g16, oM_p16, oM_g17, oM_p17, oM_g18, oM_p18, oM_g19, oM_p19, oM_g20, oM_p20, oM_g21, oM_p21, oM_g22, oM_p22, oM_g23, oM_p23, oM_g24, oM_p24, oM_g25, oM_p25, oM_g26, oM_p26, oM_g27, oM_p27, oM_g28, oM_p28, oM_g29, oM_p29, tv0, tset_o, tset_po, tset_k1, tset_r1, o1, hO, ksub, l0, if_false, hb, ap, hd]
    exact ihk
def ansWrite (len : Nat) (n : Int32) : Int32 := if rgI n 1 8 then (if len + nt n ≤ 300 then nI (len + nt n) else -3) else -1
theorem swrite_eq {h : Hp} {l0 : Nat} {S : Nat → Int32} {A : Nat → Nat → Nat} {len : Nat} (hO : SO h l0) (hS : S 0 = nI len) (hl : len ≤ 300) (n : Int32) (v : Int64) (z : Zc) (Q : Option Value → Zc → Hp → Prop) : Ev 2 (0, [some (.ref 1), some (.int n), some (.long v), none, none], [], z, tset h S A) Q = Q (some (.int (ansWrite len n))) z (if rgI n 1 8 ∧ len + nt n ≤ 300 then tset h (tv (nI (len + nt n))) (fup A 1 (wrL v (nt n) len (A 1))) else tset h S A) := by
  have ew := rg_c n (lo := 1) (hi := 8) (by decide) (by decide)
  have o1 : ∀ S A, tset h S A 1 = h 1 := fun S A => tset_ne _ _ _ (by omega)
  have hO' := hO
  unfold SO at hO'
  unfold ansWrite
  by_cases c1 : rgI n 1 8
  · obtain ⟨n1, n2, n3⟩ := rg_nt c1
    rw [if_pos c1]
    have l1 := nlt (a := 300) (b := len + nt n) (by decide) (by omega)
    by_cases c2 : len + nt n ≤ 300
    · rw [if_pos c2, if_pos ⟨c1, c2⟩]
      have hw := swrite_loop hO (some (.int n)) v z Q (nt n) len S A n3 hS c2
      have ea : nI len + n = nI (len + nt n) := by rw [← nI_add, ← n1]
      have es : n - nI 1 = nI (nt n) - nI 1 := by rw [← n1]
      have l2 : ¬ 300 < len + nt n := by omega
      simp only [m2_0, m2_1, m2_2, m2_4, m2_7, m2_10, m2_11, m2_12, m2_13, m2_16, m2_19, m2_20, m2_21, m2_24, m2_27, m2_29, m2_30, m2_31, m2_32, m2_33, m2_37, m2_40, m2_41, m2_44, m2_45, m2_47, m2_49, m2_50, m2_51, m2_54, m2_55, m2_56, m2_59, m2_62, m2_65, m2_66, m2_69, m2_72, ob_some, pushr_s, pushr_n, iget_eq, gf_eq, pf_eq, ck_eq, alen_eq, rget_eq, iset_eq, Option.bind_some, Option.map_some, Option.elim_some, hput_at, ↓reduceIte, Nat.reduceEqDiff, Nat.reduceAdd, ne_eq, not_false_eq_true, oS_ck, oS_g0, oS_p0, oS_g1, oS_p1, oS_g2, oS_p2, oS_g3, oS_p3, oS_g4, oS_p4, oS_g5, oS_p5, oS_g6, oS_p6, oP_ck, oP_g0, oP_p0, oP_g1, oP_p1, oP_g2, oP_p2, oP_g3, oP_p3, oP_g4, oP_p4, oP_g5, oP_p5, oP_g6, oP_p6, oP_g7, oP_p7, oP_g8, oP_p8, oP_g9, oP_p9, oP_g10, oP_p10, oP_g11, oP_p11, oP_g12, oP_p12, oR_ck, oR_g0, oR_p0, oR_g1, oR_p1, oR_g2, oR_p2, oR_g3, oR_p3, oG_ck, oG_g0, oG_p0, oG_g1, oG_p1, oG_g2, oG_p2, oW_ck, oW_g0, oW_p0, oW_g1, oW_p1, oW_g2, oW_p2, oB_ck, oB_g0, oB_p0, oB_g1, oB_p1, oB_g2, oB_p2, oB_g3, oB_p3, oB_g4, oB_p4, oB_g5, oB_p5, oB_g6, oB_p6, oC_ck, oC_g0, oC_p0, oC_g1, oC_p1, oC_g2, oC_p2, oC_g3, oC_p3, oC_g4, oC_p4, oC_g5, oC_p5, oC_g6, oC_p6, oH_ck, oH_g0, oH_p0, oH_g1, oH_p1, oH_g2, oH_p2, oH_g3, oH_p3, oM_ck, oM_g0, oM_p0, oM_g1, oM_p1, oM_g2, oM_p2, oM_g3, oM_p3, oM_g4, oM_p4, oM_g5, oM_p5, oM_g6, oM_p6, oM_g7, oM_p7, oM_g8, oM_p8, oM_g9, oM_p9, oM_g10, oM_p10, oM_g11, oM_p11, oM_g12, oM_p12, oM_g13, oM_p13, oM_g14, oM_p14, oM_g15, oM_p15, oM_g16, oM_p16, oM_g17, oM_p17, oM_g18, oM_p18, oM_g19, oM_p19, oM_g20, oM_p20, oM_g21, oM_p21, oM_g22, oM_p22, oM_g23, oM_p23, oM_g24, oM_p24, oM_g25, oM_p25, oM_g26, oM_p26, oM_g27, oM_p27, oM_g28, oM_p28, oM_g29, oM_p29, tv0, tset_o, tset_po, tset_k1, tset_r1, o1, hO', within_eq, ew, bt c1, if_false, hS, ea, l1, l2, es]
      exact hw
    · rw [if_neg c2, if_neg (fun q => c2 q.2)]
      have ea : nI len + n = nI (len + nt n) := by rw [← nI_add, ← n1]
      have l2 : 300 < len + nt n := by omega
      simp only [m2_0, m2_1, m2_2, m2_4, m2_7, m2_10, m2_11, m2_12, m2_13, m2_16, m2_19, m2_20, m2_21, m2_24, m2_27, m2_29, m2_30, m2_31, m2_32, m2_33, m2_37, m2_40, m2_41, m2_44, m2_45, m2_47, m2_49, m2_50, m2_51, m2_54, m2_55, m2_56, m2_59, m2_62, m2_65, m2_66, m2_69, m2_72, ob_some, pushr_s, pushr_n, iget_eq, gf_eq, pf_eq, ck_eq, alen_eq, rget_eq, iset_eq, Option.bind_some, Option.map_some, Option.elim_some, hput_at, ↓reduceIte, Nat.reduceEqDiff, Nat.reduceAdd, ne_eq, not_false_eq_true, oS_ck, oS_g0, oS_p0, oS_g1, oS_p1, oS_g2, oS_p2, oS_g3, oS_p3, oS_g4, oS_p4, oS_g5, oS_p5, oS_g6, oS_p6, oP_ck, oP_g0, oP_p0, oP_g1, oP_p1, oP_g2, oP_p2, oP_g3, oP_p3, oP_g4, oP_p4, oP_g5, oP_p5, oP_g6, oP_p6, oP_g7, oP_p7, oP_g8, oP_p8, oP_g9, oP_p9, oP_g10, oP_p10, oP_g11, oP_p11, oP_g12, oP_p12, oR_ck, oR_g0, oR_p0, oR_g1, oR_p1, oR_g2, oR_p2, oR_g3, oR_p3, oG_ck, oG_g0, oG_p0, oG_g1, oG_p1, oG_g2, oG_p2, oW_ck, oW_g0, oW_p0, oW_g1, oW_p1, oW_g2, oW_p2, oB_ck, oB_g0, oB_p0, oB_g1, oB_p1, oB_g2, oB_p2, oB_g3, oB_p3, oB_g4, oB_p4, oB_g5, oB_p5, oB_g6, oB_p6, oC_ck, oC_g0, oC_p0, oC_g1, oC_p1, oC_g2, oC_p2, oC_g3, oC_p3, oC_g4, oC_p4, oC_g5, oC_p5, oC_g6, oC_p6, oH_ck, oH_g0, oH_p0, oH_g1, oH_p1, oH_g2, oH_p2, oH_g3, oH_p3, oM_ck, oM_g0, oM_p0, oM_g1, oM_p1, oM_g2, oM_p2, oM_g3, oM_p3, oM_g4, oM_p4, oM_g5, oM_p5, oM_g6, oM_p6, oM_g7, oM_p7, oM_g8, oM_p8, oM_g9, oM_p9, oM_g10, oM_p10, oM_g11, oM_p11, oM_g12, oM_p12, oM_g13, oM_p13, oM_g14, oM_p14, oM_g15, oM_p15, oM_g16, oM_p16, oM_g17, oM_p17, oM_g18, oM_p18, oM_g19, oM_p19, oM_g20, oM_p20, oM_g21, oM_p21, oM_g22, oM_p22, oM_g23, oM_p23, oM_g24, oM_p24, oM_g25, oM_p25, oM_g26, oM_p26, oM_g27, oM_p27, oM_g28, oM_p28, oM_g29, oM_p29, tv0, tset_o, tset_po, tset_k1, tset_r1, o1, hO', within_eq, ew, bt c1, if_false, hS, ea, l1, l2, if_true]
  · rw [if_neg c1, if_neg (fun q => c1 q.1)]
    simp only [m2_0, m2_1, m2_2, m2_4, m2_7, m2_10, m2_11, m2_12, m2_13, m2_16, m2_19, m2_20, m2_21, m2_24, m2_27, m2_29, m2_30, m2_31, m2_32, m2_33, m2_37, m2_40, m2_41, m2_44, m2_45, m2_47, m2_49, m2_50, m2_51, m2_54, m2_55, m2_56, m2_59, m2_62, m2_65, m2_66, m2_69, m2_72, ob_some, pushr_s, pushr_n, iget_eq, gf_eq, pf_eq, ck_eq, alen_eq, rget_eq, iset_eq, Option.bind_some, Option.map_some, Option.elim_some, hput_at, ↓reduceIte, Nat.reduceEqDiff, Nat.reduceAdd, ne_eq, not_false_eq_true, oS_ck, oS_g0, oS_p0, oS_g1, oS_p1, oS_g2, oS_p2, oS_g3, oS_p3, oS_g4, oS_p4, oS_g5, oS_p5, oS_g6, oS_p6, oP_ck, oP_g0, oP_p0, oP_g1, oP_p1, oP_g2, oP_p2, oP_g3, oP_p3, oP_g4, oP_p4, oP_g5, oP_p5, oP_g6, oP_p6, oP_g7, oP_p7, oP_g8, oP_p8, oP_g9, oP_p9, oP_g10, oP_p10, oP_g11, oP_p11, oP_g12, oP_p12, oR_ck, oR_g0, oR_p0, oR_g1, oR_p1, oR_g2, oR_p2, oR_g3, oR_p3, oG_ck, oG_g0, oG_p0, oG_g1, oG_p1, oG_g2, oG_p2, oW_ck, oW_g0, oW_p0, oW_g1, oW_p1, oW_g2, oW_p2, oB_ck, oB_g0, oB_p0, oB_g1, oB_p1, oB_g2, oB_p2, oB_g3, oB_p3, oB_g4, oB_p4, oB_g5, oB_p5, oB_g6, oB_p6, oC_ck, oC_g0, oC_p0, oC_g1, oC_p1, oC_g2, oC_p2, oC_g3, oC_p3, oC_g4, oC_p4, oC_g5, oC_p5, oC_g6, oC_p6, oH_ck, oH_g0, oH_p0, oH_g1, oH_p1, oH_g2, oH_p2, oH_g3, oH_p3, oM_ck, oM_g0, oM_p0, oM_g1, oM_p1, oM_g2, oM_p2, oM_g3, oM_p3, oM_g4, oM_p4, oM_g5, oM_p5, oM_g6, oM_p6, oM_g7, oM_p7, oM_g8, oM_p8, oM_g9, oM_p9, oM_g10, oM_p10, oM_g11, oM_p11, oM_g12, oM_p12, oM_g13, oM_p13, oM_g14, oM_p14, oM_g15, oM_p15, oM_g16, oM_p16, oM_g17, oM_p17, oM_g18, oM_p18, oM_g19, oM_p19, oM_g20, oM_p20, oM_g21, oM_p21, oM_g22, oM_p22, oM_g23, oM_p23, oM_g24, oM_p24, oM_g25, oM_p25, oM_g26, oM_p26, oM_g27, oM_p27, oM_g28, oM_p28, oM_g29, oM_p29, within_eq, ew, bf c1, if_true]
theorem mwrite_loop {h : Hp} {W : Mw} (x1 : Option Value) (v : Int64) (s1 s2 s3 s4 s5 s6 : Int32) (z : Zc) (Q : Option Value → Zc → Hp → Prop) : ∀ k len (A : Nat → Nat → Nat), k ≤ 8 → len + k ≤ 300 →
    Ev 37 (34, [some (.ref 78), x1, some (.long v), none, some (.int (nI k - nI 1))], [], z, mset h (mv (nI len) s1 s2 s3 s4 s5 s6) A W) Q = Q (some (.int (nI (len + k)))) z (mset h (mv (nI (len + k)) s1 s2 s3 s4 s5 s6) (fup A 1 (wrL v k len (A 1))) W) := by
  intro k
  induction k with
  | zero =>
    intro len A hk hl
    rw [m37_34, wrL, Nat.add_zero, fup_id]
    simp only [m37_0, m37_1, m37_2, m37_3, m37_6, m37_9, m37_12, m37_13, m37_14, m37_15, m37_18, m37_19, m37_20, m37_23, m37_26, m37_28, m37_29, m37_30, m37_31, m37_32, m37_36, m37_39, m37_40, m37_43, m37_44, m37_47, m37_48, m37_50, m37_52, m37_53, m37_54, m37_57, m37_58, m37_59, m37_60, m37_61, m37_62, m37_65, m37_66, m37_67, m37_70, m37_73, m37_76, m37_77, m37_80, ob_some, pushr_s, pushr_n, iget_eq, gf_eq, pf_eq, ck_eq, alen_eq, rget_eq, iset_eq, Option.bind_some, Option.map_some, Option.elim_some, hput_at, ↓reduceIte, Nat.reduceEqDiff, Nat.reduceAdd, ne_eq, not_false_eq_true, oS_ck, oS_g0, oS_p0, oS_g1, oS_p1, oS_g2, oS_p2, oS_g3, oS_p3, oS_g4, oS_p4, oS_g5, oS_p5, oS_g6, oS_p6, oP_ck, oP_g0, oP_p0, oP_g1, oP_p1, oP_g2, oP_p2, oP_g3, oP_p3, oP_g4, oP_p4, oP_g5, oP_p5, oP_g6, oP_p6, oP_g7, oP_p7, oP_g8, oP_p8, oP_g9, oP_p9, oP_g10, oP_p10, oP_g11, oP_p11, oP_g12, oP_p12, oR_ck, oR_g0, oR_p0, oR_g1, oR_p1, oR_g2, oR_p2, oR_g3, oR_p3, oG_ck, oG_g0, oG_p0, oG_g1, oG_p1, oG_g2, oG_p2, oW_ck, oW_g0, oW_p0, oW_g1, oW_p1, oW_g2, oW_p2, oB_ck, oB_g0, oB_p0, oB_g1, oB_p1, oB_g2, oB_p2, oB_g3, oB_p3, oB_g4, oB_p4, oB_g5, oB_p5, oB_g6, oB_p6, oC_ck, oC_g0, oC_p0, oC_g1, oC_p1, oC_g2, oC_p2, oC_g3, oC_p3, oC_g4, oC_p4, oC_g5, oC_p5, oC_g6, oC_p6, oH_ck, oH_g0, oH_p0, oH_g1, oH_p1, oH_g2, oH_p2, oH_g3, oH_p3, oM_ck, oM_g0, oM_p0, oM_g1, oM_p1, oM_g2, oM_p2, oM_g3, oM_p3, oM_g4, oM_p4, oM_g5, oM_p5, oM_g6, oM_p6, oM_g7, oM_p7, oM_g8, oM_p8, oM_g9, oM_p9, oM_g10, oM_p10, oM_g11, oM_p11, oM_g12, oM_p12, oM_g13, oM_p13, oM_g14, oM_p14, oM_g15, oM_p15, oM_g16, oM_p16, oM_g17, oM_p17, oM_g18, oM_p18, oM_g19, oM_p19, oM_g20, oM_p20, oM_g21, oM_p21, oM_g22, oM_p22, oM_g23, oM_p23, oM_g24, oM_p24, oM_g25, oM_p25, oM_g26, oM_p26, oM_g27, oM_p27, oM_g28, oM_p28, oM_g29, oM_p29, mv0, mv1, mv2, mv3, mv4, mv5, mv6, mset_o, mset_po, mset_k1, mset_r1, mset_k2, mset_r2, mset_k3, mset_r3, mset_k4, mset_r4, mset_k5, mset_r5, mset_k6, mset_r6, mset_k7, mset_r7, mset_k8, mset_r8, mset_k9, mset_r9, mset_k10, mset_r10, mset_k11, mset_r11, mset_k12, mset_r12, mset_k13, mset_r13, mset_k14, mset_r14, mset_k15, mset_r15, mset_k16, mset_r16, mset_k17, mset_r17, mset_k18, mset_r18, mset_k19, mset_r19, mset_k20, mset_r20, mset_k21, mset_r21, mset_k22, mset_r22, mset_k23, mset_r23, kneg, if_true]
  | succ k ih =>
    intro len A hk hl
    have hb := by_m v k
    have a1 := isE_AI (n := 300) (j := len) (A 1) (byT v k) (by omega) (by decide)
    have l0 : ¬ nI k < nI 0 := nI_not_neg (by omega)
    have hd : nI k + -1 = nI k - nI 1 := by rw [← kdec k (by omega), ksub]
    have ihk := ih (len + 1) (fup A 1 (fup (A 1) len (byT v k))) (by omega) (by omega)
    rw [fup_self, fup_fup, show len + 1 + k = len + (k + 1) by omega] at ihk
    rw [m37_34, wrL]
    simp only [m37_0, m37_1, m37_2, m37_3, m37_6, m37_9, m37_12, m37_13, m37_14, m37_15, m37_18, m37_19, m37_20, m37_23, m37_26, m37_28, m37_29, m37_30, m37_31, m37_32, m37_36, m37_39, m37_40, m37_43, m37_44, m37_47, m37_48, m37_50, m37_52, m37_53, m37_54, m37_57, m37_58, m37_59, m37_60, m37_61, m37_62, m37_65, m37_66, m37_67, m37_70, m37_73, m37_76, m37_77, m37_80, ob_some, pushr_s, pushr_n, iget_eq, gf_eq, pf_eq, ck_eq, alen_eq, rget_eq, iset_eq, Option.bind_some, Option.map_some, Option.elim_some, hput_at, ↓reduceIte, Nat.reduceEqDiff, Nat.reduceAdd, ne_eq, not_false_eq_true, oS_ck, oS_g0, oS_p0, oS_g1, oS_p1, oS_g2, oS_p2, oS_g3, oS_p3, oS_g4, oS_p4, oS_g5, oS_p5, oS_g6, oS_p6, oP_ck, oP_g0, oP_p0, oP_g1, oP_p1, oP_g2, oP_p2, oP_g3, oP_p3, oP_g4, oP_p4, oP_g5, oP_p5, oP_g6, oP_p6, oP_g7, oP_p7, oP_g8, oP_p8, oP_g9, oP_p9, oP_g10, oP_p10, oP_g11, oP_p11, oP_g12, oP_p12, oR_ck, oR_g0, oR_p0, oR_g1, oR_p1, oR_g2, oR_p2, oR_g3, oR_p3, oG_ck, oG_g0, oG_p0, oG_g1, oG_p1, oG_g2, oG_p2, oW_ck, oW_g0, oW_p0, oW_g1, oW_p1, oW_g2, oW_p2, oB_ck, oB_g0, oB_p0, oB_g1, oB_p1, oB_g2, oB_p2, oB_g3, oB_p3, oB_g4, oB_p4, oB_g5, oB_p5, oB_g6, oB_p6, oC_ck, oC_g0, oC_p0, oC_g1, oC_p1, oC_g2, oC_p2, oC_g3, oC_p3, oC_g4, oC_p4, oC_g5, oC_p5, oC_g6, oC_p6, oH_ck, oH_g0, oH_p0, oH_g1, oH_p1, oH_g2, oH_p2, oH_g3, oH_p3, oM_ck, oM_g0, oM_p0, oM_g1, oM_p1, oM_g2, oM_p2, oM_g3, oM_p3, oM_g4, oM_p4, oM_g5, oM_p5, oM_g6, oM_p6, oM_g7, oM_p7, oM_g8, oM_p8, oM_g9, oM_p9, oM_g10, oM_p10, oM_g11, oM_p11, oM_g12, oM_p12, oM_g13, oM_p13, oM_g14, oM_p14, oM_g15, oM_p15, oM_g16, oM_p16, oM_g17, oM_p17, oM_g18, oM_p18, oM_g19, oM_p19, oM_g20, oM_p20, oM_g21, oM_p21, oM_g22, oM_p22, oM_g23, oM_p23, oM_g24, oM_p24, oM_g25, oM_p25, oM_g26, oM_p26, oM_g27, oM_p27, oM_g28, oM_p28, oM_g29, oM_p29, mv0, mv1, mv2, mv3, mv4, mv5, mv6, mset_o, mset_po, mset_k1, mset_r1, mset_k2, mset_r2, mset_k3, mset_r3, mset_k4, mset_r4, mset_k5, mset_r5, mset_k6, mset_r6, mset_k7, mset_r7, mset_k8, mset_r8, mset_k9, mset_r9, mset_k10, mset_r10, mset_k11, mset_r11, mset_k12, mset_r12, mset_k13, mset_r13, mset_k14, mset_r14, mset_k15, mset_r15, mset_k16, mset_r16, mset_k17, mset_r17, mset_k18, mset_r18, mset_k19, mset_r19, mset_k20, mset_r20, mset_k21, mset_r21, mset_k22, mset_r22, mset_k23, mset_r23, ksub, l0, if_false, hb, a1, nI_add, hd]
    exact ihk
theorem mwrite_eq {h : Hp} {S : Nat → Int32} {A : Nat → Nat → Nat} {W : Mw} {len : Nat} (hS : S 0 = nI len) (hl : len ≤ 300) (n : Int32) (v : Int64) (z : Zc) (Q : Option Value → Zc → Hp → Prop) : Ev 37 (0, [some (.ref 78), some (.int n), some (.long v), none, none], [], z, mset h S A W) Q = Q (some (.int (ansWrite len n))) z (if rgI n 1 8 ∧ len + nt n ≤ 300 then mset h (mv (nI (len + nt n)) (S 1) (S 2) (S 3) (S 4) (S 5) (S 6)) (fup A 1 (wrL v (nt n) len (A 1))) W else mset h S A W) := by
  unfold ansWrite
  by_cases c1 : rgI n 1 8
  · obtain ⟨n1, n2, n3⟩ := rg_nt c1
    rw [if_pos c1]
    have l1 := nlt (a := 300) (b := len + nt n) (by decide) (by omega)
    by_cases c2 : len + nt n ≤ 300
    · rw [if_pos c2, if_pos ⟨c1, c2⟩]
      have hw := mwrite_loop (h := h) (W := W) (some (.int n)) v (S 1) (S 2) (S 3) (S 4) (S 5) (S 6) z Q (nt n) len A n3 c2
      have e0 : mset h (mv (nI len) (S 1) (S 2) (S 3) (S 4) (S 5) (S 6)) A W = mset h S A W := mset_congr h (fun i hi => by
        have c : i = 0 ∨ i = 1 ∨ i = 2 ∨ i = 3 ∨ i = 4 ∨ i = 5 ∨ i = 6 := by omega
        rcases c with rfl | rfl | rfl | rfl | rfl | rfl | rfl <;> first | exact hS.symm | rfl) (fun _ _ _ => rfl) (fun _ _ => rfl)
      rw [e0] at hw
      have ea : nI len + n = nI (len + nt n) := by rw [← nI_add, ← n1]
      have es : n - nI 1 = nI (nt n) - nI 1 := by rw [← n1]
      have l2 : ¬ 300 < len + nt n := by omega
      simp only [m37_0, m37_1, m37_2, m37_3, m37_6, m37_9, m37_12, m37_13, m37_14, m37_15, m37_18, m37_19, m37_20, m37_23, m37_26, m37_28, m37_29, m37_30, m37_31, m37_32, m37_36, m37_39, m37_40, m37_43, m37_44, m37_47, m37_48, m37_50, m37_52, m37_53, m37_54, m37_57, m37_58, m37_59, m37_60, m37_61, m37_62, m37_65, m37_66, m37_67, m37_70, m37_73, m37_76, m37_77, m37_80, ob_some, pushr_s, pushr_n, iget_eq, gf_eq, pf_eq, ck_eq, alen_eq, rget_eq, iset_eq, Option.bind_some, Option.map_some, Option.elim_some, hput_at, ↓reduceIte, Nat.reduceEqDiff, Nat.reduceAdd, ne_eq, not_false_eq_true, oS_ck, oS_g0, oS_p0, oS_g1, oS_p1, oS_g2, oS_p2, oS_g3, oS_p3, oS_g4, oS_p4, oS_g5, oS_p5, oS_g6, oS_p6, oP_ck, oP_g0, oP_p0, oP_g1, oP_p1, oP_g2, oP_p2, oP_g3, oP_p3, oP_g4, oP_p4, oP_g5, oP_p5, oP_g6, oP_p6, oP_g7, oP_p7, oP_g8, oP_p8, oP_g9, oP_p9, oP_g10, oP_p10, oP_g11, oP_p11, oP_g12, oP_p12, oR_ck, oR_g0, oR_p0, oR_g1, oR_p1, oR_g2, oR_p2, oR_g3, oR_p3, oG_ck, oG_g0, oG_p0, oG_g1, oG_p1, oG_g2, oG_p2, oW_ck, oW_g0, oW_p0, oW_g1, oW_p1, oW_g2, oW_p2, oB_ck, oB_g0, oB_p0, oB_g1, oB_p1, oB_g2, oB_p2, oB_g3, oB_p3, oB_g4, oB_p4, oB_g5, oB_p5, oB_g6, oB_p6, oC_ck, oC_g0, oC_p0, oC_g1, oC_p1, oC_g2, oC_p2, oC_g3, oC_p3, oC_g4, oC_p4, oC_g5, oC_p5, oC_g6, oC_p6, oH_ck, oH_g0, oH_p0, oH_g1, oH_p1, oH_g2, oH_p2, oH_g3, oH_p3, oM_ck, oM_g0, oM_p0, oM_g1, oM_p1, oM_g2, oM_p2, oM_g3, oM_p3, oM_g4, oM_p4, oM_g5, oM_p5, oM_g6, oM_p6, oM_g7, oM_p7, oM_g8, oM_p8, oM_g9, oM_p9, oM_g10, oM_p10, oM_g11, oM_p11, oM_g12, oM_p12, oM_g13, oM_p13, oM_g14, oM_p14, oM_g15, oM_p15, oM_g16, oM_p16, oM_g17, oM_p17, oM_g18, oM_p18, oM_g19, oM_p19, oM_g20, oM_p20, oM_g21, oM_p21, oM_g22, oM_p22, oM_g23, oM_p23, oM_g24, oM_p24, oM_g25, oM_p25, oM_g26, oM_p26, oM_g27, oM_p27, oM_g28, oM_p28, oM_g29, oM_p29, mv0, mv1, mv2, mv3, mv4, mv5, mv6, mset_o, mset_po, mset_k1, mset_r1, mset_k2, mset_r2, mset_k3, mset_r3, mset_k4, mset_r4, mset_k5, mset_r5, mset_k6, mset_r6, mset_k7, mset_r7, mset_k8, mset_r8, mset_k9, mset_r9, mset_k10, mset_r10, mset_k11, mset_r11, mset_k12, mset_r12, mset_k13, mset_r13, mset_k14, mset_r14, mset_k15, mset_r15, mset_k16, mset_r16, mset_k17, mset_r17, mset_k18, mset_r18, mset_k19, mset_r19, mset_k20, mset_r20, mset_k21, mset_r21, mset_k22, mset_r22, mset_k23, mset_r23, in_eq, i2l_toInt, L0, L1, L2, L3, L5, L8, L9, L10, L20, L30, L40, L48, L57, L60, L9999, bt c1, if_false, hS, ea, l1, l2, es]
      exact hw
    · rw [if_neg c2, if_neg (fun q => c2 q.2)]
      have ea : nI len + n = nI (len + nt n) := by rw [← nI_add, ← n1]
      have l2 : 300 < len + nt n := by omega
      simp only [m37_0, m37_1, m37_2, m37_3, m37_6, m37_9, m37_12, m37_13, m37_14, m37_15, m37_18, m37_19, m37_20, m37_23, m37_26, m37_28, m37_29, m37_30, m37_31, m37_32, m37_36, m37_39, m37_40, m37_43, m37_44, m37_47, m37_48, m37_50, m37_52, m37_53, m37_54, m37_57, m37_58, m37_59, m37_60, m37_61, m37_62, m37_65, m37_66, m37_67, m37_70, m37_73, m37_76, m37_77, m37_80, ob_some, pushr_s, pushr_n, iget_eq, gf_eq, pf_eq, ck_eq, alen_eq, rget_eq, iset_eq, Option.bind_some, Option.map_some, Option.elim_some, hput_at, ↓reduceIte, Nat.reduceEqDiff, Nat.reduceAdd, ne_eq, not_false_eq_true, oS_ck, oS_g0, oS_p0, oS_g1, oS_p1, oS_g2, oS_p2, oS_g3, oS_p3, oS_g4, oS_p4, oS_g5, oS_p5, oS_g6, oS_p6, oP_ck, oP_g0, oP_p0, oP_g1, oP_p1, oP_g2, oP_p2, oP_g3, oP_p3, oP_g4, oP_p4, oP_g5, oP_p5, oP_g6, oP_p6, oP_g7, oP_p7, oP_g8, oP_p8, oP_g9, oP_p9, oP_g10, oP_p10, oP_g11, oP_p11, oP_g12, oP_p12, oR_ck, oR_g0, oR_p0, oR_g1, oR_p1, oR_g2, oR_p2, oR_g3, oR_p3, oG_ck, oG_g0, oG_p0, oG_g1, oG_p1, oG_g2, oG_p2, oW_ck, oW_g0, oW_p0, oW_g1, oW_p1, oW_g2, oW_p2, oB_ck, oB_g0, oB_p0, oB_g1, oB_p1, oB_g2, oB_p2, oB_g3, oB_p3, oB_g4, oB_p4, oB_g5, oB_p5, oB_g6, oB_p6, oC_ck, oC_g0, oC_p0, oC_g1, oC_p1, oC_g2, oC_p2, oC_g3, oC_p3, oC_g4, oC_p4, oC_g5, oC_p5, oC_g6, oC_p6, oH_ck, oH_g0, oH_p0, oH_g1, oH_p1, oH_g2, oH_p2, oH_g3, oH_p3, oM_ck, oM_g0, oM_p0, oM_g1, oM_p1, oM_g2, oM_p2, oM_g3, oM_p3, oM_g4, oM_p4, oM_g5, oM_p5, oM_g6, oM_p6, oM_g7, oM_p7, oM_g8, oM_p8, oM_g9, oM_p9, oM_g10, oM_p10, oM_g11, oM_p11, oM_g12, oM_p12, oM_g13, oM_p13, oM_g14, oM_p14, oM_g15, oM_p15, oM_g16, oM_p16, oM_g17, oM_p17, oM_g18, oM_p18, oM_g19, oM_p19, oM_g20, oM_p20, oM_g21, oM_p21, oM_g22, oM_p22, oM_g23, oM_p23, oM_g24, oM_p24, oM_g25, oM_p25, oM_g26, oM_p26, oM_g27, oM_p27, oM_g28, oM_p28, oM_g29, oM_p29, mv0, mv1, mv2, mv3, mv4, mv5, mv6, mset_o, mset_po, mset_k1, mset_r1, mset_k2, mset_r2, mset_k3, mset_r3, mset_k4, mset_r4, mset_k5, mset_r5, mset_k6, mset_r6, mset_k7, mset_r7, mset_k8, mset_r8, mset_k9, mset_r9, mset_k10, mset_r10, mset_k11, mset_r11, mset_k12, mset_r12, mset_k13, mset_r13, mset_k14, mset_r14, mset_k15, mset_r15, mset_k16, mset_r16, mset_k17, mset_r17, mset_k18, mset_r18, mset_k19, mset_r19, mset_k20, mset_r20, mset_k21, mset_r21, mset_k22, mset_r22, mset_k23, mset_r23, in_eq, i2l_toInt, L0, L1, L2, L3, L5, L8, L9, L10, L20, L30, L40, L48, L57, L60, L9999, bt c1, if_false, hS, ea, l1, l2, if_true]
  · rw [if_neg c1, if_neg (fun q => c1 q.1)]
    simp only [m37_0, m37_1, m37_2, m37_3, m37_6, m37_9, m37_12, m37_13, m37_14, m37_15, m37_18, m37_19, m37_20, m37_23, m37_26, m37_28, m37_29, m37_30, m37_31, m37_32, m37_36, m37_39, m37_40, m37_43, m37_44, m37_47, m37_48, m37_50, m37_52, m37_53, m37_54, m37_57, m37_58, m37_59, m37_60, m37_61, m37_62, m37_65, m37_66, m37_67, m37_70, m37_73, m37_76, m37_77, m37_80, ob_some, pushr_s, pushr_n, iget_eq, gf_eq, pf_eq, ck_eq, alen_eq, rget_eq, iset_eq, Option.bind_some, Option.map_some, Option.elim_some, hput_at, ↓reduceIte, Nat.reduceEqDiff, Nat.reduceAdd, ne_eq, not_false_eq_true, oS_ck, oS_g0, oS_p0, oS_g1, oS_p1, oS_g2, oS_p2, oS_g3, oS_p3, oS_g4, oS_p4, oS_g5, oS_p5, oS_g6, oS_p6, oP_ck, oP_g0, oP_p0, oP_g1, oP_p1, oP_g2, oP_p2, oP_g3, oP_p3, oP_g4, oP_p4, oP_g5, oP_p5, oP_g6, oP_p6, oP_g7, oP_p7, oP_g8, oP_p8, oP_g9, oP_p9, oP_g10, oP_p10, oP_g11, oP_p11, oP_g12, oP_p12, oR_ck, oR_g0, oR_p0, oR_g1, oR_p1, oR_g2, oR_p2, oR_g3, oR_p3, oG_ck, oG_g0, oG_p0, oG_g1, oG_p1, oG_g2, oG_p2, oW_ck, oW_g0, oW_p0, oW_g1, oW_p1, oW_g2, oW_p2, oB_ck, oB_g0, oB_p0, oB_g1, oB_p1, oB_g2, oB_p2, oB_g3, oB_p3, oB_g4, oB_p4, oB_g5, oB_p5, oB_g6, oB_p6, oC_ck, oC_g0, oC_p0, oC_g1, oC_p1, oC_g2, oC_p2, oC_g3, oC_p3, oC_g4, oC_p4, oC_g5, oC_p5, oC_g6, oC_p6, oH_ck, oH_g0, oH_p0, oH_g1, oH_p1, oH_g2, oH_p2, oH_g3, oH_p3, oM_ck, oM_g0, oM_p0, oM_g1, oM_p1, oM_g2, oM_p2, oM_g3, oM_p3, oM_g4, oM_p4, oM_g5, oM_p5, oM_g6, oM_p6, oM_g7, oM_p7, oM_g8, oM_p8, oM_g9, oM_p9, oM_g10, oM_p10, oM_g11, oM_p11, oM_g12, oM_p12, oM_g13, oM_p13, oM_g14, oM_p14, oM_g15, oM_p15, oM_g16, oM_p16, oM_g17, oM_p17, oM_g18, oM_p18, oM_g19, oM_p19, oM_g20, oM_p20, oM_g21, oM_p21, oM_g22, oM_p22, oM_g23, oM_p23, oM_g24, oM_p24, oM_g25, oM_p25, oM_g26, oM_p26, oM_g27, oM_p27, oM_g28, oM_p28, oM_g29, oM_p29, in_eq, i2l_toInt, L0, L1, L2, L3, L5, L8, L9, L10, L20, L30, L40, L48, L57, L60, L9999, bf c1, if_true]
