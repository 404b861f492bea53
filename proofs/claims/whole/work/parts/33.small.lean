/-! small methods of the class -/
theorem within_eq (v lo hi : Int32) (z : Zc) (h : Hp) (Q : Option Value → Zc → Hp → Prop) : Ev 27 (0, [some (.int v), some (.int lo), some (.int hi)], [], z, h) Q = Q (some (.int (b2 (¬ v < lo ∧ ¬ hi < v)))) z h := by
  by_cases h1 : v < lo
  · rw [b2_f (fun q => q.1 h1)]
    simp only [m27_0, m27_1, m27_2, m27_5, m27_6, m27_7, m27_10, m27_11, m27_14, m27_15_0, m27_15_1, m27_15_b, h1, if_true]
  · by_cases h2 : hi < v
    · rw [b2_f (fun q => q.2 h2)]
      simp only [m27_0, m27_1, m27_2, m27_5, m27_6, m27_7, m27_10, m27_11, m27_14, m27_15_0, m27_15_1, m27_15_b, h1, h2, if_true, if_false]
    · rw [b2_t ⟨h1, h2⟩]
      simp only [m27_0, m27_1, m27_2, m27_5, m27_6, m27_7, m27_10, m27_11, m27_14, m27_15_0, m27_15_1, m27_15_b, h1, h2, if_true, if_false]
theorem isCell_eq (c : Int32) (z : Zc) (h : Hp) (Q : Option Value → Zc → Hp → Prop) : Ev 28 (0, [some (.int c)], [], z, h) Q = Q (some (.int (b2 (¬ c < nI 0 ∧ c < nI 10)))) z h := by
  by_cases h1 : c < nI 0
  · rw [b2_f (fun q => q.1 h1)]
    simp only [m28_0, m28_1, m28_4, m28_5, m28_7, m28_10, m28_11, m28_14, m28_15_0, m28_15_1, m28_15_b, h1, if_true]
  · by_cases h2 : c < nI 10
    · rw [b2_t ⟨h1, h2⟩]
      simp only [m28_0, m28_1, m28_4, m28_5, m28_7, m28_10, m28_11, m28_14, m28_15_0, m28_15_1, m28_15_b, h1, h2, if_true, if_false]
    · rw [b2_f (fun q => h2 q.2)]
      simp only [m28_0, m28_1, m28_4, m28_5, m28_7, m28_10, m28_11, m28_14, m28_15_0, m28_15_1, m28_15_b, h1, h2, if_true, if_false]
theorem nI_not_neg {n : Nat} (h : n < 100000000) : ¬ nI n < nI 0 := by rw [nlt h (by decide)]; omega
theorem isCellN {c : Nat} (hc : c < 100000000) : b2 (¬ nI c < nI 0 ∧ nI c < nI 10) = b2 (c < 10) := by
  by_cases h : c < 10
  · rw [b2_t h, b2_t ⟨nI_not_neg hc, by rw [nlt hc (by decide)]; exact h⟩]
  · rw [b2_f h, b2_f (fun q => h (by rw [← nlt hc (by decide)]; exact q.2))]
/-- a cell as the class says it: 10 is none -/
def cN4 (c : Nat) : Int32 := if c = 10 then -4 else nI c
theorem cN4_10 : cN4 10 = -4 := rfl
theorem cN4_lt {c : Nat} (h : c < 10) : cN4 c = nI c := if_neg (by omega)
theorem isCell4 (c : Nat) (hc : c ≤ 10) : b2 (¬ cN4 c < nI 0 ∧ cN4 c < nI 10) = b2 (c < 10) := by
  rcases Nat.lt_or_ge c 10 with h | h
  · rw [cN4_lt h, isCellN (by omega)]
  · have e : c = 10 := by omega
    subst e
    rfl
def cellOf (far : Nat) : Nat := if 3 ≤ far ∧ far ≤ 12 then far - 3 else 10
theorem cellOf_le (far : Nat) : cellOf far ≤ 10 := by unfold cellOf; split <;> omega
theorem sub3 {far : Nat} (hf : far < 100000) : (¬ nI far - nI 3 < nI 0 ∧ nI far - nI 3 < nI 10) ↔ (3 ≤ far ∧ far ≤ 12) := by
  have e : (nI far - nI 3).toInt = (far : Int) - 3 := pk_sub_toInt (by omega) (by decide)
  have h0 : (nI 0).toInt = 0 := rfl
  have h10 : (nI 10).toInt = 10 := rfl
  rw [Int32.lt_iff_toInt_lt, Int32.lt_iff_toInt_lt, e, h0, h10]
  omega
theorem cellAt_eq {far : Nat} (hf : far < 100000) (z : Zc) (h : Hp) (Q : Option Value → Zc → Hp → Prop) : Ev 29 (0, [some (.int (nI far)), none], [], z, h) Q = Q (some (.int (cN4 (cellOf far)))) z h := by
  by_cases hc : 3 ≤ far ∧ far ≤ 12
  · have e : cellOf far = far - 3 := if_pos hc
    rw [e, cN4_lt (by omega), ← pk_sub hc.1]
    simp only [m29_0, m29_1, m29_2, m29_3, m29_4, m29_5, m29_8, m29_11, m29_12, m29_15, m29_17, isCell_eq, pushr_s, b2_t ((sub3 hf).mpr hc), neq (a := 1) (b := 0) (by decide) (by decide), if_false, Nat.reduceEqDiff]
  · have e : cellOf far = 10 := if_neg hc
    rw [e, cN4_10]
    simp only [m29_0, m29_1, m29_2, m29_3, m29_4, m29_5, m29_8, m29_11, m29_12, m29_15, m29_17, isCell_eq, pushr_s, b2_f (fun q => hc ((sub3 hf).mp q)), if_true]
theorem blowOf_eq {w far : Nat} (hw : w < 100000) (hf : far < 100000) (z : Zc) (h : Hp) (Q : Option Value → Zc → Hp → Prop) : Ev 30 (0, [some (.int (nI w)), some (.int (nI far))], [], z, h) Q = Q (some (.int (nI ((w + far) / 2)))) z h := by
  have hd : ¬ nI 2 = 0 := by decide
  simp only [m30_0, m30_1, m30_2, m30_3, m30_4, m30_5, nI_add, hd, not_false_eq_true, pk_div (a := w + far) (d := 2) (by omega) (by decide) (by decide)]
def distN (kd pull w : Nat) : Nat := if kd = 3 then pull / (2 * w) + 3 else pull / w
theorem distance_eq {kd pull w : Nat} (hk : kd < 100000) (hp : pull < 100000) (hw : w < 100000) (hw1 : 1 ≤ w) (z : Zc) (h : Hp) (Q : Option Value → Zc → Hp → Prop) : Ev 31 (0, [some (.int (nI kd)), some (.int (nI pull)), some (.int (nI w))], [], z, h) Q = Q (some (.int (nI (distN kd pull w)))) z h := by
  have hd : ¬ nI w = 0 := nI_ne0 (by omega) (by omega)
  have hd2 : ¬ nI (2 * w) = 0 := nI_ne0 (by omega) (by omega)
  have hw0 : ¬ w < 1 := by omega
  have e1 : nI pull / nI w = nI (pull / w) := pk_div (by omega) (by omega) (by omega)
  have e2 : nI pull / nI (2 * w) = nI (pull / (2 * w)) := pk_div (by omega) (by omega) (by omega)
  by_cases h3 : kd = 3
  · rw [distN, if_pos h3]
    subst h3
    simp only [m31_0, m31_1, m31_2, m31_5, m31_6, m31_7, m31_8, m31_9, m31_12, m31_13, m31_14, m31_15, m31_16, m31_17, m31_18, m31_19, m31_22, m31_23, m31_24, m31_25, nlt (a := w) (b := 1) (by omega) (by decide), hw0, if_false, if_true, pk_mul, hd2, not_false_eq_true, e2, nI_add]
  · rw [distN, if_neg h3]
    simp only [m31_0, m31_1, m31_2, m31_5, m31_6, m31_7, m31_8, m31_9, m31_12, m31_13, m31_14, m31_15, m31_16, m31_17, m31_18, m31_19, m31_22, m31_23, m31_24, m31_25, nlt (a := w) (b := 1) (by omega) (by decide), hw0, if_false, neq (a := kd) (b := 3) (by omega) (by decide), h3, hd, not_false_eq_true, e1]
