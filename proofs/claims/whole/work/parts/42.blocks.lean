/-! blocks of the heap. Written by program (wip/gen/g42.py). -/
def tn : Nat → Nat := fun k => 300
def tc (S : Nat → Int32) (A : Nat → Nat → Nat) (k : Nat) : AE := if k = 0 then oR (.ref 3) (.int (S 0)) (.ref 4) (.ref 14) else AI (tn k) (A k)
def tset (h : Hp) (S : Nat → Int32) (A : Nat → Nat → Nat) : Hp := fun j => if 2 ≤ j ∧ j ≤ 3 then some (tc S A (j - 2)) else h j
theorem tset_ne (h : Hp) (S : Nat → Int32) (A : Nat → Nat → Nat) {j : Nat} (hj : j < 2 ∨ 3 < j) : tset h S A j = h j := if_neg (by omega)
theorem tset_in (h : Hp) (S : Nat → Int32) (A : Nat → Nat → Nat) {j : Nat} (h1 : 2 ≤ j) (h2 : j ≤ 3) : tset h S A j = some (tc S A (j - 2)) := if_pos ⟨h1, h2⟩
theorem tset_set (h : Hp) (S : Nat → Int32) (A : Nat → Nat → Nat) (S2 : Nat → Int32) (A2 : Nat → Nat → Nat) : tset (tset h S A) S2 A2 = tset h S2 A2 := by
  funext j
  unfold tset
  split <;> rfl
theorem tset_keep {h h2 : Hp} {S : Nat → Int32} {A : Nat → Nat → Nat} (hh : tset h S A = h) (hs : ∀ j, 2 ≤ j → j ≤ 3 → h2 j = h j) : tset h2 S A = h2 := by
  funext j
  have e := congrFun hh j
  unfold tset at e ⊢
  split
  · rename_i q
    rw [if_pos q] at e
    rw [hs j q.1 q.2, ← e]
  · rfl
theorem tset_congr (h : Hp) {S : Nat → Int32} {A : Nat → Nat → Nat} {S2 : Nat → Int32} {A2 : Nat → Nat → Nat} (hS : ∀ i, i < 1 → S i = S2 i) (hA : ∀ k, 1 ≤ k → k ≤ 1 → A k = A2 k) : tset h S A = tset h S2 A2 := by
  funext j
  unfold tset
  split
  · rename_i q
    congr 1
    unfold tc
    split
    · rw [hS 0 (by decide)]
    · rename_i q0
      rw [hA _ (by omega) (by omega)]
  · rfl
def tv (a0 : Int32) : Nat → Int32 := fun i => a0
theorem tv0 (a0 : Int32) : tv a0 0 = a0 := rfl
theorem tset_o (h : Hp) (S : Nat → Int32) (A : Nat → Nat → Nat) : tset h S A 2 = some (oR (.ref 3) (.int (S 0)) (.ref 4) (.ref 14)) := rfl
theorem tset_put (h : Hp) (S : Nat → Int32) (A : Nat → Nat → Nat) (S2 : Nat → Int32) (A2 : Nat → Nat → Nat) (k : Nat) (e : AE) (hk : k ≤ 1) (he : ∀ i, i ≤ 1 → tc S2 A2 i = if i = k then e else tc S A i) : hput (tset h S A) (2 + k) e = tset h S2 A2 := by
  funext j
  rw [hput_at]
  unfold tset
  by_cases c : j = 2 + k
  · rw [if_pos c, if_pos (by omega), he _ (by omega), if_pos (by omega)]
  · rw [if_neg c]
    by_cases c2 : 2 ≤ j ∧ j ≤ 3
    · rw [if_pos c2, if_pos c2, he _ (by omega), if_neg (by omega)]
    · rw [if_neg c2, if_neg c2]
theorem tset_po (h : Hp) (S : Nat → Int32) (A : Nat → Nat → Nat) (a0 : Int32) : hput (tset h S A) 2 (oR (.ref 3) (.int a0) (.ref 4) (.ref 14)) = tset h (tv a0) A := tset_put h S A (tv a0) A 0 _ (by decide) (fun i hi => by
  unfold tc
  by_cases c : i = 0
  · rw [if_pos c, if_pos c]; rfl
  · rw [if_neg c, if_neg c, if_neg c])
theorem tset_k1 (h : Hp) (S : Nat → Int32) (A : Nat → Nat → Nat) : tset h S A 3 = some (AI 300 (A 1)) := rfl
theorem tset_r1 (h : Hp) (S : Nat → Int32) (A : Nat → Nat → Nat) (f : Nat → Nat) : hput (tset h S A) 3 (AI 300 f) = tset h S (fup A 1 f) := tset_put h S A S (fup A 1 f) 1 _ (by decide) (fun i hi => by
  unfold tc
  by_cases c : i = 1
  · subst c; rfl
  · rw [if_neg c]; rw [fup_ne _ _ c])
def cn : Nat → Nat := fun k => if k = 5 ∨ k = 6 then 6 else if k = 8 ∨ k = 9 then 3 else 8
def cc (S : Nat → Int32) (A : Nat → Nat → Nat) (k : Nat) : AE := if k = 0 then oC (.int (S 0)) (.ref 66) (.ref 67) (.ref 68) (.int (S 1)) (.ref 69) (.ref 72) else if k = 4 then (.inr (.inr (.inr (1, [some 70, some 71])))) else if k = 7 then (.inr (.inr (.inr (1, [some 73, some 74])))) else if k = 1 then AZ 8 (A 1) else AI (cn k) (A k)
def cset (h : Hp) (S : Nat → Int32) (A : Nat → Nat → Nat) : Hp := fun j => if 65 ≤ j ∧ j ≤ 74 then some (cc S A (j - 65)) else h j
theorem cset_ne (h : Hp) (S : Nat → Int32) (A : Nat → Nat → Nat) {j : Nat} (hj : j < 65 ∨ 74 < j) : cset h S A j = h j := if_neg (by omega)
theorem cset_in (h : Hp) (S : Nat → Int32) (A : Nat → Nat → Nat) {j : Nat} (h1 : 65 ≤ j) (h2 : j ≤ 74) : cset h S A j = some (cc S A (j - 65)) := if_pos ⟨h1, h2⟩
theorem cset_set (h : Hp) (S : Nat → Int32) (A : Nat → Nat → Nat) (S2 : Nat → Int32) (A2 : Nat → Nat → Nat) : cset (cset h S A) S2 A2 = cset h S2 A2 := by
  funext j
  unfold cset
  split <;> rfl
theorem cset_keep {h h2 : Hp} {S : Nat → Int32} {A : Nat → Nat → Nat} (hh : cset h S A = h) (hs : ∀ j, 65 ≤ j → j ≤ 74 → h2 j = h j) : cset h2 S A = h2 := by
  funext j
  have e := congrFun hh j
  unfold cset at e ⊢
  split
  · rename_i q
    rw [if_pos q] at e
    rw [hs j q.1 q.2, ← e]
  · rfl
theorem cset_congr (h : Hp) {S : Nat → Int32} {A : Nat → Nat → Nat} {S2 : Nat → Int32} {A2 : Nat → Nat → Nat} (hS : ∀ i, i < 2 → S i = S2 i) (hA : ∀ k, 1 ≤ k → k ≤ 9 → A k = A2 k) : cset h S A = cset h S2 A2 := by
  funext j
  unfold cset
  split
  · rename_i q
    congr 1
    unfold cc
    split
    · rw [hS 0 (by decide), hS 1 (by decide)]
    · rename_i q0
      split
      · rfl
      · skip
        split
        · rfl
        · skip
          split
          · rw [hA 1 (by decide) (by decide)]
          · skip
            rw [hA _ (by omega) (by omega)]
  · rfl
def cv (a0 a1 : Int32) : Nat → Int32 := fun i => if i = 0 then a0 else a1
theorem cv0 (a0 a1 : Int32) : cv a0 a1 0 = a0 := rfl
theorem cv1 (a0 a1 : Int32) : cv a0 a1 1 = a1 := rfl
theorem cset_o (h : Hp) (S : Nat → Int32) (A : Nat → Nat → Nat) : cset h S A 65 = some (oC (.int (S 0)) (.ref 66) (.ref 67) (.ref 68) (.int (S 1)) (.ref 69) (.ref 72)) := rfl
theorem cset_put (h : Hp) (S : Nat → Int32) (A : Nat → Nat → Nat) (S2 : Nat → Int32) (A2 : Nat → Nat → Nat) (k : Nat) (e : AE) (hk : k ≤ 9) (he : ∀ i, i ≤ 9 → cc S2 A2 i = if i = k then e else cc S A i) : hput (cset h S A) (65 + k) e = cset h S2 A2 := by
  funext j
  rw [hput_at]
  unfold cset
  by_cases c : j = 65 + k
  · rw [if_pos c, if_pos (by omega), he _ (by omega), if_pos (by omega)]
  · rw [if_neg c]
    by_cases c2 : 65 ≤ j ∧ j ≤ 74
    · rw [if_pos c2, if_pos c2, he _ (by omega), if_neg (by omega)]
    · rw [if_neg c2, if_neg c2]
theorem cset_po (h : Hp) (S : Nat → Int32) (A : Nat → Nat → Nat) (a0 a1 : Int32) : hput (cset h S A) 65 (oC (.int a0) (.ref 66) (.ref 67) (.ref 68) (.int a1) (.ref 69) (.ref 72)) = cset h (cv a0 a1) A := cset_put h S A (cv a0 a1) A 0 _ (by decide) (fun i hi => by
  unfold cc
  by_cases c : i = 0
  · rw [if_pos c, if_pos c]; rfl
  · rw [if_neg c, if_neg c, if_neg c])
theorem cset_k2 (h : Hp) (S : Nat → Int32) (A : Nat → Nat → Nat) : cset h S A 67 = some (AI 8 (A 2)) := rfl
theorem cset_r2 (h : Hp) (S : Nat → Int32) (A : Nat → Nat → Nat) (f : Nat → Nat) : hput (cset h S A) 67 (AI 8 f) = cset h S (fup A 2 f) := cset_put h S A S (fup A 2 f) 2 _ (by decide) (fun i hi => by
  unfold cc
  by_cases c : i = 2
  · subst c; rfl
  · rw [if_neg c]; rw [fup_ne _ _ c]; rw [fup_ne (k := 2) _ _ (by omega)])
theorem cset_k3 (h : Hp) (S : Nat → Int32) (A : Nat → Nat → Nat) : cset h S A 68 = some (AI 8 (A 3)) := rfl
theorem cset_r3 (h : Hp) (S : Nat → Int32) (A : Nat → Nat → Nat) (f : Nat → Nat) : hput (cset h S A) 68 (AI 8 f) = cset h S (fup A 3 f) := cset_put h S A S (fup A 3 f) 3 _ (by decide) (fun i hi => by
  unfold cc
  by_cases c : i = 3
  · subst c; rfl
  · rw [if_neg c]; rw [fup_ne _ _ c]; rw [fup_ne (k := 3) _ _ (by omega)])
theorem cset_k5 (h : Hp) (S : Nat → Int32) (A : Nat → Nat → Nat) : cset h S A 70 = some (AI 6 (A 5)) := rfl
theorem cset_r5 (h : Hp) (S : Nat → Int32) (A : Nat → Nat → Nat) (f : Nat → Nat) : hput (cset h S A) 70 (AI 6 f) = cset h S (fup A 5 f) := cset_put h S A S (fup A 5 f) 5 _ (by decide) (fun i hi => by
  unfold cc
  by_cases c : i = 5
  · subst c; rfl
  · rw [if_neg c]; rw [fup_ne _ _ c]; rw [fup_ne (k := 5) _ _ (by omega)])
theorem cset_k6 (h : Hp) (S : Nat → Int32) (A : Nat → Nat → Nat) : cset h S A 71 = some (AI 6 (A 6)) := rfl
theorem cset_r6 (h : Hp) (S : Nat → Int32) (A : Nat → Nat → Nat) (f : Nat → Nat) : hput (cset h S A) 71 (AI 6 f) = cset h S (fup A 6 f) := cset_put h S A S (fup A 6 f) 6 _ (by decide) (fun i hi => by
  unfold cc
  by_cases c : i = 6
  · subst c; rfl
  · rw [if_neg c]; rw [fup_ne _ _ c]; rw [fup_ne (k := 6) _ _ (by omega)])
theorem cset_k8 (h : Hp) (S : Nat → Int32) (A : Nat → Nat → Nat) : cset h S A 73 = some (AI 3 (A 8)) := rfl
theorem cset_r8 (h : Hp) (S : Nat → Int32) (A : Nat → Nat → Nat) (f : Nat → Nat) : hput (cset h S A) 73 (AI 3 f) = cset h S (fup A 8 f) := cset_put h S A S (fup A 8 f) 8 _ (by decide) (fun i hi => by
  unfold cc
  by_cases c : i = 8
  · subst c; rfl
  · rw [if_neg c]; rw [fup_ne _ _ c]; rw [fup_ne (k := 8) _ _ (by omega)])
theorem cset_k9 (h : Hp) (S : Nat → Int32) (A : Nat → Nat → Nat) : cset h S A 74 = some (AI 3 (A 9)) := rfl
theorem cset_r9 (h : Hp) (S : Nat → Int32) (A : Nat → Nat → Nat) (f : Nat → Nat) : hput (cset h S A) 74 (AI 3 f) = cset h S (fup A 9 f) := cset_put h S A S (fup A 9 f) 9 _ (by decide) (fun i hi => by
  unfold cc
  by_cases c : i = 9
  · subst c; rfl
  · rw [if_neg c]; rw [fup_ne _ _ c]; rw [fup_ne (k := 9) _ _ (by omega)])
theorem cset_k1 (h : Hp) (S : Nat → Int32) (A : Nat → Nat → Nat) : cset h S A 66 = some (AZ 8 (A 1)) := rfl
theorem cset_r1 (h : Hp) (S : Nat → Int32) (A : Nat → Nat → Nat) (f : Nat → Nat) : hput (cset h S A) 66 (AZ 8 f) = cset h S (fup A 1 f) := cset_put h S A S (fup A 1 f) 1 _ (by decide) (fun i hi => by
  unfold cc
  by_cases c : i = 1
  · subst c; rfl
  · simp only [if_neg c, fup_ne _ _ c])
theorem cset_k4 (h : Hp) (S : Nat → Int32) (A : Nat → Nat → Nat) : cset h S A 69 = some ((.inr (.inr (.inr (1, [some 70, some 71]))))) := rfl
theorem cset_k7 (h : Hp) (S : Nat → Int32) (A : Nat → Nat → Nat) : cset h S A 72 = some ((.inr (.inr (.inr (1, [some 73, some 74]))))) := rfl
def bn : Nat → Nat := fun k => 6
def bc (S : Nat → Int32) (A : Nat → Nat → Nat) (k : Nat) : AE := if k = 0 then oB (.int (S 0)) (.int (S 1)) (.ref 40) (.int (S 2)) (.ref 41) (.ref 42) (.ref 43) else if k = 4 then (.inr (.inr (.inr (0, [some 44, some 47, some 50, some 53, some 56, some 59, some 62])))) else AI (bn k) (A k)
def bset (h : Hp) (S : Nat → Int32) (A : Nat → Nat → Nat) : Hp := fun j => if 39 ≤ j ∧ j ≤ 43 then some (bc S A (j - 39)) else h j
theorem bset_ne (h : Hp) (S : Nat → Int32) (A : Nat → Nat → Nat) {j : Nat} (hj : j < 39 ∨ 43 < j) : bset h S A j = h j := if_neg (by omega)
theorem bset_in (h : Hp) (S : Nat → Int32) (A : Nat → Nat → Nat) {j : Nat} (h1 : 39 ≤ j) (h2 : j ≤ 43) : bset h S A j = some (bc S A (j - 39)) := if_pos ⟨h1, h2⟩
theorem bset_set (h : Hp) (S : Nat → Int32) (A : Nat → Nat → Nat) (S2 : Nat → Int32) (A2 : Nat → Nat → Nat) : bset (bset h S A) S2 A2 = bset h S2 A2 := by
  funext j
  unfold bset
  split <;> rfl
theorem bset_keep {h h2 : Hp} {S : Nat → Int32} {A : Nat → Nat → Nat} (hh : bset h S A = h) (hs : ∀ j, 39 ≤ j → j ≤ 43 → h2 j = h j) : bset h2 S A = h2 := by
  funext j
  have e := congrFun hh j
  unfold bset at e ⊢
  split
  · rename_i q
    rw [if_pos q] at e
    rw [hs j q.1 q.2, ← e]
  · rfl
theorem bset_congr (h : Hp) {S : Nat → Int32} {A : Nat → Nat → Nat} {S2 : Nat → Int32} {A2 : Nat → Nat → Nat} (hS : ∀ i, i < 3 → S i = S2 i) (hA : ∀ k, 1 ≤ k → k ≤ 4 → A k = A2 k) : bset h S A = bset h S2 A2 := by
  funext j
  unfold bset
  split
  · rename_i q
    congr 1
    unfold bc
    split
    · rw [hS 0 (by decide), hS 1 (by decide), hS 2 (by decide)]
    · rename_i q0
      split
      · rfl
      · skip
        rw [hA _ (by omega) (by omega)]
  · rfl
def bv (a0 a1 a2 : Int32) : Nat → Int32 := fun i => if i = 0 then a0 else if i = 1 then a1 else a2
theorem bv0 (a0 a1 a2 : Int32) : bv a0 a1 a2 0 = a0 := rfl
theorem bv1 (a0 a1 a2 : Int32) : bv a0 a1 a2 1 = a1 := rfl
theorem bv2 (a0 a1 a2 : Int32) : bv a0 a1 a2 2 = a2 := rfl
theorem bset_o (h : Hp) (S : Nat → Int32) (A : Nat → Nat → Nat) : bset h S A 39 = some (oB (.int (S 0)) (.int (S 1)) (.ref 40) (.int (S 2)) (.ref 41) (.ref 42) (.ref 43)) := rfl
theorem bset_put (h : Hp) (S : Nat → Int32) (A : Nat → Nat → Nat) (S2 : Nat → Int32) (A2 : Nat → Nat → Nat) (k : Nat) (e : AE) (hk : k ≤ 4) (he : ∀ i, i ≤ 4 → bc S2 A2 i = if i = k then e else bc S A i) : hput (bset h S A) (39 + k) e = bset h S2 A2 := by
  funext j
  rw [hput_at]
  unfold bset
  by_cases c : j = 39 + k
  · rw [if_pos c, if_pos (by omega), he _ (by omega), if_pos (by omega)]
  · rw [if_neg c]
    by_cases c2 : 39 ≤ j ∧ j ≤ 43
    · rw [if_pos c2, if_pos c2, he _ (by omega), if_neg (by omega)]
    · rw [if_neg c2, if_neg c2]
theorem bset_po (h : Hp) (S : Nat → Int32) (A : Nat → Nat → Nat) (a0 a1 a2 : Int32) : hput (bset h S A) 39 (oB (.int a0) (.int a1) (.ref 40) (.int a2) (.ref 41) (.ref 42) (.ref 43)) = bset h (bv a0 a1 a2) A := bset_put h S A (bv a0 a1 a2) A 0 _ (by decide) (fun i hi => by
  unfold bc
  by_cases c : i = 0
  · rw [if_pos c, if_pos c]; rfl
  · rw [if_neg c, if_neg c, if_neg c])
theorem bset_k1 (h : Hp) (S : Nat → Int32) (A : Nat → Nat → Nat) : bset h S A 40 = some (AI 6 (A 1)) := rfl
theorem bset_r1 (h : Hp) (S : Nat → Int32) (A : Nat → Nat → Nat) (f : Nat → Nat) : hput (bset h S A) 40 (AI 6 f) = bset h S (fup A 1 f) := bset_put h S A S (fup A 1 f) 1 _ (by decide) (fun i hi => by
  unfold bc
  by_cases c : i = 1
  · subst c; rfl
  · rw [if_neg c]; rw [fup_ne _ _ c])
theorem bset_k2 (h : Hp) (S : Nat → Int32) (A : Nat → Nat → Nat) : bset h S A 41 = some (AI 6 (A 2)) := rfl
theorem bset_r2 (h : Hp) (S : Nat → Int32) (A : Nat → Nat → Nat) (f : Nat → Nat) : hput (bset h S A) 41 (AI 6 f) = bset h S (fup A 2 f) := bset_put h S A S (fup A 2 f) 2 _ (by decide) (fun i hi => by
  unfold bc
  by_cases c : i = 2
  · subst c; rfl
  · rw [if_neg c]; rw [fup_ne _ _ c])
theorem bset_k3 (h : Hp) (S : Nat → Int32) (A : Nat → Nat → Nat) : bset h S A 42 = some (AI 6 (A 3)) := rfl
theorem bset_r3 (h : Hp) (S : Nat → Int32) (A : Nat → Nat → Nat) (f : Nat → Nat) : hput (bset h S A) 42 (AI 6 f) = bset h S (fup A 3 f) := bset_put h S A S (fup A 3 f) 3 _ (by decide) (fun i hi => by
  unfold bc
  by_cases c : i = 3
  · subst c; rfl
  · rw [if_neg c]; rw [fup_ne _ _ c])
theorem bset_k4 (h : Hp) (S : Nat → Int32) (A : Nat → Nat → Nat) : bset h S A 43 = some ((.inr (.inr (.inr (0, [some 44, some 47, some 50, some 53, some 56, some 59, some 62]))))) := rfl
def mn : Nat → Nat := fun k => if k = 1 then 300 else if k = 2 ∨ k = 6 ∨ k = 10 ∨ k = 11 then 2 else if k = 7 ∨ k = 8 ∨ k = 12 ∨ k = 14 then 12 else if k = 9 then 20 else if k = 13 ∨ k = 15 then 24 else if k = 16 then 3 else if k = 17 then 10 else 6
def mc (S : Nat → Int32) (A : Nat → Nat → Nat) (W : Nat → Nat → Int64) (k : Nat) : AE := if k = 0 then oM (.int (S 0)) (.ref 79) (.ref 80) (.ref 81) (.ref 82) (.ref 83) (.ref 84) (.ref 85) (.ref 86) (.ref 87) (.ref 88) (.ref 89) (.ref 90) (.ref 91) (.ref 92) (.int (S 1)) (.int (S 2)) (.ref 93) (.int (S 3)) (.ref 94) (.ref 95) (.int (S 4)) (.int (S 5)) (.int (S 6)) (.ref 96) (.ref 97) (.ref 98) (.ref 99) (.ref 100) (.ref 101) else if k = 22 then AJ 41 (W 0) else if k = 23 then AJ 41 (W 1) else AI (mn k) (A k)
def mset (h : Hp) (S : Nat → Int32) (A : Nat → Nat → Nat) (W : Nat → Nat → Int64) : Hp := fun j => if 78 ≤ j ∧ j ≤ 101 then some (mc S A W (j - 78)) else h j
theorem mset_ne (h : Hp) (S : Nat → Int32) (A : Nat → Nat → Nat) (W : Nat → Nat → Int64) {j : Nat} (hj : j < 78 ∨ 101 < j) : mset h S A W j = h j := if_neg (by omega)
theorem mset_in (h : Hp) (S : Nat → Int32) (A : Nat → Nat → Nat) (W : Nat → Nat → Int64) {j : Nat} (h1 : 78 ≤ j) (h2 : j ≤ 101) : mset h S A W j = some (mc S A W (j - 78)) := if_pos ⟨h1, h2⟩
theorem mset_set (h : Hp) (S : Nat → Int32) (A : Nat → Nat → Nat) (W : Nat → Nat → Int64) (S2 : Nat → Int32) (A2 : Nat → Nat → Nat) (W2 : Nat → Nat → Int64) : mset (mset h S A W) S2 A2 W2 = mset h S2 A2 W2 := by
  funext j
  unfold mset
  split <;> rfl
theorem mset_keep {h h2 : Hp} {S : Nat → Int32} {A : Nat → Nat → Nat} {W : Nat → Nat → Int64} (hh : mset h S A W = h) (hs : ∀ j, 78 ≤ j → j ≤ 101 → h2 j = h j) : mset h2 S A W = h2 := by
  funext j
  have e := congrFun hh j
  unfold mset at e ⊢
  split
  · rename_i q
    rw [if_pos q] at e
    rw [hs j q.1 q.2, ← e]
  · rfl
theorem mset_congr (h : Hp) {S : Nat → Int32} {A : Nat → Nat → Nat} {W : Nat → Nat → Int64} {S2 : Nat → Int32} {A2 : Nat → Nat → Nat} {W2 : Nat → Nat → Int64} (hS : ∀ i, i < 7 → S i = S2 i) (hA : ∀ k, 1 ≤ k → k ≤ 23 → A k = A2 k) (hW : ∀ k, k < 2 → W k = W2 k) : mset h S A W = mset h S2 A2 W2 := by
  funext j
  unfold mset
  split
  · rename_i q
    congr 1
    unfold mc
    split
    · rw [hS 0 (by decide), hS 1 (by decide), hS 2 (by decide), hS 3 (by decide), hS 4 (by decide), hS 5 (by decide), hS 6 (by decide)]
    · rename_i q0
      split
      · rw [hW 0 (by decide)]
      · skip
        split
        · rw [hW 1 (by decide)]
        · skip
          rw [hA _ (by omega) (by omega)]
  · rfl
def mv (a0 a1 a2 a3 a4 a5 a6 : Int32) : Nat → Int32 := fun i => if i = 0 then a0 else if i = 1 then a1 else if i = 2 then a2 else if i = 3 then a3 else if i = 4 then a4 else if i = 5 then a5 else a6
theorem mv0 (a0 a1 a2 a3 a4 a5 a6 : Int32) : mv a0 a1 a2 a3 a4 a5 a6 0 = a0 := rfl
theorem mv1 (a0 a1 a2 a3 a4 a5 a6 : Int32) : mv a0 a1 a2 a3 a4 a5 a6 1 = a1 := rfl
theorem mv2 (a0 a1 a2 a3 a4 a5 a6 : Int32) : mv a0 a1 a2 a3 a4 a5 a6 2 = a2 := rfl
theorem mv3 (a0 a1 a2 a3 a4 a5 a6 : Int32) : mv a0 a1 a2 a3 a4 a5 a6 3 = a3 := rfl
theorem mv4 (a0 a1 a2 a3 a4 a5 a6 : Int32) : mv a0 a1 a2 a3 a4 a5 a6 4 = a4 := rfl
theorem mv5 (a0 a1 a2 a3 a4 a5 a6 : Int32) : mv a0 a1 a2 a3 a4 a5 a6 5 = a5 := rfl
theorem mv6 (a0 a1 a2 a3 a4 a5 a6 : Int32) : mv a0 a1 a2 a3 a4 a5 a6 6 = a6 := rfl
theorem mset_o (h : Hp) (S : Nat → Int32) (A : Nat → Nat → Nat) (W : Nat → Nat → Int64) : mset h S A W 78 = some (oM (.int (S 0)) (.ref 79) (.ref 80) (.ref 81) (.ref 82) (.ref 83) (.ref 84) (.ref 85) (.ref 86) (.ref 87) (.ref 88) (.ref 89) (.ref 90) (.ref 91) (.ref 92) (.int (S 1)) (.int (S 2)) (.ref 93) (.int (S 3)) (.ref 94) (.ref 95) (.int (S 4)) (.int (S 5)) (.int (S 6)) (.ref 96) (.ref 97) (.ref 98) (.ref 99) (.ref 100) (.ref 101)) := rfl
theorem mset_put (h : Hp) (S : Nat → Int32) (A : Nat → Nat → Nat) (W : Nat → Nat → Int64) (S2 : Nat → Int32) (A2 : Nat → Nat → Nat) (W2 : Nat → Nat → Int64) (k : Nat) (e : AE) (hk : k ≤ 23) (he : ∀ i, i ≤ 23 → mc S2 A2 W2 i = if i = k then e else mc S A W i) : hput (mset h S A W) (78 + k) e = mset h S2 A2 W2 := by
  funext j
  rw [hput_at]
  unfold mset
  by_cases c : j = 78 + k
  · rw [if_pos c, if_pos (by omega), he _ (by omega), if_pos (by omega)]
  · rw [if_neg c]
    by_cases c2 : 78 ≤ j ∧ j ≤ 101
    · rw [if_pos c2, if_pos c2, he _ (by omega), if_neg (by omega)]
    · rw [if_neg c2, if_neg c2]
theorem mset_po (h : Hp) (S : Nat → Int32) (A : Nat → Nat → Nat) (W : Nat → Nat → Int64) (a0 a1 a2 a3 a4 a5 a6 : Int32) : hput (mset h S A W) 78 (oM (.int a0) (.ref 79) (.ref 80) (.ref 81) (.ref 82) (.ref 83) (.ref 84) (.ref 85) (.ref 86) (.ref 87) (.ref 88) (.ref 89) (.ref 90) (.ref 91) (.ref 92) (.int a1) (.int a2) (.ref 93) (.int a3) (.ref 94) (.ref 95) (.int a4) (.int a5) (.int a6) (.ref 96) (.ref 97) (.ref 98) (.ref 99) (.ref 100) (.ref 101)) = mset h (mv a0 a1 a2 a3 a4 a5 a6) A W := mset_put h S A W (mv a0 a1 a2 a3 a4 a5 a6) A W 0 _ (by decide) (fun i hi => by
  unfold mc
  by_cases c : i = 0
  · rw [if_pos c, if_pos c]; rfl
  · rw [if_neg c, if_neg c, if_neg c])
theorem mset_k1 (h : Hp) (S : Nat → Int32) (A : Nat → Nat → Nat) (W : Nat → Nat → Int64) : mset h S A W 79 = some (AI 300 (A 1)) := rfl
theorem mset_r1 (h : Hp) (S : Nat → Int32) (A : Nat → Nat → Nat) (W : Nat → Nat → Int64) (f : Nat → Nat) : hput (mset h S A W) 79 (AI 300 f) = mset h S (fup A 1 f) W := mset_put h S A W S (fup A 1 f) W 1 _ (by decide) (fun i hi => by
  unfold mc
  by_cases c : i = 1
  · subst c; rfl
  · rw [if_neg c]; rw [fup_ne _ _ c])
theorem mset_k2 (h : Hp) (S : Nat → Int32) (A : Nat → Nat → Nat) (W : Nat → Nat → Int64) : mset h S A W 80 = some (AI 2 (A 2)) := rfl
theorem mset_r2 (h : Hp) (S : Nat → Int32) (A : Nat → Nat → Nat) (W : Nat → Nat → Int64) (f : Nat → Nat) : hput (mset h S A W) 80 (AI 2 f) = mset h S (fup A 2 f) W := mset_put h S A W S (fup A 2 f) W 2 _ (by decide) (fun i hi => by
  unfold mc
  by_cases c : i = 2
  · subst c; rfl
  · rw [if_neg c]; rw [fup_ne _ _ c])
theorem mset_k3 (h : Hp) (S : Nat → Int32) (A : Nat → Nat → Nat) (W : Nat → Nat → Int64) : mset h S A W 81 = some (AI 6 (A 3)) := rfl
theorem mset_r3 (h : Hp) (S : Nat → Int32) (A : Nat → Nat → Nat) (W : Nat → Nat → Int64) (f : Nat → Nat) : hput (mset h S A W) 81 (AI 6 f) = mset h S (fup A 3 f) W := mset_put h S A W S (fup A 3 f) W 3 _ (by decide) (fun i hi => by
  unfold mc
  by_cases c : i = 3
  · subst c; rfl
  · rw [if_neg c]; rw [fup_ne _ _ c])
theorem mset_k4 (h : Hp) (S : Nat → Int32) (A : Nat → Nat → Nat) (W : Nat → Nat → Int64) : mset h S A W 82 = some (AI 6 (A 4)) := rfl
theorem mset_r4 (h : Hp) (S : Nat → Int32) (A : Nat → Nat → Nat) (W : Nat → Nat → Int64) (f : Nat → Nat) : hput (mset h S A W) 82 (AI 6 f) = mset h S (fup A 4 f) W := mset_put h S A W S (fup A 4 f) W 4 _ (by decide) (fun i hi => by
  unfold mc
  by_cases c : i = 4
  · subst c; rfl
  · rw [if_neg c]; rw [fup_ne _ _ c])
theorem mset_k5 (h : Hp) (S : Nat → Int32) (A : Nat → Nat → Nat) (W : Nat → Nat → Int64) : mset h S A W 83 = some (AI 6 (A 5)) := rfl
theorem mset_r5 (h : Hp) (S : Nat → Int32) (A : Nat → Nat → Nat) (W : Nat → Nat → Int64) (f : Nat → Nat) : hput (mset h S A W) 83 (AI 6 f) = mset h S (fup A 5 f) W := mset_put h S A W S (fup A 5 f) W 5 _ (by decide) (fun i hi => by
  unfold mc
  by_cases c : i = 5
  · subst c; rfl
  · rw [if_neg c]; rw [fup_ne _ _ c])
theorem mset_k6 (h : Hp) (S : Nat → Int32) (A : Nat → Nat → Nat) (W : Nat → Nat → Int64) : mset h S A W 84 = some (AI 2 (A 6)) := rfl
theorem mset_r6 (h : Hp) (S : Nat → Int32) (A : Nat → Nat → Nat) (W : Nat → Nat → Int64) (f : Nat → Nat) : hput (mset h S A W) 84 (AI 2 f) = mset h S (fup A 6 f) W := mset_put h S A W S (fup A 6 f) W 6 _ (by decide) (fun i hi => by
  unfold mc
  by_cases c : i = 6
  · subst c; rfl
  · rw [if_neg c]; rw [fup_ne _ _ c])
theorem mset_k7 (h : Hp) (S : Nat → Int32) (A : Nat → Nat → Nat) (W : Nat → Nat → Int64) : mset h S A W 85 = some (AI 12 (A 7)) := rfl
theorem mset_r7 (h : Hp) (S : Nat → Int32) (A : Nat → Nat → Nat) (W : Nat → Nat → Int64) (f : Nat → Nat) : hput (mset h S A W) 85 (AI 12 f) = mset h S (fup A 7 f) W := mset_put h S A W S (fup A 7 f) W 7 _ (by decide) (fun i hi => by
  unfold mc
  by_cases c : i = 7
  · subst c; rfl
  · rw [if_neg c]; rw [fup_ne _ _ c])
theorem mset_k8 (h : Hp) (S : Nat → Int32) (A : Nat → Nat → Nat) (W : Nat → Nat → Int64) : mset h S A W 86 = some (AI 12 (A 8)) := rfl
theorem mset_r8 (h : Hp) (S : Nat → Int32) (A : Nat → Nat → Nat) (W : Nat → Nat → Int64) (f : Nat → Nat) : hput (mset h S A W) 86 (AI 12 f) = mset h S (fup A 8 f) W := mset_put h S A W S (fup A 8 f) W 8 _ (by decide) (fun i hi => by
  unfold mc
  by_cases c : i = 8
  · subst c; rfl
  · rw [if_neg c]; rw [fup_ne _ _ c])
theorem mset_k9 (h : Hp) (S : Nat → Int32) (A : Nat → Nat → Nat) (W : Nat → Nat → Int64) : mset h S A W 87 = some (AI 20 (A 9)) := rfl
theorem mset_r9 (h : Hp) (S : Nat → Int32) (A : Nat → Nat → Nat) (W : Nat → Nat → Int64) (f : Nat → Nat) : hput (mset h S A W) 87 (AI 20 f) = mset h S (fup A 9 f) W := mset_put h S A W S (fup A 9 f) W 9 _ (by decide) (fun i hi => by
  unfold mc
  by_cases c : i = 9
  · subst c; rfl
  · rw [if_neg c]; rw [fup_ne _ _ c])
theorem mset_k10 (h : Hp) (S : Nat → Int32) (A : Nat → Nat → Nat) (W : Nat → Nat → Int64) : mset h S A W 88 = some (AI 2 (A 10)) := rfl
theorem mset_r10 (h : Hp) (S : Nat → Int32) (A : Nat → Nat → Nat) (W : Nat → Nat → Int64) (f : Nat → Nat) : hput (mset h S A W) 88 (AI 2 f) = mset h S (fup A 10 f) W := mset_put h S A W S (fup A 10 f) W 10 _ (by decide) (fun i hi => by
  unfold mc
  by_cases c : i = 10
  · subst c; rfl
  · rw [if_neg c]; rw [fup_ne _ _ c])
theorem mset_k11 (h : Hp) (S : Nat → Int32) (A : Nat → Nat → Nat) (W : Nat → Nat → Int64) : mset h S A W 89 = some (AI 2 (A 11)) := rfl
theorem mset_r11 (h : Hp) (S : Nat → Int32) (A : Nat → Nat → Nat) (W : Nat → Nat → Int64) (f : Nat → Nat) : hput (mset h S A W) 89 (AI 2 f) = mset h S (fup A 11 f) W := mset_put h S A W S (fup A 11 f) W 11 _ (by decide) (fun i hi => by
  unfold mc
  by_cases c : i = 11
  · subst c; rfl
  · rw [if_neg c]; rw [fup_ne _ _ c])
theorem mset_k12 (h : Hp) (S : Nat → Int32) (A : Nat → Nat → Nat) (W : Nat → Nat → Int64) : mset h S A W 90 = some (AI 12 (A 12)) := rfl
theorem mset_r12 (h : Hp) (S : Nat → Int32) (A : Nat → Nat → Nat) (W : Nat → Nat → Int64) (f : Nat → Nat) : hput (mset h S A W) 90 (AI 12 f) = mset h S (fup A 12 f) W := mset_put h S A W S (fup A 12 f) W 12 _ (by decide) (fun i hi => by
  unfold mc
  by_cases c : i = 12
  · subst c; rfl
  · rw [if_neg c]; rw [fup_ne _ _ c])
theorem mset_k13 (h : Hp) (S : Nat → Int32) (A : Nat → Nat → Nat) (W : Nat → Nat → Int64) : mset h S A W 91 = some (AI 24 (A 13)) := rfl
theorem mset_r13 (h : Hp) (S : Nat → Int32) (A : Nat → Nat → Nat) (W : Nat → Nat → Int64) (f : Nat → Nat) : hput (mset h S A W) 91 (AI 24 f) = mset h S (fup A 13 f) W := mset_put h S A W S (fup A 13 f) W 13 _ (by decide) (fun i hi => by
  unfold mc
  by_cases c : i = 13
  · subst c; rfl
  · rw [if_neg c]; rw [fup_ne _ _ c])
theorem mset_k14 (h : Hp) (S : Nat → Int32) (A : Nat → Nat → Nat) (W : Nat → Nat → Int64) : mset h S A W 92 = some (AI 12 (A 14)) := rfl
theorem mset_r14 (h : Hp) (S : Nat → Int32) (A : Nat → Nat → Nat) (W : Nat → Nat → Int64) (f : Nat → Nat) : hput (mset h S A W) 92 (AI 12 f) = mset h S (fup A 14 f) W := mset_put h S A W S (fup A 14 f) W 14 _ (by decide) (fun i hi => by
  unfold mc
  by_cases c : i = 14
  · subst c; rfl
  · rw [if_neg c]; rw [fup_ne _ _ c])
theorem mset_k15 (h : Hp) (S : Nat → Int32) (A : Nat → Nat → Nat) (W : Nat → Nat → Int64) : mset h S A W 93 = some (AI 24 (A 15)) := rfl
theorem mset_r15 (h : Hp) (S : Nat → Int32) (A : Nat → Nat → Nat) (W : Nat → Nat → Int64) (f : Nat → Nat) : hput (mset h S A W) 93 (AI 24 f) = mset h S (fup A 15 f) W := mset_put h S A W S (fup A 15 f) W 15 _ (by decide) (fun i hi => by
  unfold mc
  by_cases c : i = 15
  · subst c; rfl
  · rw [if_neg c]; rw [fup_ne _ _ c])
theorem mset_k16 (h : Hp) (S : Nat → Int32) (A : Nat → Nat → Nat) (W : Nat → Nat → Int64) : mset h S A W 94 = some (AI 3 (A 16)) := rfl
theorem mset_r16 (h : Hp) (S : Nat → Int32) (A : Nat → Nat → Nat) (W : Nat → Nat → Int64) (f : Nat → Nat) : hput (mset h S A W) 94 (AI 3 f) = mset h S (fup A 16 f) W := mset_put h S A W S (fup A 16 f) W 16 _ (by decide) (fun i hi => by
  unfold mc
  by_cases c : i = 16
  · subst c; rfl
  · rw [if_neg c]; rw [fup_ne _ _ c])
theorem mset_k17 (h : Hp) (S : Nat → Int32) (A : Nat → Nat → Nat) (W : Nat → Nat → Int64) : mset h S A W 95 = some (AI 10 (A 17)) := rfl
theorem mset_r17 (h : Hp) (S : Nat → Int32) (A : Nat → Nat → Nat) (W : Nat → Nat → Int64) (f : Nat → Nat) : hput (mset h S A W) 95 (AI 10 f) = mset h S (fup A 17 f) W := mset_put h S A W S (fup A 17 f) W 17 _ (by decide) (fun i hi => by
  unfold mc
  by_cases c : i = 17
  · subst c; rfl
  · rw [if_neg c]; rw [fup_ne _ _ c])
theorem mset_k18 (h : Hp) (S : Nat → Int32) (A : Nat → Nat → Nat) (W : Nat → Nat → Int64) : mset h S A W 96 = some (AI 6 (A 18)) := rfl
theorem mset_r18 (h : Hp) (S : Nat → Int32) (A : Nat → Nat → Nat) (W : Nat → Nat → Int64) (f : Nat → Nat) : hput (mset h S A W) 96 (AI 6 f) = mset h S (fup A 18 f) W := mset_put h S A W S (fup A 18 f) W 18 _ (by decide) (fun i hi => by
  unfold mc
  by_cases c : i = 18
  · subst c; rfl
  · rw [if_neg c]; rw [fup_ne _ _ c])
theorem mset_k19 (h : Hp) (S : Nat → Int32) (A : Nat → Nat → Nat) (W : Nat → Nat → Int64) : mset h S A W 97 = some (AI 6 (A 19)) := rfl
theorem mset_r19 (h : Hp) (S : Nat → Int32) (A : Nat → Nat → Nat) (W : Nat → Nat → Int64) (f : Nat → Nat) : hput (mset h S A W) 97 (AI 6 f) = mset h S (fup A 19 f) W := mset_put h S A W S (fup A 19 f) W 19 _ (by decide) (fun i hi => by
  unfold mc
  by_cases c : i = 19
  · subst c; rfl
  · rw [if_neg c]; rw [fup_ne _ _ c])
theorem mset_k20 (h : Hp) (S : Nat → Int32) (A : Nat → Nat → Nat) (W : Nat → Nat → Int64) : mset h S A W 98 = some (AI 6 (A 20)) := rfl
theorem mset_r20 (h : Hp) (S : Nat → Int32) (A : Nat → Nat → Nat) (W : Nat → Nat → Int64) (f : Nat → Nat) : hput (mset h S A W) 98 (AI 6 f) = mset h S (fup A 20 f) W := mset_put h S A W S (fup A 20 f) W 20 _ (by decide) (fun i hi => by
  unfold mc
  by_cases c : i = 20
  · subst c; rfl
  · rw [if_neg c]; rw [fup_ne _ _ c])
theorem mset_k21 (h : Hp) (S : Nat → Int32) (A : Nat → Nat → Nat) (W : Nat → Nat → Int64) : mset h S A W 99 = some (AI 6 (A 21)) := rfl
theorem mset_r21 (h : Hp) (S : Nat → Int32) (A : Nat → Nat → Nat) (W : Nat → Nat → Int64) (f : Nat → Nat) : hput (mset h S A W) 99 (AI 6 f) = mset h S (fup A 21 f) W := mset_put h S A W S (fup A 21 f) W 21 _ (by decide) (fun i hi => by
  unfold mc
  by_cases c : i = 21
  · subst c; rfl
  · rw [if_neg c]; rw [fup_ne _ _ c])
theorem mset_k22 (h : Hp) (S : Nat → Int32) (A : Nat → Nat → Nat) (W : Nat → Nat → Int64) : mset h S A W 100 = some (AJ 41 (W 0)) := rfl
theorem mset_r22 (h : Hp) (S : Nat → Int32) (A : Nat → Nat → Nat) (W : Nat → Nat → Int64) (f : Nat → Int64) : hput (mset h S A W) 100 (AJ 41 f) = mset h S A (fup W 0 f) := mset_put h S A W S A (fup W 0 f) 22 _ (by decide) (fun i hi => by
  unfold mc
  by_cases c : i = 22
  · subst c; rfl
  · rw [if_neg c, if_neg c, if_neg c]; rw [fup_ne _ _ (by decide)])
theorem mset_k23 (h : Hp) (S : Nat → Int32) (A : Nat → Nat → Nat) (W : Nat → Nat → Int64) : mset h S A W 101 = some (AJ 41 (W 1)) := rfl
theorem mset_r23 (h : Hp) (S : Nat → Int32) (A : Nat → Nat → Nat) (W : Nat → Nat → Int64) (f : Nat → Int64) : hput (mset h S A W) 101 (AJ 41 f) = mset h S A (fup W 1 f) := mset_put h S A W S A (fup W 1 f) 23 _ (by decide) (fun i hi => by
  unfold mc
  by_cases c : i = 23
  · subst c; rfl
  · rw [if_neg c, if_neg c, if_neg c]; rw [fup_ne _ _ (by decide)])
