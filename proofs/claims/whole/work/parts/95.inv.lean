/-! what holds between two calls -/
theorem vset_keep {h h2 : Hp} {V : Wv} (hh : vset h V = h) (hs : ∀ j, 44 ≤ j → j ≤ 64 → h2 j = h j) : vset h2 V = h2 := by
  funext j
  have e := congrFun hh j
  unfold vset at e ⊢
  split
  · rename_i q
    rw [if_pos q] at e
    rw [hs j q.1 q.2, ← e]
  · rfl
theorem qset_keep {h h2 : Hp} {a b : Nat} {F G : Nat → Nat} (hh : qset h a b F G = h) (hs : ∀ j, 75 ≤ j → j ≤ 77 → h2 j = h j) : qset h2 a b F G = h2 := by
  funext j
  have e := congrFun hh j
  unfold qset at e ⊢
  by_cases c0 : j = 75
  · rw [if_pos c0] at e ⊢
    rw [hs j (by omega) (by omega), ← e]
  · rw [if_neg c0] at e ⊢
    by_cases c1 : j = 76
    · rw [if_pos c1] at e ⊢
      rw [hs j (by omega) (by omega), ← e]
    · rw [if_neg c1] at e ⊢
      by_cases c2 : j = 77
      · rw [if_pos c2] at e ⊢
        rw [hs j (by omega) (by omega), ← e]
      · rw [if_neg c2]
/-- the text's object, what it has told and read so far, and its own plan -/
def RDq (H : Hp) (len : Nat) : Prop := ∃ (N : Nat → Nat) (P2 : Pl), H 2 = some (oR (.ref 3) (.int (nI len)) (.ref 4) (.ref 14)) ∧ H 14 = some (AI 3 N) ∧ (∀ k, N k < 100000) ∧ PlanC H 4 P2
def CC (H : Hp) (sc : List Int32) (len : Nat) (T : Nat → Nat) (P : Pl) (Sb : Nat → Int32) (Ab : Nat → Nat → Nat) (Sc : Nat → Int32) (Ac : Nat → Nat → Nat) : Prop :=
  (H 0 = some (.inr (.inl (false, sc))) ∧ SO H len ∧ H 3 = some (AI 300 T)) ∧ PlanC H 15 P ∧ JK H ∧ RDq H len ∧ bset H Sb Ab = H ∧ (∃ V, vset H V = H) ∧ cset H Sc Ac = H ∧ ∃ a b F G, qset H a b F G = H
theorem JK.same {H H2 : Hp} (h : JK H) (hs : ∀ j, 25 ≤ j → j ≤ 38 → H2 j = H j) : JK H2 := by
  obtain ⟨⟨P2, h1⟩, f, X, h2⟩ := h
  exact ⟨⟨P2, h1.same (fun j a b => hs j a (by omega))⟩, f, X, h2.same (fun j a b => hs j (by omega) (by omega))⟩
theorem CC.scr {H H2 : Hp} {sc : List Int32} {len : Nat} {T : Nat → Nat} {P : Pl} {Sb : Nat → Int32} {Ab : Nat → Nat → Nat} {Sc : Nat → Int32} {Ac : Nat → Nat → Nat} (h : CC H sc len T P Sb Ab Sc Ac) (hJ : JK H2) (hR : RDq H2 len) (hs : ∀ j, j < 78 → (j < 2 ∨ j = 3 ∨ (14 < j ∧ j < 25) ∨ 38 < j) → H2 j = H j) : CC H2 sc len T P Sb Ab Sc Ac := by
  obtain ⟨⟨h0, h1, h2⟩, h3, h4, h5, h6, ⟨V, h7⟩, h8, a, b, F, G, h9⟩ := h
  refine ⟨⟨(hs 0 (by decide) (by decide)).trans h0, (hs 1 (by decide) (by decide)).trans h1, (hs 3 (by decide) (by decide)).trans h2⟩, h3.same (fun j x y => hs j (by omega) (by omega)), hJ, hR, bset_keep h6 (fun j x y => hs j (by omega) (by omega)), ⟨V, vset_keep h7 (fun j x y => hs j (by omega) (by omega))⟩, cset_keep h8 (fun j x y => hs j (by omega) (by omega)), a, b, F, G, qset_keep h9 (fun j x y => hs j (by omega) (by omega))⟩
theorem RDq.same {H H2 : Hp} {len : Nat} (h : RDq H len) (hs : ∀ j, 2 ≤ j → j ≤ 14 → H2 j = H j) : RDq H2 len := by
  obtain ⟨N, P2, a, b, d, e⟩ := h
  exact ⟨N, P2, (hs _ (by decide) (by decide)).trans a, (hs _ (by decide) (by decide)).trans b, d, e.same (fun j x y => hs j (by omega) (by omega))⟩
theorem CC.same {H H2 : Hp} {sc : List Int32} {len : Nat} {T : Nat → Nat} {P : Pl} {Sb : Nat → Int32} {Ab : Nat → Nat → Nat} {Sc : Nat → Int32} {Ac : Nat → Nat → Nat} (h : CC H sc len T P Sb Ab Sc Ac) (hs : ∀ j, j < 78 → H2 j = H j) : CC H2 sc len T P Sb Ab Sc Ac :=
  h.scr (h.2.2.1.same (fun j a b => hs j (by omega))) (h.2.2.2.1.same (fun j a b => hs j (by omega))) (fun j a _ => hs j a)
theorem CC.fr {H H2 : Hp} {sc : List Int32} {len : Nat} {T : Nat → Nat} {P : Pl} {Sb : Nat → Int32} {Ab : Nat → Nat → Nat} {Sc : Nat → Int32} {Ac : Nat → Nat → Nat} (h : CC H sc len T P Sb Ab Sc Ac) (hJ : JK H2) (hF : FR H H2) : CC H2 sc len T P Sb Ab Sc Ac :=
  h.scr hJ (h.2.2.2.1.same (fun j a b => hF j (by omega))) (fun j a b => hF j (by omega))
/-- changes noted alike -/
def UE (P : Pl) (Ac A : Nat → Nat → Nat) (j : Nat) : Prop := (A 15 (3 * j + 1) = Ac 2 j ∧ A 15 (3 * j + 2) = Ac 3 j) ∧ (Ac 1 j = 1 → A 15 (3 * j) = 0 ∧ Ac 2 j < P 0 1 ∧ 1 ≤ Ac 3 j ∧ Ac 3 j ≤ 20) ∧ (Ac 1 j = 0 → A 15 (3 * j) = 1 ∧ Ac 2 j < P 0 0 ∧ Ac 3 j ≤ 60)
/-- kept alike -/
def KE (P : Pl) (Ac A : Nat → Nat → Nat) (j : Nat) : Prop := (∀ i, i < P 0 1 → Ac (5 + j) i = A 13 (12 + 6 * j + i) ∧ 1 ≤ Ac (5 + j) i ∧ Ac (5 + j) i ≤ 20) ∧ ∀ e, e < P 0 0 → Ac (8 + j) e = A 14 (6 + 3 * j + e) ∧ Ac (8 + j) e ≤ 60
def CH (P : Pl) (Sc : Nat → Int32) (Ac : Nat → Nat → Nat) (S : Nat → Int32) (A : Nat → Nat → Nat) : Prop := (∀ j, Ac 1 j = 0 ∨ Ac 1 j = 1) ∧ ∃ u k, (Sc 0 = nI u ∧ u ≤ 8 ∧ Sc 1 = nI k ∧ k ≤ 2 ∧ S 2 = nI u ∧ S 1 = nI k) ∧ (∀ j, j < u → UE P Ac A j) ∧ ∀ j, j < k → KE P Ac A j
def REL (len : Nat) (T : Nat → Nat) (P : Pl) (Sb : Nat → Int32) (Ab : Nat → Nat → Nat) (Sc : Nat → Int32) (Ac : Nat → Nat → Nat) (S : Nat → Int32) (A : Nat → Nat → Nat) : Prop :=
  (len ≤ 300 ∧ (∀ j, T j ≤ 255) ∧ S 0 = nI len ∧ (∀ j, j < len → T j = A 1 j) ∧ ∀ j, A 1 j ≤ 255) ∧ Valid P ∧ PEq P (MP A) ∧ KnO P Sb Ab ∧ CH P Sc Ac S A
theorem REL.mr {len : Nat} {T : Nat → Nat} {P : Pl} {Sb : Nat → Int32} {Ab : Nat → Nat → Nat} {Sc : Nat → Int32} {Ac : Nat → Nat → Nat} {S S2 : Nat → Int32} {A A2 : Nat → Nat → Nat} (h : REL len T P Sb Ab Sc Ac S A) (hm : MR S A S2 A2) : REL len T P Sb Ab Sc Ac S2 A2 := by
  obtain ⟨⟨l1, l2, l3, l4, l5⟩, hV, hP, hK, c1, u, k, ⟨u1, u2, k1, k2, u3, k3⟩, hu, hk⟩ := h
  obtain ⟨⟨s0, s1, s2⟩, a1, a15, hPM, a13, a14⟩ := hm
  refine ⟨⟨l1, l2, s0.trans l3, fun j hj => by rw [a1]; exact l4 j hj, fun j => by rw [a1]; exact l5 j⟩, hV, hP.trans' hPM, hK, c1, u, k, ⟨u1, u2, k1, k2, s2.trans u3, s1.trans k3⟩, fun j hj => ?_, fun j hj => ?_⟩
  · have := hu j hj
    unfold UE at this ⊢
    rw [a15]
    exact this
  · obtain ⟨e1, e2⟩ := hk j hj
    exact ⟨fun i hi => by rw [a13 _ (by omega)]; exact e1 i hi, fun e he => by rw [a14 _ (by omega)]; exact e2 e he⟩
def INV (sc : List Int32) (H : Hp) : Prop := ∃ len T P Sb Ab Sc Ac S A W, CC H sc len T P Sb Ab Sc Ac ∧ mset H S A W = H ∧ REL len T P Sb Ab Sc Ac S A
/-- one call on both sides, with the same answer -/
def StI (sc : List Int32) (mS mM : Nat) (LS LM : List (Option Value)) (v : Value) (z : Zc) (H : Hp) : Prop := ∃ H1 H2, (∀ Q, Ev mS (0, LS, [], z, H) Q = Q (some v) z H1) ∧ (∀ Q, Ev mM (0, LM, [], z, H1) Q = Q (some v) z H2) ∧ H1 0 = some (.inr (.inl (false, sc))) ∧ ck H1 78 8 = true ∧ INV sc H2
theorem fin {sc : List Int32} {mS mM : Nat} {LS LM : List (Option Value)} {v : Value} {z : Zc} {H H1 : Hp} {len : Nat} {T : Nat → Nat} {P : Pl} {Sb : Nat → Int32} {Ab : Nat → Nat → Nat} {Sc : Nat → Int32} {Ac : Nat → Nat → Nat} {S : Nat → Int32} {A : Nat → Nat → Nat} {W : Mw} (hC : CC H1 sc len T P Sb Ab Sc Ac) (hm : mset H S A W = H) (hk : ∀ j, 78 ≤ j → H1 j = H j) (hS : ∀ Q, Ev mS (0, LS, [], z, H) Q = Q (some v) z H1)
    (hM : ∃ S2 A2 W2, REL len T P Sb Ab Sc Ac S2 A2 ∧ ∀ Q, Ev mM (0, LM, [], z, mset H1 S A W) Q = Q (some v) z (mset H1 S2 A2 W2)) : StI sc mS mM LS LM v z H := by
  obtain ⟨S2, A2, W2, hR, hM⟩ := hM
  have h1 : mset H1 S A W = H1 := mset_keep hm (fun j a _ => hk j a)
  rw [h1] at hM
  refine ⟨H1, mset H1 S2 A2 W2, hS, hM, hC.1.1, ?_, len, T, P, Sb, Ab, Sc, Ac, S2, A2, W2, hC.same (fun j hj => mset_ne _ _ _ _ (by omega)), mset_set _ _ _ _ _ _ _, hR⟩
  rw [ck_eq, ← h1, mset_o]
  rfl
theorem finMop {sc : List Int32} {mS mM : Nat} {LS LM : List (Option Value)} {v : Value} {z : Zc} {H H1 : Hp} {len : Nat} {T : Nat → Nat} {P : Pl} {Sb : Nat → Int32} {Ab : Nat → Nat → Nat} {Sc : Nat → Int32} {Ac : Nat → Nat → Nat} {S : Nat → Int32} {A : Nat → Nat → Nat} {W : Mw} (hC : CC H1 sc len T P Sb Ab Sc Ac) (hm : mset H S A W = H) (hk : ∀ j, 78 ≤ j → H1 j = H j) (hS : ∀ Q, Ev mS (0, LS, [], z, H) Q = Q (some v) z H1) (hR : REL len T P Sb Ab Sc Ac S A) (hM : Mop mM LM v z H1 S A W) : StI sc mS mM LS LM v z H := by
  obtain ⟨S2, A2, W2, h1, h2⟩ := hM
  exact fin hC hm hk hS ⟨S2, A2, W2, hR.mr h1, h2⟩
section STEPS
variable {sc : List Int32} {H : Hp} {z : Zc}
theorem st_engine (I : INV sc H) (e w : Int32) : ∃ v : Int32, StI sc 6 53 [some (.ref 1), some (.int e), some (.int w)] [some (.ref 78), some (.int e), some (.int w)] (.int v) z H := by
  obtain ⟨len, T, P, Sb, Ab, Sc, Ac, S, A, W, hC, hm, hR⟩ := I
  refine ⟨ansEngine P e w, finMop hC hm (fun _ _ => rfl) (fun Q => sengine_eq hC.1.2.1 hC.2.1 hR.2.1 e w z Q) hR ?_⟩
  rw [ansEngine_cg hR.2.2.1]
  exact mengine_op (hR.2.2.1.valid hR.2.1) e w z
theorem st_stone (I : INV sc H) (i w : Int32) : ∃ v : Int32, StI sc 7 54 [some (.ref 1), some (.int i), some (.int w), none] [some (.ref 78), some (.int i), some (.int w), none] (.int v) z H := by
  obtain ⟨len, T, P, Sb, Ab, Sc, Ac, S, A, W, hC, hm, hR⟩ := I
  refine ⟨ansStone P i w, finMop hC hm (fun _ _ => rfl) (fun Q => sstone_eq hC.1.2.1 hC.2.1 hR.2.1 i w z Q) hR ?_⟩
  rw [ansStone_cg hR.2.2.1 hR.2.1]
  exact mstone_op (hR.2.2.1.valid hR.2.1) i w z
theorem st_sheep (I : INV sc H) (e d : Int32) : ∃ v : Int32, StI sc 8 60 [some (.ref 1), some (.int e), some (.int d)] [some (.ref 78), some (.int e), some (.int d)] (.int v) z H := by
  obtain ⟨len, T, P, Sb, Ab, Sc, Ac, S, A, W, hC, hm, hR⟩ := I
  refine ⟨ansSheep P e d, finMop hC hm (fun _ _ => rfl) (fun Q => ssheep_eq hC.1.2.1 hC.2.1 hR.2.1 e d z Q) hR ?_⟩
  rw [ansSheep_cg hR.2.2.1]
  exact msheep_op (hR.2.2.1.valid hR.2.1) e d z
theorem st_aim (I : INV sc H) (i c : Int32) : ∃ v : Int32, StI sc 16 72 [some (.ref 1), some (.int i), some (.int c), none] [some (.ref 78), some (.int i), some (.int c), none] (.int v) z H := by
  obtain ⟨len, T, P, Sb, Ab, Sc, Ac, S, A, W, hC, hm, hR⟩ := I
  refine ⟨ansAim P i c, finMop hC hm (fun _ _ => rfl) (fun Q => saim_eq hC.1.2.1 hC.2.1 hR.2.1 i c z Q) hR ?_⟩
  rw [ansAim_cg hR.2.2.1 hR.2.1]
  exact maim_op (hR.2.2.1.valid hR.2.1) i c z
theorem st_crater (I : INV sc H) (w c : Int32) : ∃ v : Int32, StI sc 17 74 [some (.ref 1), some (.int w), some (.int c), none, none] [some (.ref 78), some (.int w), some (.int c), none, none] (.int v) z H := by
  obtain ⟨len, T, P, Sb, Ab, Sc, Ac, S, A, W, hC, hm, hR⟩ := I
  refine ⟨ansCrater P w c, finMop hC hm (fun _ _ => rfl) (fun Q => scrater_eq hC.1.2.1 hC.2.1 hR.2.1 w c z Q) hR ?_⟩
  rw [ansCrater_cg hR.2.2.1]
  exact mcrater_op (hR.2.2.1.valid hR.2.1) w c z
theorem st_least (I : INV sc H) (e w c : Int32) : ∃ v : Int32, StI sc 18 75 [some (.ref 1), some (.int e), some (.int w), some (.int c)] [some (.ref 78), some (.int e), some (.int w), some (.int c)] (.int v) z H := by
  obtain ⟨len, T, P, Sb, Ab, Sc, Ac, S, A, W, hC, hm, hR⟩ := I
  refine ⟨ansLeast P e w c, finMop hC hm (fun _ _ => rfl) (fun Q => sleast_eq hC.1.2.1 hC.2.1 hR.2.1 e w c z Q) hR ?_⟩
  rw [ansLeast_cg hR.2.2.1]
  exact mleast_op (hR.2.2.1.valid hR.2.1) e w c z
theorem gset_JK {H : Hp} {p : Prop} [Decidable p] (hJ : JK H) (f : Nat → Nat) (X : Dy) : JK (if p then gset H 35 f X else H) ∧ FR H (if p then gset H 35 f X else H) := by
  by_cases c : p
  · rw [if_pos c]
    obtain ⟨⟨P2, h1⟩, -⟩ := hJ
    exact ⟨⟨⟨P2, h1.keepG (by omega) _ _⟩, f, X, gset_C _ (by decide) _ _⟩, fun j hj => gset_ne _ _ _ (by omega)⟩
  · rw [if_neg c]
    exact ⟨hJ, FR.rfl' H⟩
theorem st_cell (I : INV sc H) (c d : Int32) : ∃ v : Int32, StI sc 9 61 [some (.ref 1), some (.int c), some (.int d)] [some (.ref 78), some (.int c), some (.int d)] (.int v) z H := by
  obtain ⟨len, T, P, Sb, Ab, Sc, Ac, S, A, W, hC, hm, hR⟩ := I
  obtain ⟨f, X, hg⟩ := hC.2.2.1.2
  obtain ⟨j1, j2⟩ := gset_JK (p := rgI c 0 9 ∧ rgI d 0 30) hC.2.2.1 (P 8) (runF P (nt d))
  refine ⟨ansCell P c d, finMop (hC.fr j1 j2) hm (fun j hj => j2 j (by omega)) (fun Q => scell_eq hC.1.2.1 hC.2.1 hR.2.1 hg c d z Q) hR ?_⟩
  rw [ansCell_cg hR.2.2.1 hR.2.1]
  exact mcell_op (hR.2.2.1.valid hR.2.1) c d z
theorem st_rubble (I : INV sc H) (d : Int32) : ∃ v : Int32, StI sc 10 62 [some (.ref 1), some (.int d)] [some (.ref 78), some (.int d)] (.int v) z H := by
  obtain ⟨len, T, P, Sb, Ab, Sc, Ac, S, A, W, hC, hm, hR⟩ := I
  obtain ⟨f, X, hg⟩ := hC.2.2.1.2
  obtain ⟨j1, j2⟩ := gset_JK (p := rgI d 0 30) hC.2.2.1 (P 8) (runF P (nt d))
  refine ⟨ansRubble P d, finMop (hC.fr j1 j2) hm (fun j hj => j2 j (by omega)) (fun Q => srubble_eq hC.1.2.1 hC.2.1 hR.2.1 hg d z Q) hR ?_⟩
  rw [ansRubble_cg hR.2.2.1 hR.2.1]
  exact mrubble_op (hR.2.2.1.valid hR.2.1) d z
theorem st_breach (I : INV sc H) (w : Int32) : ∃ v : Int32, StI sc 11 63 [some (.ref 1), some (.int w)] [some (.ref 78), some (.int w)] (.int v) z H := by
  obtain ⟨len, T, P, Sb, Ab, Sc, Ac, S, A, W, hC, hm, hR⟩ := I
  obtain ⟨f, X, hg⟩ := hC.2.2.1.2
  obtain ⟨j1, j2⟩ := gset_JK (p := rgI w 0 1) hC.2.2.1 (P 8) (runF P 30)
  refine ⟨ansBreach P w, finMop (hC.fr j1 j2) hm (fun j hj => j2 j (by omega)) (fun Q => sbreach_eq hC.1.2.1 hC.2.1 hR.2.1 hg w z Q) hR ?_⟩
  rw [ansBreach_cg hR.2.2.1 hR.2.1]
  exact mbreach_op (hR.2.2.1.valid hR.2.1) w z
theorem st_ballast (I : INV sc H) (e d : Int32) : ∃ v : Int32, StI sc 13 69 [some (.ref 1), some (.int e), some (.int d), none] [some (.ref 78), some (.int e), some (.int d), none, none, none] (.int v) z H := by
  obtain ⟨len, T, P, Sb, Ab, Sc, Ac, S, A, W, hC, hm, hR⟩ := I
  obtain ⟨h2, k1, k2, k3⟩ := sballast_op hC.1.2.1 hC.2.1 hR.2.1 hC.2.2.1 e d z
  refine ⟨ansBallast P e d, finMop (hC.fr k2 k3) hm (fun j hj => k3 j (by omega)) k1 hR ?_⟩
  rw [ansBallast_cg hR.2.2.1 hR.2.1]
  exact mballast_op (hR.2.2.1.valid hR.2.1) e d z
theorem st_hold (I : INV sc H) (d : Int32) : ∃ v : Int32, StI sc 14 70 [some (.ref 1), some (.int d), none] [some (.ref 78), some (.int d), none, none, none] (.int v) z H := by
  obtain ⟨len, T, P, Sb, Ab, Sc, Ac, S, A, W, hC, hm, hR⟩ := I
  obtain ⟨h2, k1, k2, k3⟩ := shold_op hC.1.2.1 hC.2.1 hR.2.1 hC.2.2.1 d z
  refine ⟨ansHold P d, finMop (hC.fr k2 k3) hm (fun j hj => k3 j (by omega)) k1 hR ?_⟩
  rw [ansHold_cg hR.2.2.1 hR.2.1]
  exact mhold_op (hR.2.2.1.valid hR.2.1) d z
theorem st_meal (I : INV sc H) (e d : Int32) : ∃ v : Int32, StI sc 15 71 [some (.ref 1), some (.int e), some (.int d), none] [some (.ref 78), some (.int e), some (.int d), none, none, none] (.int v) z H := by
  obtain ⟨len, T, P, Sb, Ab, Sc, Ac, S, A, W, hC, hm, hR⟩ := I
  obtain ⟨h2, k1, k2, k3⟩ := smeal_op hC.1.2.1 hC.2.1 hR.2.1 hC.2.2.1 e d z
  refine ⟨ansMeal P e d, finMop (hC.fr k2 k3) hm (fun j hj => k3 j (by omega)) k1 hR ?_⟩
  rw [ansMeal_cg hR.2.2.1 hR.2.1]
  exact mmeal_op (hR.2.2.1.valid hR.2.1) e d z
theorem st_year (I : INV sc H) (y w : Int32) : ∃ v : Int32, StI sc 20 77 [some (.ref 1), some (.int y), some (.int w), none] [some (.ref 78), some (.int y), some (.int w), none, none, none] (.int v) z H := by
  obtain ⟨len, T, P, Sb, Ab, Sc, Ac, S, A, W, hC, hm, hR⟩ := I
  obtain ⟨h2, k1, k2, k3⟩ := syear_op hC.1.2.1 hC.2.1 hR.2.1 hC.2.2.1 y w z
  refine ⟨ansYear P y w, finMop (hC.fr k2 k3) hm (fun j hj => k3 j (by omega)) k1 hR ?_⟩
  rw [ansYear_cg hR.2.2.1 hR.2.1]
  exact myear_op (hR.2.2.1.valid hR.2.1) y w z
theorem st_odds (I : INV sc H) (hh b x n p : Int32) : ∃ v : Int64, StI sc 19 76 [some (.ref 1), some (.int hh), some (.int b), some (.int x), some (.int n), some (.int p)] [some (.ref 78), some (.int hh), some (.int b), some (.int x), some (.int n), some (.int p), none, none, none, none, none, none, none, none] (.long v) z H := by
  obtain ⟨len, T, P, Sb, Ab, Sc, Ac, S, A, W, hC, hm, hR⟩ := I
  obtain ⟨a, bl, F, G, hq⟩ := hC.2.2.2.2.2.2.2
  obtain ⟨a2, b2', F2, G2, hs⟩ := sodds_op (a := a) (bl := bl) (F := F) (G := G) hC.1.2.1 hh b x n p z
  rw [hq] at hs
  refine ⟨ansOdds hh b x n p, finMop (H1 := qset H a2 b2' F2 G2) ?_ hm (fun j hj => qset_ne _ _ _ _ _ (by omega)) hs hR (modds_op hh b x n p z)⟩
  obtain ⟨⟨h0, h1, h2⟩, h3, h4, h5, h6, ⟨V, h7⟩, h8, -⟩ := hC
  have ne : ∀ j, j < 75 → qset H a2 b2' F2 G2 j = H j := fun j hj => qset_ne _ _ _ _ _ (by omega)
  exact ⟨⟨(ne 0 (by decide)).trans h0, (ne 1 (by decide)).trans h1, (ne 3 (by decide)).trans h2⟩, h3.same (fun j x y => ne j (by omega)), h4.same (fun j x y => ne j (by omega)), h5.same (fun j x y => ne j (by omega)), bset_keep h6 (fun j x y => ne j (by omega)), ⟨V, vset_keep h7 (fun j x y => ne j (by omega))⟩, cset_keep h8 (fun j x y => ne j (by omega)), a2, b2', F2, G2, by
    funext j
    unfold qset
    split
    · rfl
    · split
      · rfl
      · split <;> rfl⟩
theorem st_fault (I : INV sc H) : ∃ v : Int32, StI sc 4 43 [some (.ref 1)] [some (.ref 78)] (.int v) z H := by
  obtain ⟨len, T, P, Sb, Ab, Sc, Ac, S, A, W, hC, hm, hR⟩ := I
  obtain ⟨N, P2, r1, r2, r4, hp2⟩ := hC.2.2.2.1
  have hR' := hR
  obtain ⟨⟨l1, l2, l3, l4, l5⟩, hV, hP, -, -⟩ := hR
  have hE : Ev 4 (0, [some (.ref 1)], [], z, H) (fun v z' h' => v = some (.int (faV (allF T len 300 (noneP P2) 0))) ∧ z' = z ∧ RDq h' len ∧ ∀ j, (j < 2 ∨ j = 3 ∨ 14 < j) → h' j = H j) := by
    refine sfault_eq hC.1.2.1 l2 hC.1.2.2 l1 r1 r2 hp2 r4 z _ (fun N' hN => ⟨rfl, rfl, ⟨N', _, rdset_23 _ _ _ _, rdset_24 _ _ _ _, hN, rdset_P _ _ _ _⟩, fun j hj => rdset_ne _ _ _ _ hj⟩)
  obtain ⟨v, z', h', ⟨k1, k2, k4, k5⟩, hk⟩ := Ev.get hE
  rw [k1, k2] at hk
  refine ⟨faV (allF T len 300 (noneP P2) 0), finMop (hC.scr (hC.2.2.1.same (fun j a b => k5 j (by omega))) k4 (fun j a b => k5 j (by omega))) hm (fun j hj => k5 j (by omega)) hk hR' ?_⟩
  have ha := allF_cg (T := T) (U := A 1) (len := len) l4 300 (P := noneP P2) (R := noneP P2) 0 (PEq.rfl' _)
  have ev : faV (allF T len 300 (noneP P2) 0) = faV (allF (A 1) len 300 (noneP P2) 0) := by
    have e := ha.2
    generalize allF T len 300 (noneP P2) 0 = R1 at e
    generalize allF (A 1) len 300 (noneP P2) 0 = R2 at e
    obtain ⟨p1, o1⟩ := R1
    obtain ⟨p2, o2⟩ := R2
    dsimp only at e
    subst e
    cases o1 <;> rfl
  rw [ev]
  exact mfault_op (hP.valid hV) l3 l1 l5 P2 z
theorem st_count (I : INV sc H) (w : Int32) : ∃ v : Int32, StI sc 26 84 [some (.ref 1), some (.int w)] [some (.ref 78), some (.int w)] (.int v) z H := by
  obtain ⟨len, T, P, Sb, Ab, Sc, Ac, S, A, W, hC, hm, hR⟩ := I
  have hc := hC.2.2.2.2.2.2.1
  obtain ⟨N, P2, r1, -⟩ := hC.2.2.2.1
  have hs := fun Q => scount_eq (h := H) (len := len) (P := P) (S := Sc) (A := Ac) (by rw [hc]; exact hC.1.2.1) (by rw [hc]; exact r1) (by rw [hc]; exact hC.2.1) w z Q
  rw [hc] at hs
  refine ⟨_, finMop hC hm (fun _ _ => rfl) hs hR ⟨S, A, W, MR.rfl' S A, fun Q => ?_⟩⟩
  rw [mcount_eq]
  obtain ⟨⟨l1, l2, l3, l4, l5⟩, hV, ⟨⟨e0, e1, e2, e3⟩, -⟩, -, -, u, k, ⟨u1, u2, k1, k2, u3, k3⟩, -⟩ := hR
  have e : ansCount (MP A) (S 0) (S 2) (S 1) w = ansCount P (nI len) (Sc 0) (Sc 1) w := by
    unfold ansCount
    rw [e0, e1, e2, e3, l3, u1, k1, u3, k3]
  rw [e]
end STEPS
