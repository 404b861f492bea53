/-! the class: what would be, tried on the scratch plan -/
def JK (h : Hp) : Prop := (∃ P2, PlanC h 25 P2) ∧ ∃ f X, SiegeC h 35 f X
def FR (h h2 : Hp) : Prop := ∀ j, (j < 25 ∨ (34 < j ∧ j < 35) ∨ 38 < j) → h2 j = h j
def Sop (mj : Nat) (L : List (Option Value)) (r : Value) (z : Zc) (h : Hp) : Prop := ∃ h2, (∀ Q, Ev mj (0, L, [], z, h) Q = Q (some r) z h2) ∧ JK h2 ∧ FR h h2
theorem FR.rfl' (h : Hp) : FR h h := fun _ _ => rfl
theorem FR.trans {h h2 h3 : Hp} (a : FR h h2) (b : FR h2 h3) : FR h h3 := fun j q => (b j q).trans (a j q)
theorem SiegeC.same {h h2 : Hp} {g : Nat} {f : Nat → Nat} {X : Dy} (hg : SiegeC h g f X) (hs : ∀ j, g ≤ j → j ≤ g + 3 → h2 j = h j) : SiegeC h2 g f X := by
  obtain ⟨g0, g1, w0, w1, w2, w3⟩ := hg
  exact ⟨g0, (hs _ (by omega) (by omega)).trans g1, w0, (hs _ (by omega) (by omega)).trans w1, (hs _ (by omega) (by omega)).trans w2, (hs _ (by omega) (by omega)).trans w3⟩
theorem SiegeC.keepP {h : Hp} {p g : Nat} {f : Nat → Nat} {X : Dy} (hg : SiegeC h g f X) (P : Pl) (hd : p + 9 < g ∨ g + 3 < p) : SiegeC (pset h p P) g f X := hg.same (fun j h1 h2 => pset_ne h P (by omega))
def brk (P : Pl) (d : Nat) : Bool := !((runF P d).2.1 == 0)
theorem brk_iff (P : Pl) (d : Nat) : brk P d = true ↔ ¬ (runF P d).2.1 = 0 := by
  unfold brk
  rw [Bool.not_eq_true', beq_eq_false_iff_ne]
def fF (T : Nat → Bool) (M : Nat) : Nat → Nat
  | 0 => M + 1
  | n + 1 => if T (M - n) = true then M - n else fF T M n
def gF (T : Nat → Bool) : Nat → Nat
  | 0 => 10
  | n + 1 => if T n = true then n else gF T n
theorem fup_fup {α : Type} (f : Nat → α) (k : Nat) (a b : α) : fup (fup f k a) k b = fup f k b := by
  funext j
  rw [fup_at, fup_at, fup_at]
  split <;> rfl
theorem fup_id {α : Type} (f : Nat → α) (k : Nat) : fup f k (f k) = f := by
  funext j
  rw [fup_at]
  split
  · rename_i q; rw [q]
  · rfl
/-- plans with one number another -/
def wRow (r : Nat) (P : Pl) (e s : Nat) : Pl := fup P r (fup (P r) e s)
theorem wRow_again (r : Nat) (P : Pl) (e x s : Nat) : fup (wRow r P e x) r (fup (wRow r P e x r) e s) = wRow r P e s := by
  unfold wRow
  rw [fup_self, fup_fup, fup_fup]
theorem wRow_2_valid {P : Pl} (hV : Valid P) {e s : Nat} (hs : s ≤ 60) : Valid (wRow 2 P e s) := by
  obtain ⟨v0, v1, v2, v3, v4, v5, v6, v7⟩ := hV
  refine ⟨v0, v1, v2, v3, fun i hi => ?_, v5, v6, v7⟩
  have h2 : wRow 2 P e s 2 i = fup (P 2) e s i := rfl
  obtain ⟨a, b, c, d, f⟩ := v4 i hi
  refine ⟨a, b, ?_, d, f⟩
  rw [h2, fup_at]
  split
  · exact hs
  · exact c
theorem wRow_4_valid {P : Pl} (hV : Valid P) {e s : Nat} (hs : s ≤ 9) : Valid (wRow 4 P e s) := by
  obtain ⟨v0, v1, v2, v3, v4, v5, v6, v7⟩ := hV
  refine ⟨v0, v1, v2, v3, fun i hi => ?_, v5, v6, v7⟩
  have h2 : wRow 4 P e s 4 i = fup (P 4) e s i := rfl
  obtain ⟨a, b, c, d, f⟩ := v4 i hi
  refine ⟨a, b, c, d, ?_⟩
  rw [h2, fup_at]
  split
  · exact hs
  · exact f
theorem wRow_0_valid {P : Pl} (hV : Valid P) {s : Nat} (hs : s ≤ 9) : Valid (wRow 0 P 2 s) := by
  obtain ⟨v0, v1, v2, v3, v4, v5, v6, v7⟩ := hV
  exact ⟨v0, v1, hs, v3, v4, v5, v6, v7⟩
-- the siege of the scratch plan
theorem sTry {H : Hp} {len d : Nat} {R : Pl} (hR : Valid R) (hd : d ≤ 30) (hS : SO H len) (hg : ∃ f X, SiegeC H 35 f X) (z : Zc) : ∃ h2, (∀ Q, Ev 125 (0, [some (.ref 35), some (.ref 25), some (.int (nI d)), none], [], z, pset H 25 R) Q = Q (some (.int (b2 (brk R d = true)))) z h2) ∧ SO h2 len ∧ PlanC h2 25 R ∧ (∃ f X, SiegeC h2 35 f X) ∧ FR H h2 := by
  obtain ⟨f, X, hg⟩ := hg
  have hP := pset_C H (p := 25) (by decide) R
  have hg2 := hg.keepP (p := 25) R (by omega)
  have hb := breachesBy_eq hP hR hg2 (by omega) hd z
  have eb : b2 (¬ (runF R d).2.1 = 0) = b2 (brk R d = true) := b2_congr (brk_iff R d).symm
  rw [eb] at hb
  refine ⟨_, hb, ?_, hP.keepG (by omega) _ _, ⟨_, _, gset_C _ (by decide) _ _⟩, fun j hj => ?_⟩
  · unfold SO
    rw [gset_ne _ _ _ (by omega), pset_ne _ _ (by omega)]
    exact hS
  · rw [gset_ne _ _ _ (by omega), pset_ne _ _ (by omega)]
theorem siege_ck {H : Hp} {f : Nat → Nat} {X : Dy} (hg : SiegeC H 35 f X) (R : Pl) : pset H 25 R 35 = some (oG (.ref 36) (.int (dN X.2.1)) (.int (cN4 X.2.2))) := (pset_ne H R (by omega)).trans hg.2.1
def baT (P : Pl) (e d s : Nat) : Bool := brk (wRow 2 P e s) d
def hoT (P : Pl) (d b : Nat) : Bool := !brk (wRow 0 P 2 b) d
def meT (P : Pl) (e d n : Nat) : Bool := brk (wRow 4 P e n) d
def ansBallast (P : Pl) (e d : Int32) : Int32 := if inI e (P 0 0) ∧ rgI d 1 30 then l61 (fF (baT P (nt e) (nt d)) 60 61) else -1
def ansHold (P : Pl) (d : Int32) : Int32 := if rgI d 1 30 then cN4 (fF (hoT P (nt d)) 9 10) else -1
def ansMeal (P : Pl) (e d : Int32) : Int32 := if inI e (P 0 0) ∧ rgI d 1 30 then cN4 (gF (meT P (nt e) (nt d)) 10) else -1
theorem sballast_loop {len e d : Nat} {P : Pl} (hV : Valid P) (he : e < P 0 0) (hd : d ≤ 30) (z : Zc) :
    ∀ n s, n + s = 61 → ∀ (H : Hp) (x : Nat), SO H len → PlanC H 25 (wRow 2 P e x) → (∃ f X, SiegeC H 35 f X) →
    ∃ h2, (∀ Q, Ev 13 (36, [some (.ref 1), some (.int (nI e)), some (.int (nI d)), some (.int (nI s))], [], z, H) Q = Q (some (.int (l61 (fF (baT P e d) 60 n)))) z h2) ∧ JK h2 ∧ FR H h2 := by
  have v0 := hV.1
  intro n
  induction n with
  | zero =>
    intro s hs H x hS hP hg
    have e61 : s = 61 := by omega
    subst e61
    refine ⟨H, fun Q => ?_, ⟨⟨_, hP⟩, hg⟩, FR.rfl' H⟩
    rw [m13_36]
    simp only [m13_0, m13_1, m13_4, m13_5, m13_8, m13_11, m13_12, m13_13, m13_15, m13_18, m13_21, m13_22, m13_23, m13_24, m13_27, m13_28, m13_31, m13_34, m13_35, m13_37, m13_39, m13_42, m13_43, m13_46, m13_49, m13_50, m13_51, m13_52, m13_53, m13_56, m13_57, m13_60, m13_61, m13_64, m13_67, m13_68, m13_69, m13_72, m13_75, m13_77, nlt (a := 60) (b := 61) (by decide) (by decide), Nat.reduceLT, if_true]
    rfl
  | succ n ih =>
    intro s hs H x hS hP hg
    have e0 : 60 - n = s := by omega
    have hs60 : ¬ 60 < s := by omega
    obtain ⟨h2, hb, k1, k2, k3, k4⟩ := sTry (R := wRow 2 P e s) (wRow_2_valid hV (by omega)) hd hS hg z
    have hck : ∃ x1 x2 x3, pset H 25 (wRow 2 P e s) 35 = some (oG x1 x2 x3) := by
      obtain ⟨f, X, hg⟩ := hg
      exact ⟨_, _, _, siege_ck hg _⟩
    obtain ⟨x1, x2, x3, hck⟩ := hck
    have a1 := isE_AI (n := 3) (j := e) (wRow 2 P e x 2) s (by omega) (by decide)
    have hr : hput H 27 (AI 3 (fup (wRow 2 P e x 2) e s)) = pset H 25 (wRow 2 P e s) := by
      have := pset_r2 H 25 (wRow 2 P e x) (fup (wRow 2 P e x 2) e s)
      rw [wRow_again, hP.id] at this
      exact this
    have p1 : H 25 = some (poE 25 (wRow 2 P e x)) := hP.2.1
    unfold poE at p1
    have p3 : H 27 = some (AI 3 (wRow 2 P e x 2)) := hP.2.2.2.1
    have hS1 := hS
    unfold SO at hS1
    have q1 : pset H 25 (wRow 2 P e s) 1 = H 1 := pset_ne H _ (by omega)
    have lt := nlt (a := 60) (b := s) (by decide) (by omega)
    by_cases g : brk (wRow 2 P e s) d = true
    · refine ⟨h2, fun Q => ?_, ⟨⟨_, k2⟩, k3⟩, k4⟩
      rw [m13_36, fF, e0, if_pos (show baT P e d s = true from g), show l61 s = nI s from if_neg (by omega)]
      simp only [m13_0, m13_1, m13_4, m13_5, m13_8, m13_11, m13_12, m13_13, m13_15, m13_18, m13_21, m13_22, m13_23, m13_24, m13_27, m13_28, m13_31, m13_34, m13_35, m13_37, m13_39, m13_42, m13_43, m13_46, m13_49, m13_50, m13_51, m13_52, m13_53, m13_56, m13_57, m13_60, m13_61, m13_64, m13_67, m13_68, m13_69, m13_72, m13_75, m13_77, ob_some, pushr_s, pushr_n, iget_eq, gf_eq, pf_eq, ck_eq, alen_eq, rget_eq, iset_eq, Option.bind_some, Option.map_some, Option.elim_some, hput_at, ↓reduceIte, Nat.reduceEqDiff, Nat.reduceAdd, ne_eq, not_false_eq_true, oS_ck, oS_g0, oS_p0, oS_g1, oS_p1, oS_g2, oS_p2, oS_g3, oS_p3, oS_g4, oS_p4, oS_g5, oS_p5, oS_g6, oS_p6, oP_ck, oP_g0, oP_p0, oP_g1, oP_p1, oP_g2, oP_p2, oP_g3, oP_p3, oP_g4, oP_p4, oP_g5, oP_p5, oP_g6, oP_p6, oP_g7, oP_p7, oP_g8, oP_p8, oP_g9, oP_p9, oP_g10, oP_p10, oP_g11, oP_p11, oP_g12, oP_p12, oR_ck, oR_g0, oR_p0, oR_g1, oR_p1, oR_g2, oR_p2, oR_g3, oR_p3, oG_ck, oG_g0, oG_p0, oG_g1, oG_p1, oG_g2, oG_p2, oW_ck, oW_g0, oW_p0, oW_g1, oW_p1, oW_g2, oW_p2, oB_ck, oB_g0, oB_p0, oB_g1, oB_p1, oB_g2, oB_p2, oB_g3, oB_p3, oB_g4, oB_p4, oB_g5, oB_p5, oB_g6, oB_p6, oC_ck, oC_g0, oC_p0, oC_g1, oC_p1, oC_g2, oC_p2, oC_g3, oC_p3, oC_g4, oC_p4, oC_g5, oC_p5, oC_g6, oC_p6, oH_ck, oH_g0, oH_p0, oH_g1, oH_p1, oH_g2, oH_p2, oH_g3, oH_p3, oM_ck, oM_g0, oM_p0, oM_g1, oM_p1, oM_g2, oM_p2, oM_g3, oM_p3, oM_g4, oM_p4, oM_g5, oM_p5, oM_g6, oM_p6, oM_g7, oM_p7, oM_g8, oM_p8, oM_g9, oM_p9, oM_g10, oM_p10, oM_g11, oM_p11, oM_g12, oM_p12, oM_g13, oM_p13, oM_g14, oM_p14, oM_g15, oM_p15, oM_g16, oM_p16, oM_g17, oM_p17, oM_g18, oM_p18, oM_g19, oM_p19, oM_g20, oM_p20, oM_g21, oM_p21, oM_g22, oM_p22, oM_g23, oM_p23, oM_g24, oM_p24, oM_g25, oM_p25, oM_g26, oM_p26, oM_g27, oM_p27, oM_g28, oM_p28, oM_g29, oM_p29, lt, hs60, if_false, hS1, p1, p3, a1, hr, q1, hck, hb, bt g]
    · obtain ⟨h3, hq, j1, j2⟩ := ih (s + 1) (by omega) h2 s k1 k2 k3
      refine ⟨h3, fun Q => ?_, j1, k4.trans j2⟩
      rw [m13_36, fF, e0, if_neg (show ¬ baT P e d s = true from g)]
      simp only [m13_0, m13_1, m13_4, m13_5, m13_8, m13_11, m13_12, m13_13, m13_15, m13_18, m13_21, m13_22, m13_23, m13_24, m13_27, m13_28, m13_31, m13_34, m13_35, m13_37, m13_39, m13_42, m13_43, m13_46, m13_49, m13_50, m13_51, m13_52, m13_53, m13_56, m13_57, m13_60, m13_61, m13_64, m13_67, m13_68, m13_69, m13_72, m13_75, m13_77, ob_some, pushr_s, pushr_n, iget_eq, gf_eq, pf_eq, ck_eq, alen_eq, rget_eq, iset_eq, Option.bind_some, Option.map_some, Option.elim_some, hput_at, ↓reduceIte, Nat.reduceEqDiff, Nat.reduceAdd, ne_eq, not_false_eq_true, oS_ck, oS_g0, oS_p0, oS_g1, oS_p1, oS_g2, oS_p2, oS_g3, oS_p3, oS_g4, oS_p4, oS_g5, oS_p5, oS_g6, oS_p6, oP_ck, oP_g0, oP_p0, oP_g1, oP_p1, oP_g2, oP_p2, oP_g3, oP_p3, oP_g4, oP_p4, oP_g5, oP_p5, oP_g6, oP_p6, oP_g7, oP_p7, oP_g8, oP_p8, oP_g9, oP_p9, oP_g10, oP_p10, oP_g11, oP_p11, oP_g12, oP_p12, oR_ck, oR_g0, oR_p0, oR_g1, oR_p1, oR_g2, oR_p2, oR_g3, oR_p3, oG_ck, oG_g0, oG_p0, oG_g1, oG_p1, oG_g2, oG_p2, oW_ck, oW_g0, oW_p0, oW_g1, oW_p1, oW_g2, oW_p2, oB_ck, oB_g0, oB_p0, oB_g1, oB_p1, oB_g2, oB_p2, oB_g3, oB_p3, oB_g4, oB_p4, oB_g5, oB_p5, oB_g6, oB_p6, oC_ck, oC_g0, oC_p0, oC_g1, oC_p1, oC_g2, oC_p2, oC_g3, oC_p3, oC_g4, oC_p4, oC_g5, oC_p5, oC_g6, oC_p6, oH_ck, oH_g0, oH_p0, oH_g1, oH_p1, oH_g2, oH_p2, oH_g3, oH_p3, oM_ck, oM_g0, oM_p0, oM_g1, oM_p1, oM_g2, oM_p2, oM_g3, oM_p3, oM_g4, oM_p4, oM_g5, oM_p5, oM_g6, oM_p6, oM_g7, oM_p7, oM_g8, oM_p8, oM_g9, oM_p9, oM_g10, oM_p10, oM_g11, oM_p11, oM_g12, oM_p12, oM_g13, oM_p13, oM_g14, oM_p14, oM_g15, oM_p15, oM_g16, oM_p16, oM_g17, oM_p17, oM_g18, oM_p18, oM_g19, oM_p19, oM_g20, oM_p20, oM_g21, oM_p21, oM_g22, oM_p22, oM_g23, oM_p23, oM_g24, oM_p24, oM_g25, oM_p25, oM_g26, oM_p26, oM_g27, oM_p27, oM_g28, oM_p28, oM_g29, oM_p29, lt, hs60, if_false, hS1, p1, p3, a1, hr, q1, hck, hb, bf g, if_true, nI_add]
      exact hq Q
theorem copy_try {h : Hp} {len : Nat} {P : Pl} (hS : SO h len) (hP : PlanC h 15 P) (hJ : JK h) (z : Zc) : ∃ H, (∀ Q, Ev 108 (0, [some (.ref 25), some (.ref 15)], [], z, h) Q = Q none z H) ∧ SO H len ∧ PlanC H 25 P ∧ (∃ f X, SiegeC H 35 f X) ∧ FR h H := by
  obtain ⟨⟨P2, h13⟩, f, X, hg⟩ := hJ
  refine ⟨pset h 25 P, copyFrom_eq h13 hP (by omega) z, ?_, pset_C h (by decide) P, ⟨f, X, hg.keepP P (by omega)⟩, fun j hj => pset_ne h P (by omega)⟩
  unfold SO
  rw [pset_ne _ _ (by omega)]
  exact hS
theorem sballast_op {h : Hp} {len : Nat} {P : Pl} (hS : SO h len) (hP : PlanC h 15 P) (hV : Valid P) (hJ : JK h) (e d : Int32) (z : Zc) : Sop 13 [some (.ref 1), some (.int e), some (.int d), none] (.int (ansBallast P e d)) z h := by
  have hE := hasEngine_eq hP e z
  have v0 : P 0 0 ≤ 3 := hV.1
  have p1 := hP.2.1
  have hS1 := hS
  unfold SO at hS1
  unfold ansBallast
  have ec := in_c e (n := P 0 0) (by omega)
  have ed := rg_c d (lo := 1) (hi := 30) (by decide) (by decide)
  by_cases c1 : inI e (P 0 0)
  · by_cases c2 : rgI d 1 30
    · rw [if_pos ⟨c1, c2⟩]
      obtain ⟨e1, e2⟩ := in_nt c1
      obtain ⟨d1, d2, d3⟩ := rg_nt c2
      obtain ⟨H, hc, k1, k2, k3, k4⟩ := copy_try hS hP hJ z
      have ew : wRow 2 P (nt e) (P 2 (nt e)) = P := by unfold wRow; rw [fup_id, fup_id]
      obtain ⟨h2, hq, j1, j2⟩ := sballast_loop (d := nt d) hV e2 d3 z 61 0 rfl H (P 2 (nt e)) k1 (by rw [ew]; exact k2) k3
      rw [← e1, ← d1] at hq
      have hck : h 25 = some (poE 25 (Classical.choose hJ.1)) := (Classical.choose_spec hJ.1).2.1
      unfold poE at hck
      refine ⟨h2, fun Q => ?_, j1, k4.trans j2⟩
      simp only [m13_0, m13_1, m13_4, m13_5, m13_8, m13_11, m13_12, m13_13, m13_15, m13_18, m13_21, m13_22, m13_23, m13_24, m13_27, m13_28, m13_31, m13_34, m13_35, m13_37, m13_39, m13_42, m13_43, m13_46, m13_49, m13_50, m13_51, m13_52, m13_53, m13_56, m13_57, m13_60, m13_61, m13_64, m13_67, m13_68, m13_69, m13_72, m13_75, m13_77, ob_some, pushr_s, pushr_n, iget_eq, gf_eq, pf_eq, ck_eq, alen_eq, rget_eq, iset_eq, Option.bind_some, Option.map_some, Option.elim_some, hput_at, ↓reduceIte, Nat.reduceEqDiff, Nat.reduceAdd, ne_eq, not_false_eq_true, oS_ck, oS_g0, oS_p0, oS_g1, oS_p1, oS_g2, oS_p2, oS_g3, oS_p3, oS_g4, oS_p4, oS_g5, oS_p5, oS_g6, oS_p6, oP_ck, oP_g0, oP_p0, oP_g1, oP_p1, oP_g2, oP_p2, oP_g3, oP_p3, oP_g4, oP_p4, oP_g5, oP_p5, oP_g6, oP_p6, oP_g7, oP_p7, oP_g8, oP_p8, oP_g9, oP_p9, oP_g10, oP_p10, oP_g11, oP_p11, oP_g12, oP_p12, oR_ck, oR_g0, oR_p0, oR_g1, oR_p1, oR_g2, oR_p2, oR_g3, oR_p3, oG_ck, oG_g0, oG_p0, oG_g1, oG_p1, oG_g2, oG_p2, oW_ck, oW_g0, oW_p0, oW_g1, oW_p1, oW_g2, oW_p2, oB_ck, oB_g0, oB_p0, oB_g1, oB_p1, oB_g2, oB_p2, oB_g3, oB_p3, oB_g4, oB_p4, oB_g5, oB_p5, oB_g6, oB_p6, oC_ck, oC_g0, oC_p0, oC_g1, oC_p1, oC_g2, oC_p2, oC_g3, oC_p3, oC_g4, oC_p4, oC_g5, oC_p5, oC_g6, oC_p6, oH_ck, oH_g0, oH_p0, oH_g1, oH_p1, oH_g2, oH_p2, oH_g3, oH_p3, oM_ck, oM_g0, oM_p0, oM_g1, oM_p1, oM_g2, oM_p2, oM_g3, oM_p3, oM_g4, oM_p4, oM_g5, oM_p5, oM_g6, oM_p6, oM_g7, oM_p7, oM_g8, oM_p8, oM_g9, oM_p9, oM_g10, oM_p10, oM_g11, oM_p11, oM_g12, oM_p12, oM_g13, oM_p13, oM_g14, oM_p14, oM_g15, oM_p15, oM_g16, oM_p16, oM_g17, oM_p17, oM_g18, oM_p18, oM_g19, oM_p19, oM_g20, oM_p20, oM_g21, oM_p21, oM_g22, oM_p22, oM_g23, oM_p23, oM_g24, oM_p24, oM_g25, oM_p25, oM_g26, oM_p26, oM_g27, oM_p27, oM_g28, oM_p28, oM_g29, oM_p29, hS1, p1, hE, ec, bt c1, within_eq, ed, bt c2, if_false, hck, hc]
      exact hq Q
    · rw [if_neg (fun q => c2 q.2)]
      refine ⟨h, fun Q => ?_, hJ, FR.rfl' h⟩
      simp only [m13_0, m13_1, m13_4, m13_5, m13_8, m13_11, m13_12, m13_13, m13_15, m13_18, m13_21, m13_22, m13_23, m13_24, m13_27, m13_28, m13_31, m13_34, m13_35, m13_37, m13_39, m13_42, m13_43, m13_46, m13_49, m13_50, m13_51, m13_52, m13_53, m13_56, m13_57, m13_60, m13_61, m13_64, m13_67, m13_68, m13_69, m13_72, m13_75, m13_77, ob_some, pushr_s, pushr_n, iget_eq, gf_eq, pf_eq, ck_eq, alen_eq, rget_eq, iset_eq, Option.bind_some, Option.map_some, Option.elim_some, hput_at, ↓reduceIte, Nat.reduceEqDiff, Nat.reduceAdd, ne_eq, not_false_eq_true, oS_ck, oS_g0, oS_p0, oS_g1, oS_p1, oS_g2, oS_p2, oS_g3, oS_p3, oS_g4, oS_p4, oS_g5, oS_p5, oS_g6, oS_p6, oP_ck, oP_g0, oP_p0, oP_g1, oP_p1, oP_g2, oP_p2, oP_g3, oP_p3, oP_g4, oP_p4, oP_g5, oP_p5, oP_g6, oP_p6, oP_g7, oP_p7, oP_g8, oP_p8, oP_g9, oP_p9, oP_g10, oP_p10, oP_g11, oP_p11, oP_g12, oP_p12, oR_ck, oR_g0, oR_p0, oR_g1, oR_p1, oR_g2, oR_p2, oR_g3, oR_p3, oG_ck, oG_g0, oG_p0, oG_g1, oG_p1, oG_g2, oG_p2, oW_ck, oW_g0, oW_p0, oW_g1, oW_p1, oW_g2, oW_p2, oB_ck, oB_g0, oB_p0, oB_g1, oB_p1, oB_g2, oB_p2, oB_g3, oB_p3, oB_g4, oB_p4, oB_g5, oB_p5, oB_g6, oB_p6, oC_ck, oC_g0, oC_p0, oC_g1, oC_p1, oC_g2, oC_p2, oC_g3, oC_p3, oC_g4, oC_p4, oC_g5, oC_p5, oC_g6, oC_p6, oH_ck, oH_g0, oH_p0, oH_g1, oH_p1, oH_g2, oH_p2, oH_g3, oH_p3, oM_ck, oM_g0, oM_p0, oM_g1, oM_p1, oM_g2, oM_p2, oM_g3, oM_p3, oM_g4, oM_p4, oM_g5, oM_p5, oM_g6, oM_p6, oM_g7, oM_p7, oM_g8, oM_p8, oM_g9, oM_p9, oM_g10, oM_p10, oM_g11, oM_p11, oM_g12, oM_p12, oM_g13, oM_p13, oM_g14, oM_p14, oM_g15, oM_p15, oM_g16, oM_p16, oM_g17, oM_p17, oM_g18, oM_p18, oM_g19, oM_p19, oM_g20, oM_p20, oM_g21, oM_p21, oM_g22, oM_p22, oM_g23, oM_p23, oM_g24, oM_p24, oM_g25, oM_p25, oM_g26, oM_p26, oM_g27, oM_p27, oM_g28, oM_p28, oM_g29, oM_p29, hS1, p1, hE, ec, bt c1, within_eq, ed, bf c2, if_false, if_true]
  · rw [if_neg (fun q => c1 q.1)]
    refine ⟨h, fun Q => ?_, hJ, FR.rfl' h⟩
    simp only [m13_0, m13_1, m13_4, m13_5, m13_8, m13_11, m13_12, m13_13, m13_15, m13_18, m13_21, m13_22, m13_23, m13_24, m13_27, m13_28, m13_31, m13_34, m13_35, m13_37, m13_39, m13_42, m13_43, m13_46, m13_49, m13_50, m13_51, m13_52, m13_53, m13_56, m13_57, m13_60, m13_61, m13_64, m13_67, m13_68, m13_69, m13_72, m13_75, m13_77, ob_some, pushr_s, pushr_n, iget_eq, gf_eq, pf_eq, ck_eq, alen_eq, rget_eq, iset_eq, Option.bind_some, Option.map_some, Option.elim_some, hput_at, ↓reduceIte, Nat.reduceEqDiff, Nat.reduceAdd, ne_eq, not_false_eq_true, oS_ck, oS_g0, oS_p0, oS_g1, oS_p1, oS_g2, oS_p2, oS_g3, oS_p3, oS_g4, oS_p4, oS_g5, oS_p5, oS_g6, oS_p6, oP_ck, oP_g0, oP_p0, oP_g1, oP_p1, oP_g2, oP_p2, oP_g3, oP_p3, oP_g4, oP_p4, oP_g5, oP_p5, oP_g6, oP_p6, oP_g7, oP_p7, oP_g8, oP_p8, oP_g9, oP_p9, oP_g10, oP_p10, oP_g11, oP_p11, oP_g12, oP_p12, oR_ck, oR_g0, oR_p0, oR_g1, oR_p1, oR_g2, oR_p2, oR_g3, oR_p3, oG_ck, oG_g0, oG_p0, oG_g1, oG_p1, oG_g2, oG_p2, oW_ck, oW_g0, oW_p0, oW_g1, oW_p1, oW_g2, oW_p2, oB_ck, oB_g0, oB_p0, oB_g1, oB_p1, oB_g2, oB_p2, oB_g3, oB_p3, oB_g4, oB_p4, oB_g5, oB_p5, oB_g6, oB_p6, oC_ck, oC_g0, oC_p0, oC_g1, oC_p1, oC_g2, oC_p2, oC_g3, oC_p3, oC_g4, oC_p4, oC_g5, oC_p5, oC_g6, oC_p6, oH_ck, oH_g0, oH_p0, oH_g1, oH_p1, oH_g2, oH_p2, oH_g3, oH_p3, oM_ck, oM_g0, oM_p0, oM_g1, oM_p1, oM_g2, oM_p2, oM_g3, oM_p3, oM_g4, oM_p4, oM_g5, oM_p5, oM_g6, oM_p6, oM_g7, oM_p7, oM_g8, oM_p8, oM_g9, oM_p9, oM_g10, oM_p10, oM_g11, oM_p11, oM_g12, oM_p12, oM_g13, oM_p13, oM_g14, oM_p14, oM_g15, oM_p15, oM_g16, oM_p16, oM_g17, oM_p17, oM_g18, oM_p18, oM_g19, oM_p19, oM_g20, oM_p20, oM_g21, oM_p21, oM_g22, oM_p22, oM_g23, oM_p23, oM_g24, oM_p24, oM_g25, oM_p25, oM_g26, oM_p26, oM_g27, oM_p27, oM_g28, oM_p28, oM_g29, oM_p29, hS1, p1, hE, ec, bf c1, if_true]
