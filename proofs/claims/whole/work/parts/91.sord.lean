/-! the class: order answered -/
def BestP (P : Pl) (day : Nat) (w : Nat → Nat) : Prop := Best (P 0 1) (fun k => P 7 (thK P k)) (dayO P) (fun _ => True) day w
theorem ap_thL {P : Pl} (hV : Valid P) (X : Nat → Nat) : ∀ k, k < P 0 1 → apL (thL P) X k = thK P k := fun k hk => by
  unfold apL
  rw [List.getD_eq_getElem?_getD, thK_get hV hk]
  rfl
theorem ap_w {P : Pl} (hV : Valid P) (Y : Nat → Nat) : ∀ k, k < P 0 1 → apL ((thL P).map (P 7)) Y k = P 7 (thK P k) := fun k hk => by
  unfold apL
  rw [List.getD_eq_getElem?_getD, List.getElem?_map, thK_get hV hk]
  rfl
theorem row0_prm {P : Pl} (hV : Valid P) (Y : Nat → Nat) : PrmF (P 0 1) (row0 P Y) (fun k => P 7 (thK P k)) :=
  ((soF_spec (up := true) (apL ((thL P).map (P 7)) Y) (Nat.zero_le _)).2.2).trans (fun v => cntF_cg v _ (ap_w hV Y))
theorem row0_asc {P : Pl} (Y : Nat → Nat) : ∀ x y, 0 ≤ x → x < y → y < P 0 1 → row0 P Y x ≤ row0 P Y y := soF_asc _ (Nat.zero_le _)
theorem row0_vals {P : Pl} (hV : Valid P) (Y : Nat → Nat) : ∀ j, j < P 0 1 → 1 ≤ row0 P Y j ∧ row0 P Y j ≤ 20 := prm_vals (p := fun x => 1 ≤ x ∧ x ≤ 20) (row0_prm hV Y) (fun j hj => by
  have := hV.2.2.2.2.2.1 _ (thK_lt hV hj)
  exact this.2.2.2)
def findF (P : Pl) (w0 Y : Nat → Nat) : Nat × (Nat → Nat) := if opF (P 8) 10 = 10 then seF (okB P) (dyK P) (P 0 1) 1000 0 (row0 P Y) 0 w0 else (1, row0 P Y)
theorem best_none {n : Nat} {a0 w : Nat → Nat} {D : (Nat → Nat) → Nat} {S : (Nat → Nat) → Prop} (h : ∀ c, PrmF n c a0 → ¬ S c) : Best n a0 D S 0 w := ⟨fun q => absurd rfl q, fun c hc hs => absurd hs (h c hc)⟩
theorem findF_best {P : Pl} (hV : Valid P) (w0 Y : Nat → Nat) : BestP P (findF P w0 Y).1 (findF P w0 Y).2 := by
  have v1 := hV.2.1
  unfold findF BestP
  by_cases c : opF (P 8) 10 = 10
  · rw [if_pos c]
    have ed : dayO P = fun c => DF (okB P c) (dyK P) (P 0 1) (P 0 1) := by
      funext x
      unfold dayO
      rw [if_pos c]
    rw [ed]
    have hfac : fac (P 0 1) ≤ 720 := by
      have h6 : P 0 1 = 0 ∨ P 0 1 = 1 ∨ P 0 1 = 2 ∨ P 0 1 = 3 ∨ P 0 1 = 4 ∨ P 0 1 = 5 ∨ P 0 1 = 6 := by omega
      rcases h6 with e | e | e | e | e | e | e <;> (rw [e]; decide)
    have h1 : PrmF (P 0 1) (row0 P Y) (fun k => P 7 (thK P k)) := row0_prm hV Y
    have h2 : Best (P 0 1) (fun k => P 7 (thK P k)) (fun c => DF (okB P c) (dyK P) (P 0 1) (P 0 1)) (fun c => lexL (P 0 1) c (row0 P Y)) 0 w0 := best_none (fun c hc hl => asc_min (i := 0) (row0_asc Y) (hc.trans h1.symm) (fun j hj => absurd hj (Nat.not_lt_zero j)) hl)
    have h4 : ∀ a c k, k < P 0 1 → (∀ j, j ≤ k → a j = c j) → okB P a k = okB P c k := fun a c k _ hac => okB_cg hac
    have h5 : ∀ k, k < P 0 1 → dyK P k ≠ 0 := fun k hk => (dyK_pos hV k hk).1
    have h6 : P 0 1 ≤ 10 := by omega
    have h7 := dyK_mono hV
    generalize row0 P Y = r0 at h1 h2 ⊢
    generalize okB P = ok at h2 h4 ⊢
    generalize dyK P = dy at h2 h5 h7 ⊢
    have gen : ∀ t, 720 ≤ t → Best (P 0 1) (fun k => P 7 (thK P k)) (fun c => DF (ok c) dy (P 0 1) (P 0 1)) (fun _ => True) (seF ok dy (P 0 1) t 0 r0 0 w0).1 (seF ok dy (P 0 1) t 0 r0 0 w0).2 := fun t ht => by
      have h8 : fac (P 0 1) ≤ rkF r0 (P 0 1) (P 0 1) + t := Nat.le_trans hfac (Nat.le_trans ht (Nat.le_add_left _ _))
      exact seF_spec h6 h7 h5 h4 t 0 r0 0 w0 (Nat.zero_le _) h1 (fun j hj => absurd hj (Nat.not_lt_zero j)) h8 (fun q => absurd rfl q) h2
    exact gen 1000 (by decide)
  · rw [if_neg c]
    have ed : ∀ x, dayO P x = 1 := fun x => if_neg c
    exact ⟨fun _ => ⟨row0_prm hV Y, ed _⟩, fun x hx _ => Or.inr ⟨Nat.one_ne_zero, Or.inr ⟨(ed x).symm, asc_min (row0_asc Y) (hx.trans (row0_prm hV Y).symm) (fun j hj => by omega)⟩⟩⟩
theorem find_eq {h : Hp} {P : Pl} {V : Wv} {A : Nat → Nat → Nat} (hP : PlanC h 15 P) (hV : Valid P) {s1 s2 : Int32} (hA : ∀ j, A 3 j < 100000) (z : Zc) : ∃ V2 A2, A2 1 = (findF P (A 1) (A 3)).2 ∧ (∀ j, A2 3 j < 100000) ∧ (findF P (A 1) (A 3)).1 ≤ 30 ∧ ∀ Q, Ev 87 (0, [some (.ref 39), some (.ref 15), none, none, none], [], z, bw h V (bv (nI 0) s1 s2) A) Q = Q none z (bw h V2 (bv (nI 1) (dN (findF P (A 1) (A 3)).1) (nI (P 0 1))) A2) := by
  have v1 := hV.2.1
  have hli := fun Q => lineUp_eq (V := V) (A := A) hP hV (s0 := nI 1) (s1 := -4) (s2 := s2) hA z Q
  have c0 := bw_C h V (bv (nI 1) (-4) (nI (P 0 1))) (r23 A (apL (thL P) (A 2)) (row0 P (A 3))) (k := 0) (by decide)
  have hbu := fun Q => build_eq (bw_P hP V (bv (nI 1) (-4) (nI (P 0 1))) (r23 A (apL (thL P) (A 2)) (row0 P (A 3)))) c0 (by omega) z Q
  rw [bw_w h V _ _ (k := 0) (by decide)] at hbu
  have c1 := bw_C h (fup V 0 (P 8, (P 8, 0))) (bv (nI 1) (-4) (nI (P 0 1))) (r23 A (apL (thL P) (A 2)) (row0 P (A 3))) (k := 0) (by decide)
  rw [fup_self] at c1
  have hop := fun Q => opened_eq c1 (fun c hc => by have := hV.2.2.2.2.2.2.1 c hc; dsimp only; omega) z Q
  have b0 := rgE_b4 (k := 0) (by decide)
  have k0 := c0.2.1
  have k1 := c1.2.1
  have ea : 44 + 3 * 0 = 44 := rfl
  simp only [ea] at hbu hop b0 k0 k1
  have hp1 : ∀ x0 x1 x2 x3 x4 x5 x6 : Value, pfE (oB x0 x1 x2 x3 x4 x5 x6) 5 0 1 (.int (nI 1)) = some (oB (.int (nI 1)) x1 x2 x3 x4 x5 x6) := fun _ _ _ _ _ _ _ => oB_p0 _ _ _ _ _ _ _ _ (Or.inr rfl)
  have rb : ∀ j, row0 P (A 3) j < 100000 := ouS_bd _ _ (apL_bd (thL_w hV) hA)
  have step : ∀ Q, Ev 87 (0, [some (.ref 39), some (.ref 15), none, none, none], [], z, bw h V (bv (nI 0) s1 s2) A) Q = Ev 87 (43, [some (.ref 39), some (.ref 15), none, none, none], [.int (cN4 (opF (P 8) 10))], z, bw h (fup V 0 (P 8, (P 8, 0))) (bv (nI 1) (-4) (nI (P 0 1))) (r23 A (apL (thL P) (A 2)) (row0 P (A 3)))) Q := by
    intro Q
    simp only [m87_0, m87_1, m87_4, m87_8, m87_9, m87_10, m87_13, m87_14, m87_16, m87_19, m87_20, m87_21, m87_24, m87_25, m87_28, m87_29, m87_30, m87_31, m87_34, m87_35, m87_38, m87_39, m87_40, ob_some, pushr_s, pushr_n, iget_eq, gf_eq, pf_eq, ck_eq, alen_eq, rget_eq, iset_eq, Option.bind_some, Option.map_some, Option.elim_some, hput_at, ↓reduceIte, Nat.reduceEqDiff, Nat.reduceAdd, ne_eq, not_false_eq_true, oS_ck, oS_g0, oS_p0, oS_g1, oS_p1, oS_g2, oS_p2, oS_g3, oS_p3, oS_g4, oS_p4, oS_g5, oS_p5, oS_g6, oS_p6, oP_ck, oP_g0, oP_p0, oP_g1, oP_p1, oP_g2, oP_p2, oP_g3, oP_p3, oP_g4, oP_p4, oP_g5, oP_p5, oP_g6, oP_p6, oP_g7, oP_p7, oP_g8, oP_p8, oP_g9, oP_p9, oP_g10, oP_p10, oP_g11, oP_p11, oP_g12, oP_p12, oR_ck, oR_g0, oR_p0, oR_g1, oR_p1, oR_g2, oR_p2, oR_g3, oR_p3, oG_ck, oG_g0, oG_p0, oG_g1, oG_p1, oG_g2, oG_p2, oW_ck, oW_g0, oW_p0, oW_g1, oW_p1, oW_g2, oW_p2, oB_ck, oB_g0, oB_p0, oB_g1, oB_p1, oB_g2, oB_p2, oB_g3, oB_p3, oB_g4, oB_p4, oB_g5, oB_p5, oB_g6, oB_p6, oC_ck, oC_g0, oC_p0, oC_g1, oC_p1, oC_g2, oC_p2, oC_g3, oC_p3, oC_g4, oC_p4, oC_g5, oC_p5, oC_g6, oC_p6, oH_ck, oH_g0, oH_p0, oH_g1, oH_p1, oH_g2, oH_p2, oH_g3, oH_p3, oM_ck, oM_g0, oM_p0, oM_g1, oM_p1, oM_g2, oM_p2, oM_g3, oM_p3, oM_g4, oM_p4, oM_g5, oM_p5, oM_g6, oM_p6, oM_g7, oM_p7, oM_g8, oM_p8, oM_g9, oM_p9, oM_g10, oM_p10, oM_g11, oM_p11, oM_g12, oM_p12, oM_g13, oM_p13, oM_g14, oM_p14, oM_g15, oM_p15, oM_g16, oM_p16, oM_g17, oM_p17, oM_g18, oM_p18, oM_g19, oM_p19, oM_g20, oM_p20, oM_g21, oM_p21, oM_g22, oM_p22, oM_g23, oM_p23, oM_g24, oM_p24, oM_g25, oM_p25, oM_g26, oM_p26, oM_g27, oM_p27, oM_g28, oM_p28, oM_g29, oM_p29, zget_eq, zset_eq, jget_eq, jset_eq, hcpy_eq, bv0, bv1, bv2, bw_o, bw_po, bw_k1, bw_k2, bw_k3, bw_k4, bw_r1, bw_r2, bw_r3, hp1, if_true, hli, b0, k0, hbu, k1, hop]
  by_cases c : opF (P 8) 10 = 10
  · have e1 : findF P (A 1) (A 3) = seF (okB P) (dyK P) (P 0 1) 1000 0 (row0 P (A 3)) 0 (A 1) := if_pos c
    rw [e1]
    obtain ⟨V2, A2, l1, l2, l3, l4⟩ := find_loop hP hV z 1000 (Nat.le_refl _) 0 (row0 P (A 3)) 0 (A 1) (fup V 0 (P 8, (P 8, 0))) (r23 A (apL (thL P) (A 2)) (row0 P (A 3))) none (Nat.zero_le _) (row0_vals hV _) rb (Nat.zero_le _) rfl rfl (ap_thL hV _) (fun j j1 j2 => by
      have e : j = 0 := by omega
      subst e
      rw [fup_self]
      rfl)
    refine ⟨V2, A2, l1, l2, l3, fun Q => ?_⟩
    have e4 : ((-4 : Int32) = -4) = True := eq_true rfl
    have ec : cN4 0 = nI 0 := cN4_lt (by decide)
    have hq := l4 Q
    rw [ec, Nat.sub_self] at hq
    rw [step, c, cN4_10, ← hq]
    simp only [m87_43, m87_45, m87_54, m87_55, m87_56, m87_57, e4, if_true]
    rfl
  · have e1 : findF P (A 1) (A 3) = (1, row0 P (A 3)) := if_neg c
    rw [e1]
    have lo := cN4_ne (c := opF (P 8) 10) (by
      rcases opF_le (P 8) 10 (Nat.le_refl _) with e | e
      · exact absurd e c
      · exact e)
    have ht := fun Q => take_eq (h := h) (V := fup V 0 (P 8, (P 8, 0))) (S := bv (nI 1) (-4) (nI (P 0 1))) (A := r23 A (apL (thL P) (A 2)) (row0 P (A 3))) z Q (d := 1)
    refine ⟨fup V 0 (P 8, (P 8, 0)), fup (r23 A (apL (thL P) (A 2)) (row0 P (A 3))) 1 (row0 P (A 3)), rfl, rb, by show 1 ≤ 30; omega, fun Q => ?_⟩
    rw [step]
    simp only [m87_43, m87_45, m87_48, m87_49, m87_50, m87_53, lo, if_false, ob_some, pushr_s, pushr_n, iget_eq, gf_eq, pf_eq, ck_eq, alen_eq, rget_eq, iset_eq, Option.bind_some, Option.map_some, Option.elim_some, hput_at, ↓reduceIte, Nat.reduceEqDiff, Nat.reduceAdd, ne_eq, not_false_eq_true, oS_ck, oS_g0, oS_p0, oS_g1, oS_p1, oS_g2, oS_p2, oS_g3, oS_p3, oS_g4, oS_p4, oS_g5, oS_p5, oS_g6, oS_p6, oP_ck, oP_g0, oP_p0, oP_g1, oP_p1, oP_g2, oP_p2, oP_g3, oP_p3, oP_g4, oP_p4, oP_g5, oP_p5, oP_g6, oP_p6, oP_g7, oP_p7, oP_g8, oP_p8, oP_g9, oP_p9, oP_g10, oP_p10, oP_g11, oP_p11, oP_g12, oP_p12, oR_ck, oR_g0, oR_p0, oR_g1, oR_p1, oR_g2, oR_p2, oR_g3, oR_p3, oG_ck, oG_g0, oG_p0, oG_g1, oG_p1, oG_g2, oG_p2, oW_ck, oW_g0, oW_p0, oW_g1, oW_p1, oW_g2, oW_p2, oB_ck, oB_g0, oB_p0, oB_g1, oB_p1, oB_g2, oB_p2, oB_g3, oB_p3, oB_g4, oB_p4, oB_g5, oB_p5, oB_g6, oB_p6, oC_ck, oC_g0, oC_p0, oC_g1, oC_p1, oC_g2, oC_p2, oC_g3, oC_p3, oC_g4, oC_p4, oC_g5, oC_p5, oC_g6, oC_p6, oH_ck, oH_g0, oH_p0, oH_g1, oH_p1, oH_g2, oH_p2, oH_g3, oH_p3, oM_ck, oM_g0, oM_p0, oM_g1, oM_p1, oM_g2, oM_p2, oM_g3, oM_p3, oM_g4, oM_p4, oM_g5, oM_p5, oM_g6, oM_p6, oM_g7, oM_p7, oM_g8, oM_p8, oM_g9, oM_p9, oM_g10, oM_p10, oM_g11, oM_p11, oM_g12, oM_p12, oM_g13, oM_p13, oM_g14, oM_p14, oM_g15, oM_p15, oM_g16, oM_p16, oM_g17, oM_p17, oM_g18, oM_p18, oM_g19, oM_p19, oM_g20, oM_p20, oM_g21, oM_p21, oM_g22, oM_p22, oM_g23, oM_p23, oM_g24, oM_p24, oM_g25, oM_p25, oM_g26, oM_p26, oM_g27, oM_p27, oM_g28, oM_p28, oM_g29, oM_p29, bv0, bv1, bv2, bw_o, bw_po, bw_k1, bw_k2, bw_k3, bw_k4, bw_r1, bw_r2, bw_r3, ht]
    rfl
def ansOrd (n day : Nat) (w : Nat → Nat) (i : Int32) : Int32 := if i = -1 ∨ inI i n then (if day = 0 then -4 else if i = -1 then nI day else nI (w (nt i))) else -1
/-- what is known of the best order, if it is known -/
def KnO (P : Pl) (S : Nat → Int32) (A : Nat → Nat → Nat) : Prop := (∀ j, A 3 j < 100000) ∧ (S 0 = nI 0 ∨ (S 0 = nI 1 ∧ ∃ day, day ≤ 30 ∧ S 1 = dN day ∧ BestP P day (A 1)))
theorem sorder_op {h : Hp} {len : Nat} {P : Pl} {V : Wv} {S : Nat → Int32} {A : Nat → Nat → Nat} (hS : SO h len) (hP : PlanC h 15 P) (hV : Valid P) (hK : KnO P S A) (i : Int32) (z : Zc) : ∃ V2 S2 A2, KnO P S2 A2 ∧ ((¬ (i = -1 ∨ inI i (P 0 1)) ∧ ∀ Q, Ev 12 (0, [some (.ref 1), some (.int i)], [], z, bw h V S A) Q = Q (some (.int (-1))) z (bw h V2 S2 A2)) ∨ ∃ day w, BestP P day w ∧ ∀ Q, Ev 12 (0, [some (.ref 1), some (.int i)], [], z, bw h V S A) Q = Q (some (.int (ansOrd (P 0 1) day w i))) z (bw h V2 S2 A2)) := by
  have v1 := hV.2.1
  have o1 : ∀ V S A, bw h V S A 1 = h 1 := fun V S A => by
    unfold bw
    rw [bset_ne _ _ _ (by omega), vset_ne _ _ (by omega)]
  have kp := fun V S A => (bw_P hP V S A).2.1
  have hSt := fun V S A Q => hasStone_eq (bw_P hP V S A) i z Q
  have ec := in_c i (n := P 0 1) (by omega)
  unfold SO at hS
  by_cases c : i = -1 ∨ inI i (P 0 1)
  · -- the search
    have hf : ∃ V2 S2 A2 day, KnO P S2 A2 ∧ day ≤ 30 ∧ S2 1 = dN day ∧ BestP P day (A2 1) ∧ ∀ Q, Ev 87 (0, [some (.ref 39), some (.ref 15), none, none, none], [], z, bw h V S A) Q = Q none z (bw h V2 S2 A2) := by
      obtain ⟨hA, hk⟩ := hK
      rcases hk with k0 | ⟨k0, day, k1, k2, k3⟩
      · obtain ⟨V2, A2, f1, f2, f3, f4⟩ := find_eq (V := V) (A := A) hP hV (s1 := S 1) (s2 := S 2) hA z
        have es : bw h V S A = bw h V (bv (nI 0) (S 1) (S 2)) A := by
          unfold bw
          exact bset_congr _ (fun j hj => by
            have cj : j = 0 ∨ j = 1 ∨ j = 2 := by omega
            rcases cj with rfl | rfl | rfl
            · exact k0
            · rfl
            · rfl) (fun _ _ _ => rfl)
        have hb := findF_best hV (A 1) (A 3)
        rw [← f1] at hb
        refine ⟨V2, bv (nI 1) (dN (findF P (A 1) (A 3)).1) (nI (P 0 1)), A2, (findF P (A 1) (A 3)).1, ⟨f2, Or.inr ⟨rfl, _, f3, rfl, hb⟩⟩, f3, rfl, hb, fun Q => ?_⟩
        rw [es]
        exact f4 Q
      · refine ⟨V, S, A, day, ⟨hA, Or.inr ⟨k0, day, k1, k2, k3⟩⟩, k1, k2, k3, fun Q => ?_⟩
        simp only [m87_0, m87_1, m87_4, m87_7, ob_some, pushr_s, pushr_n, iget_eq, gf_eq, pf_eq, ck_eq, alen_eq, rget_eq, iset_eq, Option.bind_some, Option.map_some, Option.elim_some, hput_at, ↓reduceIte, Nat.reduceEqDiff, Nat.reduceAdd, ne_eq, not_false_eq_true, oS_ck, oS_g0, oS_p0, oS_g1, oS_p1, oS_g2, oS_p2, oS_g3, oS_p3, oS_g4, oS_p4, oS_g5, oS_p5, oS_g6, oS_p6, oP_ck, oP_g0, oP_p0, oP_g1, oP_p1, oP_g2, oP_p2, oP_g3, oP_p3, oP_g4, oP_p4, oP_g5, oP_p5, oP_g6, oP_p6, oP_g7, oP_p7, oP_g8, oP_p8, oP_g9, oP_p9, oP_g10, oP_p10, oP_g11, oP_p11, oP_g12, oP_p12, oR_ck, oR_g0, oR_p0, oR_g1, oR_p1, oR_g2, oR_p2, oR_g3, oR_p3, oG_ck, oG_g0, oG_p0, oG_g1, oG_p1, oG_g2, oG_p2, oW_ck, oW_g0, oW_p0, oW_g1, oW_p1, oW_g2, oW_p2, oB_ck, oB_g0, oB_p0, oB_g1, oB_p1, oB_g2, oB_p2, oB_g3, oB_p3, oB_g4, oB_p4, oB_g5, oB_p5, oB_g6, oB_p6, oC_ck, oC_g0, oC_p0, oC_g1, oC_p1, oC_g2, oC_p2, oC_g3, oC_p3, oC_g4, oC_p4, oC_g5, oC_p5, oC_g6, oC_p6, oH_ck, oH_g0, oH_p0, oH_g1, oH_p1, oH_g2, oH_p2, oH_g3, oH_p3, oM_ck, oM_g0, oM_p0, oM_g1, oM_p1, oM_g2, oM_p2, oM_g3, oM_p3, oM_g4, oM_p4, oM_g5, oM_p5, oM_g6, oM_p6, oM_g7, oM_p7, oM_g8, oM_p8, oM_g9, oM_p9, oM_g10, oM_p10, oM_g11, oM_p11, oM_g12, oM_p12, oM_g13, oM_p13, oM_g14, oM_p14, oM_g15, oM_p15, oM_g16, oM_p16, oM_g17, oM_p17, oM_g18, oM_p18, oM_g19, oM_p19, oM_g20, oM_p20, oM_g21, oM_p21, oM_g22, oM_p22, oM_g23, oM_p23, oM_g24, oM_p24, oM_g25, oM_p25, oM_g26, oM_p26, oM_g27, oM_p27, oM_g28, oM_p28, oM_g29, oM_p29, bv0, bv1, bv2, bw_o, bw_po, bw_k1, bw_k2, bw_k3, bw_k4, bw_r1, bw_r2, bw_r3, k0, n10, if_false]
    obtain ⟨V2, S2, A2, day, g1, g2, g3, g4, g5⟩ := hf
    refine ⟨V2, S2, A2, g1, Or.inr ⟨day, A2 1, g4, fun Q => ?_⟩⟩
    have ld := dN_eq (d := day) (by omega)
    have kb : ∀ V S A, bw h V S A 39 = some (oB (.int (S 0)) (.int (S 1)) (.ref 40) (.int (S 2)) (.ref 41) (.ref 42) (.ref 43)) := fun _ _ _ => rfl
    have step : ∀ Q, Ev 12 (0, [some (.ref 1), some (.int i)], [], z, bw h V S A) Q = Ev 12 (29, [some (.ref 1), some (.int i)], [], z, bw h V2 S2 A2) Q := by
      intro Q
      by_cases c1 : i = -1
      · have c1t : (i = -1) = True := eq_true c1
        simp only [m12_0, m12_1, m12_2, m12_18, m12_19, m12_22, m12_23, m12_26, c1t, if_true, ob_some, pushr_s, pushr_n, iget_eq, gf_eq, pf_eq, ck_eq, alen_eq, rget_eq, iset_eq, Option.bind_some, Option.map_some, Option.elim_some, hput_at, ↓reduceIte, Nat.reduceEqDiff, Nat.reduceAdd, ne_eq, not_false_eq_true, oS_ck, oS_g0, oS_p0, oS_g1, oS_p1, oS_g2, oS_p2, oS_g3, oS_p3, oS_g4, oS_p4, oS_g5, oS_p5, oS_g6, oS_p6, oP_ck, oP_g0, oP_p0, oP_g1, oP_p1, oP_g2, oP_p2, oP_g3, oP_p3, oP_g4, oP_p4, oP_g5, oP_p5, oP_g6, oP_p6, oP_g7, oP_p7, oP_g8, oP_p8, oP_g9, oP_p9, oP_g10, oP_p10, oP_g11, oP_p11, oP_g12, oP_p12, oR_ck, oR_g0, oR_p0, oR_g1, oR_p1, oR_g2, oR_p2, oR_g3, oR_p3, oG_ck, oG_g0, oG_p0, oG_g1, oG_p1, oG_g2, oG_p2, oW_ck, oW_g0, oW_p0, oW_g1, oW_p1, oW_g2, oW_p2, oB_ck, oB_g0, oB_p0, oB_g1, oB_p1, oB_g2, oB_p2, oB_g3, oB_p3, oB_g4, oB_p4, oB_g5, oB_p5, oB_g6, oB_p6, oC_ck, oC_g0, oC_p0, oC_g1, oC_p1, oC_g2, oC_p2, oC_g3, oC_p3, oC_g4, oC_p4, oC_g5, oC_p5, oC_g6, oC_p6, oH_ck, oH_g0, oH_p0, oH_g1, oH_p1, oH_g2, oH_p2, oH_g3, oH_p3, oM_ck, oM_g0, oM_p0, oM_g1, oM_p1, oM_g2, oM_p2, oM_g3, oM_p3, oM_g4, oM_p4, oM_g5, oM_p5, oM_g6, oM_p6, oM_g7, oM_p7, oM_g8, oM_p8, oM_g9, oM_p9, oM_g10, oM_p10, oM_g11, oM_p11, oM_g12, oM_p12, oM_g13, oM_p13, oM_g14, oM_p14, oM_g15, oM_p15, oM_g16, oM_p16, oM_g17, oM_p17, oM_g18, oM_p18, oM_g19, oM_p19, oM_g20, oM_p20, oM_g21, oM_p21, oM_g22, oM_p22, oM_g23, oM_p23, oM_g24, oM_p24, oM_g25, oM_p25, oM_g26, oM_p26, oM_g27, oM_p27, oM_g28, oM_p28, oM_g29, oM_p29, o1, hS, kb, g5]
      · have c2 : inI i (P 0 1) := by
          rcases c with q | q
          · exact absurd q c1
          · exact q
        simp only [m12_0, m12_1, m12_2, m12_5, m12_6, m12_9, m12_10, m12_13, m12_18, m12_19, m12_22, m12_23, m12_26, c1, if_false, ob_some, pushr_s, pushr_n, iget_eq, gf_eq, pf_eq, ck_eq, alen_eq, rget_eq, iset_eq, Option.bind_some, Option.map_some, Option.elim_some, hput_at, ↓reduceIte, Nat.reduceEqDiff, Nat.reduceAdd, ne_eq, not_false_eq_true, oS_ck, oS_g0, oS_p0, oS_g1, oS_p1, oS_g2, oS_p2, oS_g3, oS_p3, oS_g4, oS_p4, oS_g5, oS_p5, oS_g6, oS_p6, oP_ck, oP_g0, oP_p0, oP_g1, oP_p1, oP_g2, oP_p2, oP_g3, oP_p3, oP_g4, oP_p4, oP_g5, oP_p5, oP_g6, oP_p6, oP_g7, oP_p7, oP_g8, oP_p8, oP_g9, oP_p9, oP_g10, oP_p10, oP_g11, oP_p11, oP_g12, oP_p12, oR_ck, oR_g0, oR_p0, oR_g1, oR_p1, oR_g2, oR_p2, oR_g3, oR_p3, oG_ck, oG_g0, oG_p0, oG_g1, oG_p1, oG_g2, oG_p2, oW_ck, oW_g0, oW_p0, oW_g1, oW_p1, oW_g2, oW_p2, oB_ck, oB_g0, oB_p0, oB_g1, oB_p1, oB_g2, oB_p2, oB_g3, oB_p3, oB_g4, oB_p4, oB_g5, oB_p5, oB_g6, oB_p6, oC_ck, oC_g0, oC_p0, oC_g1, oC_p1, oC_g2, oC_p2, oC_g3, oC_p3, oC_g4, oC_p4, oC_g5, oC_p5, oC_g6, oC_p6, oH_ck, oH_g0, oH_p0, oH_g1, oH_p1, oH_g2, oH_p2, oH_g3, oH_p3, oM_ck, oM_g0, oM_p0, oM_g1, oM_p1, oM_g2, oM_p2, oM_g3, oM_p3, oM_g4, oM_p4, oM_g5, oM_p5, oM_g6, oM_p6, oM_g7, oM_p7, oM_g8, oM_p8, oM_g9, oM_p9, oM_g10, oM_p10, oM_g11, oM_p11, oM_g12, oM_p12, oM_g13, oM_p13, oM_g14, oM_p14, oM_g15, oM_p15, oM_g16, oM_p16, oM_g17, oM_p17, oM_g18, oM_p18, oM_g19, oM_p19, oM_g20, oM_p20, oM_g21, oM_p21, oM_g22, oM_p22, oM_g23, oM_p23, oM_g24, oM_p24, oM_g25, oM_p25, oM_g26, oM_p26, oM_g27, oM_p27, oM_g28, oM_p28, oM_g29, oM_p29, o1, hS, kp, hSt, ec, bt c2, kb, g5]
    unfold ansOrd
    rw [step, if_pos c]
    by_cases c0 : day = 0
    · have ldt : (dN day = -4) = True := ld.trans (eq_true c0)
      rw [if_pos c0]
      simp only [m12_29, m12_30, m12_33, m12_36, m12_38, m12_41, m12_43, ob_some, pushr_s, pushr_n, iget_eq, gf_eq, pf_eq, ck_eq, alen_eq, rget_eq, iset_eq, Option.bind_some, Option.map_some, Option.elim_some, hput_at, ↓reduceIte, Nat.reduceEqDiff, Nat.reduceAdd, ne_eq, not_false_eq_true, oS_ck, oS_g0, oS_p0, oS_g1, oS_p1, oS_g2, oS_p2, oS_g3, oS_p3, oS_g4, oS_p4, oS_g5, oS_p5, oS_g6, oS_p6, oP_ck, oP_g0, oP_p0, oP_g1, oP_p1, oP_g2, oP_p2, oP_g3, oP_p3, oP_g4, oP_p4, oP_g5, oP_p5, oP_g6, oP_p6, oP_g7, oP_p7, oP_g8, oP_p8, oP_g9, oP_p9, oP_g10, oP_p10, oP_g11, oP_p11, oP_g12, oP_p12, oR_ck, oR_g0, oR_p0, oR_g1, oR_p1, oR_g2, oR_p2, oR_g3, oR_p3, oG_ck, oG_g0, oG_p0, oG_g1, oG_p1, oG_g2, oG_p2, oW_ck, oW_g0, oW_p0, oW_g1, oW_p1, oW_g2, oW_p2, oB_ck, oB_g0, oB_p0, oB_g1, oB_p1, oB_g2, oB_p2, oB_g3, oB_p3, oB_g4, oB_p4, oB_g5, oB_p5, oB_g6, oB_p6, oC_ck, oC_g0, oC_p0, oC_g1, oC_p1, oC_g2, oC_p2, oC_g3, oC_p3, oC_g4, oC_p4, oC_g5, oC_p5, oC_g6, oC_p6, oH_ck, oH_g0, oH_p0, oH_g1, oH_p1, oH_g2, oH_p2, oH_g3, oH_p3, oM_ck, oM_g0, oM_p0, oM_g1, oM_p1, oM_g2, oM_p2, oM_g3, oM_p3, oM_g4, oM_p4, oM_g5, oM_p5, oM_g6, oM_p6, oM_g7, oM_p7, oM_g8, oM_p8, oM_g9, oM_p9, oM_g10, oM_p10, oM_g11, oM_p11, oM_g12, oM_p12, oM_g13, oM_p13, oM_g14, oM_p14, oM_g15, oM_p15, oM_g16, oM_p16, oM_g17, oM_p17, oM_g18, oM_p18, oM_g19, oM_p19, oM_g20, oM_p20, oM_g21, oM_p21, oM_g22, oM_p22, oM_g23, oM_p23, oM_g24, oM_p24, oM_g25, oM_p25, oM_g26, oM_p26, oM_g27, oM_p27, oM_g28, oM_p28, oM_g29, oM_p29, o1, hS, kb, g3, ldt, if_true]
    · have ldf : (dN day = -4) = False := ld.trans (eq_false c0)
      have ldg : (nI day = -4) = False := by rw [← dN_pos c0]; exact ldf
      rw [if_neg c0]
      by_cases c1 : i = -1
      · have c1t : (i = -1) = True := eq_true c1
        rw [if_pos c1]
        simp only [m12_29, m12_30, m12_33, m12_36, m12_38, m12_44, m12_45, m12_46, m12_49, m12_50, m12_53, m12_56, m12_68, ob_some, pushr_s, pushr_n, iget_eq, gf_eq, pf_eq, ck_eq, alen_eq, rget_eq, iset_eq, Option.bind_some, Option.map_some, Option.elim_some, hput_at, ↓reduceIte, Nat.reduceEqDiff, Nat.reduceAdd, ne_eq, not_false_eq_true, oS_ck, oS_g0, oS_p0, oS_g1, oS_p1, oS_g2, oS_p2, oS_g3, oS_p3, oS_g4, oS_p4, oS_g5, oS_p5, oS_g6, oS_p6, oP_ck, oP_g0, oP_p0, oP_g1, oP_p1, oP_g2, oP_p2, oP_g3, oP_p3, oP_g4, oP_p4, oP_g5, oP_p5, oP_g6, oP_p6, oP_g7, oP_p7, oP_g8, oP_p8, oP_g9, oP_p9, oP_g10, oP_p10, oP_g11, oP_p11, oP_g12, oP_p12, oR_ck, oR_g0, oR_p0, oR_g1, oR_p1, oR_g2, oR_p2, oR_g3, oR_p3, oG_ck, oG_g0, oG_p0, oG_g1, oG_p1, oG_g2, oG_p2, oW_ck, oW_g0, oW_p0, oW_g1, oW_p1, oW_g2, oW_p2, oB_ck, oB_g0, oB_p0, oB_g1, oB_p1, oB_g2, oB_p2, oB_g3, oB_p3, oB_g4, oB_p4, oB_g5, oB_p5, oB_g6, oB_p6, oC_ck, oC_g0, oC_p0, oC_g1, oC_p1, oC_g2, oC_p2, oC_g3, oC_p3, oC_g4, oC_p4, oC_g5, oC_p5, oC_g6, oC_p6, oH_ck, oH_g0, oH_p0, oH_g1, oH_p1, oH_g2, oH_p2, oH_g3, oH_p3, oM_ck, oM_g0, oM_p0, oM_g1, oM_p1, oM_g2, oM_p2, oM_g3, oM_p3, oM_g4, oM_p4, oM_g5, oM_p5, oM_g6, oM_p6, oM_g7, oM_p7, oM_g8, oM_p8, oM_g9, oM_p9, oM_g10, oM_p10, oM_g11, oM_p11, oM_g12, oM_p12, oM_g13, oM_p13, oM_g14, oM_p14, oM_g15, oM_p15, oM_g16, oM_p16, oM_g17, oM_p17, oM_g18, oM_p18, oM_g19, oM_p19, oM_g20, oM_p20, oM_g21, oM_p21, oM_g22, oM_p22, oM_g23, oM_p23, oM_g24, oM_p24, oM_g25, oM_p25, oM_g26, oM_p26, oM_g27, oM_p27, oM_g28, oM_p28, oM_g29, oM_p29, o1, hS, kb, g3, ldf, ldg, if_false, c1t, if_true, dN_pos c0]
      · have c2 : inI i (P 0 1) := by
          rcases c with q | q
          · exact absurd q c1
          · exact q
        obtain ⟨i1, i2⟩ := in_nt c2
        have ga := igE_AI (n := 6) (j := nt i) (A2 1) (by omega) (by decide)
        rw [← i1] at ga
        rw [if_neg c1]
        simp only [m12_29, m12_30, m12_33, m12_36, m12_38, m12_44, m12_45, m12_46, m12_59, m12_60, m12_63, m12_66, m12_67, m12_68, ob_some, pushr_s, pushr_n, iget_eq, gf_eq, pf_eq, ck_eq, alen_eq, rget_eq, iset_eq, Option.bind_some, Option.map_some, Option.elim_some, hput_at, ↓reduceIte, Nat.reduceEqDiff, Nat.reduceAdd, ne_eq, not_false_eq_true, oS_ck, oS_g0, oS_p0, oS_g1, oS_p1, oS_g2, oS_p2, oS_g3, oS_p3, oS_g4, oS_p4, oS_g5, oS_p5, oS_g6, oS_p6, oP_ck, oP_g0, oP_p0, oP_g1, oP_p1, oP_g2, oP_p2, oP_g3, oP_p3, oP_g4, oP_p4, oP_g5, oP_p5, oP_g6, oP_p6, oP_g7, oP_p7, oP_g8, oP_p8, oP_g9, oP_p9, oP_g10, oP_p10, oP_g11, oP_p11, oP_g12, oP_p12, oR_ck, oR_g0, oR_p0, oR_g1, oR_p1, oR_g2, oR_p2, oR_g3, oR_p3, oG_ck, oG_g0, oG_p0, oG_g1, oG_p1, oG_g2, oG_p2, oW_ck, oW_g0, oW_p0, oW_g1, oW_p1, oW_g2, oW_p2, oB_ck, oB_g0, oB_p0, oB_g1, oB_p1, oB_g2, oB_p2, oB_g3, oB_p3, oB_g4, oB_p4, oB_g5, oB_p5, oB_g6, oB_p6, oC_ck, oC_g0, oC_p0, oC_g1, oC_p1, oC_g2, oC_p2, oC_g3, oC_p3, oC_g4, oC_p4, oC_g5, oC_p5, oC_g6, oC_p6, oH_ck, oH_g0, oH_p0, oH_g1, oH_p1, oH_g2, oH_p2, oH_g3, oH_p3, oM_ck, oM_g0, oM_p0, oM_g1, oM_p1, oM_g2, oM_p2, oM_g3, oM_p3, oM_g4, oM_p4, oM_g5, oM_p5, oM_g6, oM_p6, oM_g7, oM_p7, oM_g8, oM_p8, oM_g9, oM_p9, oM_g10, oM_p10, oM_g11, oM_p11, oM_g12, oM_p12, oM_g13, oM_p13, oM_g14, oM_p14, oM_g15, oM_p15, oM_g16, oM_p16, oM_g17, oM_p17, oM_g18, oM_p18, oM_g19, oM_p19, oM_g20, oM_p20, oM_g21, oM_p21, oM_g22, oM_p22, oM_g23, oM_p23, oM_g24, oM_p24, oM_g25, oM_p25, oM_g26, oM_p26, oM_g27, oM_p27, oM_g28, oM_p28, oM_g29, oM_p29, bv0, bv1, bv2, bw_o, bw_po, bw_k1, bw_k2, bw_k3, bw_k4, bw_r1, bw_r2, bw_r3, o1, hS, g3, ldf, if_false, c1, ga]
  · refine ⟨V, S, A, hK, Or.inl ⟨c, fun Q => ?_⟩⟩
    have c1 : ¬ i = -1 := fun q => c (Or.inl q)
    have c2 : ¬ inI i (P 0 1) := fun q => c (Or.inr q)
    simp only [m12_0, m12_1, m12_2, m12_5, m12_6, m12_9, m12_10, m12_13, m12_16, m12_17, c1, if_false, ob_some, pushr_s, pushr_n, iget_eq, gf_eq, pf_eq, ck_eq, alen_eq, rget_eq, iset_eq, Option.bind_some, Option.map_some, Option.elim_some, hput_at, ↓reduceIte, Nat.reduceEqDiff, Nat.reduceAdd, ne_eq, not_false_eq_true, oS_ck, oS_g0, oS_p0, oS_g1, oS_p1, oS_g2, oS_p2, oS_g3, oS_p3, oS_g4, oS_p4, oS_g5, oS_p5, oS_g6, oS_p6, oP_ck, oP_g0, oP_p0, oP_g1, oP_p1, oP_g2, oP_p2, oP_g3, oP_p3, oP_g4, oP_p4, oP_g5, oP_p5, oP_g6, oP_p6, oP_g7, oP_p7, oP_g8, oP_p8, oP_g9, oP_p9, oP_g10, oP_p10, oP_g11, oP_p11, oP_g12, oP_p12, oR_ck, oR_g0, oR_p0, oR_g1, oR_p1, oR_g2, oR_p2, oR_g3, oR_p3, oG_ck, oG_g0, oG_p0, oG_g1, oG_p1, oG_g2, oG_p2, oW_ck, oW_g0, oW_p0, oW_g1, oW_p1, oW_g2, oW_p2, oB_ck, oB_g0, oB_p0, oB_g1, oB_p1, oB_g2, oB_p2, oB_g3, oB_p3, oB_g4, oB_p4, oB_g5, oB_p5, oB_g6, oB_p6, oC_ck, oC_g0, oC_p0, oC_g1, oC_p1, oC_g2, oC_p2, oC_g3, oC_p3, oC_g4, oC_p4, oC_g5, oC_p5, oC_g6, oC_p6, oH_ck, oH_g0, oH_p0, oH_g1, oH_p1, oH_g2, oH_p2, oH_g3, oH_p3, oM_ck, oM_g0, oM_p0, oM_g1, oM_p1, oM_g2, oM_p2, oM_g3, oM_p3, oM_g4, oM_p4, oM_g5, oM_p5, oM_g6, oM_p6, oM_g7, oM_p7, oM_g8, oM_p8, oM_g9, oM_p9, oM_g10, oM_p10, oM_g11, oM_p11, oM_g12, oM_p12, oM_g13, oM_p13, oM_g14, oM_p14, oM_g15, oM_p15, oM_g16, oM_p16, oM_g17, oM_p17, oM_g18, oM_p18, oM_g19, oM_p19, oM_g20, oM_p20, oM_g21, oM_p21, oM_g22, oM_p22, oM_g23, oM_p23, oM_g24, oM_p24, oM_g25, oM_p25, oM_g26, oM_p26, oM_g27, oM_p27, oM_g28, oM_p28, oM_g29, oM_p29, o1, hS, kp, hSt, ec, bf c2, if_true]
