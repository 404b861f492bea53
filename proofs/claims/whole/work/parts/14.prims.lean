/-! the small machine's steps are the machine's: Object's constructor, Math.max, Math.min, System.arraycopy -/
section SND
variable {p : Program} {l : Launch} {e : Env} {R : Room} {s : State} {m : MethodId} {args : Array Value} {below : List Frame} {meth : Method} {c : Code} {Q : State → Prop} {G : Gm} {sc : List Int32} {z0 : Zc} {mi pc : Nat} {L : List (Option Value)} {st : List Value} {z : Zc} {h : Hp} {li : LI} {g : Fm}
theorem stW_cV (G : Gm) (st : List Value) : ((st.map (cV G)).map fun v => v.category).sum = stW st := by
  unfold stW
  rw [List.map_map]
  congr 1
  apply List.map_congr_left
  intro v _
  exact cV_cat G v
theorem hcpy_some {h h' : Hp} {a0 a : Nat} {sp dp n : Int32} (hg : hcpy h a0 sp a dp n = some h') : ∃ j0 j, a0 = j0 + 1 ∧ a = j + 1 ∧ ((∃ xs ys l, h a0 = some (.inr (.inl (false, xs))) ∧ h a = some (.inr (.inl (false, ys))) ∧ acpy xs ys sp dp n = some l ∧ h' = hput h a (.inr (.inl (false, l)))) ∨ (∃ xs ys l, h a0 = some (.inr (.inr (.inl xs))) ∧ h a = some (.inr (.inr (.inl ys))) ∧ acpy xs ys sp dp n = some l ∧ h' = hput h a (.inr (.inr (.inl l))))) := by
  unfold hcpy at hg
  split at hg
  · rename_i j0 j
    refine ⟨j0, j, rfl, rfl, ?_⟩
    split at hg
    · rename_i x0 x1 zz0 xs zz1 ys he0 he1
      split at hg
      · rename_i hz
        cases zz0 <;> cases zz1 <;> first | (simp at hz; done) | skip
        cases hq : acpy xs ys sp dp n with
        | none => rw [hq] at hg; cases hg
        | some l => rw [hq] at hg; cases hg; exact Or.inl ⟨xs, ys, l, he0, he1, hq, rfl⟩
      · cases hg
    · rename_i x0 x1 xs ys he0 he1
      cases hq : acpy xs ys sp dp n with
      | none => rw [hq] at hg; cases hg
      | some l => rw [hq] at hg; cases hg; exact Or.inr ⟨xs, ys, l, he0, he1, hq, rfl⟩
    · cases hg
  · cases hg
set_option maxHeartbeats 4000000 in
theorem snd_prim (C0 : CX p R s m args meth c G sc z0 mi) (hok : okI mi pc li = true) (hs : exCall mi pc li L st z h = some (.inl g)) (hc1 : z.1 - z0.1 ≤ R.cells) (hc2 : z.2 - z0.2 ≤ R.slots) (kk : WS p l e R s m args below meth c Q G sc z0 mi g) : WS p l e R s m args below meth c Q G sc z0 mi (pc, L, st, z, h) := by
  obtain ⟨hx, hb, hml, hown, hts, hK, hX, hbl, hbs, hnm, hrf, hrl⟩ := C0
  obtain ⟨hd0, hlen, hw⟩ := okI_dec hok
  obtain ⟨ins, len, a, b, cc, ws⟩ := li
  cases ins with
  | invokevirtual idx =>
    simp only [exCall] at hs
    split at hs
    · split at hs
      · cases hs
      · cases hs
    · cases hs
  | invokespecial idx =>
    have hd : decode (mm mi).2.1 pc = .ok (.invokespecial idx, 3) := dec_at hd0 hlen
    simp only [exCall] at hs
    split at hs
    · rename_i hb6
      split at hs
      · rename_i a0 st
        split at hs
        · rename_i hst
          have eg := nx_inj hs
          subst eg
          have hst : stW st ≤ 8 := Nat.le_of_ble_eq_true hst
          intro ls H locs hL hR hS h1 h2
          dsimp only at hL hR h1 h2 ⊢
          match ws, hw with
          | [], hw => cases hw
          | [_], hw => cases hw
          | [_, _], hw => cases hw
          | _ :: _ :: _ :: _ :: _, hw => cases hw
          | [w1, w2, w3], hw =>
            simp only [okW, hb6, if_true, Bool.and_eq_true] at hw
            obtain ⟨hw1, hw2, hw3, hw4, hw5⟩ := hw
            have hw4 := Nat.le_of_ble_eq_true hw4
            have hw5 := Nat.le_of_ble_eq_true hw5
            refine W.objInit hx hb hown (hts _ (wgt_mem hw1)) (hts _ (wgt_mem hw2)) (hts _ (wgt_mem hw3)) rfl (by rw [hml]; exact hL.1) rfl hd (by omega) ?_ (kk ls H locs hL hR hS h1 h2)
            show 2 * 0 + ((st.map (cV G)).map fun v => v.category).sum + 12 ≤ R.locals
            rw [stW_cV]
            omega
        · cases hs
      · cases hs
    · split at hs
      · split at hs
        · cases hs
        · cases hs
      · cases hs
  | invokestatic idx =>
    have hd : decode (mm mi).2.1 pc = .ok (.invokestatic idx, 3) := dec_at hd0 hlen
    simp only [exCall] at hs
    split at hs
    · rename_i hb7
      have eb := Nat.eq_of_beq_eq_true hb7
      subst eb
      split at hs
      · rename_i n dp a1 sp a0 st
        split at hs
        · rename_i hst
          have hst : stW st ≤ 8 := Nat.le_of_ble_eq_true hst
          cases hq : hcpy h a0 sp a1 dp n with
          | none => rw [hq] at hs; cases hs
          | some h' =>
            rw [hq] at hs
            have eg := nx_inj hs
            subst eg
            intro ls H locs hL hR hS h1 h2
            dsimp only at hL hR h1 h2 ⊢
            obtain ⟨h0, hp, hpl, hph, hP⟩ := hR
            match ws, hw with
            | [], hw => cases hw
            | [_], hw => cases hw
            | [_, _], hw => cases hw
            | [_, _, _], hw => simp [okW] at hw
            | _ :: _ :: _ :: _ :: _ :: _, hw => cases hw
            | [w1, w2, w3, w4], hw =>
              simp only [okW, Bool.and_eq_true] at hw
              rw [if_neg (by decide), if_neg (by decide)] at hw
              simp only [Bool.and_eq_true] at hw
              obtain ⟨-, hw1, hw2, hw3, hw4, hw5, hw6⟩ := hw
              have hw5 := Nat.le_of_ble_eq_true hw5
              have hw6 := Nat.le_of_ble_eq_true hw6
              have hlo : ((st.map (cV G)).map fun v => v.category).sum + (nativeFrameWords "java/lang/System" "arraycopy" 5 + 11) ≤ R.locals := by
                rw [stW_cV]
                have : nativeFrameWords "java/lang/System" "arraycopy" 5 = 7 := by decide +kernel
                omega
              obtain ⟨j0, j, rfl, rfl, hq⟩ := hcpy_some hq
              rcases hq with ⟨xs, ys, l9, e0, e1, hqq, rfl⟩ | ⟨xs, ys, l9, e0, e1, hqq, rfl⟩
              · obtain ⟨k1, k2, k3, k4, k5, rfl⟩ := acpy_some hqq
                rw [hph] at e0 e1
                refine va_copyi hx hb (by rw [hml]; exact hL.1.symm) hown (hts _ (wgt_mem hw1)) (hts _ (wgt_mem hw2)) (hts _ (wgt_mem hw3)) (hts _ (wgt_mem hw4)) hK.1 hP (wsF_D G hp) hS j0 j 0 0 (wsF_at e0) (wsF_at e1) rfl rfl rfl k1 k2 k3 k4 k5 (fun _ _ => rfl) (by omega) hlo hd fun H1 locs1 q1 _ q3 => ?_
                refine kk ls H1 locs1 hL (Rl.put (e' := .inr (.inl (false, cpy xs ys sp.toNatClampNeg dp.toNatClampNeg n.toNatClampNeg))) h0 hpl hph e1 ?_) q3 h1 h2
                have e2 : cE G (.inr (.inl (false, cpy xs ys sp.toNatClampNeg dp.toNatClampNeg n.toNatClampNeg))) = .inl (G.2.2.1, (ys.length, .inl (va_cpy (fun j => xs.getD j 0) (fun j => ys.getD j 0) sp.toNatClampNeg dp.toNatClampNeg n.toNatClampNeg))) := by
                  simp only [cE]
                  rw [cpy_len xs ys k4 k5, cpy_getD xs ys 0 k4 k5]
                  rfl
                rw [e2]
                exact q1
              · obtain ⟨k1, k2, k3, k4, k5, rfl⟩ := acpy_some hqq
                rw [hph] at e0 e1
                refine va_copyl hx hb (by rw [hml]; exact hL.1.symm) hown (hts _ (wgt_mem hw1)) (hts _ (wgt_mem hw2)) (hts _ (wgt_mem hw3)) (hts _ (wgt_mem hw4)) hK.1 hP (wsF_D G hp) hS j0 j 2 2 (wsF_at e0) (wsF_at e1) rfl rfl rfl k1 k2 k3 k4 k5 (fun _ _ => rfl) (by omega) hlo hd fun H1 locs1 q1 _ q3 => ?_
                refine kk ls H1 locs1 hL (Rl.put (e' := .inr (.inr (.inl (cpy xs ys sp.toNatClampNeg dp.toNatClampNeg n.toNatClampNeg)))) h0 hpl hph e1 ?_) q3 h1 h2
                have e2 : cE G (.inr (.inr (.inl (cpy xs ys sp.toNatClampNeg dp.toNatClampNeg n.toNatClampNeg)))) = .inl (G.2.2.2.2.1, (ys.length, .inr (.inl (va_cpy (fun j => xs.getD j 0) (fun j => ys.getD j 0) sp.toNatClampNeg dp.toNatClampNeg n.toNatClampNeg)))) := by
                  simp only [cE]
                  rw [cpy_len xs ys k4 k5, cpy_getD xs ys 0 k4 k5]
                rw [e2]
                exact q1
        · cases hs
      · cases hs
    · split at hs
      · rename_i hb7 hb8
        have eb := Nat.eq_of_beq_eq_true hb8
        subst eb
        split at hs
        · rename_i y x st
          split at hs
          · rename_i hst
            have hst : stW st ≤ 8 := Nat.le_of_ble_eq_true hst
            have eg := nx_inj hs
            subst eg
            intro ls H locs hL hR hS h1 h2
            dsimp only at hL hR h1 h2 ⊢
            match ws, hw with
            | [], hw => cases hw
            | [_], hw => cases hw
            | [_, _], hw => cases hw
            | [_, _, _], hw => simp [okW] at hw
            | _ :: _ :: _ :: _ :: _ :: _, hw => cases hw
            | [w1, w2, w3, w4], hw =>
              simp only [okW] at hw
              rw [if_pos (show Nat.beq 8 8 = true from rfl)] at hw
              simp only [Bool.and_eq_true] at hw
              obtain ⟨hw1, hw2, hw3, hw4, hw5, hw6⟩ := hw
              have hw5 := Nat.le_of_ble_eq_true hw5
              have hw6 := Nat.le_of_ble_eq_true hw6
              exact va_mmax hx hb (by rw [hml]; exact hL.1.symm) hown (hts _ (wgt_mem hw1)) (hts _ (wgt_mem hw2)) (hts _ (wgt_mem hw3)) (hts _ (wgt_mem hw4)) (by omega) (by rw [stW_cV]; omega) hc1 hc2 hd (kk ls H locs hL hR hS h1 h2)
          · cases hs
        · cases hs
      · rename_i hb7 hb8
        split at hs
        · rename_i hb9
          have eb := Nat.eq_of_beq_eq_true hb9
          subst eb
          split at hs
          · rename_i y x st
            split at hs
            · rename_i hst
              have hst : stW st ≤ 8 := Nat.le_of_ble_eq_true hst
              have eg := nx_inj hs
              subst eg
              intro ls H locs hL hR hS h1 h2
              dsimp only at hL hR h1 h2 ⊢
              match ws, hw with
              | [], hw => cases hw
              | [_], hw => cases hw
              | [_, _], hw => cases hw
              | [_, _, _], hw => simp [okW] at hw
              | _ :: _ :: _ :: _ :: _ :: _, hw => cases hw
              | [w1, w2, w3, w4], hw =>
                simp only [okW] at hw
                rw [if_neg (by decide), if_pos (show Nat.beq 9 9 = true from rfl)] at hw
                simp only [Bool.and_eq_true] at hw
                obtain ⟨hw1, hw2, hw3, hw4, hw5, hw6⟩ := hw
                have hw5 := Nat.le_of_ble_eq_true hw5
                have hw6 := Nat.le_of_ble_eq_true hw6
                exact va_mmin hx hb (by rw [hml]; exact hL.1.symm) hown (hts _ (wgt_mem hw1)) (hts _ (wgt_mem hw2)) (hts _ (wgt_mem hw3)) (hts _ (wgt_mem hw4)) (by omega) (by rw [stW_cV]; omega) hc1 hc2 hd (kk ls H locs hL hR hS h1 h2)
            · cases hs
          · cases hs
        · split at hs
          · cases hs
          · cases hs
  | ireturn =>
    simp only [exCall] at hs
    split at hs
    · split at hs <;> cases hs
    · cases hs
  | lreturn =>
    simp only [exCall] at hs
    split at hs <;> cases hs
  | return_ =>
    simp only [exCall] at hs
    split at hs <;> cases hs
  | _ => simp [exCall] at hs
end SND
