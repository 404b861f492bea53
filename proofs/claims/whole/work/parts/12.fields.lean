/-! the small machine's steps are the machine's: fields and arrays. Written by program. -/
section SND
variable {p : Program} {l : Launch} {e : Env} {R : Room} {s : State} {m : MethodId} {args : Array Value} {below : List Frame} {meth : Method} {c : Code} {Q : State → Prop} {G : Gm} {sc : List Int32} {z0 : Zc} {mi pc : Nat} {L : List (Option Value)} {st : List Value} {z : Zc} {h : Hp} {li : LI} {g : Fm}
theorem dec_at {ins : Instr} {n k : Nat} {by_ : ByteArray} {pc : Nat} (hd : decode by_ pc = .ok (ins, n)) (hl : Nat.beq n k = true) : decode by_ pc = .ok (ins, k) := by
  rw [Nat.eq_of_beq_eq_true hl] at hd
  exact hd
theorem cell_not0 {sc : List Int32} {h : Hp} (h0 : h 0 = some (.inr (.inl (false, sc)))) {a ci : Nat} {fs : List Value} (ha : h a = some (.inl (ci, fs))) : ∃ j, a = j + 1 := by
  cases a with
  | zero => rw [h0] at ha; cases ha
  | succ j => exact ⟨j, rfl⟩
set_option maxHeartbeats 4000000 in
theorem snd_heap (C0 : CX p R s m args meth c G sc z0 mi) (hok : okI mi pc li = true) (hs : exHeap mi pc li L st z h = some (.inl g)) (kk : WS p l e R s m args below meth c Q G sc z0 mi g) : WS p l e R s m args below meth c Q G sc z0 mi (pc, L, st, z, h) := by
  obtain ⟨hx, hb, hml, hown, hts, hK, hX, hbl, hbs, hnm, hrf, hrl⟩ := C0
  obtain ⟨hd0, hlen, hw⟩ := okI_dec hok
  obtain ⟨ins, len, a, b, cc, ws⟩ := li
  have hbA : ¬ (fun q : Nat => G.2.1.1 ≤ q) G.2.1.2 := Nat.not_le.mpr hbl
  have hbh : G.2.1.2 < s.heap.size := by omega
  cases ins with
  | getfield idx =>
    have hd : decode (mm mi).2.1 pc = .ok (.getfield idx, 3) := dec_at hd0 hlen
    cases st with
    | nil => simp [exHeap] at hs
    | cons v t =>
      cases v with
      | ref x =>
        simp only [exHeap] at hs
        cases hq : gf h x a b with
        | none => rw [hq] at hs; cases hs
        | some v =>
          rw [hq] at hs
          have eg := nx_inj hs
          subst eg
          intro ls H locs hL hR hS h1 h2
          dsimp only at hL hR h1 h2 ⊢
          obtain ⟨fs, hx1, hx2⟩ := gf_some hq
          obtain ⟨h0, hp, hpl, hph, hP⟩ := hR
          obtain ⟨j, rfl⟩ := cell_not0 h0 hx1
          rw [hph] at hx1
          match ws, hw with
          | [], hw => cases hw
          | _ :: _ :: _, hw => cases hw
          | [w], hw =>
            simp only [okW, Bool.and_eq_true] at hw
            obtain ⟨hw1, hw2, hw3⟩ := hw
            have ha : a < 9 := by simpa [Nat.blt_eq] using hw1
            have hk : b < cN a := by simpa [Nat.blt_eq] using hw2
            have hv : (fs.map (cV G))[b]? = some (cV G v) := by rw [List.getElem?_map, hx2]; rfl
            have hsame : ∀ x, s.fieldFound? (cT a b).1 (cT a b).2.1 (cT a b).2.2.1 = some x → s.fieldFound? (cnm a) (cT a b).2.1 (cT a b).2.2.1 = some x := fun x hh => by rw [cT_1 hk] at hh; exact hh
            have kk' := kk ls H locs hL ⟨h0, hp, hpl, hph, hP⟩ hS h1 h2
            rcases Bool.or_eq_true _ _ ▸ hw3 with hw3 | hw3
            · exact va_get hx hb hts (uw_all ha) hown hK.1 hP j (wsF_at hx1) (classes_at ha) b hk (hts _ (wgt_mem hw3)) hsame hv hd kk'
            · exact va_getN hx hb hts (uw_all ha) hown hK.1 hP j (wsF_at hx1) (classes_at ha) b hk (va_Nw.use rfl (hK.2.1 _ (wat_mem hw3) rfl)) hsame hv hd kk'
      | _ => simp [exHeap] at hs
  | putfield idx =>
    have hd : decode (mm mi).2.1 pc = .ok (.putfield idx, 3) := dec_at hd0 hlen
    cases st with
    | nil => simp [exHeap] at hs
    | cons v t =>
      cases t with
      | nil => simp [exHeap] at hs
      | cons w t =>
        cases w with
        | ref x =>
          simp only [exHeap] at hs
          cases hq : pf h x a b cc.toNat v with
          | none => rw [hq] at hs; cases hs
          | some h' =>
            rw [hq] at hs
            have eg := nx_inj hs
            subst eg
            intro ls H locs hL hR hS h1 h2
            dsimp only at hL hR h1 h2 ⊢
            obtain ⟨fs, hx1, hx2, hx3, hx4⟩ := pf_some hq
            obtain ⟨h0, hp, hpl, hph, hP⟩ := hR
            obtain ⟨j, rfl⟩ := cell_not0 h0 hx1
            rw [hph] at hx1
            subst hx4
            match ws, hw with
            | [], hw => cases hw
            | _ :: _ :: _, hw => cases hw
            | [w], hw =>
              simp only [okW, Bool.and_eq_true] at hw
              obtain ⟨hw1, hw2, hwt, hw3⟩ := hw
              have ha : a < 9 := by simpa [Nat.blt_eq] using hw1
              have hk : b < cN a := by simpa [Nat.blt_eq] using hw2
              have hwt := of_decide_eq_true hwt
              obtain ⟨ht1, ht2, -⟩ := ct_all ha hk
              obtain ⟨hn, hfit⟩ := vfit_ok G ht2 (by rw [hwt]; exact hx3)
              have hsame : ∀ x, s.fieldFound? (cT a b).1 (cT a b).2.1 (cT a b).2.2.1 = some x → s.fieldFound? (cnm a) (cT a b).2.1 (cT a b).2.2.1 = some x := fun x hh => by rw [cT_1 hk] at hh; exact hh
              have hl2 : b < (fs.map (cV G)).length := by rw [List.length_map]; exact hx2
              have kk' : ∀ (H1 : Heap) (locs1 : List Loc), va_P G.1 classes ((wsF G 0 hp).set j (cR G (j + 1), .inr (a, (fs.map (cV G)).set b (cV G v)))) H1 → va_D (fun q => G.2.1.1 ≤ q) ((wsF G 0 hp).set j (cR G (j + 1), .inr (a, (fs.map (cV G)).set b (cV G v)))) → va_S (fun q => G.2.1.1 ≤ q) s.heap H1 locs1 → W p l e R s m args below meth c H1 locs1 (z.1 - z0.1) (z.2 - z0.2) Q (F0 m (pc + 3) ls (t.map (cV G))) := fun H1 locs1 g1 _ g3 =>
                kk ls H1 locs1 hL (Rl.put (e' := .inl (a, fs.set b v)) h0 hpl hph hx1 (by rw [show cE G (.inl (a, fs.set b v)) = .inr (a, (fs.map (cV G)).set b (cV G v)) by simp [cE, List.map_set]]; exact g1)) g3 h1 h2
              split at hw3
              · rename_i hfin
                rw [Bool.and_eq_true] at hw3
                obtain ⟨hw4, hw5⟩ := hw3
                obtain ⟨hi1, hi2⟩ := of_decide_eq_true hw4
                exact va_putF hx hb hts (uw_all ha) (cty a) (fun k hk => (ct_all ha hk).1) (cd_all ha) hown hK.1 hP (wsF_D G hp) hS j (wsF_at hx1) (classes_at ha) b hk (hts _ (wgt_mem hw5)) hsame hfin (hnm hi1) ((cT_1 hk).trans hi2.symm) ht1 hn hfit hl2 hd kk'
              · rename_i hfin
                have hfin : (cT a b).2.2.2 = false := by simpa using hfin
                rcases Bool.or_eq_true _ _ ▸ hw3 with hw3 | hw3
                · exact va_put hx hb hts (uw_all ha) (cty a) (fun k hk => (ct_all ha hk).1) (cd_all ha) hown hK.1 hP (wsF_D G hp) hS j (wsF_at hx1) (classes_at ha) b hk (hts _ (wgt_mem hw3)) hsame hfin ht1 hn hfit hl2 hd kk'
                · exact va_putN hx hb hts (uw_all ha) (cty a) (fun k hk => (ct_all ha hk).1) (cd_all ha) hown hK.1 hP (wsF_D G hp) hS j (wsF_at hx1) (classes_at ha) b hk (va_Nw.use rfl (hK.2.1 _ (wat_mem hw3) rfl)) hsame hfin ht1 hn hfit hl2 hd kk'
        | _ => simp [exHeap] at hs
  | iaload =>
    have hd : decode (mm mi).2.1 pc = .ok (.iaload, 1) := dec_at hd0 hlen
    cases st with
    | nil => simp [exHeap] at hs
    | cons v t =>
      cases t with
      | nil => cases v <;> simp [exHeap] at hs
      | cons w t =>
        cases v with
        | int i =>
          cases w with
          | ref x =>
            simp only [exHeap] at hs
            cases hq : iget h x i with
            | none => rw [hq] at hs; cases hs
            | some v =>
              rw [hq] at hs
              have eg := nx_inj hs
              subst eg
              intro ls H locs hL hR hS h1 h2
              dsimp only at hL hR h1 h2 ⊢
              obtain ⟨fs, hx1, hx2⟩ := iget_some hq
              obtain ⟨g1, g2, g3⟩ := aget_some hx2
              obtain ⟨h0, hp, hpl, hph, hP⟩ := hR
              have kk' := kk ls H locs hL ⟨h0, hp, hpl, hph, hP⟩ hS h1 h2
              cases x with
              | zero =>
                rw [h0] at hx1
                cases hx1
                exact va_sld hx hb hX hbh hbA hS g1 hd (by rw [getD_of g2]; exact kk')
              | succ j =>
                rw [hph] at hx1
                exact va_iald hx hb hK.1 hP j 0 (wsF_at hx1) rfl g1 hd (by rw [getD_of g2]; exact kk')
          | _ => simp [exHeap] at hs
        | _ => simp [exHeap] at hs
  | baload =>
    have hd : decode (mm mi).2.1 pc = .ok (.baload, 1) := dec_at hd0 hlen
    cases st with
    | nil => simp [exHeap] at hs
    | cons v t =>
      cases t with
      | nil => cases v <;> simp [exHeap] at hs
      | cons w t =>
        cases v with
        | int i =>
          cases w with
          | ref x =>
            simp only [exHeap] at hs
            cases hq : zget h x i with
            | none => rw [hq] at hs; cases hs
            | some v =>
              rw [hq] at hs
              have eg := nx_inj hs
              subst eg
              intro ls H locs hL hR hS h1 h2
              dsimp only at hL hR h1 h2 ⊢
              obtain ⟨j, fs, rfl, hx1, hx2⟩ := zget_some hq
              obtain ⟨g1, g2, g3⟩ := aget_some hx2
              obtain ⟨h0, hp, hpl, hph, hP⟩ := hR
              have kk' := kk ls H locs hL ⟨h0, hp, hpl, hph, hP⟩ hS h1 h2
              rw [hph] at hx1
              exact va_zald hx hb hK.1 hP j 1 (wsF_at hx1) rfl g1 hd (by rw [getD_of g2]; exact kk')
          | _ => simp [exHeap] at hs
        | _ => simp [exHeap] at hs
  | laload =>
    have hd : decode (mm mi).2.1 pc = .ok (.laload, 1) := dec_at hd0 hlen
    cases st with
    | nil => simp [exHeap] at hs
    | cons v t =>
      cases t with
      | nil => cases v <;> simp [exHeap] at hs
      | cons w t =>
        cases v with
        | int i =>
          cases w with
          | ref x =>
            simp only [exHeap] at hs
            cases hq : jget h x i with
            | none => rw [hq] at hs; cases hs
            | some v =>
              rw [hq] at hs
              have eg := nx_inj hs
              subst eg
              intro ls H locs hL hR hS h1 h2
              dsimp only at hL hR h1 h2 ⊢
              obtain ⟨j, fs, rfl, hx1, hx2⟩ := jget_some hq
              obtain ⟨g1, g2, g3⟩ := aget_some hx2
              obtain ⟨h0, hp, hpl, hph, hP⟩ := hR
              have kk' := kk ls H locs hL ⟨h0, hp, hpl, hph, hP⟩ hS h1 h2
              rw [hph] at hx1
              exact va_lald hx hb hK.1 hP j 2 (wsF_at hx1) rfl g1 hd (by rw [getD_of g2]; exact kk')
          | _ => simp [exHeap] at hs
        | _ => simp [exHeap] at hs
  | aaload =>
    have hd : decode (mm mi).2.1 pc = .ok (.aaload, 1) := dec_at hd0 hlen
    cases st with
    | nil => simp [exHeap] at hs
    | cons v t =>
      cases t with
      | nil => cases v <;> simp [exHeap] at hs
      | cons w t =>
        cases v with
        | int i =>
          cases w with
          | ref x =>
            simp only [exHeap] at hs
            cases hq : rget h x i with
            | none => rw [hq] at hs; cases hs
            | some v =>
              rw [hq] at hs
              have eg := nx_inj hs
              subst eg
              intro ls H locs hL hR hS h1 h2
              dsimp only at hL hR h1 h2 ⊢
              obtain ⟨j, w, fs, rfl, hx1, hx2⟩ := rget_some hq
              obtain ⟨g1, g2, g3⟩ := aget_some hx2
              obtain ⟨h0, hp, hpl, hph, hP⟩ := hR
              have kk' := kk ls H locs hL ⟨h0, hp, hpl, hph, hP⟩ hS h1 h2
              rw [hph] at hx1
              have hat := wsF_at (G := G) hx1
              have e1 : va_rf ((fun q => (fs.getD q none).map (cR G)) i.toNatClampNeg) = .ref (cR G v) := by
                show va_rf ((fs.getD i.toNatClampNeg none).map (cR G)) = _
                rw [getD_of g2]
                rfl
              by_cases hw0 : w = 0
              · subst hw0
                refine va_aldq hx hb hK.1 hP j 3 hat rfl g1 hd ?_
                rw [e1]
                exact kk'
              · have hcell : H[cR G (j + 1)]? = some (vp_cell G.2.2.2.2.2.2 (fs.length, .inr (.inr (.inr (.inr (fun q => (fs.getD q none).map (cR G))))))) := by
                  have := hP j _ hat
                  simp only [cE, if_neg hw0] at this
                  exact this
                refine W.aald (v := .ref (cR G v)) (ty := .array .int) hx hb hcell ((hK.1.2 4 _ rfl).1 fs.length (fun q => va_rf ((fs.getD q none).map (cR G)))) rfl (fun q => by cases q) ?_ ?_ rfl rfl hd kk'
                · show ¬ (i < 0 ∨ (arrV _ _ _).slots.size ≤ _)
                  rw [arrV_size]
                  exact g1
                · show (arrV _ _ _).slots[_]? = _
                  rw [arrV_read _ _ g3, ← e1]
          | _ => simp [exHeap] at hs
        | _ => simp [exHeap] at hs
  | iastore =>
    have hd : decode (mm mi).2.1 pc = .ok (.iastore, 1) := dec_at hd0 hlen
    cases st with
    | nil => simp [exHeap] at hs
    | cons v t =>
      cases t with
      | nil => cases v <;> simp [exHeap] at hs
      | cons w t =>
        cases t with
        | nil => cases v <;> cases w <;> simp [exHeap] at hs
        | cons u t =>
          cases v with
          | int y =>
            cases w with
            | int i =>
              cases u with
              | ref x =>
                simp only [exHeap] at hs
                cases hq : iset h x i y with
                | none => rw [hq] at hs; cases hs
                | some h' =>
                  rw [hq] at hs
                  have eg := nx_inj hs
                  subst eg
                  intro ls H locs hL hR hS h1 h2
                  dsimp only at hL hR h1 h2 ⊢
                  obtain ⟨j, fs, fs', rfl, hx1, hx2, rfl⟩ := iset_some hq
                  obtain ⟨g1, rfl, g3⟩ := aset_some hx2
                  obtain ⟨h0, hp, hpl, hph, hP⟩ := hR
                  rw [hph] at hx1
                  refine va_iast hx hb hK.1 hP (wsF_D G hp) hS j 0 (wsF_at hx1) rfl g1 hd fun H1 locs1 k1 _ k3 => ?_
                  refine kk ls H1 locs1 hL (Rl.put (e' := .inr (.inl (false, fs.set i.toNatClampNeg y))) h0 hpl hph hx1 ?_) k3 h1 h2
                  have e1 : cE G (.inr (.inl (false, fs.set i.toNatClampNeg y))) = .inl (G.2.2.1, (fs.length, .inl (upd (fun q => fs.getD q 0) i.toNatClampNeg y))) := by
                    simp only [cE, List.length_set]
                    rw [sgetD _ _ _ _ g3]
                    rfl
                  rw [e1]
                  exact k1
              | _ => simp [exHeap] at hs
            | _ => simp [exHeap] at hs
          | _ => simp [exHeap] at hs
  | bastore =>
    have hd : decode (mm mi).2.1 pc = .ok (.bastore, 1) := dec_at hd0 hlen
    cases st with
    | nil => simp [exHeap] at hs
    | cons v t =>
      cases t with
      | nil => cases v <;> simp [exHeap] at hs
      | cons w t =>
        cases t with
        | nil => cases v <;> cases w <;> simp [exHeap] at hs
        | cons u t =>
          cases v with
          | int y =>
            cases w with
            | int i =>
              cases u with
              | ref x =>
                simp only [exHeap] at hs
                cases hq : zset h x i y with
                | none => rw [hq] at hs; cases hs
                | some h' =>
                  rw [hq] at hs
                  have eg := nx_inj hs
                  subst eg
                  intro ls H locs hL hR hS h1 h2
                  dsimp only at hL hR h1 h2 ⊢
                  obtain ⟨j, fs, fs', rfl, hx1, hxb, hx2, rfl⟩ := zset_some hq
                  obtain ⟨g1, rfl, g3⟩ := aset_some hx2
                  obtain ⟨h0, hp, hpl, hph, hP⟩ := hR
                  rw [hph] at hx1
                  refine va_zast hx hb hK.1 hP (wsF_D G hp) hS j 1 (wsF_at hx1) rfl g1 hd fun H1 locs1 k1 _ k3 => ?_
                  refine kk ls H1 locs1 hL (Rl.put (e' := .inr (.inl (true, fs.set i.toNatClampNeg y))) h0 hpl hph hx1 ?_) k3 h1 h2
                  rw [vp_narZ hxb] at k1
                  have e1 : cE G (.inr (.inl (true, fs.set i.toNatClampNeg y))) = .inl (G.2.2.2.1, (fs.length, .inl (upd (fun q => fs.getD q 0) i.toNatClampNeg y))) := by
                    simp only [cE, List.length_set]
                    rw [sgetD _ _ _ _ g3]
                    rfl
                  rw [e1]
                  exact k1
              | _ => simp [exHeap] at hs
            | _ => simp [exHeap] at hs
          | _ => simp [exHeap] at hs
  | lastore =>
    have hd : decode (mm mi).2.1 pc = .ok (.lastore, 1) := dec_at hd0 hlen
    cases st with
    | nil => simp [exHeap] at hs
    | cons v t =>
      cases t with
      | nil => cases v <;> simp [exHeap] at hs
      | cons w t =>
        cases t with
        | nil => cases v <;> cases w <;> simp [exHeap] at hs
        | cons u t =>
          cases v with
          | long y =>
            cases w with
            | int i =>
              cases u with
              | ref x =>
                simp only [exHeap] at hs
                cases hq : jset h x i y with
                | none => rw [hq] at hs; cases hs
                | some h' =>
                  rw [hq] at hs
                  have eg := nx_inj hs
                  subst eg
                  intro ls H locs hL hR hS h1 h2
                  dsimp only at hL hR h1 h2 ⊢
                  obtain ⟨j, fs, fs', rfl, hx1, hx2, rfl⟩ := jset_some hq
                  obtain ⟨g1, rfl, g3⟩ := aset_some hx2
                  obtain ⟨h0, hp, hpl, hph, hP⟩ := hR
                  rw [hph] at hx1
                  refine va_last hx hb hK.1 hP (wsF_D G hp) hS j 2 (wsF_at hx1) rfl g1 hd fun H1 locs1 k1 _ k3 => ?_
                  refine kk ls H1 locs1 hL (Rl.put (e' := .inr (.inr (.inl (fs.set i.toNatClampNeg y)))) h0 hpl hph hx1 ?_) k3 h1 h2
                  have e1 : cE G (.inr (.inr (.inl (fs.set i.toNatClampNeg y)))) = .inl (G.2.2.2.2.1, (fs.length, .inr (.inl (vp_updL (fun q => fs.getD q 0) i.toNatClampNeg y)))) := by
                    simp only [cE, List.length_set]
                    rw [sgetD _ _ _ _ g3]
                    rfl
                  rw [e1]
                  exact k1
              | _ => simp [exHeap] at hs
            | _ => simp [exHeap] at hs
          | _ => simp [exHeap] at hs
  | aastore =>
    have hd : decode (mm mi).2.1 pc = .ok (.aastore, 1) := dec_at hd0 hlen
    cases st with
    | nil => simp [exHeap] at hs
    | cons v t =>
      cases t with
      | nil => cases v <;> simp [exHeap] at hs
      | cons w t =>
        cases t with
        | nil => cases v <;> cases w <;> simp [exHeap] at hs
        | cons u t =>
          cases v with
          | ref y =>
            cases w with
            | int i =>
              cases u with
              | ref x =>
                simp only [exHeap] at hs
                cases hq : rset h x i y with
                | none => rw [hq] at hs; cases hs
                | some h' =>
                  rw [hq] at hs
                  have eg := nx_inj hs
                  subst eg
                  intro ls H locs hL hR hS h1 h2
                  dsimp only at hL hR h1 h2 ⊢
                  obtain ⟨j, fs, fs', rfl, hx1, hxk, hx2, rfl⟩ := rset_some hq
                  obtain ⟨g1, rfl, g3⟩ := aset_some hx2
                  obtain ⟨vs, hxv⟩ := ck_some hxk
                  obtain ⟨h0, hp, hpl, hph, hP⟩ := hR
                  obtain ⟨jv, rfl⟩ := cell_not0 h0 hxv
                  rw [hph] at hx1 hxv
                  refine va_astq hx hb hK.1 hP (wsF_D G hp) hS j 3 jv 4 (r := (cnm 4, cT 4, cN 4)) (wsF_at hx1) rfl (wsF_at hxv) rfl g1 hd fun H1 locs1 k1 _ k3 => ?_
                  refine kk ls H1 locs1 hL (Rl.put (e' := .inr (.inr (.inr (0, fs.set i.toNatClampNeg (some (jv + 1)))))) h0 hpl hph hx1 ?_) k3 h1 h2
                  have e1 : cE G (.inr (.inr (.inr (0, fs.set i.toNatClampNeg (some (jv + 1)))))) = .inl (G.2.2.2.2.2.1, (fs.length, .inr (.inr (.inr (.inr (va_up (fun q => (fs.getD q none).map (cR G)) i.toNatClampNeg (some (cR G (jv + 1))))))))) := by
                    simp only [cE, List.length_set]
                    have e2 := sgetD fs i.toNatClampNeg (some (jv + 1)) none g3
                    have e3 : (fun q => ((fs.set i.toNatClampNeg (some (jv + 1))).getD q none).map (cR G)) = va_up (fun q => (fs.getD q none).map (cR G)) i.toNatClampNeg (some (cR G (jv + 1))) := by
                      funext q
                      have e4 := congrFun e2 q
                      rw [e4]
                      by_cases hq2 : q = i.toNatClampNeg
                      · simp [va_up, hq2]
                      · simp [va_up, hq2]
                    rw [e3]
                    rfl
                  rw [e1]
                  exact k1
              | _ => simp [exHeap] at hs
            | _ => simp [exHeap] at hs
          | _ => simp [exHeap] at hs
  | arraylength =>
    have hd : decode (mm mi).2.1 pc = .ok (.arraylength, 1) := dec_at hd0 hlen
    cases st with
    | nil => simp [exHeap] at hs
    | cons v t =>
      cases v with
      | ref x =>
        simp only [exHeap] at hs
        cases hq : alen h x with
        | none => rw [hq] at hs; cases hs
        | some v =>
          rw [hq] at hs
          have eg := nx_inj hs
          subst eg
          intro ls H locs hL hR hS h1 h2
          dsimp only at hL hR h1 h2 ⊢
          obtain ⟨h0, hp, hpl, hph, hP⟩ := hR
          have kk' := kk ls H locs hL ⟨h0, hp, hpl, hph, hP⟩ hS h1 h2
          unfold alen at hq
          cases x with
          | zero =>
            rw [h0] at hq
            cases hq
            exact va_slen hx hb hX hbh hbA hS hd kk'
          | succ j =>
            rw [hph] at hq
            split at hq
            · rename_i zz fs hx1
              cases hq
              cases zz
              · exact va_alen hx hb hK.1 hP j 0 (wsF_at hx1) rfl rfl hd kk'
              · exact va_alen hx hb hK.1 hP j 1 (wsF_at hx1) rfl rfl hd kk'
            · rename_i fs hx1
              cases hq
              exact va_alen hx hb hK.1 hP j 2 (wsF_at hx1) rfl rfl hd kk'
            · rename_i w fs hx1
              cases hq
              have hat := wsF_at (G := G) hx1
              by_cases hw0 : w = 0
              · subst hw0
                exact va_alen hx hb hK.1 hP j 3 hat rfl rfl hd kk'
              · simp only [cE, if_neg hw0] at hat
                exact va_alen hx hb hK.1 hP j 4 hat rfl rfl hd kk'
            · cases hq
      | _ => simp [exHeap] at hs
  | _ => simp [exHeap] at hs
end SND
