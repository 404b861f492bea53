/-! the small machine's steps are the machine's: what is made -/
section SND
variable {p : Program} {l : Launch} {e : Env} {R : Room} {s : State} {m : MethodId} {args : Array Value} {below : List Frame} {meth : Method} {c : Code} {Q : State → Prop} {G : Gm} {sc : List Int32} {z0 : Zc} {mi pc : Nat} {L : List (Option Value)} {st : List Value} {z : Zc} {h : Hp} {li : LI} {g : Fm}
set_option maxHeartbeats 4000000 in
theorem snd_make (C0 : CX p R s m args meth c G sc z0 mi) (hok : okI mi pc li = true) (hs : exMake mi pc li L st z h = some (.inl g)) (hc1 : g.2.2.2.1.1 - z0.1 ≤ R.cells) (hc2 : g.2.2.2.1.2 - z0.2 ≤ R.slots) (kk : WS p l e R s m args below meth c Q G sc z0 mi g) : WS p l e R s m args below meth c Q G sc z0 mi (pc, L, st, z, h) := by
  have C1 := C0
  obtain ⟨hx, hb, hml, hown, hts, hK, hX, hbl, hbs, hnm, hrf, hrl⟩ := C0
  obtain ⟨hd0, hlen, hw⟩ := okI_dec hok
  obtain ⟨ins, len, a, b, cc, ws⟩ := li
  cases ins with
  | new idx =>
    have hd : decode (mm mi).2.1 pc = .ok (.new idx, 3) := dec_at hd0 hlen
    simp only [exMake] at hs
    have eg := nx_inj hs
    subst eg
    dsimp only at hc1 hc2
    intro ls H locs hL hR hS h1 h2
    dsimp only at hL hR h1 h2 ⊢
    have hsz1 := Rl.size hR (by have := hS.1; omega)
    obtain ⟨h0, hp, hpl, hph, hP⟩ := hR
    refine W_sz fun hsz2 => ?_
    have hsz : H.size = G.2.1.1 + z.1 := by omega
    match ws, hw with
    | [], hw => cases hw
    | [_], hw => cases hw
    | [_, _], hw => cases hw
    | _ :: _ :: _ :: _ :: _, hw => cases hw
    | [w1, w2, w3], hw =>
      simp only [okW, Bool.and_eq_true] at hw
      obtain ⟨hw0, hw1, hw2, hw3⟩ := hw
      have ha : a < 9 := by simpa [Nat.blt_eq] using hw0
      have hKn := hK.1.1 a _ (classes_at ha)
      refine W.newcK hx hb hown (hts _ (wgt_mem hw1)) (hts _ (wgt_mem hw2)) (hts _ (wgt_mem hw3)) rfl hd (by omega) (by omega) hKn.2.1 hsz fun H1 kC hkC e1 z1 o1 => ?_
      have hk : ∀ (k : Nat) (x : Nat × va_E), (wsF G 0 hp)[k]? = some x → H1[x.1]? = H[x.1]? := fun k x hx => o1 x.1 (by rw [← hsz]; exact (hP k x hx).lt)
      have kk' := kk ls H1 locs hL (Rl.push (e' := blankE a) (z' := (z.1 + 1, z.2 + cN a)) h0 hpl hph rfl (hP.kept hk) ?_) (hS.grown hsz (by omega) o1) (by dsimp only; omega) (by dsimp only; omega)
      · rw [show z.1 - z0.1 + 1 = z.1 + 1 - z0.1 by omega, show z.2 - z0.2 + cN a = z.2 + cN a - z0.2 by omega]
        exact kk'
      · refine ⟨_, classes_at ha, (u_born (cty a) hts (uw_all ha) hKn hkC e1 (fun k hk => (ct_all ha hk).1)).to (fun j hj => ?_)⟩
        have hj' : j < (cfl a).length := hj
        have h3 := (ct_all ha hj).2.2
        show defaultValue (cty a j) = (((cfl a).map (fun q => dflt q.2.1)).map (cV G)).getD j .null
        rw [← h3, List.getD_eq_getElem?_getD, List.getElem?_map, List.getElem?_map, List.getElem?_eq_getElem hj']
        simp only [Option.map_some, Option.getD_some, cT, List.getElem?_eq_getElem hj']
        generalize (cfl a)[j].2.1 = d
        unfold dflt
        split
        · rfl
        · split
          · rfl
          · split <;> rfl
  | newarray t =>
    have hd : decode (mm mi).2.1 pc = .ok (.newarray t, 2) := dec_at hd0 hlen
    cases st with
    | nil => simp [exMake] at hs
    | cons v st =>
      cases v with
      | int n =>
        simp only [exMake] at hs
        split at hs
        · cases hs
        · rename_i hn
          split at hs
          · rename_i hn2
            cases hq : newE t n.toNatClampNeg with
            | none => rw [hq] at hs; cases hs
            | some e' =>
              rw [hq] at hs
              have eg := nx_inj hs
              subst eg
              dsimp only at hc1 hc2
              intro ls H locs hL hR hS h1 h2
              dsimp only at hL hR h1 h2 ⊢
              have hsz1 := Rl.size hR (by have := hS.1; omega)
              obtain ⟨h0, hp, hpl, hph, hP⟩ := hR
              refine W_sz fun hsz2 => ?_
              have hsz : H.size = G.2.1.1 + z.1 := by omega
              match ws, hw with
              | [], hw => cases hw
              | _ :: _ :: _, hw => cases hw
              | [w1], hw =>
                have hty := newE_cases hq
                have hcb : componentBytes (newarray.typeOf t) ≤ 8 := by rcases hty with ⟨rfl, -⟩ | ⟨rfl, -⟩ | ⟨rfl, -⟩ <;> decide
                refine va_newaK hx hb (hts _ (wgt_mem hw)) rfl hd rfl hn rfl (Nat.le_trans (Nat.mul_le_mul hn2 hcb) (by decide)) (by omega) (by omega) hsz fun H1 cA e1 z1 o1 hAr hNm => ?_
                have hk : ∀ (k : Nat) (x : Nat × va_E), (wsF G 0 hp)[k]? = some x → H1[x.1]? = H[x.1]? := fun k x hx => o1 x.1 (by rw [← hsz]; exact (hP k x hx).lt)
                have kk' := kk ls H1 locs hL (Rl.push (e' := e') (z' := (z.1 + 1, z.2 + n.toNatClampNeg)) h0 hpl hph rfl (hP.kept hk) ?_) (hS.grown hsz (by omega) o1) (by dsimp only; omega) (by dsimp only; omega)
                · rw [show z.1 - z0.1 + 1 = z.1 + 1 - z0.1 by omega, show z.2 - z0.2 + n.toNatClampNeg = z.2 + n.toNatClampNeg - z0.2 by omega]
                  exact kk'
                · rcases hty with ⟨rfl, rfl⟩ | ⟨rfl, rfl⟩ | ⟨rfl, rfl⟩
                  · have this : G.2.2.1 = cA := Option.some.inj (Eq.trans (Eq.symm (hK.1.2 0 _ rfl).2) hNm)
                    show H1[_]? = some (vp_cell _ _)
                    simp only [Bool.false_eq_true, if_false, List.length_replicate, repl_i, this]
                    rw [vp_cell_i]
                    exact e1
                  · have this : G.2.2.2.1 = cA := Option.some.inj (Eq.trans (Eq.symm (hK.1.2 1 _ rfl).2) hNm)
                    show H1[_]? = some (vp_cell _ _)
                    simp only [if_true, List.length_replicate, repl_i, this]
                    rw [vp_cell_i]
                    exact e1
                  · have this : G.2.2.2.2.1 = cA := Option.some.inj (Eq.trans (Eq.symm (hK.1.2 2 _ rfl).2) hNm)
                    show H1[_]? = some (vp_cell _ _)
                    simp only [List.length_replicate, repl_l, this]
                    rw [vp_cell_l]
                    exact e1
          · cases hs
      | _ => simp [exMake] at hs
  | anewarray idx =>
    have hd : decode (mm mi).2.1 pc = .ok (.anewarray idx, 3) := dec_at hd0 hlen
    cases st with
    | nil => simp [exMake] at hs
    | cons v st =>
      cases v with
      | int n =>
        simp only [exMake] at hs
        split at hs
        · cases hs
        · rename_i hn
          split at hs
          · rename_i hn2
            have eg := nx_inj hs
            subst eg
            dsimp only at hc1 hc2
            intro ls H locs hL hR hS h1 h2
            dsimp only at hL hR h1 h2 ⊢
            have hsz1 := Rl.size hR (by have := hS.1; omega)
            obtain ⟨h0, hp, hpl, hph, hP⟩ := hR
            refine W_sz fun hsz2 => ?_
            have hsz : H.size = G.2.1.1 + z.1 := by omega
            match ws, hw with
            | [], hw => cases hw
            | _ :: _ :: _, hw => cases hw
            | [w1], hw =>
              refine W.anew (C := "SheepAndStones$Wall") hx hb hown (hts _ (wgt_mem hw)) (va_AO.use hK.2.2.1) rfl hd rfl hn (by omega) (by omega) (by omega) fun cA kA comp f1 f2 f3 f4 => ?_
              have hRA := (hK.1.2 3 _ rfl).2
              obtain ⟨kA', comp', g1, g2, g3, g4⟩ := hRA
              have ecA : cA = G.2.2.2.2.2.1 := Option.some.inj (f1.symm.trans g4)
              subst ecA
              generalize hH1 : H.push ({ cls := G.2.2.2.2.2.1, slots := Array.replicate n.toNatClampNeg .null, vm := .none } : Cell) = H1
              have z1 : H1.size = H.size + 1 := by rw [← hH1, Array.size_push]
              have e1 : H1[H.size]? = some (arrV G.2.2.2.2.2.1 n.toNatClampNeg (fun _ => .null)) := by rw [← hH1, Array.getElem?_push_size, ← arrV_new]
              have o1 : ∀ q : Nat, q < G.2.1.1 + z.1 → H1[q]? = H[q]? := fun q hq => by rw [← hH1, Array.getElem?_push, if_neg (by omega)]
              have hk : ∀ (k : Nat) (x : Nat × va_E), (wsF G 0 hp)[k]? = some x → H1[x.1]? = H[x.1]? := fun k x hx => o1 x.1 (by rw [← hsz]; exact (hP k x hx).lt)
              have kk' := kk ls H1 locs hL (Rl.push (e' := .inr (.inr (.inr (0, List.replicate n.toNatClampNeg none)))) (z' := (z.1 + 1, z.2 + n.toNatClampNeg)) h0 hpl hph rfl (hP.kept hk) ?_) (hS.grown hsz (by omega) o1) (by dsimp only; omega) (by dsimp only; omega)
              · rw [show z.1 - z0.1 + 1 = z.1 + 1 - z0.1 by omega, show z.2 - z0.2 + n.toNatClampNeg = z.2 + n.toNatClampNeg - z0.2 by omega]
                have e2 : H.size = cR G (z.1 + 1) := hsz
                rw [e2]
                exact kk'
              · rw [hsz] at e1
                show H1[_]? = some (vp_cell _ _)
                have e3 : (fun j => ((List.replicate n.toNatClampNeg (none : Option Nat)).getD j none).map (cR G)) = (fun _ => none) := by
                  funext j
                  rw [List.getD_eq_getElem?_getD, List.getElem?_replicate]
                  split <;> rfl
                simp only [cE, if_true, List.length_replicate, e3]
                rw [vp_cell_q]
                exact e1
          · cases hs
      | _ => simp [exMake] at hs
  | multianewarray idx d => exact snd_multi C1 hok hs hc1 hc2 kk
  | _ => simp [exMake] at hs
end SND
