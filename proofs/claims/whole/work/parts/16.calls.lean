/-! calls, and the whole run -/
section SND
variable {p : Program} {l : Launch} {e : Env} {R : Room} {s : State} {m : MethodId} {args : Array Value} {below : List Frame} {meth : Method} {c : Code} {Q : State → Prop} {G : Gm} {sc : List Int32} {z0 : Zc} {mi pc : Nat} {L : List (Option Value)} {st : List Value} {z : Zc} {h : Hp} {li : LI} {g : Fm}
/-- behind a call -/
theorem snd_back {mj : Nat} {as : List Value} {v : Option Value} {z' : Zc} {h' : Hp} {ls : Array Slot} {H : Heap} {locs : List Loc} {st0 rest : List Value} {a : Array Value}
    (hv : v = none ∨ (∃ x, v = some (.int x)) ∨ ∃ x, v = some (.long x))
    (hr : va_Run p l e R s m args below meth c H locs (z.1 - z0.1) (z.2 - z0.2) (z'.1 - z.1) (z'.2 - z.2) (F0 m pc ls st0) (rest.map (cV G)) (QcOf G sc v z' h' a) (AG G))
    (hS : va_S (AG G) s.heap H locs) (hz1 : z0.1 ≤ z.1) (hz2 : z0.2 ≤ z.2) (hz3 : z.1 ≤ z'.1) (hz4 : z.2 ≤ z'.2)
    (kk : ∀ (H1 : Heap) (locs1 : List Loc), Rl G sc z' h' H1 → va_S (AG G) s.heap H1 locs1 → W p l e R s m args below meth c H1 locs1 (z'.1 - z0.1) (z'.2 - z0.2) Q (F0 m (pc + 3) ls ((pushr v rest).map (cV G)))) :
    W p l e R s m args below meth c H locs (z.1 - z0.1) (z.2 - z0.2) Q (F0 m pc ls st0) := by
  have e1 : z'.1 - z0.1 = z.1 - z0.1 + (z'.1 - z.1) := by omega
  have e2 : z'.2 - z0.2 = z.2 - z0.2 + (z'.2 - z.2) := by omega
  rw [e1, e2] at kk
  rcases hv with rfl | ⟨x, rfl⟩ | ⟨x, rfl⟩
  · exact va_callv (a := a) hr hS (fun q _ hq => hq) (fun q hq => hq) (fun u t H1 locs1 ht _ _ hB _ _ hS1 => kk H1 locs1 (by rw [← ht]; exact hB) hS1)
  · refine va_calli (a := a) hr hS (fun q _ hq => hq) (fun q hq => hq) (fun r u t H1 locs1 ht _ hp hB _ _ hS1 => ?_)
    have hp : r = x := hp
    subst hp
    exact kk H1 locs1 (by rw [← ht]; exact hB) hS1
  · refine va_calll (a := a) hr hS (fun q _ hq => hq) (fun q hq => hq) (fun r u t H1 locs1 ht _ hp hB _ _ hS1 => ?_)
    have hp : r = x := hp
    subst hp
    exact kk H1 locs1 (by rw [← ht]; exact hB) hS1
theorem SX.to {U : State} {H : Heap} {locs : List Loc} (hX : SX G sc s s.heap) (hbl : G.2.1.2 < G.2.1.1) (hbh : G.2.1.2 < s.heap.size) (hS : va_S (AG G) s.heap H locs) (hU : U.heap = H) (hW : s.WarmedH U.vm) : SX G sc U U.heap := by
  rw [hU]
  exact va_X.moved hW.alike (va_X.kept hX (hS.2.1 _ hbh (Nat.not_le.mpr hbl)))
set_option maxHeartbeats 4000000 in
theorem snd_call {mj : Nat} {as : List Value} {v : Option Value} {z' : Zc} {h' : Hp} (C0 : CX p R s m args meth c G sc z0 mi) (hok : okI mi pc li = true) (hc : callF pc li L st z h mj as g) (hj : mj < cds.length) (hM : MetI l G sc mj as z h v z' h') (hv : v = none ∨ (∃ x, v = some (.int x)) ∨ ∃ x, v = some (.long x)) (hz3 : z.1 ≤ z'.1) (hz4 : z.2 ≤ z'.2) (hc1 : z'.1 - z0.1 ≤ R.cells) (hc2 : z'.2 - z0.2 ≤ R.slots) (kk : WS p l e R s m args below meth c Q G sc z0 mi (g.1, g.2.1, pushr v g.2.2.1, z', h')) : WS p l e R s m args below meth c Q G sc z0 mi (pc, L, st, z, h) := by
  obtain ⟨hx, hb, hml, hown, hts, hK, hX, hbl, hbs, hnm, hrf, hrl⟩ := C0
  obtain ⟨hd0, hlen, hw⟩ := okI_dec hok
  obtain ⟨ins, len, a, b, cc, ws⟩ := li
  obtain ⟨ea, hc⟩ := hc
  have ea : mj = a := ea
  subst ea
  intro ls H locs hL hR hS h1 h2
  dsimp only at hL hR h1 h2 kk ⊢
  have hbh : G.2.1.2 < s.heap.size := by omega
  have hsz1 := Rl.size hR (by have := hS.1; omega)
  refine W_sz fun hsz2 => ?_
  have hsz : H.size = G.2.1.1 + z.1 := by omega
  have hKf : ∀ U : State, U.heap = H → s.WarmedH U.vm → U.heap.size = G.2.1.1 + z.1 ∧ Rl G sc z h U.heap ∧ KK G U ∧ SX G sc U U.heap := fun U hU hW => ⟨by rw [hU]; exact hsz, by rw [hU]; exact hR, KK.moved hW hK, SX.to hX hbl hbh hS hU hW⟩
  cases ins with
  | invokevirtual idx =>
    have hd : decode (mm mi).2.1 pc = .ok (.invokevirtual idx, 3) := dec_at hd0 hlen
    obtain ⟨x, bs, rest, rfl, hbn, rfl, hst, hck, hwd, rfl⟩ := hc
    obtain ⟨fs, hfs⟩ := ck_some hck
    obtain ⟨h0, hp, hpl, hph, hP⟩ := id hR
    obtain ⟨j, rfl⟩ := cell_not0 h0 hfs
    rw [hph] at hfs
    match ws, hw with
    | [], hw => cases hw
    | [_], hw => cases hw
    | [_, _], hw => cases hw
    | [_, _, _], hw => cases hw
    | _ :: _ :: _ :: _ :: _ :: _, hw => cases hw
    | [w1, w2, w3, w4], hw =>
      simp only [okW, Bool.and_eq_true] at hw
      obtain ⟨⟨⟨hb9, hcn⟩, hoM⟩, hoN, hoR, hw2, hw3, hw4, hw1⟩ := hw
      have hb9 : b < 9 := by simpa [Nat.blt_eq] using hb9
      have hcn := of_decide_eq_true hcn
      simp only [okM, Bool.and_eq_true] at hoM
      obtain ⟨hm0, hpn, hnh⟩ := hoM
      have hm0 : 0 < mj := by simpa [Nat.blt_eq] using hm0
      have hnh := of_decide_eq_true hnh
      have hoN := of_decide_eq_true hoN
      simp only [okRm, Bool.and_eq_true] at hoR
      have hr1 := Nat.le_of_ble_eq_true hoR.1
      have hr2 := Nat.le_of_ble_eq_true hoR.2
      have hwj := wsM_in hm0 hj
      have hrecv := va_recv hK.1 hP (classes_at hb9) (wsF_at hfs)
      rw [show ((cnm b, cT b, cN b) : vw_C).1 = (mm mj).1.cls from hcn.symm] at hrecv
      have hroom : (rmM mj z z').frames + 1 ≤ R.frames ∧ 8 + ((mm mj).2.2.1 + 11) + (rmM mj z z').locals ≤ R.locals := ⟨by show (mm mj).2.2.2.2.1 + 1 ≤ _; omega, by show 8 + ((mm mj).2.2.1 + 11) + (mm mj).2.2.2.2.2 ≤ _; omega⟩
      have hstk : (F0 m pc ls ((bs.reverse ++ .ref (j + 1) :: rest).map (cV G))).stack = (bs.map (cV G)).reverse ++ .ref (cR G (j + 1)) :: rest.map (cV G) := by
        show (bs.reverse ++ .ref (j + 1) :: rest).map (cV G) = _
        rw [List.map_append, List.map_reverse]
        rfl
      have hW8 : 2 * (F0 m pc ls ((bs.reverse ++ .ref (j + 1) :: rest).map (cV G))).monitorRoom + ((rest.map (cV G)).map fun v => v.category).sum ≤ 8 := by
        rw [stW_cV]
        show 2 * 0 + stW rest ≤ 8
        omega
      have hPre : PreV s H (mm mj).1.cls (cR G (j + 1)) (PcOf G sc (.ref (j + 1) :: bs) z h) (bs.map (cV G)) := ⟨PcOf.blind, hrecv, fun U hU hW => ⟨rfl, hKf U hU hW⟩⟩
      have hkk : ∀ (H1 : Heap) (locs1 : List Loc), Rl G sc z' h' H1 → va_S (AG G) s.heap H1 locs1 → W p l e R s m args below meth c H1 locs1 (z'.1 - z0.1) (z'.2 - z0.2) Q (F0 m (pc + 3) ls ((pushr v rest).map (cV G))) := fun H1 locs1 hR1 hS1 => kk ls H1 locs1 hL hR1 hS1 (Nat.le_trans h1 hz3) (Nat.le_trans h2 hz4)
      rcases Bool.or_eq_true _ _ ▸ hw1 with hw1 | hw1
      · refine snd_back (mj := mj) (as := .ref (j + 1) :: bs) hv (va_runV (ret := (mm mj).2.2.2.1) (bytes := (mm mj).2.1) (maxL := (mm mj).2.2.1) (n := cc.toNat) ⟨hx, hb, hml, hown, hts⟩ hM (cwV cc.toNat hts (good_sub ?_) rfl rfl rfl ⟨rfl, hnh.1, hnh.2, hoN⟩ hroom) hPre rfl (by rw [List.length_map]; exact hbn) hL.1 hstk hW8 hd ⟨by omega, by omega⟩) hS h1 h2 hz3 hz4 hkk
        intro w hw
        unfold wsV at hw
        rcases List.mem_append.mp hw with hw | hw
        · simp only [List.mem_cons, List.not_mem_nil, or_false] at hw
          rcases hw with rfl | rfl | rfl | rfl
          · exact wgt_mem hw1
          · exact wgt_mem hw2
          · exact wgt_mem hw3
          · exact wgt_mem hw4
        · exact hwj w hw
      · refine snd_back (mj := mj) (as := .ref (j + 1) :: bs) hv (va_runVN (ret := (mm mj).2.2.2.1) (bytes := (mm mj).2.1) (maxL := (mm mj).2.2.1) (n := cc.toNat) ⟨hx, hb, hml, hown, hts⟩ hM ⟨va_cnB cc.toNat hts (good_sub hwj) rfl rfl rfl (hK.2.1 _ (wat_mem hw1) rfl) (hts _ (wgt_mem hw4)) ⟨hnh.1, hnh.2, hoN⟩ hroom, hts _ (wgt_mem hw2), hts _ (wgt_mem hw3)⟩ hPre rfl (by rw [List.length_map]; exact hbn) hL.1 hstk hW8 hd ⟨by omega, by omega⟩) hS h1 h2 hz3 hz4 hkk
  | invokespecial idx =>
    have hd : decode (mm mi).2.1 pc = .ok (.invokespecial idx, 3) := dec_at hd0 hlen
    obtain ⟨x, bs, rest, rfl, hbn, rfl, hst, hwd, rfl, hb6⟩ := hc
    match ws, hw with
    | [], hw => cases hw
    | [_], hw => cases hw
    | [_, _], hw => cases hw
    | _ :: _ :: _ :: _ :: _, hw => cases hw
    | [w1, w2, w3], hw =>
      simp only [okW] at hw
      rw [if_neg (by rw [show Nat.beq b 6 = false from hb6]; decide)] at hw
      simp only [Bool.and_eq_true] at hw
      obtain ⟨hoM, hoN, hoR, hin, hw2, hw3, hw1⟩ := hw
      obtain ⟨hin1, hin2⟩ := of_decide_eq_true hin
      simp only [okM, Bool.and_eq_true] at hoM
      obtain ⟨hm0, hpn, hnh⟩ := hoM
      have hm0 : 0 < mj := by simpa [Nat.blt_eq] using hm0
      have hnh := of_decide_eq_true hnh
      have hoN := of_decide_eq_true hoN
      simp only [okRm, Bool.and_eq_true] at hoR
      have hr1 := Nat.le_of_ble_eq_true hoR.1
      have hr2 := Nat.le_of_ble_eq_true hoR.2
      have hwj := wsM_in hm0 hj
      have hwn : wsM mj = Jvm.Cond.code (mm mj).1 (mm mj).2.1 (mm mj).2.2.1 none :: gtbl := by unfold wsM; rw [hin2]
      have hroom : (rmM mj z z').frames + 1 ≤ R.frames ∧ 8 + ((mm mj).2.2.1 + 11) + (rmM mj z z').locals ≤ R.locals := ⟨by show (mm mj).2.2.2.2.1 + 1 ≤ _; omega, by show 8 + ((mm mj).2.2.1 + 11) + (mm mj).2.2.2.2.2 ≤ _; omega⟩
      have hstk : (F0 m pc ls ((bs.reverse ++ .ref x :: rest).map (cV G))).stack = (bs.map (cV G)).reverse ++ .ref (cR G x) :: rest.map (cV G) := by
        show (bs.reverse ++ .ref x :: rest).map (cV G) = _
        rw [List.map_append, List.map_reverse]
        rfl
      have hW8 : 2 * (F0 m pc ls ((bs.reverse ++ .ref x :: rest).map (cV G))).monitorRoom + ((rest.map (cV G)).map fun v => v.category).sum ≤ 8 := by
        rw [stW_cV]
        show 2 * 0 + stW rest ≤ 8
        omega
      have hPre : PreS s H (PcOf G sc (.ref x :: bs) z h) (.ref (cR G x) :: bs.map (cV G)) := ⟨PcOf.blind, fun U hU hW => ⟨rfl, hKf U hU hW⟩⟩
      have hkk : ∀ (H1 : Heap) (locs1 : List Loc), Rl G sc z' h' H1 → va_S (AG G) s.heap H1 locs1 → W p l e R s m args below meth c H1 locs1 (z'.1 - z0.1) (z'.2 - z0.2) Q (F0 m (pc + 3) ls ((pushr v rest).map (cV G))) := fun H1 locs1 hR1 hS1 => kk ls H1 locs1 hL hR1 hS1 (Nat.le_trans h1 hz3) (Nat.le_trans h2 hz4)
      rcases Bool.or_eq_true _ _ ▸ hw1 with hw1 | hw1
      · exact snd_back (mj := mj) (as := .ref x :: bs) hv (va_runI (bytes := (mm mj).2.1) (maxL := (mm mj).2.2.1) (n := cc.toNat) ⟨hx, hb, hml, hown, hts⟩ hM (cwI cc.toNat hts (good_sub hwj) hwn rfl rfl (hts _ (wgt_mem hw3)) (hts _ (wgt_mem hw1)) (hts _ (wgt_mem hw2)) hin1 ⟨hnh.1, hnh.2, hoN⟩ hroom) hPre rfl (by rw [List.length_map]; exact hbn) hL.1 hstk hW8 hd ⟨by omega, by omega⟩) hS h1 h2 hz3 hz4 hkk
      · exact snd_back (mj := mj) (as := .ref x :: bs) hv (va_runIN (bytes := (mm mj).2.1) (maxL := (mm mj).2.2.1) (n := cc.toNat) ⟨hx, hb, hml, hown, hts⟩ hM ⟨va_cnB cc.toNat hts (good_sub hwj) hwn rfl rfl (hK.2.1 _ (wat_mem hw1) rfl) (hts _ (wgt_mem hw3)) ⟨hnh.1, hnh.2, hoN⟩ hroom, hin1, hts _ (wgt_mem hw2)⟩ hPre rfl (by rw [List.length_map]; exact hbn) hL.1 hstk hW8 hd ⟨by omega, by omega⟩) hS h1 h2 hz3 hz4 hkk
  | invokestatic idx =>
    have hd : decode (mm mi).2.1 pc = .ok (.invokestatic idx, 3) := dec_at hd0 hlen
    obtain ⟨rest, rfl, hbn, hst, hwd, rfl, hb7, hb8, hb9⟩ := hc
    match ws, hw with
    | [], hw => cases hw
    | [_], hw => cases hw
    | [_, _], hw => cases hw
    | _ :: _ :: _ :: _ :: _ :: _, hw => cases hw
    | [w1, w2, w3, w4], hw =>
      simp only [okW] at hw
      rw [if_neg (by rw [show Nat.beq b 8 = false from hb8]; decide), if_neg (by rw [show Nat.beq b 9 = false from hb9]; decide)] at hw
      rw [show Nat.beq b 7 = false from hb7] at hw
      cases hw
    | [w1, w2, w3], hw =>
      simp only [okW, Bool.and_eq_true] at hw
      obtain ⟨⟨hoM, hoN, hoR, hw2, hw3, hw1⟩, -⟩ := hw
      simp only [okM, Bool.and_eq_true] at hoM
      obtain ⟨hm0, hpn, hnh⟩ := hoM
      have hm0 : 0 < mj := by simpa [Nat.blt_eq] using hm0
      have hnh := of_decide_eq_true hnh
      have hoN := of_decide_eq_true hoN
      simp only [okRm, Bool.and_eq_true] at hoR
      have hr1 := Nat.le_of_ble_eq_true hoR.1
      have hr2 := Nat.le_of_ble_eq_true hoR.2
      have hwj := wsM_in hm0 hj
      have hroom : (rmM mj z z').frames + 1 ≤ R.frames ∧ 8 + ((mm mj).2.2.1 + 11) + (rmM mj z z').locals ≤ R.locals := ⟨by show (mm mj).2.2.2.2.1 + 1 ≤ _; omega, by show 8 + ((mm mj).2.2.1 + 11) + (mm mj).2.2.2.2.2 ≤ _; omega⟩
      have hstk : (F0 m pc ls ((as.reverse ++ rest).map (cV G))).stack = (as.map (cV G)).reverse ++ rest.map (cV G) := by
        show (as.reverse ++ rest).map (cV G) = _
        rw [List.map_append, List.map_reverse]
      have hW8 : 2 * (F0 m pc ls ((as.reverse ++ rest).map (cV G))).monitorRoom + ((rest.map (cV G)).map fun v => v.category).sum ≤ 8 := by
        rw [stW_cV]
        show 2 * 0 + stW rest ≤ 8
        omega
      have hPre : PreS s H (PcOf G sc as z h) (as.map (cV G)) := ⟨PcOf.blind, fun U hU hW => ⟨rfl, hKf U hU hW⟩⟩
      have hkk : ∀ (H1 : Heap) (locs1 : List Loc), Rl G sc z' h' H1 → va_S (AG G) s.heap H1 locs1 → W p l e R s m args below meth c H1 locs1 (z'.1 - z0.1) (z'.2 - z0.2) Q (F0 m (pc + 3) ls ((pushr v rest).map (cV G))) := fun H1 locs1 hR1 hS1 => kk ls H1 locs1 hL hR1 hS1 (Nat.le_trans h1 hz3) (Nat.le_trans h2 hz4)
      rcases Bool.or_eq_true _ _ ▸ hw1 with hw1 | hw1
      · refine snd_back (mj := mj) (as := as) hv (va_runS (ret := (mm mj).2.2.2.1) (bytes := (mm mj).2.1) (maxL := (mm mj).2.2.1) (n := cc.toNat) ⟨hx, hb, hml, hown, hts⟩ hM (va_cwS cc.toNat hts (good_sub ?_) rfl rfl rfl ⟨hnh.1, hnh.2, hoN⟩ hroom) hPre rfl (by rw [List.length_map]; exact hbn) hL.1 hstk hW8 hd ⟨by omega, by omega⟩) hS h1 h2 hz3 hz4 hkk
        intro w hw
        unfold va_wsS at hw
        rcases List.mem_append.mp hw with hw | hw
        · simp only [List.mem_cons, List.not_mem_nil, or_false] at hw
          rcases hw with rfl | rfl | rfl
          · exact wgt_mem hw1
          · exact wgt_mem hw2
          · exact wgt_mem hw3
        · exact hwj w hw
      · exact snd_back (mj := mj) (as := as) hv (va_runSN (ret := (mm mj).2.2.2.1) (bytes := (mm mj).2.1) (maxL := (mm mj).2.2.1) (n := cc.toNat) ⟨hx, hb, hml, hown, hts⟩ hM ⟨va_cnB cc.toNat hts (good_sub hwj) rfl rfl rfl (hK.2.1 _ (wat_mem hw1) rfl) (hts _ (wgt_mem hw3)) ⟨hnh.1, hnh.2, hoN⟩ hroom, hts _ (wgt_mem hw2), trivial⟩ hPre rfl (by rw [List.length_map]; exact hbn) hL.1 hstk hW8 hd ⟨by omega, by omega⟩) hS h1 h2 hz3 hz4 hkk
  | _ => exact hc.elim
end SND
/-- the contract of a method, out of the walks of its body -/
theorem met_of {n : Nat} {l : Launch} {G : Gm} {sc : List Int32} (hbl : G.2.1.2 < G.2.1.1)
    (ih : ∀ (mi : Nat) (f : Fm) (r : Rs), run n mi f = some r → ∀ (p : Program) (e : Env) (R : Room) (s : State) (m : MethodId) (args : Array Value) (below : List Frame) (meth : Method) (c : Code) (Q : State → Prop) (z0 : Zc), CX p R s m args meth c G sc z0 mi → z0.1 ≤ f.2.2.2.1.1 → z0.2 ≤ f.2.2.2.1.2 → r.2.1.1 - z0.1 ≤ R.cells → r.2.1.2 - z0.2 ≤ R.slots → HRet p l e R s m args below meth c Q G sc z0 mi r → WS p l e R s m args below meth c Q G sc z0 mi f)
    {mi : Nat} {as : List Value} {z : Zc} {h : Hp} {r : Rs} (hr : run n mi (0, padL (nLo mi) as, [], z, h) = some r) (hpn : plainName (mm mi).1.cls = true) (hwd : stW as ≤ (mm mi).2.2.1) : MetI l G sc mi as z h r.1 r.2.1 r.2.2 := by
  refine Met.ofW (cc := (mm mi).2.1) (maxL := (mm mi).2.2.1) (ret := (mm mi).2.2.2.1) hpn rfl ?_
  intro p e s m args below meth c s₁ B hml hv
  obtain ⟨rfl, hsz, hR, hK, hX⟩ := hv
  have hx := B.exec
  have hb := B.bytes
  have hrt := B.returns
  have hts := atoms_spec (ws := wsM mi) B.pre
  have hown : s.vm.findClass (mm mi).1.cls = some m.cls := findClass_of_methodNamed B.named
  have hlocks := B.notSynchronized
  have hnm : (mm mi).1.name = "<init>" → meth.name = "<init>" := fun hq => (name_of_methodNamed B.named B.method).1.trans hq
  rw [lg_entry_eq]
  have hC : CX p (rmM mi z r.2.1) s m (as.map (cV G)).toArray meth c G sc z mi := ⟨hx, hb, hml, hown, fun w hw => hts w (List.mem_cons_of_mem _ hw), hK, hX, hbl, hsz, hnm, Nat.le_refl _, Nat.le_refl _⟩
  have hE := entry_Lr G as (mm mi).2.2.1 hwd
  have key := ih mi _ r hr p e (rmM mi z r.2.1) s m (as.map (cV G)).toArray below meth c (MQ below (QcOf G sc r.1 r.2.1 r.2.2) (as.map (cV G)).toArray s (r.2.1.1 - z.1) (r.2.1.2 - z.2) (AG G)) z hC (Nat.le_refl _) (Nat.le_refl _) (Nat.le_refl _) (Nat.le_refl _) ?_ _ s.heap [] hE hR va_S.rf (Nat.le_refl _) (Nat.le_refl _)
  · dsimp only at key
    rw [Nat.sub_self, Nat.sub_self] at key
    exact key
  · intro pc' ls H locs hshape hR' hS'
    obtain ⟨v, zz, hh⟩ := r
    dsimp only at hshape hR' ⊢
    split at hshape
    · obtain ⟨hd, ht⟩ := hshape
      exact W.vret hx hb (hrt.trans ht) (fun t ht hW => ⟨⟨(), rfl, trivial, by show Rl G sc zz hh t.heap; rw [ht]; exact hR'⟩, hS'.F ht⟩) hS'.2.2 hd
    · rename_i x
      obtain ⟨hd, ht | ⟨ht, hx01⟩⟩ := hshape
      · exact W.iret hx hb (hrt.trans ht) (fun t ht hW => ⟨⟨x, (), rfl, rfl, by show Rl G sc zz hh t.heap; rw [ht]; exact hR'⟩, hS'.F ht⟩) hS'.2.2 hd
      · exact W.zret hx hb (hrt.trans ht) (by rcases hx01 with rfl | rfl <;> rfl) (fun t ht hW => ⟨⟨x, (), rfl, rfl, by show Rl G sc zz hh t.heap; rw [ht]; exact hR'⟩, hS'.F ht⟩) hS'.2.2 hd
    · rename_i x
      obtain ⟨hd, ht⟩ := hshape
      exact W.lret hx hb (hrt.trans ht) (fun t ht hW => ⟨⟨x, (), rfl, rfl, by show Rl G sc zz hh t.heap; rw [ht]; exact hR'⟩, hS'.F ht⟩) hS'.2.2 hd
    · exact hshape.elim
theorem callF_ok {mi pc mj : Nat} {li : LI} {L : List (Option Value)} {st as : List Value} {z : Zc} {h : Hp} {g : Fm} (hok : okI mi pc li = true) (hc : callF pc li L st z h mj as g) : plainName (mm mj).1.cls = true ∧ stW as ≤ (mm mj).2.2.1 := by
  obtain ⟨-, -, hw⟩ := okI_dec hok
  obtain ⟨ins, len, a, b, cc, ws⟩ := li
  obtain ⟨ea, hc⟩ := hc
  have ea : mj = a := ea
  subst ea
  have key : okM mj = true → plainName (mm mj).1.cls = true := by
    intro h
    simp only [okM, Bool.and_eq_true] at h
    exact h.2.1
  have hsr : ∀ (x : Nat) (bs : List Value), stW (.ref x :: bs) = 1 + stW bs := fun x bs => by simp [stW, Value.category]
  cases ins with
  | invokevirtual idx =>
    obtain ⟨x, bs, rest, -, -, rfl, -, -, hwd, -⟩ := hc
    refine ⟨key ?_, by rw [hsr]; exact hwd⟩
    match ws, hw with
    | [], hw => cases hw
    | [_], hw => cases hw
    | [_, _], hw => cases hw
    | [_, _, _], hw => cases hw
    | _ :: _ :: _ :: _ :: _ :: _, hw => cases hw
    | [w1, w2, w3, w4], hw =>
      simp only [okW, Bool.and_eq_true] at hw
      exact hw.1.2
  | invokespecial idx =>
    obtain ⟨x, bs, rest, -, -, rfl, -, hwd, -, hb6⟩ := hc
    refine ⟨key ?_, by rw [hsr]; exact hwd⟩
    match ws, hw with
    | [], hw => cases hw
    | [_], hw => cases hw
    | [_, _], hw => cases hw
    | _ :: _ :: _ :: _ :: _, hw => cases hw
    | [w1, w2, w3], hw =>
      simp only [okW] at hw
      rw [if_neg (by rw [show Nat.beq b 6 = false from hb6]; decide)] at hw
      simp only [Bool.and_eq_true] at hw
      exact hw.1
  | invokestatic idx =>
    obtain ⟨rest, -, -, -, hwd, -, hb7, hb8, hb9⟩ := hc
    refine ⟨key ?_, hwd⟩
    match ws, hw with
    | [], hw => cases hw
    | [_], hw => cases hw
    | [_, _], hw => cases hw
    | _ :: _ :: _ :: _ :: _ :: _, hw => cases hw
    | [w1, w2, w3, w4], hw =>
      simp only [okW] at hw
      rw [if_neg (by rw [show Nat.beq b 8 = false from hb8]; decide), if_neg (by rw [show Nat.beq b 9 = false from hb9]; decide)] at hw
      rw [show Nat.beq b 7 = false from hb7] at hw
      cases hw
    | [w1, w2, w3], hw =>
      simp only [okW, Bool.and_eq_true] at hw
      exact hw.1.1
  | _ => exact hc.elim
set_option maxHeartbeats 4000000 in
/-- every run of the small machine that ends is a walk of the machine -/
theorem snd_all (l : Launch) (G : Gm) (sc : List Int32) (hbl : G.2.1.2 < G.2.1.1) : ∀ (n mi : Nat) (f : Fm) (r : Rs), run n mi f = some r → ∀ (p : Program) (e : Env) (R : Room) (s : State) (m : MethodId) (args : Array Value) (below : List Frame) (meth : Method) (c : Code) (Q : State → Prop) (z0 : Zc), CX p R s m args meth c G sc z0 mi → z0.1 ≤ f.2.2.2.1.1 → z0.2 ≤ f.2.2.2.1.2 → r.2.1.1 - z0.1 ≤ R.cells → r.2.1.2 - z0.2 ≤ R.slots → HRet p l e R s m args below meth c Q G sc z0 mi r → WS p l e R s m args below meth c Q G sc z0 mi f := by
  intro n
  induction n with
  | zero => intro mi f r h; cases h
  | succ n ih =>
    intro mi f r h p e R s m args below meth c Q z0 C0 hz1 hz2 hc1 hc2 hret
    obtain ⟨pc, L, st, z, hp⟩ := f
    dsimp only at hz1 hz2
    cases h1 : fetch mi pc with
    | none => rw [run] at h; dsimp only at h; rw [h1] at h; cases h
    | some li =>
      have hok := okI_of h1
      rw [run_at h1] at h
      cases h2 : stepX mi pc li L st z hp with
      | none => rw [h2] at h; cases h
      | some x =>
        rw [h2] at h
        match x, h with
        | .inl g, h =>
          dsimp only at h
          have hg := stepX_z h2
          have hgr := (run_z n mi g r h).1
          have kk := ih mi g r h p e R s m args below meth c Q z0 C0 (Nat.le_trans hz1 hg.1) (Nat.le_trans hz2 hg.2) hc1 hc2 hret
          unfold stepX at h2
          split at h2
          · exact snd_locals C0 hok h2 kk
          · exact snd_arith C0 hok h2 kk
          · exact snd_branch C0 hok h2 kk
          · exact snd_heap C0 hok h2 kk
          · exact snd_make C0 hok h2 (by omega) (by omega) kk
          · exact snd_prim C0 hok h2 (by omega) (by omega) kk
        | .inr (.inl q), h =>
          dsimp only at h
          have hc := exCall_ret (stepX_inr h2)
          obtain ⟨e1, -⟩ := retF_z hc
          cases h
          obtain ⟨hd0, hlen, hw⟩ := okI_dec hok
          intro ls H locs hL hR hS g1 g2
          dsimp only at hL hR g1 g2 ⊢
          obtain ⟨ins, len, a, b, cc, ws⟩ := li
          obtain ⟨v, zz, hh⟩ := r
          cases e1
          try dsimp only at hret
          try dsimp only at hc
          try dsimp only
          unfold retF at hc
          split at hc
          · rename_i x e3
            have e3 : ins = .ireturn := e3
            subst e3
            obtain ⟨e4, e5⟩ := hc
            cases e4
            refine hret pc ls H locs ⟨dec_at hd0 hlen, ?_⟩ hR hS
            simp only [okW] at hw
            cases ha : Nat.beq a 0 with
            | true => rw [ha, if_pos rfl] at hw; exact Or.inl (of_decide_eq_true hw)
            | false =>
              rw [ha, if_neg (by decide)] at hw
              dsimp only at e5
              rw [ha, Bool.false_or, Bool.or_eq_true, beq_iff_eq, beq_iff_eq] at e5
              exact Or.inr ⟨of_decide_eq_true hw, e5⟩
          · rename_i x e3
            have e3 : ins = .lreturn := e3
            subst e3
            cases hc
            exact hret pc ls H locs ⟨dec_at hd0 hlen, of_decide_eq_true hw⟩ hR hS
          · rename_i e3
            have e3 : ins = .return_ := e3
            subst e3
            cases hc
            exact hret pc ls H locs ⟨dec_at hd0 hlen, of_decide_eq_true hw⟩ hR hS
          · exact hc.elim
        | .inr (.inr (mj, as, g)), h =>
          dsimp only at h
          have hc := exCall_call (stepX_inr h2)
          obtain ⟨e1, e2, e3, e4⟩ := callF_g hc
          rw [e1, e2] at h
          cases h3 : run n mj (0, padL (nLo mj) as, [], z, hp) with
          | none => rw [h3] at h; cases h
          | some q =>
            rw [h3] at h
            dsimp only at h
            obtain ⟨hzq, hvq⟩ := run_z _ _ _ _ h3
            have hzr := (run_z _ _ _ _ h).1
            dsimp only at hzq hzr
            obtain ⟨hpn, hwd⟩ := callF_ok hok hc
            have hM := met_of (l := l) hbl ih h3 hpn hwd
            have kk := ih mi _ r h p e R s m args below meth c Q z0 C0 (Nat.le_trans hz1 hzq.1) (Nat.le_trans hz2 hzq.2) hc1 hc2 hret
            exact snd_call C0 hok hc (run_lt h3) hM hvq hzq.1 hzq.2 (by omega) (by omega) kk
