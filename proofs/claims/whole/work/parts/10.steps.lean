/-! the small machine's steps are the machine's: locals, numbers, branches. Written by program. -/
section SND
variable {p : Program} {l : Launch} {e : Env} {R : Room} {s : State} {m : MethodId} {args : Array Value} {below : List Frame} {meth : Method} {c : Code} {Q : State → Prop} {G : Gm} {sc : List Int32} {z0 : Zc} {mi pc : Nat} {L : List (Option Value)} {st : List Value} {z : Zc} {h : Hp} {li : LI} {g : Fm}
abbrev WSx (p : Program) (l : Launch) (e : Env) (R : Room) (s : State) (m : MethodId) (args : Array Value) (below : List Frame) (meth : Method) (c : Code) (Q : State → Prop) (G : Gm) (sc : List Int32) (z0 : Zc) (mi : Nat) (f : Fm) : Prop := WS p l e R s m args below meth c Q G sc z0 mi f

theorem nx_inj {pc : Nat} {L : List (Option Value)} {st : List Value} {z : Zc} {h : Hp} {g : Fm} (hs : nx pc L st z h = some (.inl g)) : g = (pc, L, st, z, h) := by
  unfold nx at hs
  injection hs with hs
  injection hs with hs
  exact hs.symm
theorem lst1_lt {i : Nat} {v : Value} {ks : List Nat} {l l' : List (Option Value)} (h : lst1 i v ks l = some l') : i < l.length := by
  unfold lst1 at h
  split at h
  · rename_i hc
    rw [Bool.and_eq_true] at hc
    simpa [Nat.blt_eq] using hc.1
  · cases h
theorem lst2_lt {i : Nat} {v : Value} {ks : List Nat} {l l' : List (Option Value)} (h : lst2 i v ks l = some l') : i + 1 < l.length := by
  unfold lst2 at h
  split at h
  · rename_i hc
    rw [Bool.and_eq_true] at hc
    simpa [Nat.blt_eq] using hc.1
  · cases h
set_option maxHeartbeats 4000000 in
theorem snd_locals (C0 : CX p R s m args meth c G sc z0 mi) (hok : okI mi pc li = true) (hs : exLocals mi pc li L st z h = some (.inl g)) (kk : WS p l e R s m args below meth c Q G sc z0 mi g) : WS p l e R s m args below meth c Q G sc z0 mi (pc, L, st, z, h) := by
  obtain ⟨hx, hb, hml, hown, hts, hK, hX, hbl, hbs, hnm, hrf, hrl⟩ := C0
  obtain ⟨hd0, hlen, hw⟩ := okI_dec hok
  obtain ⟨ins, len, a, b, cc, ws⟩ := li
  cases ins with
  | iload i =>
    have hd : decode (mm mi).2.1 pc = .ok ((.iload i), 2) := by rw [← (Nat.eq_of_beq_eq_true hlen : len = 2)]; exact hd0
    simp only [exLocals] at hs
    cases hlg : lg i L with
    | none => rw [hlg] at hs; cases hs
    | some v =>
      rw [hlg] at hs
      cases v with
      | int x =>
        have eg := nx_inj hs
        subst eg
        intro ls H locs hL hR hS h1 h2
        exact lv_iload hx hb hd (hL.2.2.2 i _ hlg) (kk ls H locs hL hR hS h1 h2)
      | _ => cases hs
  | iload_n i =>
    have hd : decode (mm mi).2.1 pc = .ok ((.iload_n i), 1) := by rw [← (Nat.eq_of_beq_eq_true hlen : len = 1)]; exact hd0
    simp only [exLocals] at hs
    cases hlg : lg i L with
    | none => rw [hlg] at hs; cases hs
    | some v =>
      rw [hlg] at hs
      cases v with
      | int x =>
        have eg := nx_inj hs
        subst eg
        intro ls H locs hL hR hS h1 h2
        exact lv_iload_n hx hb hd rfl (hL.2.2.2 i _ hlg) (kk ls H locs hL hR hS h1 h2)
      | _ => cases hs
  | lload i =>
    have hd : decode (mm mi).2.1 pc = .ok ((.lload i), 2) := by rw [← (Nat.eq_of_beq_eq_true hlen : len = 2)]; exact hd0
    simp only [exLocals] at hs
    cases hlg : lg i L with
    | none => rw [hlg] at hs; cases hs
    | some v =>
      rw [hlg] at hs
      cases v with
      | long x =>
        have eg := nx_inj hs
        subst eg
        intro ls H locs hL hR hS h1 h2
        exact lv_lload hx hb hd (hL.2.2.2 i _ hlg) (kk ls H locs hL hR hS h1 h2)
      | _ => cases hs
  | lload_n i =>
    have hd : decode (mm mi).2.1 pc = .ok ((.lload_n i), 1) := by rw [← (Nat.eq_of_beq_eq_true hlen : len = 1)]; exact hd0
    simp only [exLocals] at hs
    cases hlg : lg i L with
    | none => rw [hlg] at hs; cases hs
    | some v =>
      rw [hlg] at hs
      cases v with
      | long x =>
        have eg := nx_inj hs
        subst eg
        intro ls H locs hL hR hS h1 h2
        exact lv_lload_n hx hb hd rfl (hL.2.2.2 i _ hlg) (kk ls H locs hL hR hS h1 h2)
      | _ => cases hs
  | aload i =>
    have hd : decode (mm mi).2.1 pc = .ok ((.aload i), 2) := by rw [← (Nat.eq_of_beq_eq_true hlen : len = 2)]; exact hd0
    simp only [exLocals] at hs
    cases hlg : lg i L with
    | none => rw [hlg] at hs; cases hs
    | some v =>
      rw [hlg] at hs
      cases v with
      | ref x =>
        have eg := nx_inj hs
        subst eg
        intro ls H locs hL hR hS h1 h2
        exact lv_aload hx hb hd (hL.2.2.2 i _ hlg) (kk ls H locs hL hR hS h1 h2)
      | _ => cases hs
  | aload_n i =>
    have hd : decode (mm mi).2.1 pc = .ok ((.aload_n i), 1) := by rw [← (Nat.eq_of_beq_eq_true hlen : len = 1)]; exact hd0
    simp only [exLocals] at hs
    cases hlg : lg i L with
    | none => rw [hlg] at hs; cases hs
    | some v =>
      rw [hlg] at hs
      cases v with
      | ref x =>
        have eg := nx_inj hs
        subst eg
        intro ls H locs hL hR hS h1 h2
        exact lv_aload_n hx hb hd rfl (hL.2.2.2 i _ hlg) (kk ls H locs hL hR hS h1 h2)
      | _ => cases hs
  | istore i =>
    have hd : decode (mm mi).2.1 pc = .ok ((.istore i), 2) := by rw [← (Nat.eq_of_beq_eq_true hlen : len = 2)]; exact hd0
    cases st with
    | nil => simp [exLocals] at hs
    | cons v t =>
      cases v with
      | int x =>
        simp only [exLocals] at hs
        cases hl : lst1 i (.int x) ws L with
        | none => rw [hl] at hs; cases hs
        | some L' =>
          rw [hl] at hs
          have eg := nx_inj hs
          subst eg
          intro ls H locs hL hR hS h1 h2
          have hn : i < (mm mi).2.2.1 := by rw [← hL.2.2.1]; exact lst1_lt hl
          exact lv_istore hx hb hd hL.has hn rfl (fun ls' h' => kk ls' H locs (Lr.st1 hL.2.2.1 (v := .int x) hl h') hR hS h1 h2)
      | _ => simp [exLocals] at hs
  | istore_n i =>
    have hd : decode (mm mi).2.1 pc = .ok ((.istore_n i), 1) := by rw [← (Nat.eq_of_beq_eq_true hlen : len = 1)]; exact hd0
    cases st with
    | nil => simp [exLocals] at hs
    | cons v t =>
      cases v with
      | int x =>
        simp only [exLocals] at hs
        cases hl : lst1 i (.int x) ws L with
        | none => rw [hl] at hs; cases hs
        | some L' =>
          rw [hl] at hs
          have eg := nx_inj hs
          subst eg
          intro ls H locs hL hR hS h1 h2
          have hn : i < (mm mi).2.2.1 := by rw [← hL.2.2.1]; exact lst1_lt hl
          exact lv_istore_n hx hb hd rfl hL.has hn rfl (fun ls' h' => kk ls' H locs (Lr.st1 hL.2.2.1 (v := .int x) hl h') hR hS h1 h2)
      | _ => simp [exLocals] at hs
  | lstore i =>
    have hd : decode (mm mi).2.1 pc = .ok ((.lstore i), 2) := by rw [← (Nat.eq_of_beq_eq_true hlen : len = 2)]; exact hd0
    cases st with
    | nil => simp [exLocals] at hs
    | cons v t =>
      cases v with
      | long x =>
        simp only [exLocals] at hs
        cases hl : lst2 i (.long x) ws L with
        | none => rw [hl] at hs; cases hs
        | some L' =>
          rw [hl] at hs
          have eg := nx_inj hs
          subst eg
          intro ls H locs hL hR hS h1 h2
          have hn : i + 1 < (mm mi).2.2.1 := by rw [← hL.2.2.1]; exact lst2_lt hl
          exact lv_lstore hx hb hd hL.has hn rfl (fun ls' h' => kk ls' H locs (Lr.st2 hL.2.2.1 (v := .long x) hl h') hR hS h1 h2)
      | _ => simp [exLocals] at hs
  | lstore_n i =>
    have hd : decode (mm mi).2.1 pc = .ok ((.lstore_n i), 1) := by rw [← (Nat.eq_of_beq_eq_true hlen : len = 1)]; exact hd0
    cases st with
    | nil => simp [exLocals] at hs
    | cons v t =>
      cases v with
      | long x =>
        simp only [exLocals] at hs
        cases hl : lst2 i (.long x) ws L with
        | none => rw [hl] at hs; cases hs
        | some L' =>
          rw [hl] at hs
          have eg := nx_inj hs
          subst eg
          intro ls H locs hL hR hS h1 h2
          have hn : i + 1 < (mm mi).2.2.1 := by rw [← hL.2.2.1]; exact lst2_lt hl
          exact lv_lstore_n hx hb hd rfl hL.has hn rfl (fun ls' h' => kk ls' H locs (Lr.st2 hL.2.2.1 (v := .long x) hl h') hR hS h1 h2)
      | _ => simp [exLocals] at hs
  | astore i =>
    have hd : decode (mm mi).2.1 pc = .ok ((.astore i), 2) := by rw [← (Nat.eq_of_beq_eq_true hlen : len = 2)]; exact hd0
    cases st with
    | nil => simp [exLocals] at hs
    | cons v t =>
      cases v with
      | ref x =>
        simp only [exLocals] at hs
        cases hl : lst1 i (.ref x) ws L with
        | none => rw [hl] at hs; cases hs
        | some L' =>
          rw [hl] at hs
          have eg := nx_inj hs
          subst eg
          intro ls H locs hL hR hS h1 h2
          have hn : i < (mm mi).2.2.1 := by rw [← hL.2.2.1]; exact lst1_lt hl
          exact lv_astore hx hb hd hL.has hn rfl (fun ls' h' => kk ls' H locs (Lr.st1 hL.2.2.1 (v := .ref x) hl h') hR hS h1 h2)
      | _ => simp [exLocals] at hs
  | astore_n i =>
    have hd : decode (mm mi).2.1 pc = .ok ((.astore_n i), 1) := by rw [← (Nat.eq_of_beq_eq_true hlen : len = 1)]; exact hd0
    cases st with
    | nil => simp [exLocals] at hs
    | cons v t =>
      cases v with
      | ref x =>
        simp only [exLocals] at hs
        cases hl : lst1 i (.ref x) ws L with
        | none => rw [hl] at hs; cases hs
        | some L' =>
          rw [hl] at hs
          have eg := nx_inj hs
          subst eg
          intro ls H locs hL hR hS h1 h2
          have hn : i < (mm mi).2.2.1 := by rw [← hL.2.2.1]; exact lst1_lt hl
          exact lv_astore_n hx hb hd rfl hL.has hn rfl (fun ls' h' => kk ls' H locs (Lr.st1 hL.2.2.1 (v := .ref x) hl h') hR hS h1 h2)
      | _ => simp [exLocals] at hs
  | iinc i n =>
    have hd : decode (mm mi).2.1 pc = .ok ((.iinc i n), 3) := by rw [← (Nat.eq_of_beq_eq_true hlen : len = 3)]; exact hd0
    simp only [exLocals] at hs
    cases hlg : lg i L with
    | none => rw [hlg] at hs; cases hs
    | some v =>
      rw [hlg] at hs
      cases v with
      | int x =>
        dsimp only at hs
        cases hl : lst1 i (.int (x + Int32.ofInt n)) ws L with
        | none => rw [hl] at hs; cases hs
        | some L' =>
          rw [hl] at hs
          have eg := nx_inj hs
          subst eg
          intro ls H locs hL hR hS h1 h2
          have hn : i < (mm mi).2.2.1 := by rw [← hL.2.2.1]; exact lst1_lt hl
          obtain ⟨k, hk⟩ := List.getElem?_of_mem (ascV_mem (G := G) hlg)
          exact lv_iinc hx hb hd hL.has hk rfl hn rfl (fun ls' h' => kk ls' H locs (Lr.st1 hL.2.2.1 (v := .int (x + Int32.ofInt n)) hl h') hR hS h1 h2)
      | _ => cases hs
  | _ => simp [exLocals] at hs
set_option maxHeartbeats 4000000 in
theorem snd_arith (C0 : CX p R s m args meth c G sc z0 mi) (hok : okI mi pc li = true) (hs : exArith mi pc li L st z h = some (.inl g)) (kk : WS p l e R s m args below meth c Q G sc z0 mi g) : WS p l e R s m args below meth c Q G sc z0 mi (pc, L, st, z, h) := by
  obtain ⟨hx, hb, hml, hown, hts, hK, hX, hbl, hbs, hnm, hrf, hrl⟩ := C0
  obtain ⟨hd0, hlen, hw⟩ := okI_dec hok
  obtain ⟨ins, len, a, b, cc, ws⟩ := li
  cases ins with
  | iconst n =>
    have hd : decode (mm mi).2.1 pc = .ok ((.iconst n), 1) := by rw [← (Nat.eq_of_beq_eq_true hlen : len = 1)]; exact hd0
    simp only [exArith] at hs
    have eg := nx_inj hs
    subst eg
    intro ls H locs hL hR hS h1 h2
    exact lv_iconst hx hb hd rfl (kk ls H locs hL hR hS h1 h2)
  | bipush n =>
    have hd : decode (mm mi).2.1 pc = .ok ((.bipush n), 2) := by rw [← (Nat.eq_of_beq_eq_true hlen : len = 2)]; exact hd0
    simp only [exArith] at hs
    have eg := nx_inj hs
    subst eg
    intro ls H locs hL hR hS h1 h2
    exact lv_bipush hx hb hd rfl (kk ls H locs hL hR hS h1 h2)
  | sipush n =>
    have hd : decode (mm mi).2.1 pc = .ok ((.sipush n), 3) := by rw [← (Nat.eq_of_beq_eq_true hlen : len = 3)]; exact hd0
    simp only [exArith] at hs
    have eg := nx_inj hs
    subst eg
    intro ls H locs hL hR hS h1 h2
    exact lv_sipush hx hb hd rfl (kk ls H locs hL hR hS h1 h2)
  | lconst n =>
    have hd : decode (mm mi).2.1 pc = .ok ((.lconst n), 1) := by rw [← (Nat.eq_of_beq_eq_true hlen : len = 1)]; exact hd0
    simp only [exArith] at hs
    have eg := nx_inj hs
    subst eg
    intro ls H locs hL hR hS h1 h2
    exact lv_lconst hx hb hd rfl (kk ls H locs hL hR hS h1 h2)
  | ldc2_w i =>
    have hd : decode (mm mi).2.1 pc = .ok ((.ldc2_w i), 3) := by rw [← (Nat.eq_of_beq_eq_true hlen : len = 3)]; exact hd0
    simp only [exArith] at hs
    have eg := nx_inj hs
    subst eg
    intro ls H locs hL hR hS h1 h2
    match ws, hw with
    | [w], hw => exact lv_ldc2 hx hb hown (hts _ (wgt_mem hw)) hd (kk ls H locs hL hR hS h1 h2)
    | [], hw => cases hw
    | _ :: _ :: _, hw => cases hw
  | iadd =>
    have hd : decode (mm mi).2.1 pc = .ok (.iadd, 1) := by rw [← (Nat.eq_of_beq_eq_true hlen : len = 1)]; exact hd0
    cases st with
    | nil => simp [exArith] at hs
    | cons v t =>
      cases t with
      | nil => cases v <;> simp [exArith] at hs
      | cons w t =>
        cases v with
        | int y =>
          cases w with
          | int x =>
            simp only [exArith] at hs
            have eg := nx_inj hs
            subst eg
            intro ls H locs hL hR hS h1 h2
            exact lv_iadd hx hb hd (kk ls H locs hL hR hS h1 h2)
          | _ => simp [exArith] at hs
        | _ => simp [exArith] at hs
  | isub =>
    have hd : decode (mm mi).2.1 pc = .ok (.isub, 1) := by rw [← (Nat.eq_of_beq_eq_true hlen : len = 1)]; exact hd0
    cases st with
    | nil => simp [exArith] at hs
    | cons v t =>
      cases t with
      | nil => cases v <;> simp [exArith] at hs
      | cons w t =>
        cases v with
        | int y =>
          cases w with
          | int x =>
            simp only [exArith] at hs
            have eg := nx_inj hs
            subst eg
            intro ls H locs hL hR hS h1 h2
            exact lv_isub hx hb hd (kk ls H locs hL hR hS h1 h2)
          | _ => simp [exArith] at hs
        | _ => simp [exArith] at hs
  | imul =>
    have hd : decode (mm mi).2.1 pc = .ok (.imul, 1) := by rw [← (Nat.eq_of_beq_eq_true hlen : len = 1)]; exact hd0
    cases st with
    | nil => simp [exArith] at hs
    | cons v t =>
      cases t with
      | nil => cases v <;> simp [exArith] at hs
      | cons w t =>
        cases v with
        | int y =>
          cases w with
          | int x =>
            simp only [exArith] at hs
            have eg := nx_inj hs
            subst eg
            intro ls H locs hL hR hS h1 h2
            exact lv_imul hx hb hd (kk ls H locs hL hR hS h1 h2)
          | _ => simp [exArith] at hs
        | _ => simp [exArith] at hs
  | iand =>
    have hd : decode (mm mi).2.1 pc = .ok (.iand, 1) := by rw [← (Nat.eq_of_beq_eq_true hlen : len = 1)]; exact hd0
    cases st with
    | nil => simp [exArith] at hs
    | cons v t =>
      cases t with
      | nil => cases v <;> simp [exArith] at hs
      | cons w t =>
        cases v with
        | int y =>
          cases w with
          | int x =>
            simp only [exArith] at hs
            have eg := nx_inj hs
            subst eg
            intro ls H locs hL hR hS h1 h2
            exact lv_iand hx hb hd (kk ls H locs hL hR hS h1 h2)
          | _ => simp [exArith] at hs
        | _ => simp [exArith] at hs
  | ior =>
    have hd : decode (mm mi).2.1 pc = .ok (.ior, 1) := by rw [← (Nat.eq_of_beq_eq_true hlen : len = 1)]; exact hd0
    cases st with
    | nil => simp [exArith] at hs
    | cons v t =>
      cases t with
      | nil => cases v <;> simp [exArith] at hs
      | cons w t =>
        cases v with
        | int y =>
          cases w with
          | int x =>
            simp only [exArith] at hs
            have eg := nx_inj hs
            subst eg
            intro ls H locs hL hR hS h1 h2
            exact lv_ior hx hb hd (kk ls H locs hL hR hS h1 h2)
          | _ => simp [exArith] at hs
        | _ => simp [exArith] at hs
  | ishl =>
    have hd : decode (mm mi).2.1 pc = .ok (.ishl, 1) := by rw [← (Nat.eq_of_beq_eq_true hlen : len = 1)]; exact hd0
    cases st with
    | nil => simp [exArith] at hs
    | cons v t =>
      cases t with
      | nil => cases v <;> simp [exArith] at hs
      | cons w t =>
        cases v with
        | int y =>
          cases w with
          | int x =>
            simp only [exArith] at hs
            have eg := nx_inj hs
            subst eg
            intro ls H locs hL hR hS h1 h2
            exact lv_ishl hx hb hd (kk ls H locs hL hR hS h1 h2)
          | _ => simp [exArith] at hs
        | _ => simp [exArith] at hs
  | ishr =>
    have hd : decode (mm mi).2.1 pc = .ok (.ishr, 1) := by rw [← (Nat.eq_of_beq_eq_true hlen : len = 1)]; exact hd0
    cases st with
    | nil => simp [exArith] at hs
    | cons v t =>
      cases t with
      | nil => cases v <;> simp [exArith] at hs
      | cons w t =>
        cases v with
        | int y =>
          cases w with
          | int x =>
            simp only [exArith] at hs
            have eg := nx_inj hs
            subst eg
            intro ls H locs hL hR hS h1 h2
            exact lv_ishr hx hb hd (kk ls H locs hL hR hS h1 h2)
          | _ => simp [exArith] at hs
        | _ => simp [exArith] at hs
  | idiv =>
    have hd : decode (mm mi).2.1 pc = .ok (.idiv, 1) := by rw [← (Nat.eq_of_beq_eq_true hlen : len = 1)]; exact hd0
    cases st with
    | nil => simp [exArith] at hs
    | cons v t =>
      cases t with
      | nil => cases v <;> simp [exArith] at hs
      | cons w t =>
        cases v with
        | int y =>
          cases w with
          | int x =>
            simp only [exArith] at hs
            split at hs
            · cases hs
            · rename_i hne
              have eg := nx_inj hs
              subst eg
              intro ls H locs hL hR hS h1 h2
              exact lv_idiv hx hb hd hne (kk ls H locs hL hR hS h1 h2)
          | _ => simp [exArith] at hs
        | _ => simp [exArith] at hs
  | irem =>
    have hd : decode (mm mi).2.1 pc = .ok (.irem, 1) := by rw [← (Nat.eq_of_beq_eq_true hlen : len = 1)]; exact hd0
    cases st with
    | nil => simp [exArith] at hs
    | cons v t =>
      cases t with
      | nil => cases v <;> simp [exArith] at hs
      | cons w t =>
        cases v with
        | int y =>
          cases w with
          | int x =>
            simp only [exArith] at hs
            split at hs
            · cases hs
            · rename_i hne
              have eg := nx_inj hs
              subst eg
              intro ls H locs hL hR hS h1 h2
              exact lv_irem hx hb hd hne (kk ls H locs hL hR hS h1 h2)
          | _ => simp [exArith] at hs
        | _ => simp [exArith] at hs
  | ladd =>
    have hd : decode (mm mi).2.1 pc = .ok (.ladd, 1) := by rw [← (Nat.eq_of_beq_eq_true hlen : len = 1)]; exact hd0
    cases st with
    | nil => simp [exArith] at hs
    | cons v t =>
      cases t with
      | nil => cases v <;> simp [exArith] at hs
      | cons w t =>
        cases v with
        | long y =>
          cases w with
          | long x =>
            simp only [exArith] at hs
            have eg := nx_inj hs
            subst eg
            intro ls H locs hL hR hS h1 h2
            exact lv_ladd hx hb hd (kk ls H locs hL hR hS h1 h2)
          | _ => simp [exArith] at hs
        | _ => simp [exArith] at hs
  | lsub =>
    have hd : decode (mm mi).2.1 pc = .ok (.lsub, 1) := by rw [← (Nat.eq_of_beq_eq_true hlen : len = 1)]; exact hd0
    cases st with
    | nil => simp [exArith] at hs
    | cons v t =>
      cases t with
      | nil => cases v <;> simp [exArith] at hs
      | cons w t =>
        cases v with
        | long y =>
          cases w with
          | long x =>
            simp only [exArith] at hs
            have eg := nx_inj hs
            subst eg
            intro ls H locs hL hR hS h1 h2
            exact lv_lsub hx hb hd (kk ls H locs hL hR hS h1 h2)
          | _ => simp [exArith] at hs
        | _ => simp [exArith] at hs
  | lmul =>
    have hd : decode (mm mi).2.1 pc = .ok (.lmul, 1) := by rw [← (Nat.eq_of_beq_eq_true hlen : len = 1)]; exact hd0
    cases st with
    | nil => simp [exArith] at hs
    | cons v t =>
      cases t with
      | nil => cases v <;> simp [exArith] at hs
      | cons w t =>
        cases v with
        | long y =>
          cases w with
          | long x =>
            simp only [exArith] at hs
            have eg := nx_inj hs
            subst eg
            intro ls H locs hL hR hS h1 h2
            exact lv_lmul hx hb hd (kk ls H locs hL hR hS h1 h2)
          | _ => simp [exArith] at hs
        | _ => simp [exArith] at hs
  | land =>
    have hd : decode (mm mi).2.1 pc = .ok (.land, 1) := by rw [← (Nat.eq_of_beq_eq_true hlen : len = 1)]; exact hd0
    cases st with
    | nil => simp [exArith] at hs
    | cons v t =>
      cases t with
      | nil => cases v <;> simp [exArith] at hs
      | cons w t =>
        cases v with
        | long y =>
          cases w with
          | long x =>
            simp only [exArith] at hs
            have eg := nx_inj hs
            subst eg
            intro ls H locs hL hR hS h1 h2
            exact lv_land hx hb hd (kk ls H locs hL hR hS h1 h2)
          | _ => simp [exArith] at hs
        | _ => simp [exArith] at hs
  | lor =>
    have hd : decode (mm mi).2.1 pc = .ok (.lor, 1) := by rw [← (Nat.eq_of_beq_eq_true hlen : len = 1)]; exact hd0
    cases st with
    | nil => simp [exArith] at hs
    | cons v t =>
      cases t with
      | nil => cases v <;> simp [exArith] at hs
      | cons w t =>
        cases v with
        | long y =>
          cases w with
          | long x =>
            simp only [exArith] at hs
            have eg := nx_inj hs
            subst eg
            intro ls H locs hL hR hS h1 h2
            exact lv_lor hx hb hd (kk ls H locs hL hR hS h1 h2)
          | _ => simp [exArith] at hs
        | _ => simp [exArith] at hs
  | ldiv =>
    have hd : decode (mm mi).2.1 pc = .ok (.ldiv, 1) := by rw [← (Nat.eq_of_beq_eq_true hlen : len = 1)]; exact hd0
    cases st with
    | nil => simp [exArith] at hs
    | cons v t =>
      cases t with
      | nil => cases v <;> simp [exArith] at hs
      | cons w t =>
        cases v with
        | long y =>
          cases w with
          | long x =>
            simp only [exArith] at hs
            split at hs
            · cases hs
            · rename_i hne
              have eg := nx_inj hs
              subst eg
              intro ls H locs hL hR hS h1 h2
              exact lv_ldiv hx hb hd hne (kk ls H locs hL hR hS h1 h2)
          | _ => simp [exArith] at hs
        | _ => simp [exArith] at hs
  | lrem =>
    have hd : decode (mm mi).2.1 pc = .ok (.lrem, 1) := by rw [← (Nat.eq_of_beq_eq_true hlen : len = 1)]; exact hd0
    cases st with
    | nil => simp [exArith] at hs
    | cons v t =>
      cases t with
      | nil => cases v <;> simp [exArith] at hs
      | cons w t =>
        cases v with
        | long y =>
          cases w with
          | long x =>
            simp only [exArith] at hs
            split at hs
            · cases hs
            · rename_i hne
              have eg := nx_inj hs
              subst eg
              intro ls H locs hL hR hS h1 h2
              exact lv_lrem hx hb hd hne (kk ls H locs hL hR hS h1 h2)
          | _ => simp [exArith] at hs
        | _ => simp [exArith] at hs
  | lshl =>
    have hd : decode (mm mi).2.1 pc = .ok (.lshl, 1) := by rw [← (Nat.eq_of_beq_eq_true hlen : len = 1)]; exact hd0
    cases st with
    | nil => simp [exArith] at hs
    | cons v t =>
      cases t with
      | nil => cases v <;> simp [exArith] at hs
      | cons w t =>
        cases v with
        | int y =>
          cases w with
          | long x =>
            simp only [exArith] at hs
            have eg := nx_inj hs
            subst eg
            intro ls H locs hL hR hS h1 h2
            exact lv_lshl hx hb hd rfl (kk ls H locs hL hR hS h1 h2)
          | _ => simp [exArith] at hs
        | _ => simp [exArith] at hs
  | lshr =>
    have hd : decode (mm mi).2.1 pc = .ok (.lshr, 1) := by rw [← (Nat.eq_of_beq_eq_true hlen : len = 1)]; exact hd0
    cases st with
    | nil => simp [exArith] at hs
    | cons v t =>
      cases t with
      | nil => cases v <;> simp [exArith] at hs
      | cons w t =>
        cases v with
        | int y =>
          cases w with
          | long x =>
            simp only [exArith] at hs
            have eg := nx_inj hs
            subst eg
            intro ls H locs hL hR hS h1 h2
            exact lv_lshr hx hb hd rfl (kk ls H locs hL hR hS h1 h2)
          | _ => simp [exArith] at hs
        | _ => simp [exArith] at hs
  | lushr =>
    have hd : decode (mm mi).2.1 pc = .ok (.lushr, 1) := by rw [← (Nat.eq_of_beq_eq_true hlen : len = 1)]; exact hd0
    cases st with
    | nil => simp [exArith] at hs
    | cons v t =>
      cases t with
      | nil => cases v <;> simp [exArith] at hs
      | cons w t =>
        cases v with
        | int y =>
          cases w with
          | long x =>
            simp only [exArith] at hs
            have eg := nx_inj hs
            subst eg
            intro ls H locs hL hR hS h1 h2
            exact lv_lushr hx hb hd rfl (kk ls H locs hL hR hS h1 h2)
          | _ => simp [exArith] at hs
        | _ => simp [exArith] at hs
  | lcmp =>
    have hd : decode (mm mi).2.1 pc = .ok (.lcmp, 1) := by rw [← (Nat.eq_of_beq_eq_true hlen : len = 1)]; exact hd0
    cases st with
    | nil => simp [exArith] at hs
    | cons v t =>
      cases t with
      | nil => cases v <;> simp [exArith] at hs
      | cons w t =>
        cases v with
        | long y =>
          cases w with
          | long x =>
            simp only [exArith] at hs
            have eg := nx_inj hs
            subst eg
            intro ls H locs hL hR hS h1 h2
            exact W.lcmp hx hb hd (kk ls H locs hL hR hS h1 h2)
          | _ => simp [exArith] at hs
        | _ => simp [exArith] at hs
  | i2l =>
    have hd : decode (mm mi).2.1 pc = .ok (.i2l, 1) := by rw [← (Nat.eq_of_beq_eq_true hlen : len = 1)]; exact hd0
    cases st with
    | nil => simp [exArith] at hs
    | cons v t =>
      cases v with
      | int x =>
        simp only [exArith] at hs
        have eg := nx_inj hs
        subst eg
        intro ls H locs hL hR hS h1 h2
        exact lv_i2l hx hb hd rfl (kk ls H locs hL hR hS h1 h2)
      | _ => simp [exArith] at hs
  | l2i =>
    have hd : decode (mm mi).2.1 pc = .ok (.l2i, 1) := by rw [← (Nat.eq_of_beq_eq_true hlen : len = 1)]; exact hd0
    cases st with
    | nil => simp [exArith] at hs
    | cons v t =>
      cases v with
      | long x =>
        simp only [exArith] at hs
        have eg := nx_inj hs
        subst eg
        intro ls H locs hL hR hS h1 h2
        exact lv_l2i hx hb hd rfl (kk ls H locs hL hR hS h1 h2)
      | _ => simp [exArith] at hs
  | dup =>
    have hd : decode (mm mi).2.1 pc = .ok (.dup, 1) := by rw [← (Nat.eq_of_beq_eq_true hlen : len = 1)]; exact hd0
    cases st with
    | nil => simp [exArith] at hs
    | cons v t =>
      cases v with
      | int x =>
        simp only [exArith] at hs
        have eg := nx_inj hs
        subst eg
        intro ls H locs hL hR hS h1 h2
        exact lv_dup hx hb hd rfl (kk ls H locs hL hR hS h1 h2)
      | ref x =>
        simp only [exArith] at hs
        have eg := nx_inj hs
        subst eg
        intro ls H locs hL hR hS h1 h2
        exact lv_dup hx hb hd rfl (kk ls H locs hL hR hS h1 h2)
      | _ => simp [exArith] at hs
  | pop =>
    have hd : decode (mm mi).2.1 pc = .ok (.pop, 1) := by rw [← (Nat.eq_of_beq_eq_true hlen : len = 1)]; exact hd0
    cases st with
    | nil => simp [exArith] at hs
    | cons v t =>
      cases v with
      | int x =>
        simp only [exArith] at hs
        have eg := nx_inj hs
        subst eg
        intro ls H locs hL hR hS h1 h2
        exact lv_pop hx hb hd rfl (kk ls H locs hL hR hS h1 h2)
      | ref x =>
        simp only [exArith] at hs
        have eg := nx_inj hs
        subst eg
        intro ls H locs hL hR hS h1 h2
        exact lv_pop hx hb hd rfl (kk ls H locs hL hR hS h1 h2)
      | _ => simp [exArith] at hs
  | dup2 =>
    have hd : decode (mm mi).2.1 pc = .ok (.dup2, 1) := by rw [← (Nat.eq_of_beq_eq_true hlen : len = 1)]; exact hd0
    cases st with
    | nil => simp [exArith] at hs
    | cons v t =>
      cases v with
      | long x =>
        simp only [exArith] at hs
        have eg := nx_inj hs
        subst eg
        intro ls H locs hL hR hS h1 h2
        exact lv_dup2_2 hx hb hd rfl (kk ls H locs hL hR hS h1 h2)
      | int x =>
        cases t with
        | nil => simp [exArith] at hs
        | cons w t =>
          cases w with
          | int y =>
            simp only [exArith] at hs
            have eg := nx_inj hs
            subst eg
            intro ls H locs hL hR hS h1 h2
            exact lv_dup2_11 hx hb hd rfl rfl (kk ls H locs hL hR hS h1 h2)
          | ref y =>
            simp only [exArith] at hs
            have eg := nx_inj hs
            subst eg
            intro ls H locs hL hR hS h1 h2
            exact lv_dup2_11 hx hb hd rfl rfl (kk ls H locs hL hR hS h1 h2)
          | _ => simp [exArith] at hs
      | _ => simp [exArith] at hs
  | _ => simp [exArith] at hs
set_option maxHeartbeats 4000000 in
theorem snd_branch (C0 : CX p R s m args meth c G sc z0 mi) (hok : okI mi pc li = true) (hs : exBranch mi pc li L st z h = some (.inl g)) (kk : WS p l e R s m args below meth c Q G sc z0 mi g) : WS p l e R s m args below meth c Q G sc z0 mi (pc, L, st, z, h) := by
  obtain ⟨hx, hb, hml, hown, hts, hK, hX, hbl, hbs, hnm, hrf, hrl⟩ := C0
  obtain ⟨hd0, hlen, hw⟩ := okI_dec hok
  obtain ⟨ins, len, a, b, cc, ws⟩ := li
  cases ins with
  | goto o =>
    have hd : decode (mm mi).2.1 pc = .ok ((.goto o), 3) := by rw [← (Nat.eq_of_beq_eq_true hlen : len = 3)]; exact hd0
    simp only [exBranch] at hs
    have eg := nx_inj hs
    subst eg
    intro ls H locs hL hR hS h1 h2
    exact lv_goto hx hb hd (of_decide_eq_true hw) (kk ls H locs hL hR hS h1 h2)
  | ifCond c9 o =>
    have hd : decode (mm mi).2.1 pc = .ok ((.ifCond c9 o), 3) := by rw [← (Nat.eq_of_beq_eq_true hlen : len = 3)]; exact hd0
    cases st with
    | nil => simp [exBranch] at hs
    | cons v t =>
      cases v with
      | int x =>
        simp only [exBranch] at hs
        cases c9 with
        | eq =>
          refine fun ls H locs hL hR hS h1 h2 => lv_if_eq hx hb hd (of_decide_eq_true hw) (fun hc => ?_) (fun hc => ?_)
          · have hs2 := hs
            rw [if_pos (show cmpI .eq x 0 = true from decide_eq_true hc)] at hs2
            have eg := nx_inj hs2
            subst eg
            exact kk ls H locs hL hR hS h1 h2
          · have hs2 := hs
            rw [if_neg (show ¬ cmpI .eq x 0 = true from fun hq => absurd (of_decide_eq_true hq) (by first | exact hc | exact fun k => k hc))] at hs2
            have eg := nx_inj hs2
            subst eg
            exact kk ls H locs hL hR hS h1 h2
        | ne =>
          refine fun ls H locs hL hR hS h1 h2 => lv_if_ne hx hb hd (of_decide_eq_true hw) (fun hc => ?_) (fun hc => ?_)
          · have hs2 := hs
            rw [if_pos (show cmpI .ne x 0 = true from decide_eq_true hc)] at hs2
            have eg := nx_inj hs2
            subst eg
            exact kk ls H locs hL hR hS h1 h2
          · have hs2 := hs
            rw [if_neg (show ¬ cmpI .ne x 0 = true from fun hq => absurd (of_decide_eq_true hq) (by first | exact hc | exact fun k => k hc))] at hs2
            have eg := nx_inj hs2
            subst eg
            exact kk ls H locs hL hR hS h1 h2
        | lt =>
          refine fun ls H locs hL hR hS h1 h2 => lv_if_lt hx hb hd (of_decide_eq_true hw) (fun hc => ?_) (fun hc => ?_)
          · have hs2 := hs
            rw [if_pos (show cmpI .lt x 0 = true from decide_eq_true hc)] at hs2
            have eg := nx_inj hs2
            subst eg
            exact kk ls H locs hL hR hS h1 h2
          · have hs2 := hs
            rw [if_neg (show ¬ cmpI .lt x 0 = true from fun hq => absurd (of_decide_eq_true hq) (by first | exact hc | exact fun k => k hc))] at hs2
            have eg := nx_inj hs2
            subst eg
            exact kk ls H locs hL hR hS h1 h2
        | ge =>
          refine fun ls H locs hL hR hS h1 h2 => lv_if_ge hx hb hd (of_decide_eq_true hw) (fun hc => ?_) (fun hc => ?_)
          · have hs2 := hs
            rw [if_pos (show cmpI .ge x 0 = true from decide_eq_true hc)] at hs2
            have eg := nx_inj hs2
            subst eg
            exact kk ls H locs hL hR hS h1 h2
          · have hs2 := hs
            rw [if_neg (show ¬ cmpI .ge x 0 = true from fun hq => absurd (of_decide_eq_true hq) (by first | exact hc | exact fun k => k hc))] at hs2
            have eg := nx_inj hs2
            subst eg
            exact kk ls H locs hL hR hS h1 h2
        | gt =>
          refine fun ls H locs hL hR hS h1 h2 => lv_if_gt hx hb hd (of_decide_eq_true hw) (fun hc => ?_) (fun hc => ?_)
          · have hs2 := hs
            rw [if_pos (show cmpI .gt x 0 = true from decide_eq_true hc)] at hs2
            have eg := nx_inj hs2
            subst eg
            exact kk ls H locs hL hR hS h1 h2
          · have hs2 := hs
            rw [if_neg (show ¬ cmpI .gt x 0 = true from fun hq => absurd (of_decide_eq_true hq) (by first | exact hc | exact fun k => k hc))] at hs2
            have eg := nx_inj hs2
            subst eg
            exact kk ls H locs hL hR hS h1 h2
        | le =>
          refine fun ls H locs hL hR hS h1 h2 => lv_if_le hx hb hd (of_decide_eq_true hw) (fun hc => ?_) (fun hc => ?_)
          · have hs2 := hs
            rw [if_pos (show cmpI .le x 0 = true from decide_eq_true hc)] at hs2
            have eg := nx_inj hs2
            subst eg
            exact kk ls H locs hL hR hS h1 h2
          · have hs2 := hs
            rw [if_neg (show ¬ cmpI .le x 0 = true from fun hq => absurd (of_decide_eq_true hq) (by first | exact hc | exact fun k => k hc))] at hs2
            have eg := nx_inj hs2
            subst eg
            exact kk ls H locs hL hR hS h1 h2
      | _ => simp [exBranch] at hs
  | if_icmp c9 o =>
    have hd : decode (mm mi).2.1 pc = .ok ((.if_icmp c9 o), 3) := by rw [← (Nat.eq_of_beq_eq_true hlen : len = 3)]; exact hd0
    cases st with
    | nil => simp [exBranch] at hs
    | cons v t =>
      cases t with
      | nil => cases v <;> simp [exBranch] at hs
      | cons w t =>
        cases v with
        | int y =>
          cases w with
          | int x =>
            simp only [exBranch] at hs
            cases c9 with
            | eq =>
              refine fun ls H locs hL hR hS h1 h2 => lv_icmp_eq hx hb hd (of_decide_eq_true hw) (fun hc => ?_) (fun hc => ?_)
              · have hs2 := hs
                rw [if_pos (show cmpI .eq x y = true from decide_eq_true hc)] at hs2
                have eg := nx_inj hs2
                subst eg
                exact kk ls H locs hL hR hS h1 h2
              · have hs2 := hs
                rw [if_neg (show ¬ cmpI .eq x y = true from fun hq => absurd (of_decide_eq_true hq) (by first | exact hc | exact fun k => k hc))] at hs2
                have eg := nx_inj hs2
                subst eg
                exact kk ls H locs hL hR hS h1 h2
            | ne =>
              refine fun ls H locs hL hR hS h1 h2 => lv_icmp_ne hx hb hd (of_decide_eq_true hw) (fun hc => ?_) (fun hc => ?_)
              · have hs2 := hs
                rw [if_pos (show cmpI .ne x y = true from decide_eq_true hc)] at hs2
                have eg := nx_inj hs2
                subst eg
                exact kk ls H locs hL hR hS h1 h2
              · have hs2 := hs
                rw [if_neg (show ¬ cmpI .ne x y = true from fun hq => absurd (of_decide_eq_true hq) (by first | exact hc | exact fun k => k hc))] at hs2
                have eg := nx_inj hs2
                subst eg
                exact kk ls H locs hL hR hS h1 h2
            | lt =>
              refine fun ls H locs hL hR hS h1 h2 => lv_icmp_lt hx hb hd (of_decide_eq_true hw) (fun hc => ?_) (fun hc => ?_)
              · have hs2 := hs
                rw [if_pos (show cmpI .lt x y = true from decide_eq_true hc)] at hs2
                have eg := nx_inj hs2
                subst eg
                exact kk ls H locs hL hR hS h1 h2
              · have hs2 := hs
                rw [if_neg (show ¬ cmpI .lt x y = true from fun hq => absurd (of_decide_eq_true hq) (by first | exact hc | exact fun k => k hc))] at hs2
                have eg := nx_inj hs2
                subst eg
                exact kk ls H locs hL hR hS h1 h2
            | ge =>
              refine fun ls H locs hL hR hS h1 h2 => lv_icmp_ge hx hb hd (of_decide_eq_true hw) (fun hc => ?_) (fun hc => ?_)
              · have hs2 := hs
                rw [if_pos (show cmpI .ge x y = true from decide_eq_true hc)] at hs2
                have eg := nx_inj hs2
                subst eg
                exact kk ls H locs hL hR hS h1 h2
              · have hs2 := hs
                rw [if_neg (show ¬ cmpI .ge x y = true from fun hq => absurd (of_decide_eq_true hq) (by first | exact hc | exact fun k => k hc))] at hs2
                have eg := nx_inj hs2
                subst eg
                exact kk ls H locs hL hR hS h1 h2
            | gt =>
              refine fun ls H locs hL hR hS h1 h2 => lv_icmp_gt hx hb hd (of_decide_eq_true hw) (fun hc => ?_) (fun hc => ?_)
              · have hs2 := hs
                rw [if_pos (show cmpI .gt x y = true from decide_eq_true hc)] at hs2
                have eg := nx_inj hs2
                subst eg
                exact kk ls H locs hL hR hS h1 h2
              · have hs2 := hs
                rw [if_neg (show ¬ cmpI .gt x y = true from fun hq => absurd (of_decide_eq_true hq) (by first | exact hc | exact fun k => k hc))] at hs2
                have eg := nx_inj hs2
                subst eg
                exact kk ls H locs hL hR hS h1 h2
            | le =>
              refine fun ls H locs hL hR hS h1 h2 => lv_icmp_le hx hb hd (of_decide_eq_true hw) (fun hc => ?_) (fun hc => ?_)
              · have hs2 := hs
                rw [if_pos (show cmpI .le x y = true from decide_eq_true hc)] at hs2
                have eg := nx_inj hs2
                subst eg
                exact kk ls H locs hL hR hS h1 h2
              · have hs2 := hs
                rw [if_neg (show ¬ cmpI .le x y = true from fun hq => absurd (of_decide_eq_true hq) (by first | exact hc | exact fun k => k hc))] at hs2
                have eg := nx_inj hs2
                subst eg
                exact kk ls H locs hL hR hS h1 h2
          | _ => simp [exBranch] at hs
        | _ => simp [exBranch] at hs
  | ifnull o =>
    have hd : decode (mm mi).2.1 pc = .ok ((.ifnull o), 3) := by rw [← (Nat.eq_of_beq_eq_true hlen : len = 3)]; exact hd0
    cases st with
    | nil => simp [exBranch] at hs
    | cons v t =>
      cases v with
      | ref x =>
        simp only [exBranch] at hs
        have eg := nx_inj hs
        subst eg
        intro ls H locs hL hR hS h1 h2
        exact lv_ifnull hx hb hd (kk ls H locs hL hR hS h1 h2)
      | null =>
        simp only [exBranch] at hs
        have eg := nx_inj hs
        subst eg
        intro ls H locs hL hR hS h1 h2
        exact lv_ifnullN hx hb hd (of_decide_eq_true hw) (kk ls H locs hL hR hS h1 h2)
      | _ => simp [exBranch] at hs
  | tableswitch d lo hi offs =>
    have hd := hd0
    cases st with
    | nil => simp [exBranch] at hs
    | cons v t =>
      cases v with
      | int x =>
        simp only [exBranch] at hs
        match ws, hw, hs with
        | [], hw, hs => cases hw
        | t0 :: ts, hw, hs =>
          simp only [okW, Bool.and_eq_true] at hw
          have hdf : (pc : Int) + d = (t0 : Int) := of_decide_eq_true hw.1
          have hto := of_decide_eq_true hw.2
          cases hq : swt lo hi (t0 :: ts) x with
          | none => rw [hq] at hs; cases hs
          | some tg =>
            rw [hq] at hs
            have eg := nx_inj hs
            subst eg
            intro ls H locs hL hR hS h1 h2
            unfold swt at hq
            split at hq
            · rename_i hlo
              cases hq
              exact lv_tableOut hx hb hd (Or.inl hlo) hdf (kk ls H locs hL hR hS h1 h2)
            · rename_i hlo
              split at hq
              · rename_i hhi
                cases hq
                exact lv_tableOut hx hb hd (Or.inr hhi) hdf (kk ls H locs hL hR hS h1 h2)
              · rename_i hhi
                rw [List.getElem?_cons_succ] at hq
                have e1 : (ts.map (fun (t : Nat) => (t : Int)))[(x.toInt - lo).toNat]? = some (tg : Int) := by rw [List.getElem?_map, hq]; rfl
                rw [hto, List.getElem?_map] at e1
                cases ho : offs.toList[(x.toInt - lo).toNat]? with
                | none => rw [ho] at e1; cases e1
                | some off =>
                  rw [ho] at e1
                  have e2 : (pc : Int) + off = (tg : Int) := Option.some.inj e1
                  exact lv_tableIn hx hb hd hlo hhi (by rw [← Array.getElem?_toList]; exact ho) e2 (kk ls H locs hL hR hS h1 h2)
      | _ => simp [exBranch] at hs
  | _ => simp [exBranch] at hs
end SND
