/-! a cell more, on both sides -/
section SND
variable {p : Program} {l : Launch} {e : Env} {R : Room} {s : State} {m : MethodId} {args : Array Value} {below : List Frame} {meth : Method} {c : Code} {Q : State → Prop} {G : Gm} {sc : List Int32} {z0 : Zc} {mi pc : Nat} {L : List (Option Value)} {st : List Value} {z : Zc} {h : Hp} {li : LI} {g : Fm}
theorem Rl.push {hp : List AE} {e' : AE} {H1 : Heap} {n : Nat} (h0 : h 0 = some (.inr (.inl (false, sc)))) (hl : hp.length = n) (hh : ∀ k, h (k + 1) = hp[k]?) {z' : Zc} (hz : z'.1 = n + 1) (hP : va_P G.1 classes (wsF G 0 hp) H1) (hQ : va_at G.1 classes (G.2.1.1 + n, cE G e') H1) : Rl G sc z' (hput h (n + 1) e') H1 := by
  refine ⟨?_, hp ++ [e'], by simp [hl, hz], fun k => ?_, ?_⟩
  · show (if 0 = n + 1 then _ else h 0) = _
    rw [if_neg (by omega)]; exact h0
  · show (if k + 1 = n + 1 then some e' else h (k + 1)) = _
    by_cases hk : k = n
    · subst hk
      rw [if_pos rfl, List.getElem?_append_right (by omega), hl, Nat.sub_self]
      rfl
    · rw [if_neg (by omega), hh]
      by_cases hk2 : k < hp.length
      · rw [List.getElem?_append_left hk2]
      · rw [List.getElem?_append_right (by omega), List.getElem?_eq_none (by omega), List.getElem?_eq_none (by simp; omega)]
  · rw [wsF_app]
    refine hP.app (fun k x hx => ?_)
    have hz : k < 1 := (List.getElem?_eq_some_iff.mp hx).1
    rw [show k = 0 by omega] at hx
    cases hx
    rw [hl, Nat.zero_add]
    exact hQ
theorem va_S.grown {A : Nat → Prop} {H0 H H1 : Heap} {locs : List Loc} {n : Nat} (hS : va_S A H0 H locs) (hn : H.size = n) (z1 : n ≤ H1.size) (o1 : ∀ q, q < n → H1[q]? = H[q]?) : va_S A H0 H1 locs :=
  ⟨Nat.le_trans hS.1 (by omega), fun x h1 h2 => (o1 x (by have := hS.1; omega)).trans (hS.2.1 x h1 h2), hS.2.2⟩
theorem W_sz {H : Heap} {locs : List Loc} {cells slots : Nat} {f : JFrame} (k : H.size ≤ s.heap.size + cells → W p l e R s m args below meth c H locs cells slots Q f) : W p l e R s m args below meth c H locs cells slots Q f :=
  fun T hT X => k (by rw [← hT]; exact X.heapSize) T hT X
theorem newE_cases {t : ArrayType} {n : Nat} {e' : AE} (he : newE t n = some e') : (t = .int ∧ e' = .inr (.inl (false, List.replicate n 0))) ∨ (t = .boolean ∧ e' = .inr (.inl (true, List.replicate n 0))) ∨ (t = .long ∧ e' = .inr (.inr (.inl (List.replicate n 0)))) := by
  cases t <;> simp only [newE] at he <;> first | (cases he; done) | skip
  · cases he; exact Or.inr (Or.inl ⟨rfl, rfl⟩)
  · cases he; exact Or.inl ⟨rfl, rfl⟩
  · cases he; exact Or.inr (Or.inr ⟨rfl, rfl⟩)
theorem repl_i (n : Nat) : (fun j => (List.replicate n (0 : Int32)).getD j 0) = (fun _ => 0) := by
  funext j
  rw [List.getD_eq_getElem?_getD, List.getElem?_replicate]
  split <;> rfl
theorem repl_l (n : Nat) : (fun j => (List.replicate n (0 : Int64)).getD j 0) = (fun _ => 0) := by
  funext j
  rw [List.getD_eq_getElem?_getD, List.getElem?_replicate]
  split <;> rfl
end SND
