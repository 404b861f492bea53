/-! the objects as cells. Written by program (wip/gen/g30.py). -/
def oS (x0 x1 x2 x3 x4 x5 x6 : Value) : AE := .inl (0, [x0, x1, x2, x3, x4, x5, x6])
theorem oS_ck (x0 x1 x2 x3 x4 x5 x6 : Value) : ckE (oS x0 x1 x2 x3 x4 x5 x6) 0 = true := rfl
theorem oS_g0 (x0 x1 x2 x3 x4 x5 x6 : Value) : gfE (oS x0 x1 x2 x3 x4 x5 x6) 0 0 = some x0 := rfl
theorem oS_p0 (x0 x1 x2 x3 x4 x5 x6 : Value) (v : Nat) : pfE (oS x0 x1 x2 x3 x4 x5 x6) 0 0 3 (.ref v) = some (oS (.ref v) x1 x2 x3 x4 x5 x6) := rfl
theorem oS_g1 (x0 x1 x2 x3 x4 x5 x6 : Value) : gfE (oS x0 x1 x2 x3 x4 x5 x6) 0 1 = some x1 := rfl
theorem oS_p1 (x0 x1 x2 x3 x4 x5 x6 : Value) (v : Nat) : pfE (oS x0 x1 x2 x3 x4 x5 x6) 0 1 3 (.ref v) = some (oS x0 (.ref v) x2 x3 x4 x5 x6) := rfl
theorem oS_g2 (x0 x1 x2 x3 x4 x5 x6 : Value) : gfE (oS x0 x1 x2 x3 x4 x5 x6) 0 2 = some x2 := rfl
theorem oS_p2 (x0 x1 x2 x3 x4 x5 x6 : Value) (v : Nat) : pfE (oS x0 x1 x2 x3 x4 x5 x6) 0 2 3 (.ref v) = some (oS x0 x1 (.ref v) x3 x4 x5 x6) := rfl
theorem oS_g3 (x0 x1 x2 x3 x4 x5 x6 : Value) : gfE (oS x0 x1 x2 x3 x4 x5 x6) 0 3 = some x3 := rfl
theorem oS_p3 (x0 x1 x2 x3 x4 x5 x6 : Value) (v : Nat) : pfE (oS x0 x1 x2 x3 x4 x5 x6) 0 3 3 (.ref v) = some (oS x0 x1 x2 (.ref v) x4 x5 x6) := rfl
theorem oS_g4 (x0 x1 x2 x3 x4 x5 x6 : Value) : gfE (oS x0 x1 x2 x3 x4 x5 x6) 0 4 = some x4 := rfl
theorem oS_p4 (x0 x1 x2 x3 x4 x5 x6 : Value) (v : Nat) : pfE (oS x0 x1 x2 x3 x4 x5 x6) 0 4 3 (.ref v) = some (oS x0 x1 x2 x3 (.ref v) x5 x6) := rfl
theorem oS_g5 (x0 x1 x2 x3 x4 x5 x6 : Value) : gfE (oS x0 x1 x2 x3 x4 x5 x6) 0 5 = some x5 := rfl
theorem oS_p5 (x0 x1 x2 x3 x4 x5 x6 : Value) (v : Nat) : pfE (oS x0 x1 x2 x3 x4 x5 x6) 0 5 3 (.ref v) = some (oS x0 x1 x2 x3 x4 (.ref v) x6) := rfl
theorem oS_g6 (x0 x1 x2 x3 x4 x5 x6 : Value) : gfE (oS x0 x1 x2 x3 x4 x5 x6) 0 6 = some x6 := rfl
theorem oS_p6 (x0 x1 x2 x3 x4 x5 x6 : Value) (v : Nat) : pfE (oS x0 x1 x2 x3 x4 x5 x6) 0 6 3 (.ref v) = some (oS x0 x1 x2 x3 x4 x5 (.ref v)) := rfl
theorem oS_b : blankE 0 = oS .null .null .null .null .null .null .null := by
  show (Sum.inl (0, (cfl 0).map (fun q => dflt q.2.1)) : AE) = .inl (0, _)
  refine congrArg (fun l => (Sum.inl (0, l) : AE)) ?_
  decide +kernel
def oP (x0 x1 x2 x3 x4 x5 x6 x7 x8 x9 x10 x11 x12 : Value) : AE := .inl (1, [x0, x1, x2, x3, x4, x5, x6, x7, x8, x9, x10, x11, x12])
theorem oP_ck (x0 x1 x2 x3 x4 x5 x6 x7 x8 x9 x10 x11 x12 : Value) : ckE (oP x0 x1 x2 x3 x4 x5 x6 x7 x8 x9 x10 x11 x12) 1 = true := rfl
theorem oP_g0 (x0 x1 x2 x3 x4 x5 x6 x7 x8 x9 x10 x11 x12 : Value) : gfE (oP x0 x1 x2 x3 x4 x5 x6 x7 x8 x9 x10 x11 x12) 1 0 = some x0 := rfl
theorem oP_p0 (x0 x1 x2 x3 x4 x5 x6 x7 x8 x9 x10 x11 x12 : Value) (v : Int32) : pfE (oP x0 x1 x2 x3 x4 x5 x6 x7 x8 x9 x10 x11 x12) 1 0 0 (.int v) = some (oP (.int v) x1 x2 x3 x4 x5 x6 x7 x8 x9 x10 x11 x12) := rfl
theorem oP_g1 (x0 x1 x2 x3 x4 x5 x6 x7 x8 x9 x10 x11 x12 : Value) : gfE (oP x0 x1 x2 x3 x4 x5 x6 x7 x8 x9 x10 x11 x12) 1 1 = some x1 := rfl
theorem oP_p1 (x0 x1 x2 x3 x4 x5 x6 x7 x8 x9 x10 x11 x12 : Value) (v : Nat) : pfE (oP x0 x1 x2 x3 x4 x5 x6 x7 x8 x9 x10 x11 x12) 1 1 3 (.ref v) = some (oP x0 (.ref v) x2 x3 x4 x5 x6 x7 x8 x9 x10 x11 x12) := rfl
theorem oP_g2 (x0 x1 x2 x3 x4 x5 x6 x7 x8 x9 x10 x11 x12 : Value) : gfE (oP x0 x1 x2 x3 x4 x5 x6 x7 x8 x9 x10 x11 x12) 1 2 = some x2 := rfl
theorem oP_p2 (x0 x1 x2 x3 x4 x5 x6 x7 x8 x9 x10 x11 x12 : Value) (v : Nat) : pfE (oP x0 x1 x2 x3 x4 x5 x6 x7 x8 x9 x10 x11 x12) 1 2 3 (.ref v) = some (oP x0 x1 (.ref v) x3 x4 x5 x6 x7 x8 x9 x10 x11 x12) := rfl
theorem oP_g3 (x0 x1 x2 x3 x4 x5 x6 x7 x8 x9 x10 x11 x12 : Value) : gfE (oP x0 x1 x2 x3 x4 x5 x6 x7 x8 x9 x10 x11 x12) 1 3 = some x3 := rfl
theorem oP_p3 (x0 x1 x2 x3 x4 x5 x6 x7 x8 x9 x10 x11 x12 : Value) (v : Nat) : pfE (oP x0 x1 x2 x3 x4 x5 x6 x7 x8 x9 x10 x11 x12) 1 3 3 (.ref v) = some (oP x0 x1 x2 (.ref v) x4 x5 x6 x7 x8 x9 x10 x11 x12) := rfl
theorem oP_g4 (x0 x1 x2 x3 x4 x5 x6 x7 x8 x9 x10 x11 x12 : Value) : gfE (oP x0 x1 x2 x3 x4 x5 x6 x7 x8 x9 x10 x11 x12) 1 4 = some x4 := rfl
theorem oP_p4 (x0 x1 x2 x3 x4 x5 x6 x7 x8 x9 x10 x11 x12 : Value) (v : Nat) : pfE (oP x0 x1 x2 x3 x4 x5 x6 x7 x8 x9 x10 x11 x12) 1 4 3 (.ref v) = some (oP x0 x1 x2 x3 (.ref v) x5 x6 x7 x8 x9 x10 x11 x12) := rfl
theorem oP_g5 (x0 x1 x2 x3 x4 x5 x6 x7 x8 x9 x10 x11 x12 : Value) : gfE (oP x0 x1 x2 x3 x4 x5 x6 x7 x8 x9 x10 x11 x12) 1 5 = some x5 := rfl
theorem oP_p5 (x0 x1 x2 x3 x4 x5 x6 x7 x8 x9 x10 x11 x12 : Value) (v : Int32) : pfE (oP x0 x1 x2 x3 x4 x5 x6 x7 x8 x9 x10 x11 x12) 1 5 0 (.int v) = some (oP x0 x1 x2 x3 x4 (.int v) x6 x7 x8 x9 x10 x11 x12) := rfl
theorem oP_g6 (x0 x1 x2 x3 x4 x5 x6 x7 x8 x9 x10 x11 x12 : Value) : gfE (oP x0 x1 x2 x3 x4 x5 x6 x7 x8 x9 x10 x11 x12) 1 6 = some x6 := rfl
theorem oP_p6 (x0 x1 x2 x3 x4 x5 x6 x7 x8 x9 x10 x11 x12 : Value) (v : Nat) : pfE (oP x0 x1 x2 x3 x4 x5 x6 x7 x8 x9 x10 x11 x12) 1 6 3 (.ref v) = some (oP x0 x1 x2 x3 x4 x5 (.ref v) x7 x8 x9 x10 x11 x12) := rfl
theorem oP_g7 (x0 x1 x2 x3 x4 x5 x6 x7 x8 x9 x10 x11 x12 : Value) : gfE (oP x0 x1 x2 x3 x4 x5 x6 x7 x8 x9 x10 x11 x12) 1 7 = some x7 := rfl
theorem oP_p7 (x0 x1 x2 x3 x4 x5 x6 x7 x8 x9 x10 x11 x12 : Value) (v : Nat) : pfE (oP x0 x1 x2 x3 x4 x5 x6 x7 x8 x9 x10 x11 x12) 1 7 3 (.ref v) = some (oP x0 x1 x2 x3 x4 x5 x6 (.ref v) x8 x9 x10 x11 x12) := rfl
theorem oP_g8 (x0 x1 x2 x3 x4 x5 x6 x7 x8 x9 x10 x11 x12 : Value) : gfE (oP x0 x1 x2 x3 x4 x5 x6 x7 x8 x9 x10 x11 x12) 1 8 = some x8 := rfl
theorem oP_p8 (x0 x1 x2 x3 x4 x5 x6 x7 x8 x9 x10 x11 x12 : Value) (v : Nat) : pfE (oP x0 x1 x2 x3 x4 x5 x6 x7 x8 x9 x10 x11 x12) 1 8 3 (.ref v) = some (oP x0 x1 x2 x3 x4 x5 x6 x7 (.ref v) x9 x10 x11 x12) := rfl
theorem oP_g9 (x0 x1 x2 x3 x4 x5 x6 x7 x8 x9 x10 x11 x12 : Value) : gfE (oP x0 x1 x2 x3 x4 x5 x6 x7 x8 x9 x10 x11 x12) 1 9 = some x9 := rfl
theorem oP_p9 (x0 x1 x2 x3 x4 x5 x6 x7 x8 x9 x10 x11 x12 : Value) (v : Nat) : pfE (oP x0 x1 x2 x3 x4 x5 x6 x7 x8 x9 x10 x11 x12) 1 9 3 (.ref v) = some (oP x0 x1 x2 x3 x4 x5 x6 x7 x8 (.ref v) x10 x11 x12) := rfl
theorem oP_g10 (x0 x1 x2 x3 x4 x5 x6 x7 x8 x9 x10 x11 x12 : Value) : gfE (oP x0 x1 x2 x3 x4 x5 x6 x7 x8 x9 x10 x11 x12) 1 10 = some x10 := rfl
theorem oP_p10 (x0 x1 x2 x3 x4 x5 x6 x7 x8 x9 x10 x11 x12 : Value) (v : Int32) : pfE (oP x0 x1 x2 x3 x4 x5 x6 x7 x8 x9 x10 x11 x12) 1 10 0 (.int v) = some (oP x0 x1 x2 x3 x4 x5 x6 x7 x8 x9 (.int v) x11 x12) := rfl
theorem oP_g11 (x0 x1 x2 x3 x4 x5 x6 x7 x8 x9 x10 x11 x12 : Value) : gfE (oP x0 x1 x2 x3 x4 x5 x6 x7 x8 x9 x10 x11 x12) 1 11 = some x11 := rfl
theorem oP_p11 (x0 x1 x2 x3 x4 x5 x6 x7 x8 x9 x10 x11 x12 : Value) (v : Int32) : pfE (oP x0 x1 x2 x3 x4 x5 x6 x7 x8 x9 x10 x11 x12) 1 11 0 (.int v) = some (oP x0 x1 x2 x3 x4 x5 x6 x7 x8 x9 x10 (.int v) x12) := rfl
theorem oP_g12 (x0 x1 x2 x3 x4 x5 x6 x7 x8 x9 x10 x11 x12 : Value) : gfE (oP x0 x1 x2 x3 x4 x5 x6 x7 x8 x9 x10 x11 x12) 1 12 = some x12 := rfl
theorem oP_p12 (x0 x1 x2 x3 x4 x5 x6 x7 x8 x9 x10 x11 x12 : Value) (v : Nat) : pfE (oP x0 x1 x2 x3 x4 x5 x6 x7 x8 x9 x10 x11 x12) 1 12 3 (.ref v) = some (oP x0 x1 x2 x3 x4 x5 x6 x7 x8 x9 x10 x11 (.ref v)) := rfl
theorem oP_b : blankE 1 = oP (.int 0) .null .null .null .null (.int 0) .null .null .null .null (.int 0) (.int 0) .null := by
  show (Sum.inl (1, (cfl 1).map (fun q => dflt q.2.1)) : AE) = .inl (1, _)
  refine congrArg (fun l => (Sum.inl (1, l) : AE)) ?_
  decide +kernel
def oR (x0 x1 x2 x3 : Value) : AE := .inl (2, [x0, x1, x2, x3])
theorem oR_ck (x0 x1 x2 x3 : Value) : ckE (oR x0 x1 x2 x3) 2 = true := rfl
theorem oR_g0 (x0 x1 x2 x3 : Value) : gfE (oR x0 x1 x2 x3) 2 0 = some x0 := rfl
theorem oR_p0 (x0 x1 x2 x3 : Value) (v : Nat) : pfE (oR x0 x1 x2 x3) 2 0 3 (.ref v) = some (oR (.ref v) x1 x2 x3) := rfl
theorem oR_g1 (x0 x1 x2 x3 : Value) : gfE (oR x0 x1 x2 x3) 2 1 = some x1 := rfl
theorem oR_p1 (x0 x1 x2 x3 : Value) (v : Int32) : pfE (oR x0 x1 x2 x3) 2 1 0 (.int v) = some (oR x0 (.int v) x2 x3) := rfl
theorem oR_g2 (x0 x1 x2 x3 : Value) : gfE (oR x0 x1 x2 x3) 2 2 = some x2 := rfl
theorem oR_p2 (x0 x1 x2 x3 : Value) (v : Nat) : pfE (oR x0 x1 x2 x3) 2 2 3 (.ref v) = some (oR x0 x1 (.ref v) x3) := rfl
theorem oR_g3 (x0 x1 x2 x3 : Value) : gfE (oR x0 x1 x2 x3) 2 3 = some x3 := rfl
theorem oR_p3 (x0 x1 x2 x3 : Value) (v : Nat) : pfE (oR x0 x1 x2 x3) 2 3 3 (.ref v) = some (oR x0 x1 x2 (.ref v)) := rfl
theorem oR_b : blankE 2 = oR .null (.int 0) .null .null := by
  show (Sum.inl (2, (cfl 2).map (fun q => dflt q.2.1)) : AE) = .inl (2, _)
  refine congrArg (fun l => (Sum.inl (2, l) : AE)) ?_
  decide +kernel
def oG (x0 x1 x2 : Value) : AE := .inl (3, [x0, x1, x2])
theorem oG_ck (x0 x1 x2 : Value) : ckE (oG x0 x1 x2) 3 = true := rfl
theorem oG_g0 (x0 x1 x2 : Value) : gfE (oG x0 x1 x2) 3 0 = some x0 := rfl
theorem oG_p0 (x0 x1 x2 : Value) (v : Nat) : pfE (oG x0 x1 x2) 3 0 3 (.ref v) = some (oG (.ref v) x1 x2) := rfl
theorem oG_g1 (x0 x1 x2 : Value) : gfE (oG x0 x1 x2) 3 1 = some x1 := rfl
theorem oG_p1 (x0 x1 x2 : Value) (v : Int32) : pfE (oG x0 x1 x2) 3 1 0 (.int v) = some (oG x0 (.int v) x2) := rfl
theorem oG_g2 (x0 x1 x2 : Value) : gfE (oG x0 x1 x2) 3 2 = some x2 := rfl
theorem oG_p2 (x0 x1 x2 : Value) (v : Int32) : pfE (oG x0 x1 x2) 3 2 0 (.int v) = some (oG x0 x1 (.int v)) := rfl
theorem oG_b : blankE 3 = oG .null (.int 0) (.int 0) := by
  show (Sum.inl (3, (cfl 3).map (fun q => dflt q.2.1)) : AE) = .inl (3, _)
  refine congrArg (fun l => (Sum.inl (3, l) : AE)) ?_
  decide +kernel
def oW (x0 x1 x2 : Value) : AE := .inl (4, [x0, x1, x2])
theorem oW_ck (x0 x1 x2 : Value) : ckE (oW x0 x1 x2) 4 = true := rfl
theorem oW_g0 (x0 x1 x2 : Value) : gfE (oW x0 x1 x2) 4 0 = some x0 := rfl
theorem oW_p0 (x0 x1 x2 : Value) (v : Nat) : pfE (oW x0 x1 x2) 4 0 3 (.ref v) = some (oW (.ref v) x1 x2) := rfl
theorem oW_g1 (x0 x1 x2 : Value) : gfE (oW x0 x1 x2) 4 1 = some x1 := rfl
theorem oW_p1 (x0 x1 x2 : Value) (v : Nat) : pfE (oW x0 x1 x2) 4 1 3 (.ref v) = some (oW x0 (.ref v) x2) := rfl
theorem oW_g2 (x0 x1 x2 : Value) : gfE (oW x0 x1 x2) 4 2 = some x2 := rfl
theorem oW_p2 (x0 x1 x2 : Value) (v : Int32) : pfE (oW x0 x1 x2) 4 2 0 (.int v) = some (oW x0 x1 (.int v)) := rfl
theorem oW_b : blankE 4 = oW .null .null (.int 0) := by
  show (Sum.inl (4, (cfl 4).map (fun q => dflt q.2.1)) : AE) = .inl (4, _)
  refine congrArg (fun l => (Sum.inl (4, l) : AE)) ?_
  decide +kernel
def oB (x0 x1 x2 x3 x4 x5 x6 : Value) : AE := .inl (5, [x0, x1, x2, x3, x4, x5, x6])
theorem oB_ck (x0 x1 x2 x3 x4 x5 x6 : Value) : ckE (oB x0 x1 x2 x3 x4 x5 x6) 5 = true := rfl
theorem oB_g0 (x0 x1 x2 x3 x4 x5 x6 : Value) : gfE (oB x0 x1 x2 x3 x4 x5 x6) 5 0 = some x0 := rfl
theorem oB_p0 (x0 x1 x2 x3 x4 x5 x6 : Value) (v : Int32) (hv : v = nI 0 ∨ v = nI 1) : pfE (oB x0 x1 x2 x3 x4 x5 x6) 5 0 1 (.int v) = some (oB (.int v) x1 x2 x3 x4 x5 x6) := by rcases hv with rfl | rfl <;> rfl
theorem oB_g1 (x0 x1 x2 x3 x4 x5 x6 : Value) : gfE (oB x0 x1 x2 x3 x4 x5 x6) 5 1 = some x1 := rfl
theorem oB_p1 (x0 x1 x2 x3 x4 x5 x6 : Value) (v : Int32) : pfE (oB x0 x1 x2 x3 x4 x5 x6) 5 1 0 (.int v) = some (oB x0 (.int v) x2 x3 x4 x5 x6) := rfl
theorem oB_g2 (x0 x1 x2 x3 x4 x5 x6 : Value) : gfE (oB x0 x1 x2 x3 x4 x5 x6) 5 2 = some x2 := rfl
theorem oB_p2 (x0 x1 x2 x3 x4 x5 x6 : Value) (v : Nat) : pfE (oB x0 x1 x2 x3 x4 x5 x6) 5 2 3 (.ref v) = some (oB x0 x1 (.ref v) x3 x4 x5 x6) := rfl
theorem oB_g3 (x0 x1 x2 x3 x4 x5 x6 : Value) : gfE (oB x0 x1 x2 x3 x4 x5 x6) 5 3 = some x3 := rfl
theorem oB_p3 (x0 x1 x2 x3 x4 x5 x6 : Value) (v : Int32) : pfE (oB x0 x1 x2 x3 x4 x5 x6) 5 3 0 (.int v) = some (oB x0 x1 x2 (.int v) x4 x5 x6) := rfl
theorem oB_g4 (x0 x1 x2 x3 x4 x5 x6 : Value) : gfE (oB x0 x1 x2 x3 x4 x5 x6) 5 4 = some x4 := rfl
theorem oB_p4 (x0 x1 x2 x3 x4 x5 x6 : Value) (v : Nat) : pfE (oB x0 x1 x2 x3 x4 x5 x6) 5 4 3 (.ref v) = some (oB x0 x1 x2 x3 (.ref v) x5 x6) := rfl
theorem oB_g5 (x0 x1 x2 x3 x4 x5 x6 : Value) : gfE (oB x0 x1 x2 x3 x4 x5 x6) 5 5 = some x5 := rfl
theorem oB_p5 (x0 x1 x2 x3 x4 x5 x6 : Value) (v : Nat) : pfE (oB x0 x1 x2 x3 x4 x5 x6) 5 5 3 (.ref v) = some (oB x0 x1 x2 x3 x4 (.ref v) x6) := rfl
theorem oB_g6 (x0 x1 x2 x3 x4 x5 x6 : Value) : gfE (oB x0 x1 x2 x3 x4 x5 x6) 5 6 = some x6 := rfl
theorem oB_p6 (x0 x1 x2 x3 x4 x5 x6 : Value) (v : Nat) : pfE (oB x0 x1 x2 x3 x4 x5 x6) 5 6 3 (.ref v) = some (oB x0 x1 x2 x3 x4 x5 (.ref v)) := rfl
theorem oB_b : blankE 5 = oB (.int 0) (.int 0) .null (.int 0) .null .null .null := by
  show (Sum.inl (5, (cfl 5).map (fun q => dflt q.2.1)) : AE) = .inl (5, _)
  refine congrArg (fun l => (Sum.inl (5, l) : AE)) ?_
  decide +kernel
def oC (x0 x1 x2 x3 x4 x5 x6 : Value) : AE := .inl (6, [x0, x1, x2, x3, x4, x5, x6])
theorem oC_ck (x0 x1 x2 x3 x4 x5 x6 : Value) : ckE (oC x0 x1 x2 x3 x4 x5 x6) 6 = true := rfl
theorem oC_g0 (x0 x1 x2 x3 x4 x5 x6 : Value) : gfE (oC x0 x1 x2 x3 x4 x5 x6) 6 0 = some x0 := rfl
theorem oC_p0 (x0 x1 x2 x3 x4 x5 x6 : Value) (v : Int32) : pfE (oC x0 x1 x2 x3 x4 x5 x6) 6 0 0 (.int v) = some (oC (.int v) x1 x2 x3 x4 x5 x6) := rfl
theorem oC_g1 (x0 x1 x2 x3 x4 x5 x6 : Value) : gfE (oC x0 x1 x2 x3 x4 x5 x6) 6 1 = some x1 := rfl
theorem oC_p1 (x0 x1 x2 x3 x4 x5 x6 : Value) (v : Nat) : pfE (oC x0 x1 x2 x3 x4 x5 x6) 6 1 3 (.ref v) = some (oC x0 (.ref v) x2 x3 x4 x5 x6) := rfl
theorem oC_g2 (x0 x1 x2 x3 x4 x5 x6 : Value) : gfE (oC x0 x1 x2 x3 x4 x5 x6) 6 2 = some x2 := rfl
theorem oC_p2 (x0 x1 x2 x3 x4 x5 x6 : Value) (v : Nat) : pfE (oC x0 x1 x2 x3 x4 x5 x6) 6 2 3 (.ref v) = some (oC x0 x1 (.ref v) x3 x4 x5 x6) := rfl
theorem oC_g3 (x0 x1 x2 x3 x4 x5 x6 : Value) : gfE (oC x0 x1 x2 x3 x4 x5 x6) 6 3 = some x3 := rfl
theorem oC_p3 (x0 x1 x2 x3 x4 x5 x6 : Value) (v : Nat) : pfE (oC x0 x1 x2 x3 x4 x5 x6) 6 3 3 (.ref v) = some (oC x0 x1 x2 (.ref v) x4 x5 x6) := rfl
theorem oC_g4 (x0 x1 x2 x3 x4 x5 x6 : Value) : gfE (oC x0 x1 x2 x3 x4 x5 x6) 6 4 = some x4 := rfl
theorem oC_p4 (x0 x1 x2 x3 x4 x5 x6 : Value) (v : Int32) : pfE (oC x0 x1 x2 x3 x4 x5 x6) 6 4 0 (.int v) = some (oC x0 x1 x2 x3 (.int v) x5 x6) := rfl
theorem oC_g5 (x0 x1 x2 x3 x4 x5 x6 : Value) : gfE (oC x0 x1 x2 x3 x4 x5 x6) 6 5 = some x5 := rfl
theorem oC_p5 (x0 x1 x2 x3 x4 x5 x6 : Value) (v : Nat) : pfE (oC x0 x1 x2 x3 x4 x5 x6) 6 5 3 (.ref v) = some (oC x0 x1 x2 x3 x4 (.ref v) x6) := rfl
theorem oC_g6 (x0 x1 x2 x3 x4 x5 x6 : Value) : gfE (oC x0 x1 x2 x3 x4 x5 x6) 6 6 = some x6 := rfl
theorem oC_p6 (x0 x1 x2 x3 x4 x5 x6 : Value) (v : Nat) : pfE (oC x0 x1 x2 x3 x4 x5 x6) 6 6 3 (.ref v) = some (oC x0 x1 x2 x3 x4 x5 (.ref v)) := rfl
theorem oC_b : blankE 6 = oC (.int 0) .null .null .null (.int 0) .null .null := by
  show (Sum.inl (6, (cfl 6).map (fun q => dflt q.2.1)) : AE) = .inl (6, _)
  refine congrArg (fun l => (Sum.inl (6, l) : AE)) ?_
  decide +kernel
def oH (x0 x1 x2 x3 : Value) : AE := .inl (7, [x0, x1, x2, x3])
theorem oH_ck (x0 x1 x2 x3 : Value) : ckE (oH x0 x1 x2 x3) 7 = true := rfl
theorem oH_g0 (x0 x1 x2 x3 : Value) : gfE (oH x0 x1 x2 x3) 7 0 = some x0 := rfl
theorem oH_p0 (x0 x1 x2 x3 : Value) (v : Int64) : pfE (oH x0 x1 x2 x3) 7 0 2 (.long v) = some (oH (.long v) x1 x2 x3) := rfl
theorem oH_g1 (x0 x1 x2 x3 : Value) : gfE (oH x0 x1 x2 x3) 7 1 = some x1 := rfl
theorem oH_p1 (x0 x1 x2 x3 : Value) (v : Int64) : pfE (oH x0 x1 x2 x3) 7 1 2 (.long v) = some (oH x0 (.long v) x2 x3) := rfl
theorem oH_g2 (x0 x1 x2 x3 : Value) : gfE (oH x0 x1 x2 x3) 7 2 = some x2 := rfl
theorem oH_p2 (x0 x1 x2 x3 : Value) (v : Nat) : pfE (oH x0 x1 x2 x3) 7 2 3 (.ref v) = some (oH x0 x1 (.ref v) x3) := rfl
theorem oH_g3 (x0 x1 x2 x3 : Value) : gfE (oH x0 x1 x2 x3) 7 3 = some x3 := rfl
theorem oH_p3 (x0 x1 x2 x3 : Value) (v : Nat) : pfE (oH x0 x1 x2 x3) 7 3 3 (.ref v) = some (oH x0 x1 x2 (.ref v)) := rfl
theorem oH_b : blankE 7 = oH (.long 0) (.long 0) .null .null := by
  show (Sum.inl (7, (cfl 7).map (fun q => dflt q.2.1)) : AE) = .inl (7, _)
  refine congrArg (fun l => (Sum.inl (7, l) : AE)) ?_
  decide +kernel
def oM (x0 x1 x2 x3 x4 x5 x6 x7 x8 x9 x10 x11 x12 x13 x14 x15 x16 x17 x18 x19 x20 x21 x22 x23 x24 x25 x26 x27 x28 x29 : Value) : AE := .inl (8, [x0, x1, x2, x3, x4, x5, x6, x7, x8, x9, x10, x11, x12, x13, x14, x15, x16, x17, x18, x19, x20, x21, x22, x23, x24, x25, x26, x27, x28, x29])
theorem oM_ck (x0 x1 x2 x3 x4 x5 x6 x7 x8 x9 x10 x11 x12 x13 x14 x15 x16 x17 x18 x19 x20 x21 x22 x23 x24 x25 x26 x27 x28 x29 : Value) : ckE (oM x0 x1 x2 x3 x4 x5 x6 x7 x8 x9 x10 x11 x12 x13 x14 x15 x16 x17 x18 x19 x20 x21 x22 x23 x24 x25 x26 x27 x28 x29) 8 = true := rfl
theorem oM_g0 (x0 x1 x2 x3 x4 x5 x6 x7 x8 x9 x10 x11 x12 x13 x14 x15 x16 x17 x18 x19 x20 x21 x22 x23 x24 x25 x26 x27 x28 x29 : Value) : gfE (oM x0 x1 x2 x3 x4 x5 x6 x7 x8 x9 x10 x11 x12 x13 x14 x15 x16 x17 x18 x19 x20 x21 x22 x23 x24 x25 x26 x27 x28 x29) 8 0 = some x0 := rfl
theorem oM_p0 (x0 x1 x2 x3 x4 x5 x6 x7 x8 x9 x10 x11 x12 x13 x14 x15 x16 x17 x18 x19 x20 x21 x22 x23 x24 x25 x26 x27 x28 x29 : Value) (v : Int32) : pfE (oM x0 x1 x2 x3 x4 x5 x6 x7 x8 x9 x10 x11 x12 x13 x14 x15 x16 x17 x18 x19 x20 x21 x22 x23 x24 x25 x26 x27 x28 x29) 8 0 0 (.int v) = some (oM (.int v) x1 x2 x3 x4 x5 x6 x7 x8 x9 x10 x11 x12 x13 x14 x15 x16 x17 x18 x19 x20 x21 x22 x23 x24 x25 x26 x27 x28 x29) := rfl
theorem oM_g1 (x0 x1 x2 x3 x4 x5 x6 x7 x8 x9 x10 x11 x12 x13 x14 x15 x16 x17 x18 x19 x20 x21 x22 x23 x24 x25 x26 x27 x28 x29 : Value) : gfE (oM x0 x1 x2 x3 x4 x5 x6 x7 x8 x9 x10 x11 x12 x13 x14 x15 x16 x17 x18 x19 x20 x21 x22 x23 x24 x25 x26 x27 x28 x29) 8 1 = some x1 := rfl
theorem oM_p1 (x0 x1 x2 x3 x4 x5 x6 x7 x8 x9 x10 x11 x12 x13 x14 x15 x16 x17 x18 x19 x20 x21 x22 x23 x24 x25 x26 x27 x28 x29 : Value) (v : Nat) : pfE (oM x0 x1 x2 x3 x4 x5 x6 x7 x8 x9 x10 x11 x12 x13 x14 x15 x16 x17 x18 x19 x20 x21 x22 x23 x24 x25 x26 x27 x28 x29) 8 1 3 (.ref v) = some (oM x0 (.ref v) x2 x3 x4 x5 x6 x7 x8 x9 x10 x11 x12 x13 x14 x15 x16 x17 x18 x19 x20 x21 x22 x23 x24 x25 x26 x27 x28 x29) := rfl
theorem oM_g2 (x0 x1 x2 x3 x4 x5 x6 x7 x8 x9 x10 x11 x12 x13 x14 x15 x16 x17 x18 x19 x20 x21 x22 x23 x24 x25 x26 x27 x28 x29 : Value) : gfE (oM x0 x1 x2 x3 x4 x5 x6 x7 x8 x9 x10 x11 x12 x13 x14 x15 x16 x17 x18 x19 x20 x21 x22 x23 x24 x25 x26 x27 x28 x29) 8 2 = some x2 := rfl
theorem oM_p2 (x0 x1 x2 x3 x4 x5 x6 x7 x8 x9 x10 x11 x12 x13 x14 x15 x16 x17 x18 x19 x20 x21 x22 x23 x24 x25 x26 x27 x28 x29 : Value) (v : Nat) : pfE (oM x0 x1 x2 x3 x4 x5 x6 x7 x8 x9 x10 x11 x12 x13 x14 x15 x16 x17 x18 x19 x20 x21 x22 x23 x24 x25 x26 x27 x28 x29) 8 2 3 (.ref v) = some (oM x0 x1 (.ref v) x3 x4 x5 x6 x7 x8 x9 x10 x11 x12 x13 x14 x15 x16 x17 x18 x19 x20 x21 x22 x23 x24 x25 x26 x27 x28 x29) := rfl
theorem oM_g3 (x0 x1 x2 x3 x4 x5 x6 x7 x8 x9 x10 x11 x12 x13 x14 x15 x16 x17 x18 x19 x20 x21 x22 x23 x24 x25 x26 x27 x28 x29 : Value) : gfE (oM x0 x1 x2 x3 x4 x5 x6 x7 x8 x9 x10 x11 x12 x13 x14 x15 x16 x17 x18 x19 x20 x21 x22 x23 x24 x25 x26 x27 x28 x29) 8 3 = some x3 := rfl
theorem oM_p3 (x0 x1 x2 x3 x4 x5 x6 x7 x8 x9 x10 x11 x12 x13 x14 x15 x16 x17 x18 x19 x20 x21 x22 x23 x24 x25 x26 x27 x28 x29 : Value) (v : Nat) : pfE (oM x0 x1 x2 x3 x4 x5 x6 x7 x8 x9 x10 x11 x12 x13 x14 x15 x16 x17 x18 x19 x20 x21 x22 x23 x24 x25 x26 x27 x28 x29) 8 3 3 (.ref v) = some (oM x0 x1 x2 (.ref v) x4 x5 x6 x7 x8 x9 x10 x11 x12 x13 x14 x15 x16 x17 x18 x19 x20 x21 x22 x23 x24 x25 x26 x27 x28 x29) := rfl
theorem oM_g4 (x0 x1 x2 x3 x4 x5 x6 x7 x8 x9 x10 x11 x12 x13 x14 x15 x16 x17 x18 x19 x20 x21 x22 x23 x24 x25 x26 x27 x28 x29 : Value) : gfE (oM x0 x1 x2 x3 x4 x5 x6 x7 x8 x9 x10 x11 x12 x13 x14 x15 x16 x17 x18 x19 x20 x21 x22 x23 x24 x25 x26 x27 x28 x29) 8 4 = some x4 := rfl
theorem oM_p4 (x0 x1 x2 x3 x4 x5 x6 x7 x8 x9 x10 x11 x12 x13 x14 x15 x16 x17 x18 x19 x20 x21 x22 x23 x24 x25 x26 x27 x28 x29 : Value) (v : Nat) : pfE (oM x0 x1 x2 x3 x4 x5 x6 x7 x8 x9 x10 x11 x12 x13 x14 x15 x16 x17 x18 x19 x20 x21 x22 x23 x24 x25 x26 x27 x28 x29) 8 4 3 (.ref v) = some (oM x0 x1 x2 x3 (.ref v) x5 x6 x7 x8 x9 x10 x11 x12 x13 x14 x15 x16 x17 x18 x19 x20 x21 x22 x23 x24 x25 x26 x27 x28 x29) := rfl
theorem oM_g5 (x0 x1 x2 x3 x4 x5 x6 x7 x8 x9 x10 x11 x12 x13 x14 x15 x16 x17 x18 x19 x20 x21 x22 x23 x24 x25 x26 x27 x28 x29 : Value) : gfE (oM x0 x1 x2 x3 x4 x5 x6 x7 x8 x9 x10 x11 x12 x13 x14 x15 x16 x17 x18 x19 x20 x21 x22 x23 x24 x25 x26 x27 x28 x29) 8 5 = some x5 := rfl
theorem oM_p5 (x0 x1 x2 x3 x4 x5 x6 x7 x8 x9 x10 x11 x12 x13 x14 x15 x16 x17 x18 x19 x20 x21 x22 x23 x24 x25 x26 x27 x28 x29 : Value) (v : Nat) : pfE (oM x0 x1 x2 x3 x4 x5 x6 x7 x8 x9 x10 x11 x12 x13 x14 x15 x16 x17 x18 x19 x20 x21 x22 x23 x24 x25 x26 x27 x28 x29) 8 5 3 (.ref v) = some (oM x0 x1 x2 x3 x4 (.ref v) x6 x7 x8 x9 x10 x11 x12 x13 x14 x15 x16 x17 x18 x19 x20 x21 x22 x23 x24 x25 x26 x27 x28 x29) := rfl
theorem oM_g6 (x0 x1 x2 x3 x4 x5 x6 x7 x8 x9 x10 x11 x12 x13 x14 x15 x16 x17 x18 x19 x20 x21 x22 x23 x24 x25 x26 x27 x28 x29 : Value) : gfE (oM x0 x1 x2 x3 x4 x5 x6 x7 x8 x9 x10 x11 x12 x13 x14 x15 x16 x17 x18 x19 x20 x21 x22 x23 x24 x25 x26 x27 x28 x29) 8 6 = some x6 := rfl
theorem oM_p6 (x0 x1 x2 x3 x4 x5 x6 x7 x8 x9 x10 x11 x12 x13 x14 x15 x16 x17 x18 x19 x20 x21 x22 x23 x24 x25 x26 x27 x28 x29 : Value) (v : Nat) : pfE (oM x0 x1 x2 x3 x4 x5 x6 x7 x8 x9 x10 x11 x12 x13 x14 x15 x16 x17 x18 x19 x20 x21 x22 x23 x24 x25 x26 x27 x28 x29) 8 6 3 (.ref v) = some (oM x0 x1 x2 x3 x4 x5 (.ref v) x7 x8 x9 x10 x11 x12 x13 x14 x15 x16 x17 x18 x19 x20 x21 x22 x23 x24 x25 x26 x27 x28 x29) := rfl
theorem oM_g7 (x0 x1 x2 x3 x4 x5 x6 x7 x8 x9 x10 x11 x12 x13 x14 x15 x16 x17 x18 x19 x20 x21 x22 x23 x24 x25 x26 x27 x28 x29 : Value) : gfE (oM x0 x1 x2 x3 x4 x5 x6 x7 x8 x9 x10 x11 x12 x13 x14 x15 x16 x17 x18 x19 x20 x21 x22 x23 x24 x25 x26 x27 x28 x29) 8 7 = some x7 := rfl
theorem oM_p7 (x0 x1 x2 x3 x4 x5 x6 x7 x8 x9 x10 x11 x12 x13 x14 x15 x16 x17 x18 x19 x20 x21 x22 x23 x24 x25 x26 x27 x28 x29 : Value) (v : Nat) : pfE (oM x0 x1 x2 x3 x4 x5 x6 x7 x8 x9 x10 x11 x12 x13 x14 x15 x16 x17 x18 x19 x20 x21 x22 x23 x24 x25 x26 x27 x28 x29) 8 7 3 (.ref v) = some (oM x0 x1 x2 x3 x4 x5 x6 (.ref v) x8 x9 x10 x11 x12 x13 x14 x15 x16 x17 x18 x19 x20 x21 x22 x23 x24 x25 x26 x27 x28 x29) := rfl
theorem oM_g8 (x0 x1 x2 x3 x4 x5 x6 x7 x8 x9 x10 x11 x12 x13 x14 x15 x16 x17 x18 x19 x20 x21 x22 x23 x24 x25 x26 x27 x28 x29 : Value) : gfE (oM x0 x1 x2 x3 x4 x5 x6 x7 x8 x9 x10 x11 x12 x13 x14 x15 x16 x17 x18 x19 x20 x21 x22 x23 x24 x25 x26 x27 x28 x29) 8 8 = some x8 := rfl
theorem oM_p8 (x0 x1 x2 x3 x4 x5 x6 x7 x8 x9 x10 x11 x12 x13 x14 x15 x16 x17 x18 x19 x20 x21 x22 x23 x24 x25 x26 x27 x28 x29 : Value) (v : Nat) : pfE (oM x0 x1 x2 x3 x4 x5 x6 x7 x8 x9 x10 x11 x12 x13 x14 x15 x16 x17 x18 x19 x20 x21 x22 x23 x24 x25 x26 x27 x28 x29) 8 8 3 (.ref v) = some (oM x0 x1 x2 x3 x4 x5 x6 x7 (.ref v) x9 x10 x11 x12 x13 x14 x15 x16 x17 x18 x19 x20 x21 x22 x23 x24 x25 x26 x27 x28 x29) := rfl
theorem oM_g9 (x0 x1 x2 x3 x4 x5 x6 x7 x8 x9 x10 x11 x12 x13 x14 x15 x16 x17 x18 x19 x20 x21 x22 x23 x24 x25 x26 x27 x28 x29 : Value) : gfE (oM x0 x1 x2 x3 x4 x5 x6 x7 x8 x9 x10 x11 x12 x13 x14 x15 x16 x17 x18 x19 x20 x21 x22 x23 x24 x25 x26 x27 x28 x29) 8 9 = some x9 := rfl
theorem oM_p9 (x0 x1 x2 x3 x4 x5 x6 x7 x8 x9 x10 x11 x12 x13 x14 x15 x16 x17 x18 x19 x20 x21 x22 x23 x24 x25 x26 x27 x28 x29 : Value) (v : Nat) : pfE (oM x0 x1 x2 x3 x4 x5 x6 x7 x8 x9 x10 x11 x12 x13 x14 x15 x16 x17 x18 x19 x20 x21 x22 x23 x24 x25 x26 x27 x28 x29) 8 9 3 (.ref v) = some (oM x0 x1 x2 x3 x4 x5 x6 x7 x8 (.ref v) x10 x11 x12 x13 x14 x15 x16 x17 x18 x19 x20 x21 x22 x23 x24 x25 x26 x27 x28 x29) := rfl
theorem oM_g10 (x0 x1 x2 x3 x4 x5 x6 x7 x8 x9 x10 x11 x12 x13 x14 x15 x16 x17 x18 x19 x20 x21 x22 x23 x24 x25 x26 x27 x28 x29 : Value) : gfE (oM x0 x1 x2 x3 x4 x5 x6 x7 x8 x9 x10 x11 x12 x13 x14 x15 x16 x17 x18 x19 x20 x21 x22 x23 x24 x25 x26 x27 x28 x29) 8 10 = some x10 := rfl
theorem oM_p10 (x0 x1 x2 x3 x4 x5 x6 x7 x8 x9 x10 x11 x12 x13 x14 x15 x16 x17 x18 x19 x20 x21 x22 x23 x24 x25 x26 x27 x28 x29 : Value) (v : Nat) : pfE (oM x0 x1 x2 x3 x4 x5 x6 x7 x8 x9 x10 x11 x12 x13 x14 x15 x16 x17 x18 x19 x20 x21 x22 x23 x24 x25 x26 x27 x28 x29) 8 10 3 (.ref v) = some (oM x0 x1 x2 x3 x4 x5 x6 x7 x8 x9 (.ref v) x11 x12 x13 x14 x15 x16 x17 x18 x19 x20 x21 x22 x23 x24 x25 x26 x27 x28 x29) := rfl
theorem oM_g11 (x0 x1 x2 x3 x4 x5 x6 x7 x8 x9 x10 x11 x12 x13 x14 x15 x16 x17 x18 x19 x20 x21 x22 x23 x24 x25 x26 x27 x28 x29 : Value) : gfE (oM x0 x1 x2 x3 x4 x5 x6 x7 x8 x9 x10 x11 x12 x13 x14 x15 x16 x17 x18 x19 x20 x21 x22 x23 x24 x25 x26 x27 x28 x29) 8 11 = some x11 := rfl
theorem oM_p11 (x0 x1 x2 x3 x4 x5 x6 x7 x8 x9 x10 x11 x12 x13 x14 x15 x16 x17 x18 x19 x20 x21 x22 x23 x24 x25 x26 x27 x28 x29 : Value) (v : Nat) : pfE (oM x0 x1 x2 x3 x4 x5 x6 x7 x8 x9 x10 x11 x12 x13 x14 x15 x16 x17 x18 x19 x20 x21 x22 x23 x24 x25 x26 x27 x28 x29) 8 11 3 (.ref v) = some (oM x0 x1 x2 x3 x4 x5 x6 x7 x8 x9 x10 (.ref v) x12 x13 x14 x15 x16 x17 x18 x19 x20 x21 x22 x23 x24 x25 x26 x27 x28 x29) := rfl
theorem oM_g12 (x0 x1 x2 x3 x4 x5 x6 x7 x8 x9 x10 x11 x12 x13 x14 x15 x16 x17 x18 x19 x20 x21 x22 x23 x24 x25 x26 x27 x28 x29 : Value) : gfE (oM x0 x1 x2 x3 x4 x5 x6 x7 x8 x9 x10 x11 x12 x13 x14 x15 x16 x17 x18 x19 x20 x21 x22 x23 x24 x25 x26 x27 x28 x29) 8 12 = some x12 := rfl
theorem oM_p12 (x0 x1 x2 x3 x4 x5 x6 x7 x8 x9 x10 x11 x12 x13 x14 x15 x16 x17 x18 x19 x20 x21 x22 x23 x24 x25 x26 x27 x28 x29 : Value) (v : Nat) : pfE (oM x0 x1 x2 x3 x4 x5 x6 x7 x8 x9 x10 x11 x12 x13 x14 x15 x16 x17 x18 x19 x20 x21 x22 x23 x24 x25 x26 x27 x28 x29) 8 12 3 (.ref v) = some (oM x0 x1 x2 x3 x4 x5 x6 x7 x8 x9 x10 x11 (.ref v) x13 x14 x15 x16 x17 x18 x19 x20 x21 x22 x23 x24 x25 x26 x27 x28 x29) := rfl
theorem oM_g13 (x0 x1 x2 x3 x4 x5 x6 x7 x8 x9 x10 x11 x12 x13 x14 x15 x16 x17 x18 x19 x20 x21 x22 x23 x24 x25 x26 x27 x28 x29 : Value) : gfE (oM x0 x1 x2 x3 x4 x5 x6 x7 x8 x9 x10 x11 x12 x13 x14 x15 x16 x17 x18 x19 x20 x21 x22 x23 x24 x25 x26 x27 x28 x29) 8 13 = some x13 := rfl
theorem oM_p13 (x0 x1 x2 x3 x4 x5 x6 x7 x8 x9 x10 x11 x12 x13 x14 x15 x16 x17 x18 x19 x20 x21 x22 x23 x24 x25 x26 x27 x28 x29 : Value) (v : Nat) : pfE (oM x0 x1 x2 x3 x4 x5 x6 x7 x8 x9 x10 x11 x12 x13 x14 x15 x16 x17 x18 x19 x20 x21 x22 x23 x24 x25 x26 x27 x28 x29) 8 13 3 (.ref v) = some (oM x0 x1 x2 x3 x4 x5 x6 x7 x8 x9 x10 x11 x12 (.ref v) x14 x15 x16 x17 x18 x19 x20 x21 x22 x23 x24 x25 x26 x27 x28 x29) := rfl
theorem oM_g14 (x0 x1 x2 x3 x4 x5 x6 x7 x8 x9 x10 x11 x12 x13 x14 x15 x16 x17 x18 x19 x20 x21 x22 x23 x24 x25 x26 x27 x28 x29 : Value) : gfE (oM x0 x1 x2 x3 x4 x5 x6 x7 x8 x9 x10 x11 x12 x13 x14 x15 x16 x17 x18 x19 x20 x21 x22 x23 x24 x25 x26 x27 x28 x29) 8 14 = some x14 := rfl
theorem oM_p14 (x0 x1 x2 x3 x4 x5 x6 x7 x8 x9 x10 x11 x12 x13 x14 x15 x16 x17 x18 x19 x20 x21 x22 x23 x24 x25 x26 x27 x28 x29 : Value) (v : Nat) : pfE (oM x0 x1 x2 x3 x4 x5 x6 x7 x8 x9 x10 x11 x12 x13 x14 x15 x16 x17 x18 x19 x20 x21 x22 x23 x24 x25 x26 x27 x28 x29) 8 14 3 (.ref v) = some (oM x0 x1 x2 x3 x4 x5 x6 x7 x8 x9 x10 x11 x12 x13 (.ref v) x15 x16 x17 x18 x19 x20 x21 x22 x23 x24 x25 x26 x27 x28 x29) := rfl
theorem oM_g15 (x0 x1 x2 x3 x4 x5 x6 x7 x8 x9 x10 x11 x12 x13 x14 x15 x16 x17 x18 x19 x20 x21 x22 x23 x24 x25 x26 x27 x28 x29 : Value) : gfE (oM x0 x1 x2 x3 x4 x5 x6 x7 x8 x9 x10 x11 x12 x13 x14 x15 x16 x17 x18 x19 x20 x21 x22 x23 x24 x25 x26 x27 x28 x29) 8 15 = some x15 := rfl
theorem oM_p15 (x0 x1 x2 x3 x4 x5 x6 x7 x8 x9 x10 x11 x12 x13 x14 x15 x16 x17 x18 x19 x20 x21 x22 x23 x24 x25 x26 x27 x28 x29 : Value) (v : Int32) : pfE (oM x0 x1 x2 x3 x4 x5 x6 x7 x8 x9 x10 x11 x12 x13 x14 x15 x16 x17 x18 x19 x20 x21 x22 x23 x24 x25 x26 x27 x28 x29) 8 15 0 (.int v) = some (oM x0 x1 x2 x3 x4 x5 x6 x7 x8 x9 x10 x11 x12 x13 x14 (.int v) x16 x17 x18 x19 x20 x21 x22 x23 x24 x25 x26 x27 x28 x29) := rfl
theorem oM_g16 (x0 x1 x2 x3 x4 x5 x6 x7 x8 x9 x10 x11 x12 x13 x14 x15 x16 x17 x18 x19 x20 x21 x22 x23 x24 x25 x26 x27 x28 x29 : Value) : gfE (oM x0 x1 x2 x3 x4 x5 x6 x7 x8 x9 x10 x11 x12 x13 x14 x15 x16 x17 x18 x19 x20 x21 x22 x23 x24 x25 x26 x27 x28 x29) 8 16 = some x16 := rfl
theorem oM_p16 (x0 x1 x2 x3 x4 x5 x6 x7 x8 x9 x10 x11 x12 x13 x14 x15 x16 x17 x18 x19 x20 x21 x22 x23 x24 x25 x26 x27 x28 x29 : Value) (v : Int32) : pfE (oM x0 x1 x2 x3 x4 x5 x6 x7 x8 x9 x10 x11 x12 x13 x14 x15 x16 x17 x18 x19 x20 x21 x22 x23 x24 x25 x26 x27 x28 x29) 8 16 0 (.int v) = some (oM x0 x1 x2 x3 x4 x5 x6 x7 x8 x9 x10 x11 x12 x13 x14 x15 (.int v) x17 x18 x19 x20 x21 x22 x23 x24 x25 x26 x27 x28 x29) := rfl
theorem oM_g17 (x0 x1 x2 x3 x4 x5 x6 x7 x8 x9 x10 x11 x12 x13 x14 x15 x16 x17 x18 x19 x20 x21 x22 x23 x24 x25 x26 x27 x28 x29 : Value) : gfE (oM x0 x1 x2 x3 x4 x5 x6 x7 x8 x9 x10 x11 x12 x13 x14 x15 x16 x17 x18 x19 x20 x21 x22 x23 x24 x25 x26 x27 x28 x29) 8 17 = some x17 := rfl
theorem oM_p17 (x0 x1 x2 x3 x4 x5 x6 x7 x8 x9 x10 x11 x12 x13 x14 x15 x16 x17 x18 x19 x20 x21 x22 x23 x24 x25 x26 x27 x28 x29 : Value) (v : Nat) : pfE (oM x0 x1 x2 x3 x4 x5 x6 x7 x8 x9 x10 x11 x12 x13 x14 x15 x16 x17 x18 x19 x20 x21 x22 x23 x24 x25 x26 x27 x28 x29) 8 17 3 (.ref v) = some (oM x0 x1 x2 x3 x4 x5 x6 x7 x8 x9 x10 x11 x12 x13 x14 x15 x16 (.ref v) x18 x19 x20 x21 x22 x23 x24 x25 x26 x27 x28 x29) := rfl
theorem oM_g18 (x0 x1 x2 x3 x4 x5 x6 x7 x8 x9 x10 x11 x12 x13 x14 x15 x16 x17 x18 x19 x20 x21 x22 x23 x24 x25 x26 x27 x28 x29 : Value) : gfE (oM x0 x1 x2 x3 x4 x5 x6 x7 x8 x9 x10 x11 x12 x13 x14 x15 x16 x17 x18 x19 x20 x21 x22 x23 x24 x25 x26 x27 x28 x29) 8 18 = some x18 := rfl
theorem oM_p18 (x0 x1 x2 x3 x4 x5 x6 x7 x8 x9 x10 x11 x12 x13 x14 x15 x16 x17 x18 x19 x20 x21 x22 x23 x24 x25 x26 x27 x28 x29 : Value) (v : Int32) : pfE (oM x0 x1 x2 x3 x4 x5 x6 x7 x8 x9 x10 x11 x12 x13 x14 x15 x16 x17 x18 x19 x20 x21 x22 x23 x24 x25 x26 x27 x28 x29) 8 18 0 (.int v) = some (oM x0 x1 x2 x3 x4 x5 x6 x7 x8 x9 x10 x11 x12 x13 x14 x15 x16 x17 (.int v) x19 x20 x21 x22 x23 x24 x25 x26 x27 x28 x29) := rfl
theorem oM_g19 (x0 x1 x2 x3 x4 x5 x6 x7 x8 x9 x10 x11 x12 x13 x14 x15 x16 x17 x18 x19 x20 x21 x22 x23 x24 x25 x26 x27 x28 x29 : Value) : gfE (oM x0 x1 x2 x3 x4 x5 x6 x7 x8 x9 x10 x11 x12 x13 x14 x15 x16 x17 x18 x19 x20 x21 x22 x23 x24 x25 x26 x27 x28 x29) 8 19 = some x19 := rfl
theorem oM_p19 (x0 x1 x2 x3 x4 x5 x6 x7 x8 x9 x10 x11 x12 x13 x14 x15 x16 x17 x18 x19 x20 x21 x22 x23 x24 x25 x26 x27 x28 x29 : Value) (v : Nat) : pfE (oM x0 x1 x2 x3 x4 x5 x6 x7 x8 x9 x10 x11 x12 x13 x14 x15 x16 x17 x18 x19 x20 x21 x22 x23 x24 x25 x26 x27 x28 x29) 8 19 3 (.ref v) = some (oM x0 x1 x2 x3 x4 x5 x6 x7 x8 x9 x10 x11 x12 x13 x14 x15 x16 x17 x18 (.ref v) x20 x21 x22 x23 x24 x25 x26 x27 x28 x29) := rfl
theorem oM_g20 (x0 x1 x2 x3 x4 x5 x6 x7 x8 x9 x10 x11 x12 x13 x14 x15 x16 x17 x18 x19 x20 x21 x22 x23 x24 x25 x26 x27 x28 x29 : Value) : gfE (oM x0 x1 x2 x3 x4 x5 x6 x7 x8 x9 x10 x11 x12 x13 x14 x15 x16 x17 x18 x19 x20 x21 x22 x23 x24 x25 x26 x27 x28 x29) 8 20 = some x20 := rfl
theorem oM_p20 (x0 x1 x2 x3 x4 x5 x6 x7 x8 x9 x10 x11 x12 x13 x14 x15 x16 x17 x18 x19 x20 x21 x22 x23 x24 x25 x26 x27 x28 x29 : Value) (v : Nat) : pfE (oM x0 x1 x2 x3 x4 x5 x6 x7 x8 x9 x10 x11 x12 x13 x14 x15 x16 x17 x18 x19 x20 x21 x22 x23 x24 x25 x26 x27 x28 x29) 8 20 3 (.ref v) = some (oM x0 x1 x2 x3 x4 x5 x6 x7 x8 x9 x10 x11 x12 x13 x14 x15 x16 x17 x18 x19 (.ref v) x21 x22 x23 x24 x25 x26 x27 x28 x29) := rfl
theorem oM_g21 (x0 x1 x2 x3 x4 x5 x6 x7 x8 x9 x10 x11 x12 x13 x14 x15 x16 x17 x18 x19 x20 x21 x22 x23 x24 x25 x26 x27 x28 x29 : Value) : gfE (oM x0 x1 x2 x3 x4 x5 x6 x7 x8 x9 x10 x11 x12 x13 x14 x15 x16 x17 x18 x19 x20 x21 x22 x23 x24 x25 x26 x27 x28 x29) 8 21 = some x21 := rfl
theorem oM_p21 (x0 x1 x2 x3 x4 x5 x6 x7 x8 x9 x10 x11 x12 x13 x14 x15 x16 x17 x18 x19 x20 x21 x22 x23 x24 x25 x26 x27 x28 x29 : Value) (v : Int32) : pfE (oM x0 x1 x2 x3 x4 x5 x6 x7 x8 x9 x10 x11 x12 x13 x14 x15 x16 x17 x18 x19 x20 x21 x22 x23 x24 x25 x26 x27 x28 x29) 8 21 0 (.int v) = some (oM x0 x1 x2 x3 x4 x5 x6 x7 x8 x9 x10 x11 x12 x13 x14 x15 x16 x17 x18 x19 x20 (.int v) x22 x23 x24 x25 x26 x27 x28 x29) := rfl
theorem oM_g22 (x0 x1 x2 x3 x4 x5 x6 x7 x8 x9 x10 x11 x12 x13 x14 x15 x16 x17 x18 x19 x20 x21 x22 x23 x24 x25 x26 x27 x28 x29 : Value) : gfE (oM x0 x1 x2 x3 x4 x5 x6 x7 x8 x9 x10 x11 x12 x13 x14 x15 x16 x17 x18 x19 x20 x21 x22 x23 x24 x25 x26 x27 x28 x29) 8 22 = some x22 := rfl
theorem oM_p22 (x0 x1 x2 x3 x4 x5 x6 x7 x8 x9 x10 x11 x12 x13 x14 x15 x16 x17 x18 x19 x20 x21 x22 x23 x24 x25 x26 x27 x28 x29 : Value) (v : Int32) : pfE (oM x0 x1 x2 x3 x4 x5 x6 x7 x8 x9 x10 x11 x12 x13 x14 x15 x16 x17 x18 x19 x20 x21 x22 x23 x24 x25 x26 x27 x28 x29) 8 22 0 (.int v) = some (oM x0 x1 x2 x3 x4 x5 x6 x7 x8 x9 x10 x11 x12 x13 x14 x15 x16 x17 x18 x19 x20 x21 (.int v) x23 x24 x25 x26 x27 x28 x29) := rfl
theorem oM_g23 (x0 x1 x2 x3 x4 x5 x6 x7 x8 x9 x10 x11 x12 x13 x14 x15 x16 x17 x18 x19 x20 x21 x22 x23 x24 x25 x26 x27 x28 x29 : Value) : gfE (oM x0 x1 x2 x3 x4 x5 x6 x7 x8 x9 x10 x11 x12 x13 x14 x15 x16 x17 x18 x19 x20 x21 x22 x23 x24 x25 x26 x27 x28 x29) 8 23 = some x23 := rfl
theorem oM_p23 (x0 x1 x2 x3 x4 x5 x6 x7 x8 x9 x10 x11 x12 x13 x14 x15 x16 x17 x18 x19 x20 x21 x22 x23 x24 x25 x26 x27 x28 x29 : Value) (v : Int32) : pfE (oM x0 x1 x2 x3 x4 x5 x6 x7 x8 x9 x10 x11 x12 x13 x14 x15 x16 x17 x18 x19 x20 x21 x22 x23 x24 x25 x26 x27 x28 x29) 8 23 0 (.int v) = some (oM x0 x1 x2 x3 x4 x5 x6 x7 x8 x9 x10 x11 x12 x13 x14 x15 x16 x17 x18 x19 x20 x21 x22 (.int v) x24 x25 x26 x27 x28 x29) := rfl
theorem oM_g24 (x0 x1 x2 x3 x4 x5 x6 x7 x8 x9 x10 x11 x12 x13 x14 x15 x16 x17 x18 x19 x20 x21 x22 x23 x24 x25 x26 x27 x28 x29 : Value) : gfE (oM x0 x1 x2 x3 x4 x5 x6 x7 x8 x9 x10 x11 x12 x13 x14 x15 x16 x17 x18 x19 x20 x21 x22 x23 x24 x25 x26 x27 x28 x29) 8 24 = some x24 := rfl
theorem oM_p24 (x0 x1 x2 x3 x4 x5 x6 x7 x8 x9 x10 x11 x12 x13 x14 x15 x16 x17 x18 x19 x20 x21 x22 x23 x24 x25 x26 x27 x28 x29 : Value) (v : Nat) : pfE (oM x0 x1 x2 x3 x4 x5 x6 x7 x8 x9 x10 x11 x12 x13 x14 x15 x16 x17 x18 x19 x20 x21 x22 x23 x24 x25 x26 x27 x28 x29) 8 24 3 (.ref v) = some (oM x0 x1 x2 x3 x4 x5 x6 x7 x8 x9 x10 x11 x12 x13 x14 x15 x16 x17 x18 x19 x20 x21 x22 x23 (.ref v) x25 x26 x27 x28 x29) := rfl
theorem oM_g25 (x0 x1 x2 x3 x4 x5 x6 x7 x8 x9 x10 x11 x12 x13 x14 x15 x16 x17 x18 x19 x20 x21 x22 x23 x24 x25 x26 x27 x28 x29 : Value) : gfE (oM x0 x1 x2 x3 x4 x5 x6 x7 x8 x9 x10 x11 x12 x13 x14 x15 x16 x17 x18 x19 x20 x21 x22 x23 x24 x25 x26 x27 x28 x29) 8 25 = some x25 := rfl
theorem oM_p25 (x0 x1 x2 x3 x4 x5 x6 x7 x8 x9 x10 x11 x12 x13 x14 x15 x16 x17 x18 x19 x20 x21 x22 x23 x24 x25 x26 x27 x28 x29 : Value) (v : Nat) : pfE (oM x0 x1 x2 x3 x4 x5 x6 x7 x8 x9 x10 x11 x12 x13 x14 x15 x16 x17 x18 x19 x20 x21 x22 x23 x24 x25 x26 x27 x28 x29) 8 25 3 (.ref v) = some (oM x0 x1 x2 x3 x4 x5 x6 x7 x8 x9 x10 x11 x12 x13 x14 x15 x16 x17 x18 x19 x20 x21 x22 x23 x24 (.ref v) x26 x27 x28 x29) := rfl
theorem oM_g26 (x0 x1 x2 x3 x4 x5 x6 x7 x8 x9 x10 x11 x12 x13 x14 x15 x16 x17 x18 x19 x20 x21 x22 x23 x24 x25 x26 x27 x28 x29 : Value) : gfE (oM x0 x1 x2 x3 x4 x5 x6 x7 x8 x9 x10 x11 x12 x13 x14 x15 x16 x17 x18 x19 x20 x21 x22 x23 x24 x25 x26 x27 x28 x29) 8 26 = some x26 := rfl
theorem oM_p26 (x0 x1 x2 x3 x4 x5 x6 x7 x8 x9 x10 x11 x12 x13 x14 x15 x16 x17 x18 x19 x20 x21 x22 x23 x24 x25 x26 x27 x28 x29 : Value) (v : Nat) : pfE (oM x0 x1 x2 x3 x4 x5 x6 x7 x8 x9 x10 x11 x12 x13 x14 x15 x16 x17 x18 x19 x20 x21 x22 x23 x24 x25 x26 x27 x28 x29) 8 26 3 (.ref v) = some (oM x0 x1 x2 x3 x4 x5 x6 x7 x8 x9 x10 x11 x12 x13 x14 x15 x16 x17 x18 x19 x20 x21 x22 x23 x24 x25 (.ref v) x27 x28 x29) := rfl
theorem oM_g27 (x0 x1 x2 x3 x4 x5 x6 x7 x8 x9 x10 x11 x12 x13 x14 x15 x16 x17 x18 x19 x20 x21 x22 x23 x24 x25 x26 x27 x28 x29 : Value) : gfE (oM x0 x1 x2 x3 x4 x5 x6 x7 x8 x9 x10 x11 x12 x13 x14 x15 x16 x17 x18 x19 x20 x21 x22 x23 x24 x25 x26 x27 x28 x29) 8 27 = some x27 := rfl
theorem oM_p27 (x0 x1 x2 x3 x4 x5 x6 x7 x8 x9 x10 x11 x12 x13 x14 x15 x16 x17 x18 x19 x20 x21 x22 x23 x24 x25 x26 x27 x28 x29 : Value) (v : Nat) : pfE (oM x0 x1 x2 x3 x4 x5 x6 x7 x8 x9 x10 x11 x12 x13 x14 x15 x16 x17 x18 x19 x20 x21 x22 x23 x24 x25 x26 x27 x28 x29) 8 27 3 (.ref v) = some (oM x0 x1 x2 x3 x4 x5 x6 x7 x8 x9 x10 x11 x12 x13 x14 x15 x16 x17 x18 x19 x20 x21 x22 x23 x24 x25 x26 (.ref v) x28 x29) := rfl
theorem oM_g28 (x0 x1 x2 x3 x4 x5 x6 x7 x8 x9 x10 x11 x12 x13 x14 x15 x16 x17 x18 x19 x20 x21 x22 x23 x24 x25 x26 x27 x28 x29 : Value) : gfE (oM x0 x1 x2 x3 x4 x5 x6 x7 x8 x9 x10 x11 x12 x13 x14 x15 x16 x17 x18 x19 x20 x21 x22 x23 x24 x25 x26 x27 x28 x29) 8 28 = some x28 := rfl
theorem oM_p28 (x0 x1 x2 x3 x4 x5 x6 x7 x8 x9 x10 x11 x12 x13 x14 x15 x16 x17 x18 x19 x20 x21 x22 x23 x24 x25 x26 x27 x28 x29 : Value) (v : Nat) : pfE (oM x0 x1 x2 x3 x4 x5 x6 x7 x8 x9 x10 x11 x12 x13 x14 x15 x16 x17 x18 x19 x20 x21 x22 x23 x24 x25 x26 x27 x28 x29) 8 28 3 (.ref v) = some (oM x0 x1 x2 x3 x4 x5 x6 x7 x8 x9 x10 x11 x12 x13 x14 x15 x16 x17 x18 x19 x20 x21 x22 x23 x24 x25 x26 x27 (.ref v) x29) := rfl
theorem oM_g29 (x0 x1 x2 x3 x4 x5 x6 x7 x8 x9 x10 x11 x12 x13 x14 x15 x16 x17 x18 x19 x20 x21 x22 x23 x24 x25 x26 x27 x28 x29 : Value) : gfE (oM x0 x1 x2 x3 x4 x5 x6 x7 x8 x9 x10 x11 x12 x13 x14 x15 x16 x17 x18 x19 x20 x21 x22 x23 x24 x25 x26 x27 x28 x29) 8 29 = some x29 := rfl
theorem oM_p29 (x0 x1 x2 x3 x4 x5 x6 x7 x8 x9 x10 x11 x12 x13 x14 x15 x16 x17 x18 x19 x20 x21 x22 x23 x24 x25 x26 x27 x28 x29 : Value) (v : Nat) : pfE (oM x0 x1 x2 x3 x4 x5 x6 x7 x8 x9 x10 x11 x12 x13 x14 x15 x16 x17 x18 x19 x20 x21 x22 x23 x24 x25 x26 x27 x28 x29) 8 29 3 (.ref v) = some (oM x0 x1 x2 x3 x4 x5 x6 x7 x8 x9 x10 x11 x12 x13 x14 x15 x16 x17 x18 x19 x20 x21 x22 x23 x24 x25 x26 x27 x28 (.ref v)) := rfl
theorem oM_b : blankE 8 = oM (.int 0) .null .null .null .null .null .null .null .null .null .null .null .null .null .null (.int 0) (.int 0) .null (.int 0) .null .null (.int 0) (.int 0) (.int 0) .null .null .null .null .null .null := by
  show (Sum.inl (8, (cfl 8).map (fun q => dflt q.2.1)) : AE) = .inl (8, _)
  refine congrArg (fun l => (Sum.inl (8, l) : AE)) ?_
  decide +kernel
