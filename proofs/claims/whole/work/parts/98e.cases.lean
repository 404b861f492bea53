/-! one call on both sides, in the law's loop -/
theorem igS {sc : List Int32} {j : Nat} (hj : j < sc.length) (hl : sc.length ≤ 400) : igE (.inr (.inl (false, sc))) (nI j) = some (sc.getD j 0) := by
  show aget sc (nI j) = _
  rw [agetN _ (by omega), List.getD_eq_getElem?_getD, List.getElem?_eq_getElem hj]
  rfl
theorem INV.ok {sc : List Int32} {H : Hp} (I : INV sc H) : H 0 = some (.inr (.inl (false, sc))) ∧ ck H 1 0 = true := by
  obtain ⟨len, T, P, Sb, Ab, Sc, Ac, S, A, W, hC, -, -⟩ := I
  refine ⟨hC.1.1, ?_⟩
  have h1 := hC.1.2.1
  unfold SO at h1
  rw [ck_eq, h1]
  rfl
theorem lg_self (x : Int64) : lg_cmp x x = nI 0 := by
  unfold lg_cmp
  have h : ¬ x < x := fun q => by rw [Int64.lt_iff_toInt_lt] at q; omega
  rw [if_neg h, if_pos rfl]
  rfl
section LAWC
variable {sc : List Int32} {H : Hp} {z : Zc} {i : Nat}
set_option maxHeartbeats 2000000 in
theorem lw_write (I : INV sc H) (hi : i + 6 ≤ sc.length) (hl : sc.length ≤ 384) : ∃ H2, INV sc H2 ∧ ∀ Q, Ev 0 (148, [some (.ref 0), some (.ref 1), some (.ref 78), some (.int (nI i))], [], z, H) Q = Ev 0 (874, [some (.ref 0), some (.ref 1), some (.ref 78), some (.int (nI i))], [], z, H2) Q := by
  obtain ⟨s0, k1⟩ := I.ok
  obtain ⟨v, H1, H2, e1, e2, s1, k2, I2⟩ := st_write (z := z) I (sc.getD (i + 1) 0) (((sc.getD (i + 2) 0).toInt64 <<< ((nI 32).toInt64 &&& 63)) ||| ((sc.getD (i + 3) 0).toInt64 &&& 4294967295))
  have g1 := igS (sc := sc) (j := i + 1) (by omega) (by omega)
  have g2 := igS (sc := sc) (j := i + 2) (by omega) (by omega)
  have g3 := igS (sc := sc) (j := i + 3) (by omega) (by omega)
  refine ⟨H2, I2, fun Q => ?_⟩
  simp only [m0_148, m0_149, m0_150, m0_151, m0_152, m0_153, m0_154, m0_155, m0_156, m0_157, m0_158, m0_159, m0_160, m0_162, m0_163, m0_164, m0_165, m0_166, m0_167, m0_168, m0_169, m0_172, m0_173, m0_174, m0_177, m0_178, m0_179, m0_180, m0_181, m0_182, m0_183, m0_184, m0_185, m0_186, m0_187, m0_188, m0_189, m0_191, m0_192, m0_193, m0_194, m0_195, m0_196, m0_197, m0_198, m0_201, m0_202, m0_203, m0_206, ob_some, pushr_s, iget_eq, Option.bind_some, nI_add, s0, s1, k1, k2, e1, e2, if_true, eq_self, g1, g2, g3]
set_option maxHeartbeats 2000000 in
theorem lw_wipe (I : INV sc H) (hi : i + 6 ≤ sc.length) (hl : sc.length ≤ 384) : ∃ H2, INV sc H2 ∧ ∀ Q, Ev 0 (211, [some (.ref 0), some (.ref 1), some (.ref 78), some (.int (nI i))], [], z, H) Q = Ev 0 (874, [some (.ref 0), some (.ref 1), some (.ref 78), some (.int (nI i))], [], z, H2) Q := by
  obtain ⟨s0, k1⟩ := I.ok
  obtain ⟨v, H1, H2, e1, e2, s1, k2, I2⟩ := st_wipe (z := z) I 
  refine ⟨H2, I2, fun Q => ?_⟩
  simp only [m0_211, m0_212, m0_215, m0_216, m0_219, ob_some, pushr_s, iget_eq, Option.bind_some, nI_add, s0, s1, k1, k2, e1, e2, if_true, eq_self]
set_option maxHeartbeats 2000000 in
theorem lw_fault (I : INV sc H) (hi : i + 6 ≤ sc.length) (hl : sc.length ≤ 384) : ∃ H2, INV sc H2 ∧ ∀ Q, Ev 0 (224, [some (.ref 0), some (.ref 1), some (.ref 78), some (.int (nI i))], [], z, H) Q = Ev 0 (874, [some (.ref 0), some (.ref 1), some (.ref 78), some (.int (nI i))], [], z, H2) Q := by
  obtain ⟨s0, k1⟩ := I.ok
  obtain ⟨v, H1, H2, e1, e2, s1, k2, I2⟩ := st_fault (z := z) I 
  refine ⟨H2, I2, fun Q => ?_⟩
  simp only [m0_224, m0_225, m0_228, m0_229, m0_232, ob_some, pushr_s, iget_eq, Option.bind_some, nI_add, s0, s1, k1, k2, e1, e2, if_true, eq_self]
set_option maxHeartbeats 2000000 in
theorem lw_lay (I : INV sc H) (hi : i + 6 ≤ sc.length) (hl : sc.length ≤ 384) : ∃ H2, INV sc H2 ∧ ∀ Q, Ev 0 (237, [some (.ref 0), some (.ref 1), some (.ref 78), some (.int (nI i))], [], z, H) Q = Ev 0 (874, [some (.ref 0), some (.ref 1), some (.ref 78), some (.int (nI i))], [], z, H2) Q := by
  obtain ⟨s0, k1⟩ := I.ok
  obtain ⟨v, H1, H2, e1, e2, s1, k2, I2⟩ := st_lay (z := z) I 
  refine ⟨H2, I2, fun Q => ?_⟩
  simp only [m0_237, m0_238, m0_241, m0_242, m0_245, ob_some, pushr_s, iget_eq, Option.bind_some, nI_add, s0, s1, k1, k2, e1, e2, if_true, eq_self]
set_option maxHeartbeats 2000000 in
theorem lw_engine (I : INV sc H) (hi : i + 6 ≤ sc.length) (hl : sc.length ≤ 384) : ∃ H2, INV sc H2 ∧ ∀ Q, Ev 0 (250, [some (.ref 0), some (.ref 1), some (.ref 78), some (.int (nI i))], [], z, H) Q = Ev 0 (874, [some (.ref 0), some (.ref 1), some (.ref 78), some (.int (nI i))], [], z, H2) Q := by
  obtain ⟨s0, k1⟩ := I.ok
  obtain ⟨v, H1, H2, e1, e2, s1, k2, I2⟩ := st_engine (z := z) I (sc.getD (i + 1) 0) (sc.getD (i + 2) 0)
  have g1 := igS (sc := sc) (j := i + 1) (by omega) (by omega)
  have g2 := igS (sc := sc) (j := i + 2) (by omega) (by omega)
  refine ⟨H2, I2, fun Q => ?_⟩
  simp only [m0_250, m0_251, m0_252, m0_253, m0_254, m0_255, m0_256, m0_257, m0_258, m0_259, m0_260, m0_261, m0_264, m0_265, m0_266, m0_267, m0_268, m0_269, m0_270, m0_271, m0_272, m0_273, m0_274, m0_275, m0_278, ob_some, pushr_s, iget_eq, Option.bind_some, nI_add, s0, s1, k1, k2, e1, e2, if_true, eq_self, g1, g2]
set_option maxHeartbeats 2000000 in
theorem lw_stone (I : INV sc H) (hi : i + 6 ≤ sc.length) (hl : sc.length ≤ 384) : ∃ H2, INV sc H2 ∧ ∀ Q, Ev 0 (283, [some (.ref 0), some (.ref 1), some (.ref 78), some (.int (nI i))], [], z, H) Q = Ev 0 (874, [some (.ref 0), some (.ref 1), some (.ref 78), some (.int (nI i))], [], z, H2) Q := by
  obtain ⟨s0, k1⟩ := I.ok
  obtain ⟨v, H1, H2, e1, e2, s1, k2, I2⟩ := st_stone (z := z) I (sc.getD (i + 1) 0) (sc.getD (i + 2) 0)
  have g1 := igS (sc := sc) (j := i + 1) (by omega) (by omega)
  have g2 := igS (sc := sc) (j := i + 2) (by omega) (by omega)
  refine ⟨H2, I2, fun Q => ?_⟩
  simp only [m0_283, m0_284, m0_285, m0_286, m0_287, m0_288, m0_289, m0_290, m0_291, m0_292, m0_293, m0_294, m0_297, m0_298, m0_299, m0_300, m0_301, m0_302, m0_303, m0_304, m0_305, m0_306, m0_307, m0_308, m0_311, ob_some, pushr_s, iget_eq, Option.bind_some, nI_add, s0, s1, k1, k2, e1, e2, if_true, eq_self, g1, g2]
set_option maxHeartbeats 2000000 in
theorem lw_sheep (I : INV sc H) (hi : i + 6 ≤ sc.length) (hl : sc.length ≤ 384) : ∃ H2, INV sc H2 ∧ ∀ Q, Ev 0 (316, [some (.ref 0), some (.ref 1), some (.ref 78), some (.int (nI i))], [], z, H) Q = Ev 0 (874, [some (.ref 0), some (.ref 1), some (.ref 78), some (.int (nI i))], [], z, H2) Q := by
  obtain ⟨s0, k1⟩ := I.ok
  obtain ⟨v, H1, H2, e1, e2, s1, k2, I2⟩ := st_sheep (z := z) I (sc.getD (i + 1) 0) (sc.getD (i + 2) 0)
  have g1 := igS (sc := sc) (j := i + 1) (by omega) (by omega)
  have g2 := igS (sc := sc) (j := i + 2) (by omega) (by omega)
  refine ⟨H2, I2, fun Q => ?_⟩
  simp only [m0_316, m0_317, m0_318, m0_319, m0_320, m0_321, m0_322, m0_323, m0_324, m0_325, m0_326, m0_327, m0_330, m0_331, m0_332, m0_333, m0_334, m0_335, m0_336, m0_337, m0_338, m0_339, m0_340, m0_341, m0_344, ob_some, pushr_s, iget_eq, Option.bind_some, nI_add, s0, s1, k1, k2, e1, e2, if_true, eq_self, g1, g2]
set_option maxHeartbeats 2000000 in
theorem lw_cell (I : INV sc H) (hi : i + 6 ≤ sc.length) (hl : sc.length ≤ 384) : ∃ H2, INV sc H2 ∧ ∀ Q, Ev 0 (349, [some (.ref 0), some (.ref 1), some (.ref 78), some (.int (nI i))], [], z, H) Q = Ev 0 (874, [some (.ref 0), some (.ref 1), some (.ref 78), some (.int (nI i))], [], z, H2) Q := by
  obtain ⟨s0, k1⟩ := I.ok
  obtain ⟨v, H1, H2, e1, e2, s1, k2, I2⟩ := st_cell (z := z) I (sc.getD (i + 1) 0) (sc.getD (i + 2) 0)
  have g1 := igS (sc := sc) (j := i + 1) (by omega) (by omega)
  have g2 := igS (sc := sc) (j := i + 2) (by omega) (by omega)
  refine ⟨H2, I2, fun Q => ?_⟩
  simp only [m0_349, m0_350, m0_351, m0_352, m0_353, m0_354, m0_355, m0_356, m0_357, m0_358, m0_359, m0_360, m0_363, m0_364, m0_365, m0_366, m0_367, m0_368, m0_369, m0_370, m0_371, m0_372, m0_373, m0_374, m0_377, ob_some, pushr_s, iget_eq, Option.bind_some, nI_add, s0, s1, k1, k2, e1, e2, if_true, eq_self, g1, g2]
set_option maxHeartbeats 2000000 in
theorem lw_rubble (I : INV sc H) (hi : i + 6 ≤ sc.length) (hl : sc.length ≤ 384) : ∃ H2, INV sc H2 ∧ ∀ Q, Ev 0 (382, [some (.ref 0), some (.ref 1), some (.ref 78), some (.int (nI i))], [], z, H) Q = Ev 0 (874, [some (.ref 0), some (.ref 1), some (.ref 78), some (.int (nI i))], [], z, H2) Q := by
  obtain ⟨s0, k1⟩ := I.ok
  obtain ⟨v, H1, H2, e1, e2, s1, k2, I2⟩ := st_rubble (z := z) I (sc.getD (i + 1) 0)
  have g1 := igS (sc := sc) (j := i + 1) (by omega) (by omega)
  refine ⟨H2, I2, fun Q => ?_⟩
  simp only [m0_382, m0_383, m0_384, m0_385, m0_386, m0_387, m0_388, m0_391, m0_392, m0_393, m0_394, m0_395, m0_396, m0_397, m0_400, ob_some, pushr_s, iget_eq, Option.bind_some, nI_add, s0, s1, k1, k2, e1, e2, if_true, eq_self, g1]
set_option maxHeartbeats 2000000 in
theorem lw_breach (I : INV sc H) (hi : i + 6 ≤ sc.length) (hl : sc.length ≤ 384) : ∃ H2, INV sc H2 ∧ ∀ Q, Ev 0 (405, [some (.ref 0), some (.ref 1), some (.ref 78), some (.int (nI i))], [], z, H) Q = Ev 0 (874, [some (.ref 0), some (.ref 1), some (.ref 78), some (.int (nI i))], [], z, H2) Q := by
  obtain ⟨s0, k1⟩ := I.ok
  obtain ⟨v, H1, H2, e1, e2, s1, k2, I2⟩ := st_breach (z := z) I (sc.getD (i + 1) 0)
  have g1 := igS (sc := sc) (j := i + 1) (by omega) (by omega)
  refine ⟨H2, I2, fun Q => ?_⟩
  simp only [m0_405, m0_406, m0_407, m0_408, m0_409, m0_410, m0_411, m0_414, m0_415, m0_416, m0_417, m0_418, m0_419, m0_420, m0_423, ob_some, pushr_s, iget_eq, Option.bind_some, nI_add, s0, s1, k1, k2, e1, e2, if_true, eq_self, g1]
set_option maxHeartbeats 2000000 in
theorem lw_order (I : INV sc H) (hi : i + 6 ≤ sc.length) (hl : sc.length ≤ 384) : ∃ H2, INV sc H2 ∧ ∀ Q, Ev 0 (428, [some (.ref 0), some (.ref 1), some (.ref 78), some (.int (nI i))], [], z, H) Q = Ev 0 (874, [some (.ref 0), some (.ref 1), some (.ref 78), some (.int (nI i))], [], z, H2) Q := by
  obtain ⟨s0, k1⟩ := I.ok
  obtain ⟨v, H1, H2, e1, e2, s1, k2, I2⟩ := st_order (z := z) I (sc.getD (i + 1) 0)
  have g1 := igS (sc := sc) (j := i + 1) (by omega) (by omega)
  refine ⟨H2, I2, fun Q => ?_⟩
  simp only [m0_428, m0_429, m0_430, m0_431, m0_432, m0_433, m0_434, m0_437, m0_438, m0_439, m0_440, m0_441, m0_442, m0_443, m0_446, ob_some, pushr_s, iget_eq, Option.bind_some, nI_add, s0, s1, k1, k2, e1, e2, if_true, eq_self, g1]
set_option maxHeartbeats 2000000 in
theorem lw_ballast (I : INV sc H) (hi : i + 6 ≤ sc.length) (hl : sc.length ≤ 384) : ∃ H2, INV sc H2 ∧ ∀ Q, Ev 0 (451, [some (.ref 0), some (.ref 1), some (.ref 78), some (.int (nI i))], [], z, H) Q = Ev 0 (874, [some (.ref 0), some (.ref 1), some (.ref 78), some (.int (nI i))], [], z, H2) Q := by
  obtain ⟨s0, k1⟩ := I.ok
  obtain ⟨v, H1, H2, e1, e2, s1, k2, I2⟩ := st_ballast (z := z) I (sc.getD (i + 1) 0) (sc.getD (i + 2) 0)
  have g1 := igS (sc := sc) (j := i + 1) (by omega) (by omega)
  have g2 := igS (sc := sc) (j := i + 2) (by omega) (by omega)
  refine ⟨H2, I2, fun Q => ?_⟩
  simp only [m0_451, m0_452, m0_453, m0_454, m0_455, m0_456, m0_457, m0_458, m0_459, m0_460, m0_461, m0_462, m0_465, m0_466, m0_467, m0_468, m0_469, m0_470, m0_471, m0_472, m0_473, m0_474, m0_475, m0_476, m0_479, ob_some, pushr_s, iget_eq, Option.bind_some, nI_add, s0, s1, k1, k2, e1, e2, if_true, eq_self, g1, g2]
set_option maxHeartbeats 2000000 in
theorem lw_hold (I : INV sc H) (hi : i + 6 ≤ sc.length) (hl : sc.length ≤ 384) : ∃ H2, INV sc H2 ∧ ∀ Q, Ev 0 (484, [some (.ref 0), some (.ref 1), some (.ref 78), some (.int (nI i))], [], z, H) Q = Ev 0 (874, [some (.ref 0), some (.ref 1), some (.ref 78), some (.int (nI i))], [], z, H2) Q := by
  obtain ⟨s0, k1⟩ := I.ok
  obtain ⟨v, H1, H2, e1, e2, s1, k2, I2⟩ := st_hold (z := z) I (sc.getD (i + 1) 0)
  have g1 := igS (sc := sc) (j := i + 1) (by omega) (by omega)
  refine ⟨H2, I2, fun Q => ?_⟩
  simp only [m0_484, m0_485, m0_486, m0_487, m0_488, m0_489, m0_490, m0_493, m0_494, m0_495, m0_496, m0_497, m0_498, m0_499, m0_502, ob_some, pushr_s, iget_eq, Option.bind_some, nI_add, s0, s1, k1, k2, e1, e2, if_true, eq_self, g1]
set_option maxHeartbeats 2000000 in
theorem lw_meal (I : INV sc H) (hi : i + 6 ≤ sc.length) (hl : sc.length ≤ 384) : ∃ H2, INV sc H2 ∧ ∀ Q, Ev 0 (507, [some (.ref 0), some (.ref 1), some (.ref 78), some (.int (nI i))], [], z, H) Q = Ev 0 (874, [some (.ref 0), some (.ref 1), some (.ref 78), some (.int (nI i))], [], z, H2) Q := by
  obtain ⟨s0, k1⟩ := I.ok
  obtain ⟨v, H1, H2, e1, e2, s1, k2, I2⟩ := st_meal (z := z) I (sc.getD (i + 1) 0) (sc.getD (i + 2) 0)
  have g1 := igS (sc := sc) (j := i + 1) (by omega) (by omega)
  have g2 := igS (sc := sc) (j := i + 2) (by omega) (by omega)
  refine ⟨H2, I2, fun Q => ?_⟩
  simp only [m0_507, m0_508, m0_509, m0_510, m0_511, m0_512, m0_513, m0_514, m0_515, m0_516, m0_517, m0_518, m0_521, m0_522, m0_523, m0_524, m0_525, m0_526, m0_527, m0_528, m0_529, m0_530, m0_531, m0_532, m0_535, ob_some, pushr_s, iget_eq, Option.bind_some, nI_add, s0, s1, k1, k2, e1, e2, if_true, eq_self, g1, g2]
set_option maxHeartbeats 2000000 in
theorem lw_aim (I : INV sc H) (hi : i + 6 ≤ sc.length) (hl : sc.length ≤ 384) : ∃ H2, INV sc H2 ∧ ∀ Q, Ev 0 (540, [some (.ref 0), some (.ref 1), some (.ref 78), some (.int (nI i))], [], z, H) Q = Ev 0 (874, [some (.ref 0), some (.ref 1), some (.ref 78), some (.int (nI i))], [], z, H2) Q := by
  obtain ⟨s0, k1⟩ := I.ok
  obtain ⟨v, H1, H2, e1, e2, s1, k2, I2⟩ := st_aim (z := z) I (sc.getD (i + 1) 0) (sc.getD (i + 2) 0)
  have g1 := igS (sc := sc) (j := i + 1) (by omega) (by omega)
  have g2 := igS (sc := sc) (j := i + 2) (by omega) (by omega)
  refine ⟨H2, I2, fun Q => ?_⟩
  simp only [m0_540, m0_541, m0_542, m0_543, m0_544, m0_545, m0_546, m0_547, m0_548, m0_549, m0_550, m0_551, m0_554, m0_555, m0_556, m0_557, m0_558, m0_559, m0_560, m0_561, m0_562, m0_563, m0_564, m0_565, m0_568, ob_some, pushr_s, iget_eq, Option.bind_some, nI_add, s0, s1, k1, k2, e1, e2, if_true, eq_self, g1, g2]
set_option maxHeartbeats 2000000 in
theorem lw_crater (I : INV sc H) (hi : i + 6 ≤ sc.length) (hl : sc.length ≤ 384) : ∃ H2, INV sc H2 ∧ ∀ Q, Ev 0 (573, [some (.ref 0), some (.ref 1), some (.ref 78), some (.int (nI i))], [], z, H) Q = Ev 0 (874, [some (.ref 0), some (.ref 1), some (.ref 78), some (.int (nI i))], [], z, H2) Q := by
  obtain ⟨s0, k1⟩ := I.ok
  obtain ⟨v, H1, H2, e1, e2, s1, k2, I2⟩ := st_crater (z := z) I (sc.getD (i + 1) 0) (sc.getD (i + 2) 0)
  have g1 := igS (sc := sc) (j := i + 1) (by omega) (by omega)
  have g2 := igS (sc := sc) (j := i + 2) (by omega) (by omega)
  refine ⟨H2, I2, fun Q => ?_⟩
  simp only [m0_573, m0_574, m0_575, m0_576, m0_577, m0_578, m0_579, m0_580, m0_581, m0_582, m0_583, m0_584, m0_587, m0_588, m0_589, m0_590, m0_591, m0_592, m0_593, m0_594, m0_595, m0_596, m0_597, m0_598, m0_601, ob_some, pushr_s, iget_eq, Option.bind_some, nI_add, s0, s1, k1, k2, e1, e2, if_true, eq_self, g1, g2]
set_option maxHeartbeats 2000000 in
theorem lw_least (I : INV sc H) (hi : i + 6 ≤ sc.length) (hl : sc.length ≤ 384) : ∃ H2, INV sc H2 ∧ ∀ Q, Ev 0 (606, [some (.ref 0), some (.ref 1), some (.ref 78), some (.int (nI i))], [], z, H) Q = Ev 0 (874, [some (.ref 0), some (.ref 1), some (.ref 78), some (.int (nI i))], [], z, H2) Q := by
  obtain ⟨s0, k1⟩ := I.ok
  obtain ⟨v, H1, H2, e1, e2, s1, k2, I2⟩ := st_least (z := z) I (sc.getD (i + 1) 0) (sc.getD (i + 2) 0) (sc.getD (i + 3) 0)
  have g1 := igS (sc := sc) (j := i + 1) (by omega) (by omega)
  have g2 := igS (sc := sc) (j := i + 2) (by omega) (by omega)
  have g3 := igS (sc := sc) (j := i + 3) (by omega) (by omega)
  refine ⟨H2, I2, fun Q => ?_⟩
  simp only [m0_606, m0_607, m0_608, m0_609, m0_610, m0_611, m0_612, m0_613, m0_614, m0_615, m0_616, m0_617, m0_618, m0_619, m0_620, m0_621, m0_622, m0_625, m0_626, m0_627, m0_628, m0_629, m0_630, m0_631, m0_632, m0_633, m0_634, m0_635, m0_636, m0_637, m0_638, m0_639, m0_640, m0_641, m0_644, ob_some, pushr_s, iget_eq, Option.bind_some, nI_add, s0, s1, k1, k2, e1, e2, if_true, eq_self, g1, g2, g3]
set_option maxHeartbeats 2000000 in
theorem lw_odds (I : INV sc H) (hi : i + 6 ≤ sc.length) (hl : sc.length ≤ 384) : ∃ H2, INV sc H2 ∧ ∀ Q, Ev 0 (649, [some (.ref 0), some (.ref 1), some (.ref 78), some (.int (nI i))], [], z, H) Q = Ev 0 (874, [some (.ref 0), some (.ref 1), some (.ref 78), some (.int (nI i))], [], z, H2) Q := by
  obtain ⟨s0, k1⟩ := I.ok
  obtain ⟨v, H1, H2, e1, e2, s1, k2, I2⟩ := st_odds (z := z) I (sc.getD (i + 1) 0) (sc.getD (i + 2) 0) (sc.getD (i + 3) 0) (sc.getD (i + 4) 0) (sc.getD (i + 5) 0)
  have g1 := igS (sc := sc) (j := i + 1) (by omega) (by omega)
  have g2 := igS (sc := sc) (j := i + 2) (by omega) (by omega)
  have g3 := igS (sc := sc) (j := i + 3) (by omega) (by omega)
  have g4 := igS (sc := sc) (j := i + 4) (by omega) (by omega)
  have g5 := igS (sc := sc) (j := i + 5) (by omega) (by omega)
  refine ⟨H2, I2, fun Q => ?_⟩
  simp only [m0_649, m0_650, m0_651, m0_652, m0_653, m0_654, m0_655, m0_656, m0_657, m0_658, m0_659, m0_660, m0_661, m0_662, m0_663, m0_664, m0_665, m0_666, m0_667, m0_668, m0_669, m0_670, m0_671, m0_672, m0_673, m0_674, m0_675, m0_678, m0_679, m0_680, m0_681, m0_682, m0_683, m0_684, m0_685, m0_686, m0_687, m0_688, m0_689, m0_690, m0_691, m0_692, m0_693, m0_694, m0_695, m0_696, m0_697, m0_698, m0_699, m0_700, m0_701, m0_702, m0_703, m0_704, m0_707, m0_708, ob_some, pushr_s, iget_eq, Option.bind_some, nI_add, s0, s1, k1, k2, e1, e2, if_true, eq_self, lg_self, g1, g2, g3, g4, g5]
set_option maxHeartbeats 2000000 in
theorem lw_year (I : INV sc H) (hi : i + 6 ≤ sc.length) (hl : sc.length ≤ 384) : ∃ H2, INV sc H2 ∧ ∀ Q, Ev 0 (713, [some (.ref 0), some (.ref 1), some (.ref 78), some (.int (nI i))], [], z, H) Q = Ev 0 (874, [some (.ref 0), some (.ref 1), some (.ref 78), some (.int (nI i))], [], z, H2) Q := by
  obtain ⟨s0, k1⟩ := I.ok
  obtain ⟨v, H1, H2, e1, e2, s1, k2, I2⟩ := st_year (z := z) I (sc.getD (i + 1) 0) (sc.getD (i + 2) 0)
  have g1 := igS (sc := sc) (j := i + 1) (by omega) (by omega)
  have g2 := igS (sc := sc) (j := i + 2) (by omega) (by omega)
  refine ⟨H2, I2, fun Q => ?_⟩
  simp only [m0_713, m0_714, m0_715, m0_716, m0_717, m0_718, m0_719, m0_720, m0_721, m0_722, m0_723, m0_724, m0_727, m0_728, m0_729, m0_730, m0_731, m0_732, m0_733, m0_734, m0_735, m0_736, m0_737, m0_738, m0_741, ob_some, pushr_s, iget_eq, Option.bind_some, nI_add, s0, s1, k1, k2, e1, e2, if_true, eq_self, g1, g2]
set_option maxHeartbeats 2000000 in
theorem lw_weigh (I : INV sc H) (hi : i + 6 ≤ sc.length) (hl : sc.length ≤ 384) : ∃ H2, INV sc H2 ∧ ∀ Q, Ev 0 (746, [some (.ref 0), some (.ref 1), some (.ref 78), some (.int (nI i))], [], z, H) Q = Ev 0 (874, [some (.ref 0), some (.ref 1), some (.ref 78), some (.int (nI i))], [], z, H2) Q := by
  obtain ⟨s0, k1⟩ := I.ok
  obtain ⟨v, H1, H2, e1, e2, s1, k2, I2⟩ := st_weigh (z := z) I (sc.getD (i + 1) 0) (sc.getD (i + 2) 0)
  have g1 := igS (sc := sc) (j := i + 1) (by omega) (by omega)
  have g2 := igS (sc := sc) (j := i + 2) (by omega) (by omega)
  refine ⟨H2, I2, fun Q => ?_⟩
  simp only [m0_746, m0_747, m0_748, m0_749, m0_750, m0_751, m0_752, m0_753, m0_754, m0_755, m0_756, m0_757, m0_760, m0_761, m0_762, m0_763, m0_764, m0_765, m0_766, m0_767, m0_768, m0_769, m0_770, m0_771, m0_774, ob_some, pushr_s, iget_eq, Option.bind_some, nI_add, s0, s1, k1, k2, e1, e2, if_true, eq_self, g1, g2]
set_option maxHeartbeats 2000000 in
theorem lw_give (I : INV sc H) (hi : i + 6 ≤ sc.length) (hl : sc.length ≤ 384) : ∃ H2, INV sc H2 ∧ ∀ Q, Ev 0 (779, [some (.ref 0), some (.ref 1), some (.ref 78), some (.int (nI i))], [], z, H) Q = Ev 0 (874, [some (.ref 0), some (.ref 1), some (.ref 78), some (.int (nI i))], [], z, H2) Q := by
  obtain ⟨s0, k1⟩ := I.ok
  obtain ⟨v, H1, H2, e1, e2, s1, k2, I2⟩ := st_give (z := z) I (sc.getD (i + 1) 0) (sc.getD (i + 2) 0)
  have g1 := igS (sc := sc) (j := i + 1) (by omega) (by omega)
  have g2 := igS (sc := sc) (j := i + 2) (by omega) (by omega)
  refine ⟨H2, I2, fun Q => ?_⟩
  simp only [m0_779, m0_780, m0_781, m0_782, m0_783, m0_784, m0_785, m0_786, m0_787, m0_788, m0_789, m0_790, m0_793, m0_794, m0_795, m0_796, m0_797, m0_798, m0_799, m0_800, m0_801, m0_802, m0_803, m0_804, m0_807, ob_some, pushr_s, iget_eq, Option.bind_some, nI_add, s0, s1, k1, k2, e1, e2, if_true, eq_self, g1, g2]
set_option maxHeartbeats 2000000 in
theorem lw_undo (I : INV sc H) (hi : i + 6 ≤ sc.length) (hl : sc.length ≤ 384) : ∃ H2, INV sc H2 ∧ ∀ Q, Ev 0 (812, [some (.ref 0), some (.ref 1), some (.ref 78), some (.int (nI i))], [], z, H) Q = Ev 0 (874, [some (.ref 0), some (.ref 1), some (.ref 78), some (.int (nI i))], [], z, H2) Q := by
  obtain ⟨s0, k1⟩ := I.ok
  obtain ⟨v, H1, H2, e1, e2, s1, k2, I2⟩ := st_undo (z := z) I 
  refine ⟨H2, I2, fun Q => ?_⟩
  simp only [m0_812, m0_813, m0_816, m0_817, m0_820, ob_some, pushr_s, iget_eq, Option.bind_some, nI_add, s0, s1, k1, k2, e1, e2, if_true, eq_self]
set_option maxHeartbeats 2000000 in
theorem lw_keep (I : INV sc H) (hi : i + 6 ≤ sc.length) (hl : sc.length ≤ 384) : ∃ H2, INV sc H2 ∧ ∀ Q, Ev 0 (825, [some (.ref 0), some (.ref 1), some (.ref 78), some (.int (nI i))], [], z, H) Q = Ev 0 (874, [some (.ref 0), some (.ref 1), some (.ref 78), some (.int (nI i))], [], z, H2) Q := by
  obtain ⟨s0, k1⟩ := I.ok
  obtain ⟨v, H1, H2, e1, e2, s1, k2, I2⟩ := st_keep (z := z) I 
  refine ⟨H2, I2, fun Q => ?_⟩
  simp only [m0_825, m0_826, m0_829, m0_830, m0_833, ob_some, pushr_s, iget_eq, Option.bind_some, nI_add, s0, s1, k1, k2, e1, e2, if_true, eq_self]
set_option maxHeartbeats 2000000 in
theorem lw_back (I : INV sc H) (hi : i + 6 ≤ sc.length) (hl : sc.length ≤ 384) : ∃ H2, INV sc H2 ∧ ∀ Q, Ev 0 (838, [some (.ref 0), some (.ref 1), some (.ref 78), some (.int (nI i))], [], z, H) Q = Ev 0 (874, [some (.ref 0), some (.ref 1), some (.ref 78), some (.int (nI i))], [], z, H2) Q := by
  obtain ⟨s0, k1⟩ := I.ok
  obtain ⟨v, H1, H2, e1, e2, s1, k2, I2⟩ := st_back (z := z) I 
  refine ⟨H2, I2, fun Q => ?_⟩
  simp only [m0_838, m0_839, m0_842, m0_843, m0_846, ob_some, pushr_s, iget_eq, Option.bind_some, nI_add, s0, s1, k1, k2, e1, e2, if_true, eq_self]
set_option maxHeartbeats 2000000 in
theorem lw_count (I : INV sc H) (hi : i + 6 ≤ sc.length) (hl : sc.length ≤ 384) : ∃ H2, INV sc H2 ∧ ∀ Q, Ev 0 (851, [some (.ref 0), some (.ref 1), some (.ref 78), some (.int (nI i))], [], z, H) Q = Ev 0 (874, [some (.ref 0), some (.ref 1), some (.ref 78), some (.int (nI i))], [], z, H2) Q := by
  obtain ⟨s0, k1⟩ := I.ok
  obtain ⟨v, H1, H2, e1, e2, s1, k2, I2⟩ := st_count (z := z) I (sc.getD (i + 1) 0)
  have g1 := igS (sc := sc) (j := i + 1) (by omega) (by omega)
  refine ⟨H2, I2, fun Q => ?_⟩
  simp only [m0_851, m0_852, m0_853, m0_854, m0_855, m0_856, m0_857, m0_860, m0_861, m0_862, m0_863, m0_864, m0_865, m0_866, m0_869, ob_some, pushr_s, iget_eq, Option.bind_some, nI_add, s0, s1, k1, k2, e1, e2, if_true, eq_self, g1]
end LAWC
theorem swt_c (x : Int32) : ∃ k, k < 26 ∧ swt 0 24 [874, 148, 211, 224, 237, 250, 283, 316, 349, 382, 405, 428, 451, 484, 507, 540, 573, 606, 649, 713, 746, 779, 812, 825, 838, 851] x = ([874, 148, 211, 224, 237, 250, 283, 316, 349, 382, 405, 428, 451, 484, 507, 540, 573, 606, 649, 713, 746, 779, 812, 825, 838, 851] : List Nat)[k]? := by
  unfold swt
  split
  · exact ⟨0, by decide, rfl⟩
  · split
    · exact ⟨0, by decide, rfl⟩
    · exact ⟨(x.toInt - 0).toNat + 1, by omega, rfl⟩
theorem law_step {sc : List Int32} {H : Hp} {z : Zc} {i : Nat} (I : INV sc H) (hi : i + 6 ≤ sc.length) (hl : sc.length ≤ 384) (x : Int32) : ∃ H2, INV sc H2 ∧ ∀ Q, Ev 0 (33, [some (.ref 0), some (.ref 1), some (.ref 78), some (.int (nI i))], [.int x], z, H) Q = Ev 0 (874, [some (.ref 0), some (.ref 1), some (.ref 78), some (.int (nI i))], [], z, H2) Q := by
  obtain ⟨k, hk, e⟩ := swt_c x
  match k, hk with
  | 0, _ =>
    refine ⟨H, I, fun Q => ?_⟩
    rw [m0_33, e]
    rfl
  | 1, _ =>
    obtain ⟨H2, I2, h⟩ := lw_write (z := z) I hi hl
    refine ⟨H2, I2, fun Q => ?_⟩
    rw [m0_33, e]
    exact h Q
  | 2, _ =>
    obtain ⟨H2, I2, h⟩ := lw_wipe (z := z) I hi hl
    refine ⟨H2, I2, fun Q => ?_⟩
    rw [m0_33, e]
    exact h Q
  | 3, _ =>
    obtain ⟨H2, I2, h⟩ := lw_fault (z := z) I hi hl
    refine ⟨H2, I2, fun Q => ?_⟩
    rw [m0_33, e]
    exact h Q
  | 4, _ =>
    obtain ⟨H2, I2, h⟩ := lw_lay (z := z) I hi hl
    refine ⟨H2, I2, fun Q => ?_⟩
    rw [m0_33, e]
    exact h Q
  | 5, _ =>
    obtain ⟨H2, I2, h⟩ := lw_engine (z := z) I hi hl
    refine ⟨H2, I2, fun Q => ?_⟩
    rw [m0_33, e]
    exact h Q
  | 6, _ =>
    obtain ⟨H2, I2, h⟩ := lw_stone (z := z) I hi hl
    refine ⟨H2, I2, fun Q => ?_⟩
    rw [m0_33, e]
    exact h Q
  | 7, _ =>
    obtain ⟨H2, I2, h⟩ := lw_sheep (z := z) I hi hl
    refine ⟨H2, I2, fun Q => ?_⟩
    rw [m0_33, e]
    exact h Q
  | 8, _ =>
    obtain ⟨H2, I2, h⟩ := lw_cell (z := z) I hi hl
    refine ⟨H2, I2, fun Q => ?_⟩
    rw [m0_33, e]
    exact h Q
  | 9, _ =>
    obtain ⟨H2, I2, h⟩ := lw_rubble (z := z) I hi hl
    refine ⟨H2, I2, fun Q => ?_⟩
    rw [m0_33, e]
    exact h Q
  | 10, _ =>
    obtain ⟨H2, I2, h⟩ := lw_breach (z := z) I hi hl
    refine ⟨H2, I2, fun Q => ?_⟩
    rw [m0_33, e]
    exact h Q
  | 11, _ =>
    obtain ⟨H2, I2, h⟩ := lw_order (z := z) I hi hl
    refine ⟨H2, I2, fun Q => ?_⟩
    rw [m0_33, e]
    exact h Q
  | 12, _ =>
    obtain ⟨H2, I2, h⟩ := lw_ballast (z := z) I hi hl
    refine ⟨H2, I2, fun Q => ?_⟩
    rw [m0_33, e]
    exact h Q
  | 13, _ =>
    obtain ⟨H2, I2, h⟩ := lw_hold (z := z) I hi hl
    refine ⟨H2, I2, fun Q => ?_⟩
    rw [m0_33, e]
    exact h Q
  | 14, _ =>
    obtain ⟨H2, I2, h⟩ := lw_meal (z := z) I hi hl
    refine ⟨H2, I2, fun Q => ?_⟩
    rw [m0_33, e]
    exact h Q
  | 15, _ =>
    obtain ⟨H2, I2, h⟩ := lw_aim (z := z) I hi hl
    refine ⟨H2, I2, fun Q => ?_⟩
    rw [m0_33, e]
    exact h Q
  | 16, _ =>
    obtain ⟨H2, I2, h⟩ := lw_crater (z := z) I hi hl
    refine ⟨H2, I2, fun Q => ?_⟩
    rw [m0_33, e]
    exact h Q
  | 17, _ =>
    obtain ⟨H2, I2, h⟩ := lw_least (z := z) I hi hl
    refine ⟨H2, I2, fun Q => ?_⟩
    rw [m0_33, e]
    exact h Q
  | 18, _ =>
    obtain ⟨H2, I2, h⟩ := lw_odds (z := z) I hi hl
    refine ⟨H2, I2, fun Q => ?_⟩
    rw [m0_33, e]
    exact h Q
  | 19, _ =>
    obtain ⟨H2, I2, h⟩ := lw_year (z := z) I hi hl
    refine ⟨H2, I2, fun Q => ?_⟩
    rw [m0_33, e]
    exact h Q
  | 20, _ =>
    obtain ⟨H2, I2, h⟩ := lw_weigh (z := z) I hi hl
    refine ⟨H2, I2, fun Q => ?_⟩
    rw [m0_33, e]
    exact h Q
  | 21, _ =>
    obtain ⟨H2, I2, h⟩ := lw_give (z := z) I hi hl
    refine ⟨H2, I2, fun Q => ?_⟩
    rw [m0_33, e]
    exact h Q
  | 22, _ =>
    obtain ⟨H2, I2, h⟩ := lw_undo (z := z) I hi hl
    refine ⟨H2, I2, fun Q => ?_⟩
    rw [m0_33, e]
    exact h Q
  | 23, _ =>
    obtain ⟨H2, I2, h⟩ := lw_keep (z := z) I hi hl
    refine ⟨H2, I2, fun Q => ?_⟩
    rw [m0_33, e]
    exact h Q
  | 24, _ =>
    obtain ⟨H2, I2, h⟩ := lw_back (z := z) I hi hl
    refine ⟨H2, I2, fun Q => ?_⟩
    rw [m0_33, e]
    exact h Q
  | 25, _ =>
    obtain ⟨H2, I2, h⟩ := lw_count (z := z) I hi hl
    refine ⟨H2, I2, fun Q => ?_⟩
    rw [m0_33, e]
    exact h Q
  | k + 26, q => omega
theorem law_loop {sc : List Int32} {z : Zc} (hl : sc.length ≤ 384) (Q : Option Value → Zc → Hp → Prop) (hQ : ∀ h, Q (some (.int 1)) z h) : ∀ m i H, i ≤ 390 → sc.length < i + 6 * m + 6 → INV sc H → Ev 0 (18, [some (.ref 0), some (.ref 1), some (.ref 78), some (.int (nI i))], [], z, H) Q := by
  intro m
  induction m with
  | zero =>
    intro i H hi hm I
    obtain ⟨s0, -⟩ := I.ok
    have al : alE (.inr (.inl (false, sc))) = some (nI sc.length) := rfl
    have lt : (nI sc.length - nI 6 < nI i) = True := by
      rw [Int32.lt_iff_toInt_lt, nI_ti (by omega), pk_sub_toInt (by omega) (by decide)]
      exact eq_true (by omega)
    rw [m0_18]
    simp only [m0_19, m0_20, m0_21, m0_23, m0_24, m0_880, m0_881_1, ob_some, alen_eq, Option.bind_some, s0, al, lt, if_true]
    exact hQ H
  | succ m ih =>
    intro i H hi hm I
    obtain ⟨s0, -⟩ := I.ok
    have al : alE (.inr (.inl (false, sc))) = some (nI sc.length) := rfl
    by_cases c : sc.length < i + 6
    · have lt : (nI sc.length - nI 6 < nI i) = True := by
        rw [Int32.lt_iff_toInt_lt, nI_ti (by omega), pk_sub_toInt (by omega) (by decide)]
        exact eq_true (by omega)
      rw [m0_18]
      simp only [m0_19, m0_20, m0_21, m0_23, m0_24, m0_880, m0_881_1, ob_some, alen_eq, Option.bind_some, s0, al, lt, if_true]
      exact hQ H
    · have lt : (nI sc.length - nI 6 < nI i) = False := by
        rw [Int32.lt_iff_toInt_lt, nI_ti (by omega), pk_sub_toInt (by omega) (by decide)]
        exact eq_false (by omega)
      have g0 := igS (sc := sc) (j := i) (by omega) (by omega)
      obtain ⟨H2, I2, h⟩ := law_step (z := z) I (i := i) (by omega) hl (sc.getD i 0 &&& nI 31)
      have ihm := ih (i + 6) H2 (by omega) (by omega) I2
      rw [m0_18]
      simp only [m0_19, m0_20, m0_21, m0_23, m0_24, m0_27, m0_28, m0_29, m0_30, m0_32, ob_some, alen_eq, iget_eq, Option.bind_some, s0, al, lt, if_false, g0, h, m0_874, m0_877, nI_add]
      exact ihm
