set_option maxHeartbeats 1000000 in
theorem lg_cmp_self {x : Int64} : (lg_cmp x x = 0) = True := eq_true ((lg_cmp_eq x x).mpr rfl)
set_option maxHeartbeats 1000000 in
theorem zIn_m {k L : Nat} (h : k < L) (hL : L ≤ 384) : zIv (nI k) L := zIn_n h (by omega)
set_option maxHeartbeats 1000000 in
theorem zc_m {k L : Nat} (h : k < L) (hL : L ≤ 384) : (nI k).toNatClampNeg = k := zc_n (by omega)
set_option maxHeartbeats 1000000 in
theorem zl_gt {L i : Nat} (hL : L ≤ 384) (h1 : i ≤ 1000) (h : ¬ i + 5 < L) : Int32.ofNat L - 6 < nI i := by
  have e : (Int32.ofNat L - 6).toInt = (L : Int) - 6 := pk_sub_toInt (a := L) (b := 6) (by omega) (by omega)
  rw [Int32.lt_iff_toInt_lt, e, nI_toInt (by omega)]
  omega
set_option maxHeartbeats 1000000 in
theorem zl_le {L i : Nat} (hL : L ≤ 384) (h : i + 5 < L) : ¬ Int32.ofNat L - 6 < nI i := by
  have e : (Int32.ofNat L - 6).toInt = (L : Int) - 6 := pk_sub_toInt (a := L) (b := 6) (by omega) (by omega)
  rw [Int32.lt_iff_toInt_lt, e, nI_toInt (by omega)]
  omega
/-! the law's loop -/
section S
variable {L : Nat} {xs : Nat → Int32} {d : Nat}
set_option maxHeartbeats 1000000 in
theorem zl_piece {i : Nat} {I : Nat → Nat → Int32} {J : Nat → Nat → Int64} (hL : L ≤ 384) (hi : i + 5 < L) (h : zOp L xs d 48 101 [.int (xs (i + 1)), .int (xs (i + 2)), .int (xs (i + 3)), .int (xs (i + 4))] I J) : ∃ I' J', zX zCd (zGG L xs) d 154 156 [.ref zScript, .ref 0, .ref 55, .int (nI i)] [] (I, J) = zX zCd (zGG L xs) d 154 1182 [.ref zScript, .ref 0, .ref 55, .int (nI i)] [] (I', J') ∧ zInv I' := by
  obtain ⟨v, I1, I2, J1, J2, h1, h2, h3⟩ := h
  have p1 : nI i + 1 = nI (i + 1) := nI_add i 1
  have p2 : nI i + 2 = nI (i + 2) := nI_add i 2
  have p3 : nI i + 3 = nI (i + 3) := nI_add i 3
  have p4 : nI i + 4 = nI (i + 4) := nI_add i 4
  refine ⟨I2, J2, ?_, h3⟩
  simp only [eL_law_156, eL_law_157, eL_law_158, eL_law_159, eL_law_160, eL_law_161, eL_law_162, eL_law_163, eL_law_164, eL_law_165, eL_law_166, eL_law_167, eL_law_168, eL_law_169, eL_law_170, eL_law_171, eL_law_172, eL_law_173, eL_law_174, eL_law_175, eL_law_176, eL_law_177, eL_law_180, eL_law_181, eL_law_182, eL_law_183, eL_law_184, eL_law_185, eL_law_186, eL_law_187, eL_law_188, eL_law_189, eL_law_190, eL_law_191, eL_law_192, eL_law_193, eL_law_194, eL_law_195, eL_law_196, eL_law_197, eL_law_198, eL_law_199, eL_law_200, eL_law_201, eL_law_204, eL_law_207, eL_law_208, Option.bind_some, Option.toList_some, Option.toList_none, List.cons_append, List.nil_append, G_c101, G_l101, G_f101, G_o0, G_o55, p1, p2, p3, p4, zIn_m (show i + 1 < L by omega) hL, zc_m (show i + 1 < L by omega) hL, zIn_m (show i + 2 < L by omega) hL, zc_m (show i + 2 < L by omega) hL, zIn_m (show i + 3 < L by omega) hL, zc_m (show i + 3 < L by omega) hL, zIn_m (show i + 4 < L by omega) hL, zc_m (show i + 4 < L by omega) hL, h1, h2, if_true]
set_option maxHeartbeats 1000000 in
theorem zl_ofPlace {i : Nat} {I : Nat → Nat → Int32} {J : Nat → Nat → Int64} (hL : L ≤ 384) (hi : i + 5 < L) (h : zOp L xs d 49 105 [.int (xs (i + 1)), .int (xs (i + 2))] I J) : ∃ I' J', zX zCd (zGG L xs) d 154 209 [.ref zScript, .ref 0, .ref 55, .int (nI i)] [] (I, J) = zX zCd (zGG L xs) d 154 1182 [.ref zScript, .ref 0, .ref 55, .int (nI i)] [] (I', J') ∧ zInv I' := by
  obtain ⟨v, I1, I2, J1, J2, h1, h2, h3⟩ := h
  have p1 : nI i + 1 = nI (i + 1) := nI_add i 1
  have p2 : nI i + 2 = nI (i + 2) := nI_add i 2
  refine ⟨I2, J2, ?_, h3⟩
  simp only [eL_law_209, eL_law_210, eL_law_211, eL_law_212, eL_law_213, eL_law_214, eL_law_215, eL_law_216, eL_law_217, eL_law_218, eL_law_219, eL_law_220, eL_law_223, eL_law_224, eL_law_225, eL_law_226, eL_law_227, eL_law_228, eL_law_229, eL_law_230, eL_law_231, eL_law_232, eL_law_233, eL_law_234, eL_law_237, eL_law_240, eL_law_241, Option.bind_some, Option.toList_some, Option.toList_none, List.cons_append, List.nil_append, G_c101, G_l101, G_f101, G_o0, G_o55, p1, p2, zIn_m (show i + 1 < L by omega) hL, zc_m (show i + 1 < L by omega) hL, zIn_m (show i + 2 < L by omega) hL, zc_m (show i + 2 < L by omega) hL, h1, h2, if_true]
set_option maxHeartbeats 1000000 in
theorem zl_sure {i : Nat} {I : Nat → Nat → Int32} {J : Nat → Nat → Int64} (hL : L ≤ 384) (hi : i + 5 < L) (h : zOp L xs d 50 106 [.int (xs (i + 1)), .int (xs (i + 2))] I J) : ∃ I' J', zX zCd (zGG L xs) d 154 242 [.ref zScript, .ref 0, .ref 55, .int (nI i)] [] (I, J) = zX zCd (zGG L xs) d 154 1182 [.ref zScript, .ref 0, .ref 55, .int (nI i)] [] (I', J') ∧ zInv I' := by
  obtain ⟨v, I1, I2, J1, J2, h1, h2, h3⟩ := h
  have p1 : nI i + 1 = nI (i + 1) := nI_add i 1
  have p2 : nI i + 2 = nI (i + 2) := nI_add i 2
  refine ⟨I2, J2, ?_, h3⟩
  simp only [eL_law_242, eL_law_243, eL_law_244, eL_law_245, eL_law_246, eL_law_247, eL_law_248, eL_law_249, eL_law_250, eL_law_251, eL_law_252, eL_law_253, eL_law_256, eL_law_257, eL_law_258, eL_law_259, eL_law_260, eL_law_261, eL_law_262, eL_law_263, eL_law_264, eL_law_265, eL_law_266, eL_law_267, eL_law_270, eL_law_273, eL_law_274, Option.bind_some, Option.toList_some, Option.toList_none, List.cons_append, List.nil_append, G_c101, G_l101, G_f101, G_o0, G_o55, p1, p2, zIn_m (show i + 1 < L by omega) hL, zc_m (show i + 1 < L by omega) hL, zIn_m (show i + 2 < L by omega) hL, zc_m (show i + 2 < L by omega) hL, h1, h2, if_true]
set_option maxHeartbeats 1000000 in
theorem zl_minutes {i : Nat} {I : Nat → Nat → Int32} {J : Nat → Nat → Int64} (hL : L ≤ 384) (hi : i + 5 < L) (h : zOp L xs d 51 107 [.int (xs (i + 1))] I J) : ∃ I' J', zX zCd (zGG L xs) d 154 275 [.ref zScript, .ref 0, .ref 55, .int (nI i)] [] (I, J) = zX zCd (zGG L xs) d 154 1182 [.ref zScript, .ref 0, .ref 55, .int (nI i)] [] (I', J') ∧ zInv I' := by
  obtain ⟨v, I1, I2, J1, J2, h1, h2, h3⟩ := h
  have p1 : nI i + 1 = nI (i + 1) := nI_add i 1
  refine ⟨I2, J2, ?_, h3⟩
  simp only [eL_law_275, eL_law_276, eL_law_277, eL_law_278, eL_law_279, eL_law_280, eL_law_281, eL_law_284, eL_law_285, eL_law_286, eL_law_287, eL_law_288, eL_law_289, eL_law_290, eL_law_293, eL_law_296, eL_law_297, Option.bind_some, Option.toList_some, Option.toList_none, List.cons_append, List.nil_append, G_c101, G_l101, G_f101, G_o0, G_o55, p1, zIn_m (show i + 1 < L by omega) hL, zc_m (show i + 1 < L by omega) hL, h1, h2, if_true]
set_option maxHeartbeats 1000000 in
theorem zl_plan {i : Nat} {I : Nat → Nat → Int32} {J : Nat → Nat → Int64} (hL : L ≤ 384) (hi : i + 5 < L) (h : zOp L xs d 52 119 [.int (xs (i + 1)), .int (xs (i + 2)), .int (xs (i + 3)), .int (xs (i + 4)), .int (xs (i + 5))] I J) : ∃ I' J', zX zCd (zGG L xs) d 154 298 [.ref zScript, .ref 0, .ref 55, .int (nI i)] [] (I, J) = zX zCd (zGG L xs) d 154 1182 [.ref zScript, .ref 0, .ref 55, .int (nI i)] [] (I', J') ∧ zInv I' := by
  obtain ⟨v, I1, I2, J1, J2, h1, h2, h3⟩ := h
  have p1 : nI i + 1 = nI (i + 1) := nI_add i 1
  have p2 : nI i + 2 = nI (i + 2) := nI_add i 2
  have p3 : nI i + 3 = nI (i + 3) := nI_add i 3
  have p4 : nI i + 4 = nI (i + 4) := nI_add i 4
  have p5 : nI i + 5 = nI (i + 5) := nI_add i 5
  refine ⟨I2, J2, ?_, h3⟩
  simp only [eL_law_298, eL_law_299, eL_law_300, eL_law_301, eL_law_302, eL_law_303, eL_law_304, eL_law_305, eL_law_306, eL_law_307, eL_law_308, eL_law_309, eL_law_310, eL_law_311, eL_law_312, eL_law_313, eL_law_314, eL_law_315, eL_law_316, eL_law_317, eL_law_318, eL_law_319, eL_law_320, eL_law_321, eL_law_322, eL_law_323, eL_law_324, eL_law_327, eL_law_328, eL_law_329, eL_law_330, eL_law_331, eL_law_332, eL_law_333, eL_law_334, eL_law_335, eL_law_336, eL_law_337, eL_law_338, eL_law_339, eL_law_340, eL_law_341, eL_law_342, eL_law_343, eL_law_344, eL_law_345, eL_law_346, eL_law_347, eL_law_348, eL_law_349, eL_law_350, eL_law_351, eL_law_352, eL_law_353, eL_law_356, eL_law_359, eL_law_360, Option.bind_some, Option.toList_some, Option.toList_none, List.cons_append, List.nil_append, G_c101, G_l101, G_f101, G_o0, G_o55, p1, p2, p3, p4, p5, zIn_m (show i + 1 < L by omega) hL, zc_m (show i + 1 < L by omega) hL, zIn_m (show i + 2 < L by omega) hL, zc_m (show i + 2 < L by omega) hL, zIn_m (show i + 3 < L by omega) hL, zc_m (show i + 3 < L by omega) hL, zIn_m (show i + 4 < L by omega) hL, zc_m (show i + 4 < L by omega) hL, zIn_m (show i + 5 < L by omega) hL, zc_m (show i + 5 < L by omega) hL, h1, h2, if_true]
set_option maxHeartbeats 1000000 in
theorem zl_right {i : Nat} {I : Nat → Nat → Int32} {J : Nat → Nat → Int64} (hL : L ≤ 384) (hi : i + 5 < L) (h : zOpL L xs d 53 123 [.int (xs (i + 1)), .int (xs (i + 2)), .int (xs (i + 3)), .int (xs (i + 4)), .int (xs (i + 5))] I J) : ∃ I' J', zX zCd (zGG L xs) d 154 361 [.ref zScript, .ref 0, .ref 55, .int (nI i)] [] (I, J) = zX zCd (zGG L xs) d 154 1182 [.ref zScript, .ref 0, .ref 55, .int (nI i)] [] (I', J') ∧ zInv I' := by
  obtain ⟨v, I1, I2, J1, J2, h1, h2, h3⟩ := h
  have p1 : nI i + 1 = nI (i + 1) := nI_add i 1
  have p2 : nI i + 2 = nI (i + 2) := nI_add i 2
  have p3 : nI i + 3 = nI (i + 3) := nI_add i 3
  have p4 : nI i + 4 = nI (i + 4) := nI_add i 4
  have p5 : nI i + 5 = nI (i + 5) := nI_add i 5
  refine ⟨I2, J2, ?_, h3⟩
  simp only [eL_law_361, eL_law_362, eL_law_363, eL_law_364, eL_law_365, eL_law_366, eL_law_367, eL_law_368, eL_law_369, eL_law_370, eL_law_371, eL_law_372, eL_law_373, eL_law_374, eL_law_375, eL_law_376, eL_law_377, eL_law_378, eL_law_379, eL_law_380, eL_law_381, eL_law_382, eL_law_383, eL_law_384, eL_law_385, eL_law_386, eL_law_387, eL_law_390, eL_law_391, eL_law_392, eL_law_393, eL_law_394, eL_law_395, eL_law_396, eL_law_397, eL_law_398, eL_law_399, eL_law_400, eL_law_401, eL_law_402, eL_law_403, eL_law_404, eL_law_405, eL_law_406, eL_law_407, eL_law_408, eL_law_409, eL_law_410, eL_law_411, eL_law_412, eL_law_413, eL_law_414, eL_law_415, eL_law_416, eL_law_419, eL_law_420, eL_law_423, eL_law_424, Option.bind_some, Option.toList_some, Option.toList_none, List.cons_append, List.nil_append, G_c101, G_l101, G_f101, G_o0, G_o55, p1, p2, p3, p4, p5, zIn_m (show i + 1 < L by omega) hL, zc_m (show i + 1 < L by omega) hL, zIn_m (show i + 2 < L by omega) hL, zc_m (show i + 2 < L by omega) hL, zIn_m (show i + 3 < L by omega) hL, zc_m (show i + 3 < L by omega) hL, zIn_m (show i + 4 < L by omega) hL, zc_m (show i + 4 < L by omega) hL, zIn_m (show i + 5 < L by omega) hL, zc_m (show i + 5 < L by omega) hL, h1, h2, lg_cmp_self, if_true]
set_option maxHeartbeats 1000000 in
theorem zl_worse {i : Nat} {I : Nat → Nat → Int32} {J : Nat → Nat → Int64} (hL : L ≤ 384) (hi : i + 5 < L) (h : zOp L xs d 54 124 [.int (xs (i + 1)), .int (xs (i + 2)), .int (xs (i + 3)), .int (xs (i + 4))] I J) : ∃ I' J', zX zCd (zGG L xs) d 154 425 [.ref zScript, .ref 0, .ref 55, .int (nI i)] [] (I, J) = zX zCd (zGG L xs) d 154 1182 [.ref zScript, .ref 0, .ref 55, .int (nI i)] [] (I', J') ∧ zInv I' := by
  obtain ⟨v, I1, I2, J1, J2, h1, h2, h3⟩ := h
  have p1 : nI i + 1 = nI (i + 1) := nI_add i 1
  have p2 : nI i + 2 = nI (i + 2) := nI_add i 2
  have p3 : nI i + 3 = nI (i + 3) := nI_add i 3
  have p4 : nI i + 4 = nI (i + 4) := nI_add i 4
  refine ⟨I2, J2, ?_, h3⟩
  simp only [eL_law_425, eL_law_426, eL_law_427, eL_law_428, eL_law_429, eL_law_430, eL_law_431, eL_law_432, eL_law_433, eL_law_434, eL_law_435, eL_law_436, eL_law_437, eL_law_438, eL_law_439, eL_law_440, eL_law_441, eL_law_442, eL_law_443, eL_law_444, eL_law_445, eL_law_446, eL_law_449, eL_law_450, eL_law_451, eL_law_452, eL_law_453, eL_law_454, eL_law_455, eL_law_456, eL_law_457, eL_law_458, eL_law_459, eL_law_460, eL_law_461, eL_law_462, eL_law_463, eL_law_464, eL_law_465, eL_law_466, eL_law_467, eL_law_468, eL_law_469, eL_law_470, eL_law_473, eL_law_476, eL_law_477, Option.bind_some, Option.toList_some, Option.toList_none, List.cons_append, List.nil_append, G_c101, G_l101, G_f101, G_o0, G_o55, p1, p2, p3, p4, zIn_m (show i + 1 < L by omega) hL, zc_m (show i + 1 < L by omega) hL, zIn_m (show i + 2 < L by omega) hL, zc_m (show i + 2 < L by omega) hL, zIn_m (show i + 3 < L by omega) hL, zc_m (show i + 3 < L by omega) hL, zIn_m (show i + 4 < L by omega) hL, zc_m (show i + 4 < L by omega) hL, h1, h2, if_true]
set_option maxHeartbeats 1000000 in
theorem zl_worth {i : Nat} {I : Nat → Nat → Int32} {J : Nat → Nat → Int64} (hL : L ≤ 384) (hi : i + 5 < L) (h : zOpL L xs d 55 125 [.int (xs (i + 1)), .int (xs (i + 2)), .int (xs (i + 3)), .int (xs (i + 4)), .int (xs (i + 5))] I J) : ∃ I' J', zX zCd (zGG L xs) d 154 478 [.ref zScript, .ref 0, .ref 55, .int (nI i)] [] (I, J) = zX zCd (zGG L xs) d 154 1182 [.ref zScript, .ref 0, .ref 55, .int (nI i)] [] (I', J') ∧ zInv I' := by
  obtain ⟨v, I1, I2, J1, J2, h1, h2, h3⟩ := h
  have p1 : nI i + 1 = nI (i + 1) := nI_add i 1
  have p2 : nI i + 2 = nI (i + 2) := nI_add i 2
  have p3 : nI i + 3 = nI (i + 3) := nI_add i 3
  have p4 : nI i + 4 = nI (i + 4) := nI_add i 4
  have p5 : nI i + 5 = nI (i + 5) := nI_add i 5
  refine ⟨I2, J2, ?_, h3⟩
  simp only [eL_law_478, eL_law_479, eL_law_480, eL_law_481, eL_law_482, eL_law_483, eL_law_484, eL_law_485, eL_law_486, eL_law_487, eL_law_488, eL_law_489, eL_law_490, eL_law_491, eL_law_492, eL_law_493, eL_law_494, eL_law_495, eL_law_496, eL_law_497, eL_law_498, eL_law_499, eL_law_500, eL_law_501, eL_law_502, eL_law_503, eL_law_504, eL_law_507, eL_law_508, eL_law_509, eL_law_510, eL_law_511, eL_law_512, eL_law_513, eL_law_514, eL_law_515, eL_law_516, eL_law_517, eL_law_518, eL_law_519, eL_law_520, eL_law_521, eL_law_522, eL_law_523, eL_law_524, eL_law_525, eL_law_526, eL_law_527, eL_law_528, eL_law_529, eL_law_530, eL_law_531, eL_law_532, eL_law_533, eL_law_536, eL_law_537, eL_law_540, eL_law_541, Option.bind_some, Option.toList_some, Option.toList_none, List.cons_append, List.nil_append, G_c101, G_l101, G_f101, G_o0, G_o55, p1, p2, p3, p4, p5, zIn_m (show i + 1 < L by omega) hL, zc_m (show i + 1 < L by omega) hL, zIn_m (show i + 2 < L by omega) hL, zc_m (show i + 2 < L by omega) hL, zIn_m (show i + 3 < L by omega) hL, zc_m (show i + 3 < L by omega) hL, zIn_m (show i + 4 < L by omega) hL, zc_m (show i + 4 < L by omega) hL, zIn_m (show i + 5 < L by omega) hL, zc_m (show i + 5 < L by omega) hL, h1, h2, lg_cmp_self, if_true]
set_option maxHeartbeats 1000000 in
theorem zl_best {i : Nat} {I : Nat → Nat → Int32} {J : Nat → Nat → Int64} (hL : L ≤ 384) (hi : i + 5 < L) (h : zOp L xs d 56 131 [.int (xs (i + 1)), .int (xs (i + 2))] I J) : ∃ I' J', zX zCd (zGG L xs) d 154 542 [.ref zScript, .ref 0, .ref 55, .int (nI i)] [] (I, J) = zX zCd (zGG L xs) d 154 1182 [.ref zScript, .ref 0, .ref 55, .int (nI i)] [] (I', J') ∧ zInv I' := by
  obtain ⟨v, I1, I2, J1, J2, h1, h2, h3⟩ := h
  have p1 : nI i + 1 = nI (i + 1) := nI_add i 1
  have p2 : nI i + 2 = nI (i + 2) := nI_add i 2
  refine ⟨I2, J2, ?_, h3⟩
  simp only [eL_law_542, eL_law_543, eL_law_544, eL_law_545, eL_law_546, eL_law_547, eL_law_548, eL_law_549, eL_law_550, eL_law_551, eL_law_552, eL_law_553, eL_law_556, eL_law_557, eL_law_558, eL_law_559, eL_law_560, eL_law_561, eL_law_562, eL_law_563, eL_law_564, eL_law_565, eL_law_566, eL_law_567, eL_law_570, eL_law_573, eL_law_574, Option.bind_some, Option.toList_some, Option.toList_none, List.cons_append, List.nil_append, G_c101, G_l101, G_f101, G_o0, G_o55, p1, p2, zIn_m (show i + 1 < L by omega) hL, zc_m (show i + 1 < L by omega) hL, zIn_m (show i + 2 < L by omega) hL, zc_m (show i + 2 < L by omega) hL, h1, h2, if_true]
set_option maxHeartbeats 1000000 in
theorem zl_top {i : Nat} {I : Nat → Nat → Int32} {J : Nat → Nat → Int64} (hL : L ≤ 384) (hi : i + 5 < L) (h : zOpL L xs d 57 132 [.int (xs (i + 1)), .int (xs (i + 2))] I J) : ∃ I' J', zX zCd (zGG L xs) d 154 575 [.ref zScript, .ref 0, .ref 55, .int (nI i)] [] (I, J) = zX zCd (zGG L xs) d 154 1182 [.ref zScript, .ref 0, .ref 55, .int (nI i)] [] (I', J') ∧ zInv I' := by
  obtain ⟨v, I1, I2, J1, J2, h1, h2, h3⟩ := h
  have p1 : nI i + 1 = nI (i + 1) := nI_add i 1
  have p2 : nI i + 2 = nI (i + 2) := nI_add i 2
  refine ⟨I2, J2, ?_, h3⟩
  simp only [eL_law_575, eL_law_576, eL_law_577, eL_law_578, eL_law_579, eL_law_580, eL_law_581, eL_law_582, eL_law_583, eL_law_584, eL_law_585, eL_law_586, eL_law_589, eL_law_590, eL_law_591, eL_law_592, eL_law_593, eL_law_594, eL_law_595, eL_law_596, eL_law_597, eL_law_598, eL_law_599, eL_law_600, eL_law_603, eL_law_604, eL_law_607, eL_law_608, Option.bind_some, Option.toList_some, Option.toList_none, List.cons_append, List.nil_append, G_c101, G_l101, G_f101, G_o0, G_o55, p1, p2, zIn_m (show i + 1 < L by omega) hL, zc_m (show i + 1 < L by omega) hL, zIn_m (show i + 2 < L by omega) hL, zc_m (show i + 2 < L by omega) hL, h1, h2, lg_cmp_self, if_true]
set_option maxHeartbeats 1000000 in
theorem zl_soonest {i : Nat} {I : Nat → Nat → Int32} {J : Nat → Nat → Int64} (hL : L ≤ 384) (hi : i + 5 < L) (h : zOp L xs d 58 134 [.int (xs (i + 1)), .int (xs (i + 2))] I J) : ∃ I' J', zX zCd (zGG L xs) d 154 609 [.ref zScript, .ref 0, .ref 55, .int (nI i)] [] (I, J) = zX zCd (zGG L xs) d 154 1182 [.ref zScript, .ref 0, .ref 55, .int (nI i)] [] (I', J') ∧ zInv I' := by
  obtain ⟨v, I1, I2, J1, J2, h1, h2, h3⟩ := h
  have p1 : nI i + 1 = nI (i + 1) := nI_add i 1
  have p2 : nI i + 2 = nI (i + 2) := nI_add i 2
  refine ⟨I2, J2, ?_, h3⟩
  simp only [eL_law_609, eL_law_610, eL_law_611, eL_law_612, eL_law_613, eL_law_614, eL_law_615, eL_law_616, eL_law_617, eL_law_618, eL_law_619, eL_law_620, eL_law_623, eL_law_624, eL_law_625, eL_law_626, eL_law_627, eL_law_628, eL_law_629, eL_law_630, eL_law_631, eL_law_632, eL_law_633, eL_law_634, eL_law_637, eL_law_640, eL_law_641, Option.bind_some, Option.toList_some, Option.toList_none, List.cons_append, List.nil_append, G_c101, G_l101, G_f101, G_o0, G_o55, p1, p2, zIn_m (show i + 1 < L by omega) hL, zc_m (show i + 1 < L by omega) hL, zIn_m (show i + 2 < L by omega) hL, zc_m (show i + 2 < L by omega) hL, h1, h2, if_true]
set_option maxHeartbeats 1000000 in
theorem zl_luck {i : Nat} {I : Nat → Nat → Int32} {J : Nat → Nat → Int64} (hL : L ≤ 384) (hi : i + 5 < L) (h : zOpL L xs d 59 136 [.int (xs (i + 1)), .int (xs (i + 2)), .int (xs (i + 3))] I J) : ∃ I' J', zX zCd (zGG L xs) d 154 642 [.ref zScript, .ref 0, .ref 55, .int (nI i)] [] (I, J) = zX zCd (zGG L xs) d 154 1182 [.ref zScript, .ref 0, .ref 55, .int (nI i)] [] (I', J') ∧ zInv I' := by
  obtain ⟨v, I1, I2, J1, J2, h1, h2, h3⟩ := h
  have p1 : nI i + 1 = nI (i + 1) := nI_add i 1
  have p2 : nI i + 2 = nI (i + 2) := nI_add i 2
  have p3 : nI i + 3 = nI (i + 3) := nI_add i 3
  refine ⟨I2, J2, ?_, h3⟩
  simp only [eL_law_642, eL_law_643, eL_law_644, eL_law_645, eL_law_646, eL_law_647, eL_law_648, eL_law_649, eL_law_650, eL_law_651, eL_law_652, eL_law_653, eL_law_654, eL_law_655, eL_law_656, eL_law_657, eL_law_658, eL_law_661, eL_law_662, eL_law_663, eL_law_664, eL_law_665, eL_law_666, eL_law_667, eL_law_668, eL_law_669, eL_law_670, eL_law_671, eL_law_672, eL_law_673, eL_law_674, eL_law_675, eL_law_676, eL_law_677, eL_law_680, eL_law_681, eL_law_684, eL_law_685, Option.bind_some, Option.toList_some, Option.toList_none, List.cons_append, List.nil_append, G_c101, G_l101, G_f101, G_o0, G_o55, p1, p2, p3, zIn_m (show i + 1 < L by omega) hL, zc_m (show i + 1 < L by omega) hL, zIn_m (show i + 2 < L by omega) hL, zc_m (show i + 2 < L by omega) hL, zIn_m (show i + 3 < L by omega) hL, zc_m (show i + 3 < L by omega) hL, h1, h2, lg_cmp_self, if_true]
set_option maxHeartbeats 1000000 in
theorem zl_reading {i : Nat} {I : Nat → Nat → Int32} {J : Nat → Nat → Int64} (hL : L ≤ 384) (hi : i + 5 < L) (h : zOp L xs d 60 137 [.int (xs (i + 1)), .int (xs (i + 2))] I J) : ∃ I' J', zX zCd (zGG L xs) d 154 686 [.ref zScript, .ref 0, .ref 55, .int (nI i)] [] (I, J) = zX zCd (zGG L xs) d 154 1182 [.ref zScript, .ref 0, .ref 55, .int (nI i)] [] (I', J') ∧ zInv I' := by
  obtain ⟨v, I1, I2, J1, J2, h1, h2, h3⟩ := h
  have p1 : nI i + 1 = nI (i + 1) := nI_add i 1
  have p2 : nI i + 2 = nI (i + 2) := nI_add i 2
  refine ⟨I2, J2, ?_, h3⟩
  simp only [eL_law_686, eL_law_687, eL_law_688, eL_law_689, eL_law_690, eL_law_691, eL_law_692, eL_law_693, eL_law_694, eL_law_695, eL_law_696, eL_law_697, eL_law_700, eL_law_701, eL_law_702, eL_law_703, eL_law_704, eL_law_705, eL_law_706, eL_law_707, eL_law_708, eL_law_709, eL_law_710, eL_law_711, eL_law_714, eL_law_717, eL_law_718, Option.bind_some, Option.toList_some, Option.toList_none, List.cons_append, List.nil_append, G_c101, G_l101, G_f101, G_o0, G_o55, p1, p2, zIn_m (show i + 1 < L by omega) hL, zc_m (show i + 1 < L by omega) hL, zIn_m (show i + 2 < L by omega) hL, zc_m (show i + 2 < L by omega) hL, h1, h2, if_true]
set_option maxHeartbeats 1000000 in
theorem zl_back {i : Nat} {I : Nat → Nat → Int32} {J : Nat → Nat → Int64} (hL : L ≤ 384) (hi : i + 5 < L) (h : zOp L xs d 61 138 [.int (xs (i + 1))] I J) : ∃ I' J', zX zCd (zGG L xs) d 154 719 [.ref zScript, .ref 0, .ref 55, .int (nI i)] [] (I, J) = zX zCd (zGG L xs) d 154 1182 [.ref zScript, .ref 0, .ref 55, .int (nI i)] [] (I', J') ∧ zInv I' := by
  obtain ⟨v, I1, I2, J1, J2, h1, h2, h3⟩ := h
  have p1 : nI i + 1 = nI (i + 1) := nI_add i 1
  refine ⟨I2, J2, ?_, h3⟩
  simp only [eL_law_719, eL_law_720, eL_law_721, eL_law_722, eL_law_723, eL_law_724, eL_law_725, eL_law_728, eL_law_729, eL_law_730, eL_law_731, eL_law_732, eL_law_733, eL_law_734, eL_law_737, eL_law_740, eL_law_741, Option.bind_some, Option.toList_some, Option.toList_none, List.cons_append, List.nil_append, G_c101, G_l101, G_f101, G_o0, G_o55, p1, zIn_m (show i + 1 < L by omega) hL, zc_m (show i + 1 < L by omega) hL, h1, h2, if_true]
set_option maxHeartbeats 1000000 in
theorem zl_plans {i : Nat} {I : Nat → Nat → Int32} {J : Nat → Nat → Int64} (hL : L ≤ 384) (hi : i + 5 < L) (h : zOp L xs d 62 140 [.int (xs (i + 1)), .int (xs (i + 2))] I J) : ∃ I' J', zX zCd (zGG L xs) d 154 742 [.ref zScript, .ref 0, .ref 55, .int (nI i)] [] (I, J) = zX zCd (zGG L xs) d 154 1182 [.ref zScript, .ref 0, .ref 55, .int (nI i)] [] (I', J') ∧ zInv I' := by
  obtain ⟨v, I1, I2, J1, J2, h1, h2, h3⟩ := h
  have p1 : nI i + 1 = nI (i + 1) := nI_add i 1
  have p2 : nI i + 2 = nI (i + 2) := nI_add i 2
  refine ⟨I2, J2, ?_, h3⟩
  simp only [eL_law_742, eL_law_743, eL_law_744, eL_law_745, eL_law_746, eL_law_747, eL_law_748, eL_law_749, eL_law_750, eL_law_751, eL_law_752, eL_law_753, eL_law_756, eL_law_757, eL_law_758, eL_law_759, eL_law_760, eL_law_761, eL_law_762, eL_law_763, eL_law_764, eL_law_765, eL_law_766, eL_law_767, eL_law_770, eL_law_773, eL_law_774, Option.bind_some, Option.toList_some, Option.toList_none, List.cons_append, List.nil_append, G_c101, G_l101, G_f101, G_o0, G_o55, p1, p2, zIn_m (show i + 1 < L by omega) hL, zc_m (show i + 1 < L by omega) hL, zIn_m (show i + 2 < L by omega) hL, zc_m (show i + 2 < L by omega) hL, h1, h2, if_true]
set_option maxHeartbeats 1000000 in
theorem zl_kinds {i : Nat} {I : Nat → Nat → Int32} {J : Nat → Nat → Int64} (hL : L ≤ 384) (hi : i + 5 < L) (h : zOp L xs d 63 141 [.int (xs (i + 1)), .int (xs (i + 2)), .int (xs (i + 3)), .int (xs (i + 4)), .int (xs (i + 5))] I J) : ∃ I' J', zX zCd (zGG L xs) d 154 775 [.ref zScript, .ref 0, .ref 55, .int (nI i)] [] (I, J) = zX zCd (zGG L xs) d 154 1182 [.ref zScript, .ref 0, .ref 55, .int (nI i)] [] (I', J') ∧ zInv I' := by
  obtain ⟨v, I1, I2, J1, J2, h1, h2, h3⟩ := h
  have p1 : nI i + 1 = nI (i + 1) := nI_add i 1
  have p2 : nI i + 2 = nI (i + 2) := nI_add i 2
  have p3 : nI i + 3 = nI (i + 3) := nI_add i 3
  have p4 : nI i + 4 = nI (i + 4) := nI_add i 4
  have p5 : nI i + 5 = nI (i + 5) := nI_add i 5
  refine ⟨I2, J2, ?_, h3⟩
  simp only [eL_law_775, eL_law_776, eL_law_777, eL_law_778, eL_law_779, eL_law_780, eL_law_781, eL_law_782, eL_law_783, eL_law_784, eL_law_785, eL_law_786, eL_law_787, eL_law_788, eL_law_789, eL_law_790, eL_law_791, eL_law_792, eL_law_793, eL_law_794, eL_law_795, eL_law_796, eL_law_797, eL_law_798, eL_law_799, eL_law_800, eL_law_801, eL_law_804, eL_law_805, eL_law_806, eL_law_807, eL_law_808, eL_law_809, eL_law_810, eL_law_811, eL_law_812, eL_law_813, eL_law_814, eL_law_815, eL_law_816, eL_law_817, eL_law_818, eL_law_819, eL_law_820, eL_law_821, eL_law_822, eL_law_823, eL_law_824, eL_law_825, eL_law_826, eL_law_827, eL_law_828, eL_law_829, eL_law_830, eL_law_833, eL_law_836, eL_law_837, Option.bind_some, Option.toList_some, Option.toList_none, List.cons_append, List.nil_append, G_c101, G_l101, G_f101, G_o0, G_o55, p1, p2, p3, p4, p5, zIn_m (show i + 1 < L by omega) hL, zc_m (show i + 1 < L by omega) hL, zIn_m (show i + 2 < L by omega) hL, zc_m (show i + 2 < L by omega) hL, zIn_m (show i + 3 < L by omega) hL, zc_m (show i + 3 < L by omega) hL, zIn_m (show i + 4 < L by omega) hL, zc_m (show i + 4 < L by omega) hL, zIn_m (show i + 5 < L by omega) hL, zc_m (show i + 5 < L by omega) hL, h1, h2, if_true]
set_option maxHeartbeats 1000000 in
theorem zl_sheet {i : Nat} {I : Nat → Nat → Int32} {J : Nat → Nat → Int64} (hL : L ≤ 384) (hi : i + 5 < L) (h : zOp L xs d 64 142 [.int (xs (i + 1)), .int (xs (i + 2)), .int (xs (i + 3))] I J) : ∃ I' J', zX zCd (zGG L xs) d 154 838 [.ref zScript, .ref 0, .ref 55, .int (nI i)] [] (I, J) = zX zCd (zGG L xs) d 154 1182 [.ref zScript, .ref 0, .ref 55, .int (nI i)] [] (I', J') ∧ zInv I' := by
  obtain ⟨v, I1, I2, J1, J2, h1, h2, h3⟩ := h
  have p1 : nI i + 1 = nI (i + 1) := nI_add i 1
  have p2 : nI i + 2 = nI (i + 2) := nI_add i 2
  have p3 : nI i + 3 = nI (i + 3) := nI_add i 3
  refine ⟨I2, J2, ?_, h3⟩
  simp only [eL_law_838, eL_law_839, eL_law_840, eL_law_841, eL_law_842, eL_law_843, eL_law_844, eL_law_845, eL_law_846, eL_law_847, eL_law_848, eL_law_849, eL_law_850, eL_law_851, eL_law_852, eL_law_853, eL_law_854, eL_law_857, eL_law_858, eL_law_859, eL_law_860, eL_law_861, eL_law_862, eL_law_863, eL_law_864, eL_law_865, eL_law_866, eL_law_867, eL_law_868, eL_law_869, eL_law_870, eL_law_871, eL_law_872, eL_law_873, eL_law_876, eL_law_879, eL_law_880, Option.bind_some, Option.toList_some, Option.toList_none, List.cons_append, List.nil_append, G_c101, G_l101, G_f101, G_o0, G_o55, p1, p2, p3, zIn_m (show i + 1 < L by omega) hL, zc_m (show i + 1 < L by omega) hL, zIn_m (show i + 2 < L by omega) hL, zc_m (show i + 2 < L by omega) hL, zIn_m (show i + 3 < L by omega) hL, zc_m (show i + 3 < L by omega) hL, h1, h2, if_true]
set_option maxHeartbeats 1000000 in
theorem zl_lose {i : Nat} {I : Nat → Nat → Int32} {J : Nat → Nat → Int64} (hL : L ≤ 384) (hi : i + 5 < L) (h : zOp L xs d 65 143 [.int (xs (i + 1))] I J) : ∃ I' J', zX zCd (zGG L xs) d 154 881 [.ref zScript, .ref 0, .ref 55, .int (nI i)] [] (I, J) = zX zCd (zGG L xs) d 154 1182 [.ref zScript, .ref 0, .ref 55, .int (nI i)] [] (I', J') ∧ zInv I' := by
  obtain ⟨v, I1, I2, J1, J2, h1, h2, h3⟩ := h
  have p1 : nI i + 1 = nI (i + 1) := nI_add i 1
  refine ⟨I2, J2, ?_, h3⟩
  simp only [eL_law_881, eL_law_882, eL_law_883, eL_law_884, eL_law_885, eL_law_886, eL_law_887, eL_law_890, eL_law_891, eL_law_892, eL_law_893, eL_law_894, eL_law_895, eL_law_896, eL_law_899, eL_law_902, eL_law_903, Option.bind_some, Option.toList_some, Option.toList_none, List.cons_append, List.nil_append, G_c101, G_l101, G_f101, G_o0, G_o55, p1, zIn_m (show i + 1 < L by omega) hL, zc_m (show i + 1 < L by omega) hL, h1, h2, if_true]
set_option maxHeartbeats 1000000 in
theorem zl_put {i : Nat} {I : Nat → Nat → Int32} {J : Nat → Nat → Int64} (hL : L ≤ 384) (hi : i + 5 < L) (h : zOp L xs d 66 144 [.int (xs (i + 1)), .int (xs (i + 2)), .int (xs (i + 3))] I J) : ∃ I' J', zX zCd (zGG L xs) d 154 904 [.ref zScript, .ref 0, .ref 55, .int (nI i)] [] (I, J) = zX zCd (zGG L xs) d 154 1182 [.ref zScript, .ref 0, .ref 55, .int (nI i)] [] (I', J') ∧ zInv I' := by
  obtain ⟨v, I1, I2, J1, J2, h1, h2, h3⟩ := h
  have p1 : nI i + 1 = nI (i + 1) := nI_add i 1
  have p2 : nI i + 2 = nI (i + 2) := nI_add i 2
  have p3 : nI i + 3 = nI (i + 3) := nI_add i 3
  refine ⟨I2, J2, ?_, h3⟩
  simp only [eL_law_904, eL_law_905, eL_law_906, eL_law_907, eL_law_908, eL_law_909, eL_law_910, eL_law_911, eL_law_912, eL_law_913, eL_law_914, eL_law_915, eL_law_916, eL_law_917, eL_law_918, eL_law_919, eL_law_920, eL_law_923, eL_law_924, eL_law_925, eL_law_926, eL_law_927, eL_law_928, eL_law_929, eL_law_930, eL_law_931, eL_law_932, eL_law_933, eL_law_934, eL_law_935, eL_law_936, eL_law_937, eL_law_938, eL_law_939, eL_law_942, eL_law_945, eL_law_946, Option.bind_some, Option.toList_some, Option.toList_none, List.cons_append, List.nil_append, G_c101, G_l101, G_f101, G_o0, G_o55, p1, p2, p3, zIn_m (show i + 1 < L by omega) hL, zc_m (show i + 1 < L by omega) hL, zIn_m (show i + 2 < L by omega) hL, zc_m (show i + 2 < L by omega) hL, zIn_m (show i + 3 < L by omega) hL, zc_m (show i + 3 < L by omega) hL, h1, h2, if_true]
set_option maxHeartbeats 1000000 in
theorem zl_cell {i : Nat} {I : Nat → Nat → Int32} {J : Nat → Nat → Int64} (hL : L ≤ 384) (hi : i + 5 < L) (h : zOpL L xs d 67 145 [.int (xs (i + 1)), .int (xs (i + 2)), .int (xs (i + 3))] I J) : ∃ I' J', zX zCd (zGG L xs) d 154 947 [.ref zScript, .ref 0, .ref 55, .int (nI i)] [] (I, J) = zX zCd (zGG L xs) d 154 1182 [.ref zScript, .ref 0, .ref 55, .int (nI i)] [] (I', J') ∧ zInv I' := by
  obtain ⟨v, I1, I2, J1, J2, h1, h2, h3⟩ := h
  have p1 : nI i + 1 = nI (i + 1) := nI_add i 1
  have p2 : nI i + 2 = nI (i + 2) := nI_add i 2
  have p3 : nI i + 3 = nI (i + 3) := nI_add i 3
  refine ⟨I2, J2, ?_, h3⟩
  simp only [eL_law_947, eL_law_948, eL_law_949, eL_law_950, eL_law_951, eL_law_952, eL_law_953, eL_law_954, eL_law_955, eL_law_956, eL_law_957, eL_law_958, eL_law_959, eL_law_960, eL_law_961, eL_law_962, eL_law_963, eL_law_966, eL_law_967, eL_law_968, eL_law_969, eL_law_970, eL_law_971, eL_law_972, eL_law_973, eL_law_974, eL_law_975, eL_law_976, eL_law_977, eL_law_978, eL_law_979, eL_law_980, eL_law_981, eL_law_982, eL_law_985, eL_law_986, eL_law_989, eL_law_990, Option.bind_some, Option.toList_some, Option.toList_none, List.cons_append, List.nil_append, G_c101, G_l101, G_f101, G_o0, G_o55, p1, p2, p3, zIn_m (show i + 1 < L by omega) hL, zc_m (show i + 1 < L by omega) hL, zIn_m (show i + 2 < L by omega) hL, zc_m (show i + 2 < L by omega) hL, zIn_m (show i + 3 < L by omega) hL, zc_m (show i + 3 < L by omega) hL, h1, h2, lg_cmp_self, if_true]
set_option maxHeartbeats 1000000 in
theorem zl_copy {i : Nat} {I : Nat → Nat → Int32} {J : Nat → Nat → Int64} (hL : L ≤ 384) (hi : i + 5 < L) (h : zOp L xs d 68 146 [.int (xs (i + 1)), .int (xs (i + 2)), .int (xs (i + 3)), .int (xs (i + 4)), .int (xs (i + 5))] I J) : ∃ I' J', zX zCd (zGG L xs) d 154 991 [.ref zScript, .ref 0, .ref 55, .int (nI i)] [] (I, J) = zX zCd (zGG L xs) d 154 1182 [.ref zScript, .ref 0, .ref 55, .int (nI i)] [] (I', J') ∧ zInv I' := by
  obtain ⟨v, I1, I2, J1, J2, h1, h2, h3⟩ := h
  have p1 : nI i + 1 = nI (i + 1) := nI_add i 1
  have p2 : nI i + 2 = nI (i + 2) := nI_add i 2
  have p3 : nI i + 3 = nI (i + 3) := nI_add i 3
  have p4 : nI i + 4 = nI (i + 4) := nI_add i 4
  have p5 : nI i + 5 = nI (i + 5) := nI_add i 5
  refine ⟨I2, J2, ?_, h3⟩
  simp only [eL_law_991, eL_law_992, eL_law_993, eL_law_994, eL_law_995, eL_law_996, eL_law_997, eL_law_998, eL_law_999, eL_law_1000, eL_law_1001, eL_law_1002, eL_law_1003, eL_law_1004, eL_law_1005, eL_law_1006, eL_law_1007, eL_law_1008, eL_law_1009, eL_law_1010, eL_law_1011, eL_law_1012, eL_law_1013, eL_law_1014, eL_law_1015, eL_law_1016, eL_law_1017, eL_law_1020, eL_law_1021, eL_law_1022, eL_law_1023, eL_law_1024, eL_law_1025, eL_law_1026, eL_law_1027, eL_law_1028, eL_law_1029, eL_law_1030, eL_law_1031, eL_law_1032, eL_law_1033, eL_law_1034, eL_law_1035, eL_law_1036, eL_law_1037, eL_law_1038, eL_law_1039, eL_law_1040, eL_law_1041, eL_law_1042, eL_law_1043, eL_law_1044, eL_law_1045, eL_law_1046, eL_law_1049, eL_law_1052, eL_law_1053, Option.bind_some, Option.toList_some, Option.toList_none, List.cons_append, List.nil_append, G_c101, G_l101, G_f101, G_o0, G_o55, p1, p2, p3, p4, p5, zIn_m (show i + 1 < L by omega) hL, zc_m (show i + 1 < L by omega) hL, zIn_m (show i + 2 < L by omega) hL, zc_m (show i + 2 < L by omega) hL, zIn_m (show i + 3 < L by omega) hL, zc_m (show i + 3 < L by omega) hL, zIn_m (show i + 4 < L by omega) hL, zc_m (show i + 4 < L by omega) hL, zIn_m (show i + 5 < L by omega) hL, zc_m (show i + 5 < L by omega) hL, h1, h2, if_true]
set_option maxHeartbeats 1000000 in
theorem zl_tell {i : Nat} {I : Nat → Nat → Int32} {J : Nat → Nat → Int64} (hL : L ≤ 384) (hi : i + 5 < L) (h : zOp L xs d 69 148 [.int (xs (i + 1))] I J) : ∃ I' J', zX zCd (zGG L xs) d 154 1054 [.ref zScript, .ref 0, .ref 55, .int (nI i)] [] (I, J) = zX zCd (zGG L xs) d 154 1182 [.ref zScript, .ref 0, .ref 55, .int (nI i)] [] (I', J') ∧ zInv I' := by
  obtain ⟨v, I1, I2, J1, J2, h1, h2, h3⟩ := h
  have p1 : nI i + 1 = nI (i + 1) := nI_add i 1
  refine ⟨I2, J2, ?_, h3⟩
  simp only [eL_law_1054, eL_law_1055, eL_law_1056, eL_law_1057, eL_law_1058, eL_law_1059, eL_law_1060, eL_law_1063, eL_law_1064, eL_law_1065, eL_law_1066, eL_law_1067, eL_law_1068, eL_law_1069, eL_law_1072, eL_law_1075, eL_law_1076, Option.bind_some, Option.toList_some, Option.toList_none, List.cons_append, List.nil_append, G_c101, G_l101, G_f101, G_o0, G_o55, p1, zIn_m (show i + 1 < L by omega) hL, zc_m (show i + 1 < L by omega) hL, h1, h2, if_true]
set_option maxHeartbeats 1000000 in
theorem zl_hum {i : Nat} {I : Nat → Nat → Int32} {J : Nat → Nat → Int64} (hL : L ≤ 384) (hi : i + 5 < L) (h : zOp L xs d 70 149 [.int (xs (i + 1))] I J) : ∃ I' J', zX zCd (zGG L xs) d 154 1077 [.ref zScript, .ref 0, .ref 55, .int (nI i)] [] (I, J) = zX zCd (zGG L xs) d 154 1182 [.ref zScript, .ref 0, .ref 55, .int (nI i)] [] (I', J') ∧ zInv I' := by
  obtain ⟨v, I1, I2, J1, J2, h1, h2, h3⟩ := h
  have p1 : nI i + 1 = nI (i + 1) := nI_add i 1
  refine ⟨I2, J2, ?_, h3⟩
  simp only [eL_law_1077, eL_law_1078, eL_law_1079, eL_law_1080, eL_law_1081, eL_law_1082, eL_law_1083, eL_law_1086, eL_law_1087, eL_law_1088, eL_law_1089, eL_law_1090, eL_law_1091, eL_law_1092, eL_law_1095, eL_law_1098, eL_law_1099, Option.bind_some, Option.toList_some, Option.toList_none, List.cons_append, List.nil_append, G_c101, G_l101, G_f101, G_o0, G_o55, p1, zIn_m (show i + 1 < L by omega) hL, zc_m (show i + 1 < L by omega) hL, h1, h2, if_true]
set_option maxHeartbeats 1000000 in
theorem zl_as {i : Nat} {I : Nat → Nat → Int32} {J : Nat → Nat → Int64} (hL : L ≤ 384) (hi : i + 5 < L) (h : zOp L xs d 71 150 [.int (xs (i + 1)), .int (xs (i + 2))] I J) : ∃ I' J', zX zCd (zGG L xs) d 154 1100 [.ref zScript, .ref 0, .ref 55, .int (nI i)] [] (I, J) = zX zCd (zGG L xs) d 154 1182 [.ref zScript, .ref 0, .ref 55, .int (nI i)] [] (I', J') ∧ zInv I' := by
  obtain ⟨v, I1, I2, J1, J2, h1, h2, h3⟩ := h
  have p1 : nI i + 1 = nI (i + 1) := nI_add i 1
  have p2 : nI i + 2 = nI (i + 2) := nI_add i 2
  refine ⟨I2, J2, ?_, h3⟩
  simp only [eL_law_1100, eL_law_1101, eL_law_1102, eL_law_1103, eL_law_1104, eL_law_1105, eL_law_1106, eL_law_1107, eL_law_1108, eL_law_1109, eL_law_1110, eL_law_1111, eL_law_1114, eL_law_1115, eL_law_1116, eL_law_1117, eL_law_1118, eL_law_1119, eL_law_1120, eL_law_1121, eL_law_1122, eL_law_1123, eL_law_1124, eL_law_1125, eL_law_1128, eL_law_1131, eL_law_1132, Option.bind_some, Option.toList_some, Option.toList_none, List.cons_append, List.nil_append, G_c101, G_l101, G_f101, G_o0, G_o55, p1, p2, zIn_m (show i + 1 < L by omega) hL, zc_m (show i + 1 < L by omega) hL, zIn_m (show i + 2 < L by omega) hL, zc_m (show i + 2 < L by omega) hL, h1, h2, if_true]
set_option maxHeartbeats 1000000 in
theorem zl_trace {i : Nat} {I : Nat → Nat → Int32} {J : Nat → Nat → Int64} (hL : L ≤ 384) (hi : i + 5 < L) (h : zOp L xs d 72 151 [] I J) : ∃ I' J', zX zCd (zGG L xs) d 154 1133 [.ref zScript, .ref 0, .ref 55, .int (nI i)] [] (I, J) = zX zCd (zGG L xs) d 154 1182 [.ref zScript, .ref 0, .ref 55, .int (nI i)] [] (I', J') ∧ zInv I' := by
  obtain ⟨v, I1, I2, J1, J2, h1, h2, h3⟩ := h
  refine ⟨I2, J2, ?_, h3⟩
  simp only [eL_law_1133, eL_law_1134, eL_law_1137, eL_law_1138, eL_law_1141, eL_law_1144, eL_law_1145, Option.bind_some, Option.toList_some, Option.toList_none, List.cons_append, List.nil_append, G_c101, G_l101, G_f101, G_o0, G_o55, h1, h2, if_true]
set_option maxHeartbeats 1000000 in
theorem zl_fault {i : Nat} {I : Nat → Nat → Int32} {J : Nat → Nat → Int64} (hL : L ≤ 384) (hi : i + 5 < L) (h : zOp L xs d 73 152 [] I J) : ∃ I' J', zX zCd (zGG L xs) d 154 1146 [.ref zScript, .ref 0, .ref 55, .int (nI i)] [] (I, J) = zX zCd (zGG L xs) d 154 1182 [.ref zScript, .ref 0, .ref 55, .int (nI i)] [] (I', J') ∧ zInv I' := by
  obtain ⟨v, I1, I2, J1, J2, h1, h2, h3⟩ := h
  refine ⟨I2, J2, ?_, h3⟩
  simp only [eL_law_1146, eL_law_1147, eL_law_1150, eL_law_1151, eL_law_1154, eL_law_1157, eL_law_1158, Option.bind_some, Option.toList_some, Option.toList_none, List.cons_append, List.nil_append, G_c101, G_l101, G_f101, G_o0, G_o55, h1, h2, if_true]
set_option maxHeartbeats 1000000 in
theorem zl_many {i : Nat} {I : Nat → Nat → Int32} {J : Nat → Nat → Int64} (hL : L ≤ 384) (hi : i + 5 < L) (h : zOp L xs d 74 153 [.int (xs (i + 1))] I J) : ∃ I' J', zX zCd (zGG L xs) d 154 1159 [.ref zScript, .ref 0, .ref 55, .int (nI i)] [] (I, J) = zX zCd (zGG L xs) d 154 1182 [.ref zScript, .ref 0, .ref 55, .int (nI i)] [] (I', J') ∧ zInv I' := by
  obtain ⟨v, I1, I2, J1, J2, h1, h2, h3⟩ := h
  have p1 : nI i + 1 = nI (i + 1) := nI_add i 1
  refine ⟨I2, J2, ?_, h3⟩
  simp only [eL_law_1159, eL_law_1160, eL_law_1161, eL_law_1162, eL_law_1163, eL_law_1164, eL_law_1165, eL_law_1168, eL_law_1169, eL_law_1170, eL_law_1171, eL_law_1172, eL_law_1173, eL_law_1174, eL_law_1177, eL_law_1180, eL_law_1181, Option.bind_some, Option.toList_some, Option.toList_none, List.cons_append, List.nil_append, G_c101, G_l101, G_f101, G_o0, G_o55, p1, zIn_m (show i + 1 < L by omega) hL, zc_m (show i + 1 < L by omega) hL, h1, h2, if_true]
def zlT : List (Int32 × Nat) := [(0, 156), (1, 209), (2, 242), (3, 275), (4, 298), (5, 361), (6, 425), (7, 478), (8, 542), (9, 575), (10, 609), (11, 642), (12, 686), (13, 719), (14, 742), (15, 775), (16, 838), (17, 881), (18, 904), (19, 947), (20, 991), (21, 1054), (22, 1077), (23, 1100), (24, 1133), (25, 1146), (26, 1159)]
set_option maxHeartbeats 1000000 in
theorem zl_sw {i : Nat} {I : Nat → Nat → Int32} {J : Nat → Nat → Int64} (hL : L ≤ 384) (hi : i + 5 < L) (hI : zInv I) : ∃ I' J', zX zCd (zGG L xs) (d + 5) 154 (zSw (xs i &&& 31) 1182 zlT) [.ref zScript, .ref 0, .ref 55, .int (nI i)] [] (I, J) = zX zCd (zGG L xs) (d + 5) 154 1182 [.ref zScript, .ref 0, .ref 55, .int (nI i)] [] (I', J') ∧ zInv I' := by
  by_cases c0 : xs i &&& 31 = 0
  · have e : zSw (xs i &&& 31) 1182 zlT = 156 := by rw [c0]; rfl
    rw [e]
    exact zl_piece hL hi (op_piece hI (xs (i + 1)) (xs (i + 2)) (xs (i + 3)) (xs (i + 4)))
  by_cases c1 : xs i &&& 31 = 1
  · have e : zSw (xs i &&& 31) 1182 zlT = 209 := by rw [c1]; rfl
    rw [e]
    exact zl_ofPlace hL hi (op_ofPlace hI (xs (i + 1)) (xs (i + 2)))
  by_cases c2 : xs i &&& 31 = 2
  · have e : zSw (xs i &&& 31) 1182 zlT = 242 := by rw [c2]; rfl
    rw [e]
    exact zl_sure hL hi (op_sure hI (xs (i + 1)) (xs (i + 2)))
  by_cases c3 : xs i &&& 31 = 3
  · have e : zSw (xs i &&& 31) 1182 zlT = 275 := by rw [c3]; rfl
    rw [e]
    exact zl_minutes hL hi (op_minutes hI (xs (i + 1)))
  by_cases c4 : xs i &&& 31 = 4
  · have e : zSw (xs i &&& 31) 1182 zlT = 298 := by rw [c4]; rfl
    rw [e]
    exact zl_plan hL hi (op_plan hI (xs (i + 1)) (xs (i + 2)) (xs (i + 3)) (xs (i + 4)) (xs (i + 5)))
  by_cases c5 : xs i &&& 31 = 5
  · have e : zSw (xs i &&& 31) 1182 zlT = 361 := by rw [c5]; rfl
    rw [e]
    exact zl_right hL hi (op_right hI (xs (i + 1)) (xs (i + 2)) (xs (i + 3)) (xs (i + 4)) (xs (i + 5)))
  by_cases c6 : xs i &&& 31 = 6
  · have e : zSw (xs i &&& 31) 1182 zlT = 425 := by rw [c6]; rfl
    rw [e]
    exact zl_worse hL hi (op_worse hI (xs (i + 1)) (xs (i + 2)) (xs (i + 3)) (xs (i + 4)))
  by_cases c7 : xs i &&& 31 = 7
  · have e : zSw (xs i &&& 31) 1182 zlT = 478 := by rw [c7]; rfl
    rw [e]
    exact zl_worth hL hi (op_worth hI (xs (i + 1)) (xs (i + 2)) (xs (i + 3)) (xs (i + 4)) (xs (i + 5)))
  by_cases c8 : xs i &&& 31 = 8
  · have e : zSw (xs i &&& 31) 1182 zlT = 542 := by rw [c8]; rfl
    rw [e]
    exact zl_best hL hi (op_best hI (xs (i + 1)) (xs (i + 2)))
  by_cases c9 : xs i &&& 31 = 9
  · have e : zSw (xs i &&& 31) 1182 zlT = 575 := by rw [c9]; rfl
    rw [e]
    exact zl_top hL hi (op_top hI (xs (i + 1)) (xs (i + 2)))
  by_cases c10 : xs i &&& 31 = 10
  · have e : zSw (xs i &&& 31) 1182 zlT = 609 := by rw [c10]; rfl
    rw [e]
    exact zl_soonest hL hi (op_soonest hI (xs (i + 1)) (xs (i + 2)))
  by_cases c11 : xs i &&& 31 = 11
  · have e : zSw (xs i &&& 31) 1182 zlT = 642 := by rw [c11]; rfl
    rw [e]
    exact zl_luck hL hi (op_luck hI (xs (i + 1)) (xs (i + 2)) (xs (i + 3)))
  by_cases c12 : xs i &&& 31 = 12
  · have e : zSw (xs i &&& 31) 1182 zlT = 686 := by rw [c12]; rfl
    rw [e]
    exact zl_reading hL hi (op_reading hI (xs (i + 1)) (xs (i + 2)))
  by_cases c13 : xs i &&& 31 = 13
  · have e : zSw (xs i &&& 31) 1182 zlT = 719 := by rw [c13]; rfl
    rw [e]
    exact zl_back hL hi (op_back hI (xs (i + 1)))
  by_cases c14 : xs i &&& 31 = 14
  · have e : zSw (xs i &&& 31) 1182 zlT = 742 := by rw [c14]; rfl
    rw [e]
    exact zl_plans hL hi (op_plans hI (xs (i + 1)) (xs (i + 2)))
  by_cases c15 : xs i &&& 31 = 15
  · have e : zSw (xs i &&& 31) 1182 zlT = 775 := by rw [c15]; rfl
    rw [e]
    exact zl_kinds hL hi (op_kinds hI (xs (i + 1)) (xs (i + 2)) (xs (i + 3)) (xs (i + 4)) (xs (i + 5)))
  by_cases c16 : xs i &&& 31 = 16
  · have e : zSw (xs i &&& 31) 1182 zlT = 838 := by rw [c16]; rfl
    rw [e]
    exact zl_sheet hL hi (op_sheet hI (xs (i + 1)) (xs (i + 2)) (xs (i + 3)))
  by_cases c17 : xs i &&& 31 = 17
  · have e : zSw (xs i &&& 31) 1182 zlT = 881 := by rw [c17]; rfl
    rw [e]
    exact zl_lose hL hi (op_lose hI (xs (i + 1)))
  by_cases c18 : xs i &&& 31 = 18
  · have e : zSw (xs i &&& 31) 1182 zlT = 904 := by rw [c18]; rfl
    rw [e]
    exact zl_put hL hi (op_put hI (xs (i + 1)) (xs (i + 2)) (xs (i + 3)))
  by_cases c19 : xs i &&& 31 = 19
  · have e : zSw (xs i &&& 31) 1182 zlT = 947 := by rw [c19]; rfl
    rw [e]
    exact zl_cell hL hi (op_cell hI (xs (i + 1)) (xs (i + 2)) (xs (i + 3)))
  by_cases c20 : xs i &&& 31 = 20
  · have e : zSw (xs i &&& 31) 1182 zlT = 991 := by rw [c20]; rfl
    rw [e]
    exact zl_copy hL hi (op_copy hI (xs (i + 1)) (xs (i + 2)) (xs (i + 3)) (xs (i + 4)) (xs (i + 5)))
  by_cases c21 : xs i &&& 31 = 21
  · have e : zSw (xs i &&& 31) 1182 zlT = 1054 := by rw [c21]; rfl
    rw [e]
    exact zl_tell hL hi (op_tell hI (xs (i + 1)))
  by_cases c22 : xs i &&& 31 = 22
  · have e : zSw (xs i &&& 31) 1182 zlT = 1077 := by rw [c22]; rfl
    rw [e]
    exact zl_hum hL hi (op_hum hI (xs (i + 1)))
  by_cases c23 : xs i &&& 31 = 23
  · have e : zSw (xs i &&& 31) 1182 zlT = 1100 := by rw [c23]; rfl
    rw [e]
    exact zl_as hL hi (op_as hI (xs (i + 1)) (xs (i + 2)))
  by_cases c24 : xs i &&& 31 = 24
  · have e : zSw (xs i &&& 31) 1182 zlT = 1133 := by rw [c24]; rfl
    rw [e]
    exact zl_trace hL hi (op_trace hI)
  by_cases c25 : xs i &&& 31 = 25
  · have e : zSw (xs i &&& 31) 1182 zlT = 1146 := by rw [c25]; rfl
    rw [e]
    exact zl_fault hL hi (op_fault hI)
  by_cases c26 : xs i &&& 31 = 26
  · have e : zSw (xs i &&& 31) 1182 zlT = 1159 := by rw [c26]; rfl
    rw [e]
    exact zl_many hL hi (op_many hI (xs (i + 1)))
  have e : zSw (xs i &&& 31) 1182 zlT = 1182 := by
    simp only [zlT, zSw, if_neg c0, if_neg c1, if_neg c2, if_neg c3, if_neg c4, if_neg c5, if_neg c6, if_neg c7, if_neg c8, if_neg c9, if_neg c10, if_neg c11, if_neg c12, if_neg c13, if_neg c14, if_neg c15, if_neg c16, if_neg c17, if_neg c18, if_neg c19, if_neg c20, if_neg c21, if_neg c22, if_neg c23, if_neg c24, if_neg c25, if_neg c26]
  rw [e]
  exact ⟨I, J, rfl, hI⟩
set_option maxHeartbeats 1000000 in
theorem zl_lp (hL : L ≤ 384) : ∀ (r i : Nat) (I : Nat → Nat → Int32) (J : Nat → Nat → Int64), L ≤ i + r → i ≤ 1000 → zInv I → ∃ M, zX zCd (zGG L xs) (d + 5) 154 18 [.ref zScript, .ref 0, .ref 55, .int (nI i)] [] (I, J) = some (some (.int 1), M) := by
  intro r
  induction r with
  | zero =>
    intro i I J h hi0 hI
    refine ⟨(I, J), ?_⟩
    rw [eL_law_18]
    have e : (Int32.ofNat L - 6 < nI i) = True := eq_true (zl_gt hL hi0 (by omega))
    simp only [eL_law_19, eL_law_20, eL_law_21, eL_law_23, eL_law_24, G_c101, G_l101, e, if_true, eL_law_1188, eL_law_1189, zT_1]
  | succ r ih =>
    intro i I J h hi0 hI
    by_cases hi : i + 5 < L
    · obtain ⟨I', J', h1, h2⟩ := zl_sw (xs := xs) (d := d) (J := J) hL hi hI
      obtain ⟨M, h3⟩ := ih (i + 6) I' J' (by omega) (by omega) h2
      refine ⟨M, ?_⟩
      rw [eL_law_18]
      have e : (Int32.ofNat L - 6 < nI i) = False := eq_false (zl_le hL hi)
      simp only [eL_law_19, eL_law_20, eL_law_21, eL_law_23, eL_law_24, eL_law_27, eL_law_28, eL_law_29, eL_law_30, eL_law_32, eL_law_33, G_c101, G_l101, G_f101, e, if_false, zIn_m (show i < L by omega) hL, zc_m (show i < L by omega) hL]
      refine h1.trans ?_
      have p6 : nI i + 6 = nI (i + 6) := nI_add i 6
      simp only [eL_law_1182, eL_law_1185, p6]
      exact h3
    · refine ⟨(I, J), ?_⟩
      rw [eL_law_18]
      have e : (Int32.ofNat L - 6 < nI i) = True := eq_true (zl_gt hL hi0 hi)
      simp only [eL_law_19, eL_law_20, eL_law_21, eL_law_23, eL_law_24, G_c101, G_l101, e, if_true, eL_law_1188, eL_law_1189, zT_1]
set_option maxHeartbeats 1000000 in
theorem zl_ret (hL : L ≤ 384) {I : Nat → Nat → Int32} {J : Nat → Nat → Int64} {w : Value} (hI : zInv I) : ∃ M, zX zCd (zGG L xs) (d + 5) 154 16 [.ref zScript, .ref 0, .ref 55, w] [] (I, J) = some (some (.int 1), M) := by
  obtain ⟨M, h⟩ := zl_lp (xs := xs) (d := d) hL L 0 I J (by omega) (by omega) hI
  refine ⟨M, ?_⟩
  simp only [eL_law_16, eL_law_17]
  exact h
end S
