/-! the law: one call after the other -/
theorem a198 {M : Mem} {sc : Scr} : arrV9 sc 198 M = sc := rfl
abbrev lvL (i : Nat) : Lv := [some (.ref 198), some (.ref 0), some (.ref 130), some (.int (nI i))]
def Blk (L : Nat) (xs : Nat → Int32) (i pc : Nat) (M : Mem) : Prop := ∃ M', lim (call 40) (some (L, xs)) 7 cL_law (some .boolean) pc (lvL i) [] M = lim (call 40) (some (L, xs)) 7 cL_law (some .boolean) 1500 (lvL i) [] M' ∧ J M'
section LB
variable {L i : Nat} {xs : Nat → Int32} {M : Mem}
theorem nLi {k : Nat} : nI i + nI k = nI (i + k) := nI_add i k
theorem n3i : nI i + 3 = nI (i + 3) := nI_add i 3
theorem n4i : nI i + 4 = nI (i + 4) := nI_add i 4
theorem n5i : nI i + 5 = nI (i + 5) := nI_add i 5

theorem lB_0 (hi : i + 6 ≤ L) (hL : L ≤ 3072) (j : J M) : Blk L xs i 232 M := by
  obtain ⟨M1, M2, a, c1, c2, j2⟩ := (show Two 40 0 40 134 [.int (xs (i + 1))] M from (X_thing (d := 0) j).up (by decide) (by decide))
  refine ⟨M2, ?_, j2⟩
  simp only [sL_law_232, sL_law_233, sL_law_234, sL_law_235, sL_law_236, sL_law_237, sL_law_238, sL_law_241, sL_law_242, sL_law_243, sL_law_244, sL_law_245, sL_law_246, sL_law_247, sL_law_250, opK_some, guK_true, calK_some, rk_nil, rk_int, rk_ref, tl_some, tl_none, nb_int, nb_0, nb_1, nb_if, nb_if', q0, q130, a198, nI_1, inb_nI (show i + 1 < L by omega) (show L < 2 ^ 31 by omega), nI_clamp (show i + 1 < 2 ^ 31 by omega), c1, c2, if_true]
theorem lB_1 (hi : i + 6 ≤ L) (hL : L ≤ 3072) (j : J M) : Blk L xs i 255 M := by
  obtain ⟨M1, M2, a, c1, c2, j2⟩ := (show Two 40 5 40 140 [.int (xs (i + 1)), .int (xs (i + 2))] M from (X_of (d := 0) j).up (by decide) (by decide))
  refine ⟨M2, ?_, j2⟩
  simp only [sL_law_255, sL_law_256, sL_law_257, sL_law_258, sL_law_259, sL_law_260, sL_law_261, sL_law_262, sL_law_263, sL_law_264, sL_law_265, sL_law_266, sL_law_269, sL_law_270, sL_law_271, sL_law_272, sL_law_273, sL_law_274, sL_law_275, sL_law_276, sL_law_277, sL_law_278, sL_law_279, sL_law_280, sL_law_283, opK_some, guK_true, calK_some, rk_nil, rk_int, rk_ref, tl_some, tl_none, nb_int, nb_0, nb_1, nb_if, nb_if', q0, q130, a198, nI_1, nI_2, inb_nI (show i + 1 < L by omega) (show L < 2 ^ 31 by omega), nI_clamp (show i + 1 < 2 ^ 31 by omega), inb_nI (show i + 2 < L by omega) (show L < 2 ^ 31 by omega), nI_clamp (show i + 2 < 2 ^ 31 by omega), c1, c2, if_true]
theorem lB_2 (hi : i + 6 ≤ L) (hL : L ≤ 3072) (j : J M) : Blk L xs i 288 M := by
  obtain ⟨M1, M2, a, c1, c2, j2⟩ := (show Two 40 9 40 148 [.int (xs (i + 1)), .int (xs (i + 2)), .int (xs (i + 3))] M from (X_change (d := 0) j).up (by decide) (by decide))
  refine ⟨M2, ?_, j2⟩
  simp only [sL_law_288, sL_law_289, sL_law_290, sL_law_291, sL_law_292, sL_law_293, sL_law_294, sL_law_295, sL_law_296, sL_law_297, sL_law_298, sL_law_299, sL_law_300, sL_law_301, sL_law_302, sL_law_303, sL_law_304, sL_law_307, sL_law_308, sL_law_309, sL_law_310, sL_law_311, sL_law_312, sL_law_313, sL_law_314, sL_law_315, sL_law_316, sL_law_317, sL_law_318, sL_law_319, sL_law_320, sL_law_321, sL_law_322, sL_law_323, sL_law_326, opK_some, guK_true, calK_some, rk_nil, rk_int, rk_ref, tl_some, tl_none, nb_int, nb_0, nb_1, nb_if, nb_if', q0, q130, a198, nI_1, nI_2, n3i, inb_nI (show i + 1 < L by omega) (show L < 2 ^ 31 by omega), nI_clamp (show i + 1 < 2 ^ 31 by omega), inb_nI (show i + 2 < L by omega) (show L < 2 ^ 31 by omega), nI_clamp (show i + 2 < 2 ^ 31 by omega), inb_nI (show i + 3 < L by omega) (show L < 2 ^ 31 by omega), nI_clamp (show i + 3 < 2 ^ 31 by omega), c1, c2, if_true]
theorem lB_3 (hi : i + 6 ≤ L) (hL : L ≤ 3072) (j : J M) : Blk L xs i 331 M := by
  obtain ⟨M1, M2, a, c1, c2, j2⟩ := (show Two 40 12 40 150 [.int (xs (i + 1)), .int (xs (i + 2))] M from (X_rule (d := 0) j).up (by decide) (by decide))
  refine ⟨M2, ?_, j2⟩
  simp only [sL_law_331, sL_law_332, sL_law_333, sL_law_334, sL_law_335, sL_law_336, sL_law_337, sL_law_338, sL_law_339, sL_law_340, sL_law_341, sL_law_342, sL_law_345, sL_law_346, sL_law_347, sL_law_348, sL_law_349, sL_law_350, sL_law_351, sL_law_352, sL_law_353, sL_law_354, sL_law_355, sL_law_356, sL_law_359, opK_some, guK_true, calK_some, rk_nil, rk_int, rk_ref, tl_some, tl_none, nb_int, nb_0, nb_1, nb_if, nb_if', q0, q130, a198, nI_1, nI_2, inb_nI (show i + 1 < L by omega) (show L < 2 ^ 31 by omega), nI_clamp (show i + 1 < 2 ^ 31 by omega), inb_nI (show i + 2 < L by omega) (show L < 2 ^ 31 by omega), nI_clamp (show i + 2 < 2 ^ 31 by omega), c1, c2, if_true]
theorem lB_4 (hi : i + 6 ≤ L) (hL : L ≤ 3072) (j : J M) : Blk L xs i 364 M := by
  obtain ⟨M1, M2, a, c1, c2, j2⟩ := (show Two 40 13 40 151 [.int (xs (i + 1))] M from (X_fed (d := 0) j).up (by decide) (by decide))
  refine ⟨M2, ?_, j2⟩
  simp only [sL_law_364, sL_law_365, sL_law_366, sL_law_367, sL_law_368, sL_law_369, sL_law_370, sL_law_373, sL_law_374, sL_law_375, sL_law_376, sL_law_377, sL_law_378, sL_law_379, sL_law_382, opK_some, guK_true, calK_some, rk_nil, rk_int, rk_ref, tl_some, tl_none, nb_int, nb_0, nb_1, nb_if, nb_if', q0, q130, a198, nI_1, inb_nI (show i + 1 < L by omega) (show L < 2 ^ 31 by omega), nI_clamp (show i + 1 < 2 ^ 31 by omega), c1, c2, if_true]
theorem lB_5 (hi : i + 6 ≤ L) (hL : L ≤ 3072) (j : J M) : Blk L xs i 387 M := by
  obtain ⟨M1, M2, a, c1, c2, j2⟩ := (show Two 40 18 40 157 [.int (xs (i + 1))] M from (X_home (d := 0) j).up (by decide) (by decide))
  refine ⟨M2, ?_, j2⟩
  simp only [sL_law_387, sL_law_388, sL_law_389, sL_law_390, sL_law_391, sL_law_392, sL_law_393, sL_law_396, sL_law_397, sL_law_398, sL_law_399, sL_law_400, sL_law_401, sL_law_402, sL_law_405, opK_some, guK_true, calK_some, rk_nil, rk_int, rk_ref, tl_some, tl_none, nb_int, nb_0, nb_1, nb_if, nb_if', q0, q130, a198, nI_1, inb_nI (show i + 1 < L by omega) (show L < 2 ^ 31 by omega), nI_clamp (show i + 1 < 2 ^ 31 by omega), c1, c2, if_true]
theorem lB_6 (hi : i + 6 ≤ L) (hL : L ≤ 3072) (j : J M) : Blk L xs i 410 M := by
  obtain ⟨M1, M2, a, c1, c2, j2⟩ := (show Two 40 21 40 160 [.int (xs (i + 1))] M from (X_crop (d := 0) j).up (by decide) (by decide))
  refine ⟨M2, ?_, j2⟩
  simp only [sL_law_410, sL_law_411, sL_law_412, sL_law_413, sL_law_414, sL_law_415, sL_law_416, sL_law_419, sL_law_420, sL_law_421, sL_law_422, sL_law_423, sL_law_424, sL_law_425, sL_law_428, opK_some, guK_true, calK_some, rk_nil, rk_int, rk_ref, tl_some, tl_none, nb_int, nb_0, nb_1, nb_if, nb_if', q0, q130, a198, nI_1, inb_nI (show i + 1 < L by omega) (show L < 2 ^ 31 by omega), nI_clamp (show i + 1 < 2 ^ 31 by omega), c1, c2, if_true]
theorem lB_7 (hi : i + 6 ≤ L) (hL : L ≤ 3072) (j : J M) : Blk L xs i 433 M := by
  obtain ⟨M1, M2, a, c1, c2, j2⟩ := (show Two 40 22 40 161 [.int (xs (i + 1)), .int (xs (i + 2))] M from (X_egg (d := 0) j).up (by decide) (by decide))
  refine ⟨M2, ?_, j2⟩
  simp only [sL_law_433, sL_law_434, sL_law_435, sL_law_436, sL_law_437, sL_law_438, sL_law_439, sL_law_440, sL_law_441, sL_law_442, sL_law_443, sL_law_444, sL_law_447, sL_law_448, sL_law_449, sL_law_450, sL_law_451, sL_law_452, sL_law_453, sL_law_454, sL_law_455, sL_law_456, sL_law_457, sL_law_458, sL_law_461, opK_some, guK_true, calK_some, rk_nil, rk_int, rk_ref, tl_some, tl_none, nb_int, nb_0, nb_1, nb_if, nb_if', q0, q130, a198, nI_1, nI_2, inb_nI (show i + 1 < L by omega) (show L < 2 ^ 31 by omega), nI_clamp (show i + 1 < 2 ^ 31 by omega), inb_nI (show i + 2 < L by omega) (show L < 2 ^ 31 by omega), nI_clamp (show i + 2 < 2 ^ 31 by omega), c1, c2, if_true]
theorem lB_8 (hi : i + 6 ≤ L) (hL : L ≤ 3072) (j : J M) : Blk L xs i 466 M := by
  obtain ⟨M1, M2, a, c1, c2, j2⟩ := (show Two 40 23 40 162 [.int (xs (i + 1))] M from (X_days (d := 0) j).up (by decide) (by decide))
  refine ⟨M2, ?_, j2⟩
  simp only [sL_law_466, sL_law_467, sL_law_468, sL_law_469, sL_law_470, sL_law_471, sL_law_472, sL_law_475, sL_law_476, sL_law_477, sL_law_478, sL_law_479, sL_law_480, sL_law_481, sL_law_484, opK_some, guK_true, calK_some, rk_nil, rk_int, rk_ref, tl_some, tl_none, nb_int, nb_0, nb_1, nb_if, nb_if', q0, q130, a198, nI_1, inb_nI (show i + 1 < L by omega) (show L < 2 ^ 31 by omega), nI_clamp (show i + 1 < 2 ^ 31 by omega), c1, c2, if_true]
theorem lB_9 (hi : i + 6 ≤ L) (hL : L ≤ 3072) (j : J M) : Blk L xs i 489 M := by
  obtain ⟨M1, M2, a, c1, c2, j2⟩ := (show Two 40 32 40 169 [.int (xs (i + 1))] M from (X_now (d := 0) j).up (by decide) (by decide))
  refine ⟨M2, ?_, j2⟩
  simp only [sL_law_489, sL_law_490, sL_law_491, sL_law_492, sL_law_493, sL_law_494, sL_law_495, sL_law_498, sL_law_499, sL_law_500, sL_law_501, sL_law_502, sL_law_503, sL_law_504, sL_law_507, opK_some, guK_true, calK_some, rk_nil, rk_int, rk_ref, tl_some, tl_none, nb_int, nb_0, nb_1, nb_if, nb_if', q0, q130, a198, nI_1, inb_nI (show i + 1 < L by omega) (show L < 2 ^ 31 by omega), nI_clamp (show i + 1 < 2 ^ 31 by omega), c1, c2, if_true]
theorem lB_10 (hi : i + 6 ≤ L) (hL : L ≤ 3072) (j : J M) : Blk L xs i 512 M := by
  obtain ⟨M1, M2, a, c1, c2, j2⟩ := (show Two 40 33 40 170 [.int (xs (i + 1)), .int (xs (i + 2))] M from (X_ahead (d := 0) j).up (by decide) (by decide))
  refine ⟨M2, ?_, j2⟩
  simp only [sL_law_512, sL_law_513, sL_law_514, sL_law_515, sL_law_516, sL_law_517, sL_law_518, sL_law_519, sL_law_520, sL_law_521, sL_law_522, sL_law_523, sL_law_526, sL_law_527, sL_law_528, sL_law_529, sL_law_530, sL_law_531, sL_law_532, sL_law_533, sL_law_534, sL_law_535, sL_law_536, sL_law_537, sL_law_540, opK_some, guK_true, calK_some, rk_nil, rk_int, rk_ref, tl_some, tl_none, nb_int, nb_0, nb_1, nb_if, nb_if', q0, q130, a198, nI_1, nI_2, inb_nI (show i + 1 < L by omega) (show L < 2 ^ 31 by omega), nI_clamp (show i + 1 < 2 ^ 31 by omega), inb_nI (show i + 2 < L by omega) (show L < 2 ^ 31 by omega), nI_clamp (show i + 2 < 2 ^ 31 by omega), c1, c2, if_true]
theorem lB_11 (hi : i + 6 ≤ L) (hL : L ≤ 3072) (j : J M) : Blk L xs i 545 M := by
  obtain ⟨M1, M2, a, c1, c2, j2⟩ := (show Two 40 37 40 174 [.int (xs (i + 1))] M from (X_when (d := 0) j).up (by decide) (by decide))
  refine ⟨M2, ?_, j2⟩
  simp only [sL_law_545, sL_law_546, sL_law_547, sL_law_548, sL_law_549, sL_law_550, sL_law_551, sL_law_554, sL_law_555, sL_law_556, sL_law_557, sL_law_558, sL_law_559, sL_law_560, sL_law_563, opK_some, guK_true, calK_some, rk_nil, rk_int, rk_ref, tl_some, tl_none, nb_int, nb_0, nb_1, nb_if, nb_if', q0, q130, a198, nI_1, inb_nI (show i + 1 < L by omega) (show L < 2 ^ 31 by omega), nI_clamp (show i + 1 < 2 ^ 31 by omega), c1, c2, if_true]
theorem lB_12 (hi : i + 6 ≤ L) (hL : L ≤ 3072) (j : J M) : Blk L xs i 568 M := by
  obtain ⟨M1, M2, a, c1, c2, j2⟩ := (show Two 40 40 40 178 [.int (xs (i + 1))] M from (X_worth (d := 0) j).up (by decide) (by decide))
  refine ⟨M2, ?_, j2⟩
  simp only [sL_law_568, sL_law_569, sL_law_570, sL_law_571, sL_law_572, sL_law_573, sL_law_574, sL_law_577, sL_law_578, sL_law_579, sL_law_580, sL_law_581, sL_law_582, sL_law_583, sL_law_586, opK_some, guK_true, calK_some, rk_nil, rk_int, rk_ref, tl_some, tl_none, nb_int, nb_0, nb_1, nb_if, nb_if', q0, q130, a198, nI_1, inb_nI (show i + 1 < L by omega) (show L < 2 ^ 31 by omega), nI_clamp (show i + 1 < 2 ^ 31 by omega), c1, c2, if_true]
theorem lB_13 (hi : i + 6 ≤ L) (hL : L ≤ 3072) (j : J M) : Blk L xs i 591 M := by
  obtain ⟨M1, M2, a, c1, c2, j2⟩ := (show Two 40 41 40 179 [] M from (X_spoils (d := 0) j).up (by decide) (by decide))
  refine ⟨M2, ?_, j2⟩
  simp only [sL_law_591, sL_law_592, sL_law_595, sL_law_596, sL_law_599, opK_some, guK_true, calK_some, rk_nil, rk_int, rk_ref, tl_some, tl_none, nb_int, nb_0, nb_1, nb_if, nb_if', q0, q130, a198, c1, c2, if_true]
theorem lB_14 (hi : i + 6 ≤ L) (hL : L ≤ 3072) (j : J M) : Blk L xs i 604 M := by
  obtain ⟨M1, M2, a, c1, c2, j2⟩ := (show Two 40 42 40 180 [.int (xs (i + 1)), .int (xs (i + 2))] M from (X_plan (d := 0) j).up (by decide) (by decide))
  refine ⟨M2, ?_, j2⟩
  simp only [sL_law_604, sL_law_605, sL_law_606, sL_law_607, sL_law_608, sL_law_609, sL_law_610, sL_law_611, sL_law_612, sL_law_613, sL_law_614, sL_law_615, sL_law_618, sL_law_619, sL_law_620, sL_law_621, sL_law_622, sL_law_623, sL_law_624, sL_law_625, sL_law_626, sL_law_627, sL_law_628, sL_law_629, sL_law_632, opK_some, guK_true, calK_some, rk_nil, rk_int, rk_ref, tl_some, tl_none, nb_int, nb_0, nb_1, nb_if, nb_if', q0, q130, a198, nI_1, nI_2, inb_nI (show i + 1 < L by omega) (show L < 2 ^ 31 by omega), nI_clamp (show i + 1 < 2 ^ 31 by omega), inb_nI (show i + 2 < L by omega) (show L < 2 ^ 31 by omega), nI_clamp (show i + 2 < 2 ^ 31 by omega), c1, c2, if_true]
theorem lB_15 (hi : i + 6 ≤ L) (hL : L ≤ 3072) (j : J M) : Blk L xs i 637 M := by
  obtain ⟨M1, M2, a, c1, c2, j2⟩ := (show Two 40 48 40 187 [.int (xs (i + 1)), .int (xs (i + 2))] M from (X_best (d := 0) j).up (by decide) (by decide))
  refine ⟨M2, ?_, j2⟩
  simp only [sL_law_637, sL_law_638, sL_law_639, sL_law_640, sL_law_641, sL_law_642, sL_law_643, sL_law_644, sL_law_645, sL_law_646, sL_law_647, sL_law_648, sL_law_651, sL_law_652, sL_law_653, sL_law_654, sL_law_655, sL_law_656, sL_law_657, sL_law_658, sL_law_659, sL_law_660, sL_law_661, sL_law_662, sL_law_665, opK_some, guK_true, calK_some, rk_nil, rk_int, rk_ref, tl_some, tl_none, nb_int, nb_0, nb_1, nb_if, nb_if', q0, q130, a198, nI_1, nI_2, inb_nI (show i + 1 < L by omega) (show L < 2 ^ 31 by omega), nI_clamp (show i + 1 < 2 ^ 31 by omega), inb_nI (show i + 2 < L by omega) (show L < 2 ^ 31 by omega), nI_clamp (show i + 2 < 2 ^ 31 by omega), c1, c2, if_true]
theorem lB_16 (hi : i + 6 ≤ L) (hL : L ≤ 3072) (j : J M) : Blk L xs i 670 M := by
  obtain ⟨M1, M2, a, c1, c2, j2⟩ := (show Two 40 54 40 192 [.int (xs (i + 1)), .int (xs (i + 2)), .int (xs (i + 3))] M from (X_ith (d := 0) j).up (by decide) (by decide))
  refine ⟨M2, ?_, j2⟩
  simp only [sL_law_670, sL_law_671, sL_law_672, sL_law_673, sL_law_674, sL_law_675, sL_law_676, sL_law_677, sL_law_678, sL_law_679, sL_law_680, sL_law_681, sL_law_682, sL_law_683, sL_law_684, sL_law_685, sL_law_686, sL_law_689, sL_law_690, sL_law_691, sL_law_692, sL_law_693, sL_law_694, sL_law_695, sL_law_696, sL_law_697, sL_law_698, sL_law_699, sL_law_700, sL_law_701, sL_law_702, sL_law_703, sL_law_704, sL_law_705, sL_law_708, opK_some, guK_true, calK_some, rk_nil, rk_int, rk_ref, tl_some, tl_none, nb_int, nb_0, nb_1, nb_if, nb_if', q0, q130, a198, nI_1, nI_2, n3i, inb_nI (show i + 1 < L by omega) (show L < 2 ^ 31 by omega), nI_clamp (show i + 1 < 2 ^ 31 by omega), inb_nI (show i + 2 < L by omega) (show L < 2 ^ 31 by omega), nI_clamp (show i + 2 < 2 ^ 31 by omega), inb_nI (show i + 3 < L by omega) (show L < 2 ^ 31 by omega), nI_clamp (show i + 3 < 2 ^ 31 by omega), c1, c2, if_true]
theorem lB_17 (hi : i + 6 ≤ L) (hL : L ≤ 3072) (j : J M) : Blk L xs i 713 M := by
  obtain ⟨M1, M2, a, c1, c2, j2⟩ := (show Two 40 55 40 193 [.int (xs (i + 1))] M from (X_next (d := 0) j).up (by decide) (by decide))
  refine ⟨M2, ?_, j2⟩
  simp only [sL_law_713, sL_law_714, sL_law_715, sL_law_716, sL_law_717, sL_law_718, sL_law_719, sL_law_722, sL_law_723, sL_law_724, sL_law_725, sL_law_726, sL_law_727, sL_law_728, sL_law_731, opK_some, guK_true, calK_some, rk_nil, rk_int, rk_ref, tl_some, tl_none, nb_int, nb_0, nb_1, nb_if, nb_if', q0, q130, a198, nI_1, inb_nI (show i + 1 < L by omega) (show L < 2 ^ 31 by omega), nI_clamp (show i + 1 < 2 ^ 31 by omega), c1, c2, if_true]
theorem lB_18 (hi : i + 6 ≤ L) (hL : L ≤ 3072) (j : J M) : Blk L xs i 736 M := by
  obtain ⟨M1, M2, a, c1, c2, j2⟩ := (show Two 40 56 40 195 [.int (xs (i + 1))] M from (X_foes (d := 0) j).up (by decide) (by decide))
  refine ⟨M2, ?_, j2⟩
  simp only [sL_law_736, sL_law_737, sL_law_738, sL_law_739, sL_law_740, sL_law_741, sL_law_742, sL_law_745, sL_law_746, sL_law_747, sL_law_748, sL_law_749, sL_law_750, sL_law_751, sL_law_754, opK_some, guK_true, calK_some, rk_nil, rk_int, rk_ref, tl_some, tl_none, nb_int, nb_0, nb_1, nb_if, nb_if', q0, q130, a198, nI_1, inb_nI (show i + 1 < L by omega) (show L < 2 ^ 31 by omega), nI_clamp (show i + 1 < 2 ^ 31 by omega), c1, c2, if_true]
theorem lB_19 (hi : i + 6 ≤ L) (hL : L ≤ 3072) (j : J M) : Blk L xs i 759 M := by
  obtain ⟨M1, M2, a, c1, c2, j2⟩ := (show Two 40 58 40 196 [.int (xs (i + 1)), .int (xs (i + 2))] M from (X_kindFor (d := 0) j).up (by decide) (by decide))
  refine ⟨M2, ?_, j2⟩
  simp only [sL_law_759, sL_law_760, sL_law_761, sL_law_762, sL_law_763, sL_law_764, sL_law_765, sL_law_766, sL_law_767, sL_law_768, sL_law_769, sL_law_770, sL_law_773, sL_law_774, sL_law_775, sL_law_776, sL_law_777, sL_law_778, sL_law_779, sL_law_780, sL_law_781, sL_law_782, sL_law_783, sL_law_784, sL_law_787, opK_some, guK_true, calK_some, rk_nil, rk_int, rk_ref, tl_some, tl_none, nb_int, nb_0, nb_1, nb_if, nb_if', q0, q130, a198, nI_1, nI_2, inb_nI (show i + 1 < L by omega) (show L < 2 ^ 31 by omega), nI_clamp (show i + 1 < 2 ^ 31 by omega), inb_nI (show i + 2 < L by omega) (show L < 2 ^ 31 by omega), nI_clamp (show i + 2 < 2 ^ 31 by omega), c1, c2, if_true]
theorem lB_20 (hi : i + 6 ≤ L) (hL : L ≤ 3072) (j : J M) : Blk L xs i 792 M := by
  obtain ⟨M1, M2, a, c1, c2, j2⟩ := (show Two 40 60 40 198 [.int (xs (i + 1))] M from (X_rid (d := 0) j).up (by decide) (by decide))
  refine ⟨M2, ?_, j2⟩
  simp only [sL_law_792, sL_law_793, sL_law_794, sL_law_795, sL_law_796, sL_law_797, sL_law_798, sL_law_801, sL_law_802, sL_law_803, sL_law_804, sL_law_805, sL_law_806, sL_law_807, sL_law_810, opK_some, guK_true, calK_some, rk_nil, rk_int, rk_ref, tl_some, tl_none, nb_int, nb_0, nb_1, nb_if, nb_if', q0, q130, a198, nI_1, inb_nI (show i + 1 < L by omega) (show L < 2 ^ 31 by omega), nI_clamp (show i + 1 < 2 ^ 31 by omega), c1, c2, if_true]
theorem lB_21 (hi : i + 6 ≤ L) (hL : L ≤ 3072) (j : J M) : Blk L xs i 815 M := by
  obtain ⟨M1, M2, a, c1, c2, j2⟩ := (show Two 40 64 40 199 [.int (xs (i + 1)), .int (xs (i + 2))] M from (X_turns (d := 0) j).up (by decide) (by decide))
  refine ⟨M2, ?_, j2⟩
  simp only [sL_law_815, sL_law_816, sL_law_817, sL_law_818, sL_law_819, sL_law_820, sL_law_821, sL_law_822, sL_law_823, sL_law_824, sL_law_825, sL_law_826, sL_law_829, sL_law_830, sL_law_831, sL_law_832, sL_law_833, sL_law_834, sL_law_835, sL_law_836, sL_law_837, sL_law_838, sL_law_839, sL_law_840, sL_law_843, opK_some, guK_true, calK_some, rk_nil, rk_int, rk_ref, tl_some, tl_none, nb_int, nb_0, nb_1, nb_if, nb_if', q0, q130, a198, nI_1, nI_2, inb_nI (show i + 1 < L by omega) (show L < 2 ^ 31 by omega), nI_clamp (show i + 1 < 2 ^ 31 by omega), inb_nI (show i + 2 < L by omega) (show L < 2 ^ 31 by omega), nI_clamp (show i + 2 < 2 ^ 31 by omega), c1, c2, if_true]
theorem lB_22 (hi : i + 6 ≤ L) (hL : L ≤ 3072) (j : J M) : Blk L xs i 848 M := by
  obtain ⟨M1, M2, a, c1, c2, j2⟩ := (show Two 40 72 40 205 [.int (xs (i + 1)), .int (xs (i + 2))] M from (X_first (d := 0) j).up (by decide) (by decide))
  refine ⟨M2, ?_, j2⟩
  simp only [sL_law_848, sL_law_849, sL_law_850, sL_law_851, sL_law_852, sL_law_853, sL_law_854, sL_law_855, sL_law_856, sL_law_857, sL_law_858, sL_law_859, sL_law_862, sL_law_863, sL_law_864, sL_law_865, sL_law_866, sL_law_867, sL_law_868, sL_law_869, sL_law_870, sL_law_871, sL_law_872, sL_law_873, sL_law_876, opK_some, guK_true, calK_some, rk_nil, rk_int, rk_ref, tl_some, tl_none, nb_int, nb_0, nb_1, nb_if, nb_if', q0, q130, a198, nI_1, nI_2, inb_nI (show i + 1 < L by omega) (show L < 2 ^ 31 by omega), nI_clamp (show i + 1 < 2 ^ 31 by omega), inb_nI (show i + 2 < L by omega) (show L < 2 ^ 31 by omega), nI_clamp (show i + 2 < 2 ^ 31 by omega), c1, c2, if_true]
theorem lB_23 (hi : i + 6 ≤ L) (hL : L ≤ 3072) (j : J M) : Blk L xs i 881 M := by
  obtain ⟨M1, M2, a, c1, c2, j2⟩ := (show Two 40 73 40 206 [.int (xs (i + 1)), .int (xs (i + 2))] M from (X_share (d := 0) j).up (by decide) (by decide))
  refine ⟨M2, ?_, j2⟩
  simp only [sL_law_881, sL_law_882, sL_law_883, sL_law_884, sL_law_885, sL_law_886, sL_law_887, sL_law_888, sL_law_889, sL_law_890, sL_law_891, sL_law_892, sL_law_895, sL_law_896, sL_law_897, sL_law_898, sL_law_899, sL_law_900, sL_law_901, sL_law_902, sL_law_903, sL_law_904, sL_law_905, sL_law_906, sL_law_909, opK_some, guK_true, calK_some, rk_nil, rk_int, rk_ref, tl_some, tl_none, nb_int, nb_0, nb_1, nb_if, nb_if', q0, q130, a198, nI_1, nI_2, inb_nI (show i + 1 < L by omega) (show L < 2 ^ 31 by omega), nI_clamp (show i + 1 < 2 ^ 31 by omega), inb_nI (show i + 2 < L by omega) (show L < 2 ^ 31 by omega), nI_clamp (show i + 2 < 2 ^ 31 by omega), c1, c2, if_true]
theorem lB_24 (hi : i + 6 ≤ L) (hL : L ≤ 3072) (j : J M) : Blk L xs i 914 M := by
  obtain ⟨M1, M2, a, c1, c2, j2⟩ := (show Two 40 74 40 207 [.int (xs (i + 1)), .int (xs (i + 2))] M from (X_fits (d := 0) j).up (by decide) (by decide))
  refine ⟨M2, ?_, j2⟩
  simp only [sL_law_914, sL_law_915, sL_law_916, sL_law_917, sL_law_918, sL_law_919, sL_law_920, sL_law_921, sL_law_922, sL_law_923, sL_law_924, sL_law_925, sL_law_928, sL_law_929, sL_law_930, sL_law_931, sL_law_932, sL_law_933, sL_law_934, sL_law_935, sL_law_936, sL_law_937, sL_law_938, sL_law_939, sL_law_942, opK_some, guK_true, calK_some, rk_nil, rk_int, rk_ref, tl_some, tl_none, nb_int, nb_0, nb_1, nb_if, nb_if', q0, q130, a198, nI_1, nI_2, inb_nI (show i + 1 < L by omega) (show L < 2 ^ 31 by omega), nI_clamp (show i + 1 < 2 ^ 31 by omega), inb_nI (show i + 2 < L by omega) (show L < 2 ^ 31 by omega), nI_clamp (show i + 2 < 2 ^ 31 by omega), c1, c2, if_true]
theorem lB_25 (hi : i + 6 ≤ L) (hL : L ≤ 3072) (j : J M) : Blk L xs i 947 M := by
  obtain ⟨M1, M2, a, c1, c2, j2⟩ := (show Two 40 78 40 210 [.int (xs (i + 1)), .int (xs (i + 2))] M from (X_may (d := 0) j).up (by decide) (by decide))
  refine ⟨M2, ?_, j2⟩
  simp only [sL_law_947, sL_law_948, sL_law_949, sL_law_950, sL_law_951, sL_law_952, sL_law_953, sL_law_954, sL_law_955, sL_law_956, sL_law_957, sL_law_958, sL_law_961, sL_law_962, sL_law_963, sL_law_964, sL_law_965, sL_law_966, sL_law_967, sL_law_968, sL_law_969, sL_law_970, sL_law_971, sL_law_972, sL_law_975, opK_some, guK_true, calK_some, rk_nil, rk_int, rk_ref, tl_some, tl_none, nb_int, nb_0, nb_1, nb_if, nb_if', q0, q130, a198, nI_1, nI_2, inb_nI (show i + 1 < L by omega) (show L < 2 ^ 31 by omega), nI_clamp (show i + 1 < 2 ^ 31 by omega), inb_nI (show i + 2 < L by omega) (show L < 2 ^ 31 by omega), nI_clamp (show i + 2 < 2 ^ 31 by omega), c1, c2, if_true]
theorem lB_26 (hi : i + 6 ≤ L) (hL : L ≤ 3072) (j : J M) : Blk L xs i 980 M := by
  obtain ⟨M1, M2, a, c1, c2, j2⟩ := (show Two 40 79 40 211 [.int (xs (i + 1))] M from (X_laid (d := 0) j).up (by decide) (by decide))
  refine ⟨M2, ?_, j2⟩
  simp only [sL_law_980, sL_law_981, sL_law_982, sL_law_983, sL_law_984, sL_law_985, sL_law_986, sL_law_989, sL_law_990, sL_law_991, sL_law_992, sL_law_993, sL_law_994, sL_law_995, sL_law_998, opK_some, guK_true, calK_some, rk_nil, rk_int, rk_ref, tl_some, tl_none, nb_int, nb_0, nb_1, nb_if, nb_if', q0, q130, a198, nI_1, inb_nI (show i + 1 < L by omega) (show L < 2 ^ 31 by omega), nI_clamp (show i + 1 < 2 ^ 31 by omega), c1, c2, if_true]
theorem lB_27 (hi : i + 6 ≤ L) (hL : L ≤ 3072) (j : J M) : Blk L xs i 1003 M := by
  obtain ⟨M1, M2, a, c1, c2, j2⟩ := (show Two 40 80 40 212 [.int (xs (i + 1))] M from (X_room (d := 0) j).up (by decide) (by decide))
  refine ⟨M2, ?_, j2⟩
  simp only [sL_law_1003, sL_law_1004, sL_law_1005, sL_law_1006, sL_law_1007, sL_law_1008, sL_law_1009, sL_law_1012, sL_law_1013, sL_law_1014, sL_law_1015, sL_law_1016, sL_law_1017, sL_law_1018, sL_law_1021, opK_some, guK_true, calK_some, rk_nil, rk_int, rk_ref, tl_some, tl_none, nb_int, nb_0, nb_1, nb_if, nb_if', q0, q130, a198, nI_1, inb_nI (show i + 1 < L by omega) (show L < 2 ^ 31 by omega), nI_clamp (show i + 1 < 2 ^ 31 by omega), c1, c2, if_true]
theorem lB_28 (hi : i + 6 ≤ L) (hL : L ≤ 3072) (j : J M) : Blk L xs i 1026 M := by
  obtain ⟨M1, M2, a, c1, c2, j2⟩ := (show Two 40 82 40 214 [.int (xs (i + 1))] M from (X_starves (d := 0) j).up (by decide) (by decide))
  refine ⟨M2, ?_, j2⟩
  simp only [sL_law_1026, sL_law_1027, sL_law_1028, sL_law_1029, sL_law_1030, sL_law_1031, sL_law_1032, sL_law_1035, sL_law_1036, sL_law_1037, sL_law_1038, sL_law_1039, sL_law_1040, sL_law_1041, sL_law_1044, opK_some, guK_true, calK_some, rk_nil, rk_int, rk_ref, tl_some, tl_none, nb_int, nb_0, nb_1, nb_if, nb_if', q0, q130, a198, nI_1, inb_nI (show i + 1 < L by omega) (show L < 2 ^ 31 by omega), nI_clamp (show i + 1 < 2 ^ 31 by omega), c1, c2, if_true]
theorem lB_29 (hi : i + 6 ≤ L) (hL : L ≤ 3072) (j : J M) : Blk L xs i 1049 M := by
  obtain ⟨M1, M2, a, c1, c2, j2⟩ := (show Two 40 83 40 215 [.int (xs (i + 1))] M from (X_lent (d := 0) j).up (by decide) (by decide))
  refine ⟨M2, ?_, j2⟩
  simp only [sL_law_1049, sL_law_1050, sL_law_1051, sL_law_1052, sL_law_1053, sL_law_1054, sL_law_1055, sL_law_1058, sL_law_1059, sL_law_1060, sL_law_1061, sL_law_1062, sL_law_1063, sL_law_1064, sL_law_1067, opK_some, guK_true, calK_some, rk_nil, rk_int, rk_ref, tl_some, tl_none, nb_int, nb_0, nb_1, nb_if, nb_if', q0, q130, a198, nI_1, inb_nI (show i + 1 < L by omega) (show L < 2 ^ 31 by omega), nI_clamp (show i + 1 < 2 ^ 31 by omega), c1, c2, if_true]
theorem lB_30 (hi : i + 6 ≤ L) (hL : L ≤ 3072) (j : J M) : Blk L xs i 1072 M := by
  obtain ⟨M1, M2, a, c1, c2, j2⟩ := (show Two 40 85 40 217 [.int (xs (i + 1))] M from (X_seed (d := 0) j).up (by decide) (by decide))
  refine ⟨M2, ?_, j2⟩
  simp only [sL_law_1072, sL_law_1073, sL_law_1074, sL_law_1075, sL_law_1076, sL_law_1077, sL_law_1078, sL_law_1081, sL_law_1082, sL_law_1083, sL_law_1084, sL_law_1085, sL_law_1086, sL_law_1087, sL_law_1090, opK_some, guK_true, calK_some, rk_nil, rk_int, rk_ref, tl_some, tl_none, nb_int, nb_0, nb_1, nb_if, nb_if', q0, q130, a198, nI_1, inb_nI (show i + 1 < L by omega) (show L < 2 ^ 31 by omega), nI_clamp (show i + 1 < 2 ^ 31 by omega), c1, c2, if_true]
theorem lB_31 (hi : i + 6 ≤ L) (hL : L ≤ 3072) (j : J M) : Blk L xs i 1095 M := by
  obtain ⟨M1, M2, a, c1, c2, j2⟩ := (show Two 40 86 40 218 [.int (xs (i + 1)), .int (xs (i + 2))] M from (X_feed (d := 0) j).up (by decide) (by decide))
  refine ⟨M2, ?_, j2⟩
  simp only [sL_law_1095, sL_law_1096, sL_law_1097, sL_law_1098, sL_law_1099, sL_law_1100, sL_law_1101, sL_law_1102, sL_law_1103, sL_law_1104, sL_law_1105, sL_law_1106, sL_law_1109, sL_law_1110, sL_law_1111, sL_law_1112, sL_law_1113, sL_law_1114, sL_law_1115, sL_law_1116, sL_law_1117, sL_law_1118, sL_law_1119, sL_law_1120, sL_law_1123, opK_some, guK_true, calK_some, rk_nil, rk_int, rk_ref, tl_some, tl_none, nb_int, nb_0, nb_1, nb_if, nb_if', q0, q130, a198, nI_1, nI_2, inb_nI (show i + 1 < L by omega) (show L < 2 ^ 31 by omega), nI_clamp (show i + 1 < 2 ^ 31 by omega), inb_nI (show i + 2 < L by omega) (show L < 2 ^ 31 by omega), nI_clamp (show i + 2 < 2 ^ 31 by omega), c1, c2, if_true]
theorem lB_32 (hi : i + 6 ≤ L) (hL : L ≤ 3072) (j : J M) : Blk L xs i 1128 M := by
  obtain ⟨M1, M2, a, c1, c2, j2⟩ := (show Two 40 88 40 219 [] M from (X_wipe (d := 0) j).up (by decide) (by decide))
  refine ⟨M2, ?_, j2⟩
  simp only [sL_law_1128, sL_law_1129, sL_law_1132, sL_law_1133, sL_law_1136, opK_some, guK_true, calK_some, rk_nil, rk_int, rk_ref, tl_some, tl_none, nb_int, nb_0, nb_1, nb_if, nb_if', q0, q130, a198, c1, c2, if_true]
theorem lB_33 (hi : i + 6 ≤ L) (hL : L ≤ 3072) (j : J M) : Blk L xs i 1141 M := by
  obtain ⟨M1, M2, a, c1, c2, j2⟩ := (show Two 40 89 40 220 [] M from (X_text (d := 0) j).up (by decide) (by decide))
  refine ⟨M2, ?_, j2⟩
  simp only [sL_law_1141, sL_law_1142, sL_law_1145, sL_law_1146, sL_law_1149, opK_some, guK_true, calK_some, rk_nil, rk_int, rk_ref, tl_some, tl_none, nb_int, nb_0, nb_1, nb_if, nb_if', q0, q130, a198, c1, c2, if_true]
theorem lB_34 (hi : i + 6 ≤ L) (hL : L ≤ 3072) (j : J M) : Blk L xs i 1154 M := by
  obtain ⟨M1, M2, a, c1, c2, j2⟩ := (show Two 40 113 40 231 [.int (xs (i + 1)), .int (xs (i + 2))] M from (X_hold (d := 0) j).up (by decide) (by decide))
  refine ⟨M2, ?_, j2⟩
  simp only [sL_law_1154, sL_law_1155, sL_law_1156, sL_law_1157, sL_law_1158, sL_law_1159, sL_law_1160, sL_law_1161, sL_law_1162, sL_law_1163, sL_law_1164, sL_law_1165, sL_law_1168, sL_law_1169, sL_law_1170, sL_law_1171, sL_law_1172, sL_law_1173, sL_law_1174, sL_law_1175, sL_law_1176, sL_law_1177, sL_law_1178, sL_law_1179, sL_law_1182, opK_some, guK_true, calK_some, rk_nil, rk_int, rk_ref, tl_some, tl_none, nb_int, nb_0, nb_1, nb_if, nb_if', q0, q130, a198, nI_1, nI_2, inb_nI (show i + 1 < L by omega) (show L < 2 ^ 31 by omega), nI_clamp (show i + 1 < 2 ^ 31 by omega), inb_nI (show i + 2 < L by omega) (show L < 2 ^ 31 by omega), nI_clamp (show i + 2 < 2 ^ 31 by omega), c1, c2, if_true]
theorem lB_35 (hi : i + 6 ≤ L) (hL : L ≤ 3072) (j : J M) : Blk L xs i 1187 M := by
  obtain ⟨M1, M2, a, c1, c2, j2⟩ := (show Two 40 114 40 233 [.int (xs (i + 1)), .int (xs (i + 2))] M from (X_as (d := 0) j).up (by decide) (by decide))
  refine ⟨M2, ?_, j2⟩
  simp only [sL_law_1187, sL_law_1188, sL_law_1189, sL_law_1190, sL_law_1191, sL_law_1192, sL_law_1193, sL_law_1194, sL_law_1195, sL_law_1196, sL_law_1197, sL_law_1198, sL_law_1201, sL_law_1202, sL_law_1203, sL_law_1204, sL_law_1205, sL_law_1206, sL_law_1207, sL_law_1208, sL_law_1209, sL_law_1210, sL_law_1211, sL_law_1212, sL_law_1215, opK_some, guK_true, calK_some, rk_nil, rk_int, rk_ref, tl_some, tl_none, nb_int, nb_0, nb_1, nb_if, nb_if', q0, q130, a198, nI_1, nI_2, inb_nI (show i + 1 < L by omega) (show L < 2 ^ 31 by omega), nI_clamp (show i + 1 < 2 ^ 31 by omega), inb_nI (show i + 2 < L by omega) (show L < 2 ^ 31 by omega), nI_clamp (show i + 2 < 2 ^ 31 by omega), c1, c2, if_true]
theorem lB_36 (hi : i + 6 ≤ L) (hL : L ≤ 3072) (j : J M) : Blk L xs i 1220 M := by
  obtain ⟨M1, M2, a, c1, c2, j2⟩ := (show Two 40 116 40 234 [.int (xs (i + 1)), .int (xs (i + 2)), .int (xs (i + 3))] M from (X_sheet (d := 0) j).up (by decide) (by decide))
  refine ⟨M2, ?_, j2⟩
  simp only [sL_law_1220, sL_law_1221, sL_law_1222, sL_law_1223, sL_law_1224, sL_law_1225, sL_law_1226, sL_law_1227, sL_law_1228, sL_law_1229, sL_law_1230, sL_law_1231, sL_law_1232, sL_law_1233, sL_law_1234, sL_law_1235, sL_law_1236, sL_law_1239, sL_law_1240, sL_law_1241, sL_law_1242, sL_law_1243, sL_law_1244, sL_law_1245, sL_law_1246, sL_law_1247, sL_law_1248, sL_law_1249, sL_law_1250, sL_law_1251, sL_law_1252, sL_law_1253, sL_law_1254, sL_law_1255, sL_law_1258, opK_some, guK_true, calK_some, rk_nil, rk_int, rk_ref, tl_some, tl_none, nb_int, nb_0, nb_1, nb_if, nb_if', q0, q130, a198, nI_1, nI_2, n3i, inb_nI (show i + 1 < L by omega) (show L < 2 ^ 31 by omega), nI_clamp (show i + 1 < 2 ^ 31 by omega), inb_nI (show i + 2 < L by omega) (show L < 2 ^ 31 by omega), nI_clamp (show i + 2 < 2 ^ 31 by omega), inb_nI (show i + 3 < L by omega) (show L < 2 ^ 31 by omega), nI_clamp (show i + 3 < 2 ^ 31 by omega), c1, c2, if_true]
theorem lB_37 (hi : i + 6 ≤ L) (hL : L ≤ 3072) (j : J M) : Blk L xs i 1263 M := by
  obtain ⟨M1, M2, a, c1, c2, j2⟩ := (show Two 40 119 40 236 [.int (xs (i + 1)), .int (xs (i + 2)), .int (xs (i + 3))] M from (X_write (d := 0) j).up (by decide) (by decide))
  refine ⟨M2, ?_, j2⟩
  simp only [sL_law_1263, sL_law_1264, sL_law_1265, sL_law_1266, sL_law_1267, sL_law_1268, sL_law_1269, sL_law_1270, sL_law_1271, sL_law_1272, sL_law_1273, sL_law_1274, sL_law_1275, sL_law_1276, sL_law_1277, sL_law_1278, sL_law_1279, sL_law_1282, sL_law_1283, sL_law_1284, sL_law_1285, sL_law_1286, sL_law_1287, sL_law_1288, sL_law_1289, sL_law_1290, sL_law_1291, sL_law_1292, sL_law_1293, sL_law_1294, sL_law_1295, sL_law_1296, sL_law_1297, sL_law_1298, sL_law_1301, opK_some, guK_true, calK_some, rk_nil, rk_int, rk_ref, tl_some, tl_none, nb_int, nb_0, nb_1, nb_if, nb_if', q0, q130, a198, nI_1, nI_2, n3i, inb_nI (show i + 1 < L by omega) (show L < 2 ^ 31 by omega), nI_clamp (show i + 1 < 2 ^ 31 by omega), inb_nI (show i + 2 < L by omega) (show L < 2 ^ 31 by omega), nI_clamp (show i + 2 < 2 ^ 31 by omega), inb_nI (show i + 3 < L by omega) (show L < 2 ^ 31 by omega), nI_clamp (show i + 3 < 2 ^ 31 by omega), c1, c2, if_true]
theorem lB_38 (hi : i + 6 ≤ L) (hL : L ≤ 3072) (j : J M) : Blk L xs i 1306 M := by
  obtain ⟨M1, M2, a, c1, c2, j2⟩ := (show Two 40 122 40 238 [.int (xs (i + 1)), .int (xs (i + 2)), .int (xs (i + 3)), .int (xs (i + 4)), .int (xs (i + 5))] M from (X_copy (d := 0) j).up (by decide) (by decide))
  refine ⟨M2, ?_, j2⟩
  simp only [sL_law_1306, sL_law_1307, sL_law_1308, sL_law_1309, sL_law_1310, sL_law_1311, sL_law_1312, sL_law_1313, sL_law_1314, sL_law_1315, sL_law_1316, sL_law_1317, sL_law_1318, sL_law_1319, sL_law_1320, sL_law_1321, sL_law_1322, sL_law_1323, sL_law_1324, sL_law_1325, sL_law_1326, sL_law_1327, sL_law_1328, sL_law_1329, sL_law_1330, sL_law_1331, sL_law_1332, sL_law_1335, sL_law_1336, sL_law_1337, sL_law_1338, sL_law_1339, sL_law_1340, sL_law_1341, sL_law_1342, sL_law_1343, sL_law_1344, sL_law_1345, sL_law_1346, sL_law_1347, sL_law_1348, sL_law_1349, sL_law_1350, sL_law_1351, sL_law_1352, sL_law_1353, sL_law_1354, sL_law_1355, sL_law_1356, sL_law_1357, sL_law_1358, sL_law_1359, sL_law_1360, sL_law_1361, sL_law_1364, opK_some, guK_true, calK_some, rk_nil, rk_int, rk_ref, tl_some, tl_none, nb_int, nb_0, nb_1, nb_if, nb_if', q0, q130, a198, nI_1, nI_2, n3i, n4i, n5i, inb_nI (show i + 1 < L by omega) (show L < 2 ^ 31 by omega), nI_clamp (show i + 1 < 2 ^ 31 by omega), inb_nI (show i + 2 < L by omega) (show L < 2 ^ 31 by omega), nI_clamp (show i + 2 < 2 ^ 31 by omega), inb_nI (show i + 3 < L by omega) (show L < 2 ^ 31 by omega), nI_clamp (show i + 3 < 2 ^ 31 by omega), inb_nI (show i + 4 < L by omega) (show L < 2 ^ 31 by omega), nI_clamp (show i + 4 < 2 ^ 31 by omega), inb_nI (show i + 5 < L by omega) (show L < 2 ^ 31 by omega), nI_clamp (show i + 5 < 2 ^ 31 by omega), c1, c2, if_true]
theorem lB_39 (hi : i + 6 ≤ L) (hL : L ≤ 3072) (j : J M) : Blk L xs i 1369 M := by
  obtain ⟨M1, M2, a, c1, c2, j2⟩ := (show Two 40 124 40 239 [.int (xs (i + 1))] M from (X_load (d := 0) j).up (by decide) (by decide))
  refine ⟨M2, ?_, j2⟩
  simp only [sL_law_1369, sL_law_1370, sL_law_1371, sL_law_1372, sL_law_1373, sL_law_1374, sL_law_1375, sL_law_1378, sL_law_1379, sL_law_1380, sL_law_1381, sL_law_1382, sL_law_1383, sL_law_1384, sL_law_1387, opK_some, guK_true, calK_some, rk_nil, rk_int, rk_ref, tl_some, tl_none, nb_int, nb_0, nb_1, nb_if, nb_if', q0, q130, a198, nI_1, inb_nI (show i + 1 < L by omega) (show L < 2 ^ 31 by omega), nI_clamp (show i + 1 < 2 ^ 31 by omega), c1, c2, if_true]
theorem lB_40 (hi : i + 6 ≤ L) (hL : L ≤ 3072) (j : J M) : Blk L xs i 1392 M := by
  obtain ⟨M1, M2, a, c1, c2, j2⟩ := (show Two 40 125 40 240 [.int (xs (i + 1))] M from (X_judge (d := 0) j).up (by decide) (by decide))
  refine ⟨M2, ?_, j2⟩
  simp only [sL_law_1392, sL_law_1393, sL_law_1394, sL_law_1395, sL_law_1396, sL_law_1397, sL_law_1398, sL_law_1401, sL_law_1402, sL_law_1403, sL_law_1404, sL_law_1405, sL_law_1406, sL_law_1407, sL_law_1410, opK_some, guK_true, calK_some, rk_nil, rk_int, rk_ref, tl_some, tl_none, nb_int, nb_0, nb_1, nb_if, nb_if', q0, q130, a198, nI_1, inb_nI (show i + 1 < L by omega) (show L < 2 ^ 31 by omega), nI_clamp (show i + 1 < 2 ^ 31 by omega), c1, c2, if_true]
theorem lB_41 (hi : i + 6 ≤ L) (hL : L ≤ 3072) (j : J M) : Blk L xs i 1415 M := by
  obtain ⟨M1, M2, a, c1, c2, j2⟩ := (show Two 40 126 40 241 [] M from (X_image (d := 0) j).up (by decide) (by decide))
  refine ⟨M2, ?_, j2⟩
  simp only [sL_law_1415, sL_law_1416, sL_law_1419, sL_law_1420, sL_law_1423, opK_some, guK_true, calK_some, rk_nil, rk_int, rk_ref, tl_some, tl_none, nb_int, nb_0, nb_1, nb_if, nb_if', q0, q130, a198, c1, c2, if_true]
theorem lB_42 (hi : i + 6 ≤ L) (hL : L ≤ 3072) (j : J M) : Blk L xs i 1428 M := by
  obtain ⟨M1, M2, a, c1, c2, j2⟩ := (show Two 40 128 40 242 [] M from (X_undo (d := 0) j).up (by decide) (by decide))
  refine ⟨M2, ?_, j2⟩
  simp only [sL_law_1428, sL_law_1429, sL_law_1432, sL_law_1433, sL_law_1436, opK_some, guK_true, calK_some, rk_nil, rk_int, rk_ref, tl_some, tl_none, nb_int, nb_0, nb_1, nb_if, nb_if', q0, q130, a198, c1, c2, if_true]
theorem lB_43 (hi : i + 6 ≤ L) (hL : L ≤ 3072) (j : J M) : Blk L xs i 1441 M := by
  obtain ⟨M1, M2, a, c1, c2, j2⟩ := (show Two 40 129 40 243 [] M from (X_tear (d := 0) j).up (by decide) (by decide))
  refine ⟨M2, ?_, j2⟩
  simp only [sL_law_1441, sL_law_1442, sL_law_1445, sL_law_1446, sL_law_1449, opK_some, guK_true, calK_some, rk_nil, rk_int, rk_ref, tl_some, tl_none, nb_int, nb_0, nb_1, nb_if, nb_if', q0, q130, a198, c1, c2, if_true]
theorem lB_44 (hi : i + 6 ≤ L) (hL : L ≤ 3072) (j : J M) : Blk L xs i 1454 M := by
  obtain ⟨M1, M2, a, c1, c2, j2⟩ := (show Two 40 130 40 244 [.int (xs (i + 1))] M from (X_count (d := 0) j).up (by decide) (by decide))
  refine ⟨M2, ?_, j2⟩
  simp only [sL_law_1454, sL_law_1455, sL_law_1456, sL_law_1457, sL_law_1458, sL_law_1459, sL_law_1460, sL_law_1463, sL_law_1464, sL_law_1465, sL_law_1466, sL_law_1467, sL_law_1468, sL_law_1469, sL_law_1472, opK_some, guK_true, calK_some, rk_nil, rk_int, rk_ref, tl_some, tl_none, nb_int, nb_0, nb_1, nb_if, nb_if', q0, q130, a198, nI_1, inb_nI (show i + 1 < L by omega) (show L < 2 ^ 31 by omega), nI_clamp (show i + 1 < 2 ^ 31 by omega), c1, c2, if_true]
theorem lB_45 (hi : i + 6 ≤ L) (hL : L ≤ 3072) (j : J M) : Blk L xs i 1477 M := by
  obtain ⟨M1, M2, a, c1, c2, j2⟩ := (show Two 40 133 40 245 [.int (xs (i + 1))] M from (X_status (d := 0) j).up (by decide) (by decide))
  refine ⟨M2, ?_, j2⟩
  simp only [sL_law_1477, sL_law_1478, sL_law_1479, sL_law_1480, sL_law_1481, sL_law_1482, sL_law_1483, sL_law_1486, sL_law_1487, sL_law_1488, sL_law_1489, sL_law_1490, sL_law_1491, sL_law_1492, sL_law_1495, opK_some, guK_true, calK_some, rk_nil, rk_int, rk_ref, tl_some, tl_none, nb_int, nb_0, nb_1, nb_if, nb_if', q0, q130, a198, nI_1, inb_nI (show i + 1 < L by omega) (show L < 2 ^ 31 by omega), nI_clamp (show i + 1 < 2 ^ 31 by omega), c1, c2, if_true]
end LB