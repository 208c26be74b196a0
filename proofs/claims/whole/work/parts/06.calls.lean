theorem cl_X0 : vwCl[0]? = some (RX0, TX0, 3) := rfl
theorem cl_X2 : vwCl[1]? = some (RX2, TX2, 5) := rfl
theorem cl_X3 : vwCl[2]? = some (RX3, TX3, 5) := rfl
theorem cl_X4 : vwCl[3]? = some (RX4, TX4, 4) := rfl
theorem cl_X5 : vwCl[4]? = some (RX5, TX5, 4) := rfl
theorem cl_X6 : vwCl[5]? = some (RX6, TX6, 3) := rfl
theorem cl_X7 : vwCl[6]? = some (RX7, TX7, 5) := rfl
theorem cl_X8 : vwCl[7]? = some (RX8, TX8, 8) := rfl
theorem wm_0 {cJ : ClassId} {b : Nat → Nat} {τ : Me} : (wm cJ b τ)[0]? = some (b 0, .inr (7, [.int (τ 0 0), .ref (b 1), .int (τ 0 2), .ref (b 2), .ref (b 3), .ref (b 4), .ref (b 5), .int (τ 0 7)])) := rfl
theorem wm_1 {cJ : ClassId} {b : Nat → Nat} {τ : Me} : (wm cJ b τ)[1]? = some (b 1, .inl (cJ, 200, .inl (τ 1))) := rfl
theorem wm_2 {cJ : ClassId} {b : Nat → Nat} {τ : Me} : (wm cJ b τ)[2]? = some (b 2, .inl (cJ, 25, .inl (τ 2))) := rfl
theorem wm_3 {cJ : ClassId} {b : Nat → Nat} {τ : Me} : (wm cJ b τ)[3]? = some (b 3, .inl (cJ, 25, .inl (τ 3))) := rfl
theorem wm_4 {cJ : ClassId} {b : Nat → Nat} {τ : Me} : (wm cJ b τ)[4]? = some (b 4, .inl (cJ, 112, .inl (τ 4))) := rfl
theorem wm_5 {cJ : ClassId} {b : Nat → Nat} {τ : Me} : (wm cJ b τ)[5]? = some (b 5, .inl (cJ, 672, .inl (τ 5))) := rfl
theorem bp_m4 : (Int8.ofInt (-4)).toInt32 = (-4) := by decide
theorem bp_m3 : (Int8.ofInt (-3)).toInt32 = (-3) := by decide
theorem bp_m2 : (Int8.ofInt (-2)).toInt32 = (-2) := by decide
theorem bp_6 : (Int8.ofInt 6).toInt32 = 6 := by decide
theorem bp_7 : (Int8.ofInt 7).toInt32 = 7 := by decide
theorem bp_8 : (Int8.ofInt 8).toInt32 = 8 := by decide
theorem bp_9 : (Int8.ofInt 9).toInt32 = 9 := by decide
theorem bp_10 : (Int8.ofInt 10).toInt32 = 10 := by decide
theorem bp_11 : (Int8.ofInt 11).toInt32 = 11 := by decide
theorem bp_12 : (Int8.ofInt 12).toInt32 = 12 := by decide
theorem bp_20 : (Int8.ofInt 20).toInt32 = 20 := by decide
theorem bp_22 : (Int8.ofInt 22).toInt32 = 22 := by decide
theorem bp_23 : (Int8.ofInt 23).toInt32 = 23 := by decide
theorem bp_24 : (Int8.ofInt 24).toInt32 = 24 := by decide
theorem bp_25 : (Int8.ofInt 25).toInt32 = 25 := by decide
theorem bp_26 : (Int8.ofInt 26).toInt32 = 26 := by decide
theorem bp_32 : (Int8.ofInt 32).toInt32 = 32 := by decide
theorem bp_40 : (Int8.ofInt 40).toInt32 = 40 := by decide
theorem bp_44 : (Int8.ofInt 44).toInt32 = 44 := by decide
theorem bp_48 : (Int8.ofInt 48).toInt32 = 48 := by decide
theorem bp_57 : (Int8.ofInt 57).toInt32 = 57 := by decide
theorem bp_59 : (Int8.ofInt 59).toInt32 = 59 := by decide
theorem bp_96 : (Int8.ofInt 96).toInt32 = 96 := by decide
theorem bp_97 : (Int8.ofInt 97).toInt32 = 97 := by decide
theorem bp_99 : (Int8.ofInt 99).toInt32 = 99 := by decide
theorem bp_100 : (Int8.ofInt 100).toInt32 = 100 := by decide
theorem bp_111 : (Int8.ofInt 111).toInt32 = 111 := by decide
theorem bp_112 : (Int8.ofInt 112).toInt32 = 112 := by decide
theorem bp_115 : (Int8.ofInt 115).toInt32 = 115 := by decide
theorem bp_122 : (Int8.ofInt 122).toInt32 = 122 := by decide
theorem bp_126 : (Int8.ofInt 126).toInt32 = 126 := by decide
theorem ic_m1 : Int32.ofInt (-1) = (-1) := by decide
theorem ic_0 : Int32.ofInt 0 = 0 := by decide
theorem ic_1 : Int32.ofInt 1 = 1 := by decide
theorem ic_2 : Int32.ofInt 2 = 2 := by decide
theorem ic_3 : Int32.ofInt 3 = 3 := by decide
theorem ic_4 : Int32.ofInt 4 = 4 := by decide
theorem ic_5 : Int32.ofInt 5 = 5 := by decide
theorem lc_0 : Int64.ofNat ((0 : Fin 2) : Nat) = 0 := by decide
theorem lc_1 : Int64.ofNat ((1 : Fin 2) : Nat) = 1 := by decide
theorem sp_200 : (Int16.ofInt 200).toInt32 = 200 := by decide
theorem sp_560 : (Int16.ofInt 560).toInt32 = 560 := by decide
theorem sp_999 : (Int16.ofInt 999).toInt32 = 999 := by decide
theorem sp_1000 : (Int16.ofInt 1000).toInt32 = 1000 := by decide
theorem tnn_22 : (22 : Int32).toNatClampNeg = 22 := by decide
theorem tnn_23 : (23 : Int32).toNatClampNeg = 23 := by decide
theorem tnn_24 : (24 : Int32).toNatClampNeg = 24 := by decide
theorem tnn_111 : (111 : Int32).toNatClampNeg = 111 := by decide
theorem y_X0_clear : yV yX0_clear cX0_clear 1 (Option.none : Option Jvm.ClassFile.FieldType) 0 := ⟨tw_298, tw_299, tw_4, tw_300, by decide, by decide, by decide⟩
theorem y_X0_forgetOldest : yV yX0_forgetOldest cX0_forgetOldest 2 (Option.none : Option Jvm.ClassFile.FieldType) 0 := ⟨tw_371, ts_10, tw_4, tw_372, by decide, by decide, by decide⟩
theorem y_X0_remember : yV yX0_remember cX0_remember 3 (Option.none : Option Jvm.ClassFile.FieldType) 2 := ⟨tw_367, ts_9, tw_4, tw_368, by decide, by decide, by decide⟩
theorem y_X0_rememberRun : yV yX0_rememberRun cX0_rememberRun 3 (Option.none : Option Jvm.ClassFile.FieldType) 2 := ⟨tw_362, tw_363, tw_4, tw_364, by decide, by decide, by decide⟩
theorem y_X0_rememberSpoiled : yV yX0_rememberSpoiled cX0_rememberSpoiled 2 (Option.none : Option Jvm.ClassFile.FieldType) 1 := ⟨tw_416, tw_417, tw_4, tw_418, by decide, by decide, by decide⟩
theorem y_X0_latestShare : yV yX0_latestShare cX0_latestShare 1 (Option.some (Jvm.ClassFile.FieldType.object "NotePress$Share")) 0 := ⟨tw_441, tw_442, tw_4, tw_443, by decide, by decide, by decide⟩
theorem y_X0_latestAmount : yV yX0_latestAmount cX0_latestAmount 1 (Option.some Jvm.ClassFile.FieldType.int) 0 := ⟨tw_445, tw_446, tw_4, tw_447, by decide, by decide, by decide⟩
theorem y_J9_max_7cf53 : yS yJ9_max_7cf53 cJ9_max_7cf53 2 (Option.some Jvm.ClassFile.FieldType.int) 2 := ⟨tw_453, tw_12, tw_454, by decide, by decide, by decide⟩
theorem y_X0_forgetLatest : yV yX0_forgetLatest cX0_forgetLatest 1 (Option.none : Option Jvm.ClassFile.FieldType) 0 := ⟨tw_456, tw_457, tw_4, tw_458, by decide, by decide, by decide⟩
theorem y_J9_floorMod_7cf53 : yS yJ9_floorMod_7cf53 cJ9_floorMod_7cf53 3 (Option.some Jvm.ClassFile.FieldType.int) 2 := ⟨tw_522, tw_12, tw_523, by decide, by decide, by decide⟩
theorem y_X1_make : yS yX1_make cX1_make 3 (Option.some Jvm.ClassFile.FieldType.int) 2 := ⟨tw_534, tw_14, tw_535, by decide, by decide, by decide⟩
theorem y_X7_isFromTo : yS yX7_isFromTo cX7_isFromTo 3 (Option.some Jvm.ClassFile.FieldType.boolean) 3 := ⟨tw_248, tw_1, tw_249, by decide, by decide, by decide⟩
theorem y_X1_turned : yS yX1_turned cX1_turned 4 (Option.some Jvm.ClassFile.FieldType.int) 2 := ⟨tw_528, tw_14, tw_529, by decide, by decide, by decide⟩
theorem y_X1_byTurns : yS yX1_byTurns cX1_byTurns 5 (Option.some Jvm.ClassFile.FieldType.int) 4 := ⟨tw_525, tw_14, tw_526, by decide, by decide, by decide⟩
theorem y_X1_ofFigures : yS yX1_ofFigures cX1_ofFigures 5 (Option.some Jvm.ClassFile.FieldType.int) 5 := ⟨tw_519, tw_14, tw_520, by decide, by decide, by decide⟩
theorem y_X1_ofNumber : yS yX1_ofNumber cX1_ofNumber 3 (Option.some Jvm.ClassFile.FieldType.int) 3 := ⟨tw_516, tw_14, tw_517, by decide, by decide, by decide⟩
theorem y_X1_ofStar : yS yX1_ofStar cX1_ofStar 1 (Option.some Jvm.ClassFile.FieldType.int) 1 := ⟨tw_564, tw_14, tw_565, by decide, by decide, by decide⟩
theorem y_X1_missedFigures : yS yX1_missedFigures cX1_missedFigures 9 (Option.some Jvm.ClassFile.FieldType.int) 3 := ⟨tw_541, tw_14, tw_542, by decide, by decide, by decide⟩
theorem y_X1_missedSwaps : yS yX1_missedSwaps cX1_missedSwaps 8 (Option.some Jvm.ClassFile.FieldType.int) 3 := ⟨tw_544, tw_14, tw_545, by decide, by decide, by decide⟩
theorem y_X2_clear : yV yX2_clear cX2_clear 1 (Option.none : Option Jvm.ClassFile.FieldType) 0 := ⟨tw_224, tw_225, tw_5, tw_226, by decide, by decide, by decide⟩
theorem y_X2_addPress : yV yX2_addPress cX2_addPress 2 (Option.some Jvm.ClassFile.FieldType.boolean) 1 := ⟨tw_251, tw_252, tw_5, tw_253, by decide, by decide, by decide⟩
theorem y_X2_nextSeries : yV yX2_nextSeries cX2_nextSeries 1 (Option.some (Jvm.ClassFile.FieldType.object "NotePress$Series")) 0 := ⟨tw_259, tw_260, tw_5, tw_261, by decide, by decide, by decide⟩
theorem y_X2_keepNextSeries : yV yX2_keepNextSeries cX2_keepNextSeries 1 (Option.none : Option Jvm.ClassFile.FieldType) 0 := ⟨tw_283, tw_284, tw_5, tw_285, by decide, by decide, by decide⟩
theorem y_X2_seriesAt : yV yX2_seriesAt cX2_seriesAt 2 (Option.some (Jvm.ClassFile.FieldType.object "NotePress$Series")) 1 := ⟨tw_348, tw_349, tw_5, tw_350, by decide, by decide, by decide⟩
theorem y_X3_shareAt : yV yX3_shareAt cX3_shareAt 2 (Option.some (Jvm.ClassFile.FieldType.object "NotePress$Share")) 1 := ⟨tw_353, tw_354, tw_6, tw_355, by decide, by decide, by decide⟩
theorem y_X2_shareAt : yV yX2_shareAt cX2_shareAt 4 (Option.some (Jvm.ClassFile.FieldType.object "NotePress$Share")) 2 := ⟨tw_344, tw_345, tw_5, tw_346, by decide, by decide, by decide⟩
theorem y_X2_seriesOfLetter : yV yX2_seriesOfLetter cX2_seriesOfLetter 3 (Option.some Jvm.ClassFile.FieldType.int) 1 := ⟨tw_267, tw_268, tw_5, tw_269, by decide, by decide, by decide⟩
theorem y_X3_notesPrinted : yV yX3_notesPrinted cX3_notesPrinted 3 (Option.some Jvm.ClassFile.FieldType.int) 0 := ⟨tw_465, tw_466, tw_6, tw_467, by decide, by decide, by decide⟩
theorem y_X2_notesPrinted : yV yX2_notesPrinted cX2_notesPrinted 3 (Option.some Jvm.ClassFile.FieldType.int) 0 := ⟨tw_595, tw_596, tw_5, tw_597, by decide, by decide, by decide⟩
theorem y_X3_sheetsRun : yV yX3_sheetsRun cX3_sheetsRun 3 (Option.some Jvm.ClassFile.FieldType.int) 0 := ⟨tw_604, tw_605, tw_6, tw_606, by decide, by decide, by decide⟩
theorem y_X2_sheetsRun : yV yX2_sheetsRun cX2_sheetsRun 3 (Option.some Jvm.ClassFile.FieldType.int) 0 := ⟨tw_600, tw_601, tw_5, tw_602, by decide, by decide, by decide⟩
theorem y_J9_min_7cf53 : yS yJ9_min_7cf53 cJ9_min_7cf53 2 (Option.some Jvm.ClassFile.FieldType.int) 2 := ⟨tw_295, tw_12, tw_296, by decide, by decide, by decide⟩
theorem y_X4_hasNumber : yV yX4_hasNumber cX4_hasNumber 2 (Option.some Jvm.ClassFile.FieldType.boolean) 1 := ⟨tw_391, tw_392, tw_7, tw_393, by decide, by decide, by decide⟩
theorem y_X3_pressOf : yV yX3_pressOf cX3_pressOf 3 (Option.some Jvm.ClassFile.FieldType.int) 1 := ⟨tw_387, tw_388, tw_6, tw_389, by decide, by decide, by decide⟩
theorem y_X4_sheetOf : yV yX4_sheetOf cX4_sheetOf 2 (Option.some Jvm.ClassFile.FieldType.int) 1 := ⟨tw_396, tw_397, tw_7, tw_398, by decide, by decide, by decide⟩
theorem y_X3_isPrinted : yV yX3_isPrinted cX3_isPrinted 3 (Option.some Jvm.ClassFile.FieldType.boolean) 1 := ⟨tw_383, tw_384, tw_6, tw_385, by decide, by decide, by decide⟩
theorem y_X3_isWhole : yV yX3_isWhole cX3_isWhole 4 (Option.some Jvm.ClassFile.FieldType.boolean) 1 := ⟨tw_487, tw_488, tw_6, tw_489, by decide, by decide, by decide⟩
theorem y_X3_packs : yV yX3_packs cX3_packs 1 (Option.some Jvm.ClassFile.FieldType.int) 0 := ⟨tw_478, tw_479, tw_6, tw_480, by decide, by decide, by decide⟩
theorem y_X3_wholePacks : yV yX3_wholePacks cX3_wholePacks 3 (Option.some Jvm.ClassFile.FieldType.int) 0 := ⟨tw_482, tw_483, tw_6, tw_484, by decide, by decide, by decide⟩
theorem y_X2_wholePacks : yV yX2_wholePacks cX2_wholePacks 3 (Option.some Jvm.ClassFile.FieldType.int) 0 := ⟨tw_608, tw_609, tw_5, tw_610, by decide, by decide, by decide⟩
theorem y_X3_begin : yV yX3_begin cX3_begin 3 (Option.none : Option Jvm.ClassFile.FieldType) 2 := ⟨tw_271, tw_272, tw_6, tw_273, by decide, by decide, by decide⟩
theorem y_X4_begin : yV yX4_begin cX4_begin 4 (Option.none : Option Jvm.ClassFile.FieldType) 3 := ⟨tw_279, tw_280, tw_7, tw_281, by decide, by decide, by decide⟩
theorem y_X3_addShare : yV yX3_addShare cX3_addShare 3 (Option.none : Option Jvm.ClassFile.FieldType) 2 := ⟨tw_275, tw_276, tw_6, tw_277, by decide, by decide, by decide⟩
theorem y_X3_hasNumber : yV yX3_hasNumber cX3_hasNumber 2 (Option.some Jvm.ClassFile.FieldType.boolean) 1 := ⟨tw_379, tw_380, tw_6, tw_381, by decide, by decide, by decide⟩
theorem y_X4_sheetsLeft : yV yX4_sheetsLeft cX4_sheetsLeft 1 (Option.some Jvm.ClassFile.FieldType.int) 0 := ⟨tw_358, tw_359, tw_7, tw_360, by decide, by decide, by decide⟩
theorem y_X3_sheetsLeft : yV yX3_sheetsLeft cX3_sheetsLeft 3 (Option.some Jvm.ClassFile.FieldType.int) 0 := ⟨tw_473, tw_474, tw_6, tw_475, by decide, by decide, by decide⟩
theorem y_X4_hasSheet : yV yX4_hasSheet cX4_hasSheet 2 (Option.some Jvm.ClassFile.FieldType.boolean) 1 := ⟨tw_424, tw_425, tw_7, tw_426, by decide, by decide, by decide⟩
theorem y_X4_numberAt : yV yX4_numberAt cX4_numberAt 3 (Option.some Jvm.ClassFile.FieldType.int) 2 := ⟨tw_433, tw_434, tw_7, tw_435, by decide, by decide, by decide⟩
theorem y_X4_placeOf : yV yX4_placeOf cX4_placeOf 2 (Option.some Jvm.ClassFile.FieldType.int) 1 := ⟨tw_504, tw_505, tw_7, tw_506, by decide, by decide, by decide⟩
theorem y_X5_begin : yV yX5_begin cX5_begin 2 (Option.none : Option Jvm.ClassFile.FieldType) 1 := ⟨tw_291, tw_292, tw_3, tw_293, by decide, by decide, by decide⟩
theorem y_X5_left : yV yX5_left cX5_left 1 (Option.some Jvm.ClassFile.FieldType.int) 0 := ⟨tw_408, tw_409, tw_3, tw_410, by decide, by decide, by decide⟩
theorem y_X5_standFor : yV yX5_standFor cX5_standFor 3 (Option.none : Option Jvm.ClassFile.FieldType) 2 := ⟨tw_412, tw_413, tw_3, tw_414, by decide, by decide, by decide⟩
theorem y_X5_takeBack : yV yX5_takeBack cX5_takeBack 2 (Option.none : Option Jvm.ClassFile.FieldType) 1 := ⟨tw_449, tw_450, tw_3, tw_451, by decide, by decide, by decide⟩
theorem y_X5_seriesOf : yV yX5_seriesOf cX5_seriesOf 2 (Option.some Jvm.ClassFile.FieldType.int) 1 := ⟨tw_555, tw_556, tw_3, tw_557, by decide, by decide, by decide⟩
theorem y_X5_numberOf : yV yX5_numberOf cX5_numberOf 2 (Option.some Jvm.ClassFile.FieldType.int) 1 := ⟨tw_560, tw_561, tw_3, tw_562, by decide, by decide, by decide⟩
theorem y_X5_standingFor : yV yX5_standingFor cX5_standingFor 4 (Option.some Jvm.ClassFile.FieldType.int) 2 := ⟨tw_404, tw_405, tw_3, tw_406, by decide, by decide, by decide⟩
theorem y_X5_standsFor : yV yX5_standsFor cX5_standsFor 3 (Option.some Jvm.ClassFile.FieldType.boolean) 2 := ⟨tw_400, tw_401, tw_3, tw_402, by decide, by decide, by decide⟩
theorem y_X5_standingForSeries : yV yX5_standingForSeries cX5_standingForSeries 4 (Option.some Jvm.ClassFile.FieldType.int) 1 := ⟨tw_469, tw_470, tw_3, tw_471, by decide, by decide, by decide⟩
theorem y_X6_append : yV yX6_append cX6_append 2 (Option.some Jvm.ClassFile.FieldType.boolean) 1 := ⟨tw_212, tw_213, tw_2, tw_214, by decide, by decide, by decide⟩
theorem y_X6_clear : yV yX6_clear cX6_clear 1 (Option.none : Option Jvm.ClassFile.FieldType) 0 := ⟨tw_302, tw_303, tw_2, tw_304, by decide, by decide, by decide⟩
theorem y_X6_readFigure : yV yX6_readFigure cX6_readFigure 1 (Option.some Jvm.ClassFile.FieldType.int) 0 := ⟨tw_245, ts_5, tw_2, tw_246, by decide, by decide, by decide⟩
theorem y_X6_readNumber : yV yX6_readNumber cX6_readNumber 3 (Option.some Jvm.ClassFile.FieldType.int) 0 := ⟨tw_241, ts_4, tw_2, tw_242, by decide, by decide, by decide⟩
theorem y_X6_skip : yV yX6_skip cX6_skip 2 (Option.some Jvm.ClassFile.FieldType.boolean) 1 := ⟨tw_233, ts_2, tw_2, tw_234, by decide, by decide, by decide⟩
theorem y_X6_readPress : yV yX6_readPress cX6_readPress 3 (Option.some Jvm.ClassFile.FieldType.boolean) 1 := ⟨tw_237, ts_3, tw_2, tw_238, by decide, by decide, by decide⟩
theorem y_X6_readLetter : yV yX6_readLetter cX6_readLetter 1 (Option.some Jvm.ClassFile.FieldType.int) 0 := ⟨tw_264, ts_7, tw_2, tw_265, by decide, by decide, by decide⟩
theorem y_X6_readSeries : yV yX6_readSeries cX6_readSeries 7 (Option.some Jvm.ClassFile.FieldType.boolean) 1 := ⟨tw_256, ts_6, tw_2, tw_257, by decide, by decide, by decide⟩
theorem y_X6_readStars : yV yX6_readStars cX6_readStars 3 (Option.some Jvm.ClassFile.FieldType.boolean) 1 := ⟨tw_288, ts_8, tw_2, tw_289, by decide, by decide, by decide⟩
theorem y_X6_readItem : yV yX6_readItem cX6_readItem 2 (Option.some Jvm.ClassFile.FieldType.boolean) 1 := ⟨tw_229, ts_1, tw_2, tw_230, by decide, by decide, by decide⟩
theorem y_X6_readInto : yV yX6_readInto cX6_readInto 4 (Option.some Jvm.ClassFile.FieldType.int) 1 := ⟨tw_220, tw_221, tw_2, tw_222, by decide, by decide, by decide⟩
theorem y_X7_write : yV yX7_write cX7_write 2 (Option.some Jvm.ClassFile.FieldType.int) 1 := ⟨tw_323, tw_324, tw_1, tw_325, by decide, by decide, by decide⟩
theorem y_X7_wipe : yV yX7_wipe cX7_wipe 2 (Option.some Jvm.ClassFile.FieldType.int) 0 := ⟨tw_328, tw_329, tw_1, tw_330, by decide, by decide, by decide⟩
theorem y_X7_fault : yV yX7_fault cX7_fault 1 (Option.some Jvm.ClassFile.FieldType.int) 0 := ⟨tw_332, tw_333, tw_1, tw_334, by decide, by decide, by decide⟩
theorem y_X7_layText : yV yX7_layText cX7_layText 2 (Option.some Jvm.ClassFile.FieldType.boolean) 0 := ⟨tw_217, ts_0, tw_1, tw_218, by decide, by decide, by decide⟩
theorem y_X7_lay : yV yX7_lay cX7_lay 1 (Option.some Jvm.ClassFile.FieldType.int) 0 := ⟨tw_336, tw_337, tw_1, tw_338, by decide, by decide, by decide⟩
theorem y_X7_run : yV yX7_run cX7_run 5 (Option.some Jvm.ClassFile.FieldType.int) 3 := ⟨tw_340, tw_341, tw_1, tw_342, by decide, by decide, by decide⟩
theorem y_X7_spoil : yV yX7_spoil cX7_spoil 4 (Option.some Jvm.ClassFile.FieldType.int) 2 := ⟨tw_374, tw_375, tw_1, tw_376, by decide, by decide, by decide⟩
theorem y_X7_unspoiledOfSheet : yV yX7_unspoiledOfSheet cX7_unspoiledOfSheet 6 (Option.some Jvm.ClassFile.FieldType.int) 3 := ⟨tw_430, ts_11, tw_1, tw_431, by decide, by decide, by decide⟩
theorem y_X7_spoilSheet : yV yX7_spoilSheet cX7_spoilSheet 8 (Option.some Jvm.ClassFile.FieldType.int) 3 := ⟨tw_420, tw_421, tw_1, tw_422, by decide, by decide, by decide⟩
theorem y_X7_undo : yV yX7_undo cX7_undo 3 (Option.some Jvm.ClassFile.FieldType.int) 0 := ⟨tw_437, tw_438, tw_1, tw_439, by decide, by decide, by decide⟩
theorem y_X7_series : yV yX7_series cX7_series 4 (Option.some Jvm.ClassFile.FieldType.int) 2 := ⟨tw_461, tw_462, tw_1, tw_463, by decide, by decide, by decide⟩
theorem y_X7_share : yV yX7_share cX7_share 5 (Option.some Jvm.ClassFile.FieldType.int) 3 := ⟨tw_493, tw_494, tw_1, tw_495, by decide, by decide, by decide⟩
theorem y_X7_where : yV yX7_where cX7_where 7 (Option.some Jvm.ClassFile.FieldType.int) 3 := ⟨tw_497, tw_498, tw_1, tw_499, by decide, by decide, by decide⟩
theorem y_X7_number : yV yX7_number cX7_number 6 (Option.some Jvm.ClassFile.FieldType.int) 4 := ⟨tw_508, tw_509, tw_1, tw_510, by decide, by decide, by decide⟩
theorem y_X7_check : yV yX7_check cX7_check 4 (Option.some Jvm.ClassFile.FieldType.int) 2 := ⟨tw_512, tw_513, tw_1, tw_514, by decide, by decide, by decide⟩
theorem y_X7_missed : yV yX7_missed cX7_missed 5 (Option.some Jvm.ClassFile.FieldType.int) 3 := ⟨tw_537, tw_538, tw_1, tw_539, by decide, by decide, by decide⟩
theorem y_X7_note : yV yX7_note cX7_note 4 (Option.some Jvm.ClassFile.FieldType.int) 2 := ⟨tw_547, tw_548, tw_1, tw_549, by decide, by decide, by decide⟩
theorem y_X7_star : yV yX7_star cX7_star 3 (Option.some Jvm.ClassFile.FieldType.int) 2 := ⟨tw_551, tw_552, tw_1, tw_553, by decide, by decide, by decide⟩
theorem y_X7_starOf : yV yX7_starOf cX7_starOf 4 (Option.some Jvm.ClassFile.FieldType.int) 2 := ⟨tw_568, tw_569, tw_1, tw_570, by decide, by decide, by decide⟩
theorem y_X7_judgeNote : yV yX7_judgeNote cX7_judgeNote 6 (Option.some Jvm.ClassFile.FieldType.int) 3 := ⟨tw_582, ts_13, tw_1, tw_583, by decide, by decide, by decide⟩
theorem y_X7_judgeStar : yV yX7_judgeStar cX7_judgeStar 3 (Option.some Jvm.ClassFile.FieldType.int) 2 := ⟨tw_578, ts_12, tw_1, tw_579, by decide, by decide, by decide⟩
theorem y_X7_judge : yV yX7_judge cX7_judge 4 (Option.some Jvm.ClassFile.FieldType.int) 3 := ⟨tw_573, tw_574, tw_1, tw_575, by decide, by decide, by decide⟩
theorem y_X7_pack : yV yX7_pack cX7_pack 7 (Option.some Jvm.ClassFile.FieldType.int) 3 := ⟨tw_586, tw_587, tw_1, tw_588, by decide, by decide, by decide⟩
theorem y_X7_count : yV yX7_count cX7_count 2 (Option.some Jvm.ClassFile.FieldType.int) 1 := ⟨tw_591, tw_592, tw_1, tw_593, by decide, by decide, by decide⟩
theorem y_X8_adds : yV yX8_adds cX8_adds 6 (Option.none : Option Jvm.ClassFile.FieldType) 4 := ⟨tw_620, ts_14, tw_13, tw_621, by decide, by decide, by decide⟩
theorem y_X8_in : yS yX8_in cX8_in 6 (Option.some Jvm.ClassFile.FieldType.boolean) 3 := ⟨tw_654, tw_13, tw_655, by decide, by decide, by decide⟩
theorem y_X8_write : yV yX8_write cX8_write 2 (Option.some Jvm.ClassFile.FieldType.int) 1 := ⟨tw_648, tw_649, tw_13, tw_650, by decide, by decide, by decide⟩
theorem y_X8_wipe : yV yX8_wipe cX8_wipe 2 (Option.some Jvm.ClassFile.FieldType.int) 0 := ⟨tw_657, tw_658, tw_13, tw_659, by decide, by decide, by decide⟩
theorem y_X8_byteAt : yV yX8_byteAt cX8_byteAt 2 (Option.some Jvm.ClassFile.FieldType.int) 1 := ⟨tw_674, ts_17, tw_13, tw_675, by decide, by decide, by decide⟩
theorem y_X8_gone : yV yX8_gone cX8_gone 3 (Option.some Jvm.ClassFile.FieldType.boolean) 1 := ⟨tw_686, ts_19, tw_13, tw_687, by decide, by decide, by decide⟩
theorem y_X8_number2 : yV yX8_number2 cX8_number2 6 (Option.some Jvm.ClassFile.FieldType.boolean) 3 := ⟨tw_670, ts_16, tw_13, tw_671, by decide, by decide, by decide⟩
theorem y_X8_whole : yS yX8_whole cX8_whole 4 (Option.some Jvm.ClassFile.FieldType.int) 2 := ⟨tw_689, tw_13, tw_690, by decide, by decide, by decide⟩
theorem y_X8_seriesItem : yV yX8_seriesItem cX8_seriesItem 5 (Option.some Jvm.ClassFile.FieldType.boolean) 0 := ⟨tw_680, ts_18, tw_13, tw_681, by decide, by decide, by decide⟩
theorem y_X8_item : yV yX8_item cX8_item 2 (Option.some Jvm.ClassFile.FieldType.boolean) 1 := ⟨tw_666, ts_15, tw_13, tw_667, by decide, by decide, by decide⟩
theorem y_X8_fault : yV yX8_fault cX8_fault 2 (Option.some Jvm.ClassFile.FieldType.int) 0 := ⟨tw_661, tw_662, tw_13, tw_663, by decide, by decide, by decide⟩
theorem y_X8_lay : yV yX8_lay cX8_lay 2 (Option.some Jvm.ClassFile.FieldType.int) 0 := ⟨tw_693, tw_694, tw_13, tw_695, by decide, by decide, by decide⟩
theorem y_X8_isSeries : yV yX8_isSeries cX8_isSeries 2 (Option.some Jvm.ClassFile.FieldType.boolean) 1 := ⟨tw_703, ts_20, tw_13, tw_704, by decide, by decide, by decide⟩
theorem y_X8_isPress : yV yX8_isPress cX8_isPress 2 (Option.some Jvm.ClassFile.FieldType.boolean) 1 := ⟨tw_732, ts_22, tw_13, tw_733, by decide, by decide, by decide⟩
theorem y_X8_sheets : yV yX8_sheets cX8_sheets 3 (Option.some Jvm.ClassFile.FieldType.int) 2 := ⟨tw_737, ts_23, tw_13, tw_738, by decide, by decide, by decide⟩
theorem y_X8_isNumber : yV yX8_isNumber cX8_isNumber 3 (Option.some Jvm.ClassFile.FieldType.boolean) 2 := ⟨tw_749, ts_25, tw_13, tw_750, by decide, by decide, by decide⟩
theorem y_X8_first : yV yX8_first cX8_first 5 (Option.some Jvm.ClassFile.FieldType.int) 2 := ⟨tw_765, ts_29, tw_13, tw_766, by decide, by decide, by decide⟩
theorem y_X8_pressOf : yV yX8_pressOf cX8_pressOf 4 (Option.some Jvm.ClassFile.FieldType.int) 2 := ⟨tw_761, ts_28, tw_13, tw_762, by decide, by decide, by decide⟩
theorem y_X8_sheetOf : yV yX8_sheetOf cX8_sheetOf 4 (Option.some Jvm.ClassFile.FieldType.int) 2 := ⟨tw_757, ts_27, tw_13, tw_758, by decide, by decide, by decide⟩
theorem y_X8_isPrinted : yV yX8_isPrinted cX8_isPrinted 3 (Option.some Jvm.ClassFile.FieldType.boolean) 2 := ⟨tw_753, ts_26, tw_13, tw_754, by decide, by decide, by decide⟩
theorem y_X8_starAt : yV yX8_starAt cX8_starAt 4 (Option.some Jvm.ClassFile.FieldType.int) 2 := ⟨tw_769, ts_30, tw_13, tw_770, by decide, by decide, by decide⟩
theorem y_X8_turned : yS yX8_turned cX8_turned 1 (Option.some Jvm.ClassFile.FieldType.int) 1 := ⟨tw_713, tw_13, tw_714, by decide, by decide, by decide⟩
theorem y_X8_make : yS yX8_make cX8_make 3 (Option.some Jvm.ClassFile.FieldType.int) 2 := ⟨tw_716, tw_13, tw_717, by decide, by decide, by decide⟩
theorem y_X8_checkOf : yS yX8_checkOf cX8_checkOf 8 (Option.some Jvm.ClassFile.FieldType.int) 3 := ⟨tw_710, tw_13, tw_711, by decide, by decide, by decide⟩
theorem y_X8_checkIn : yV yX8_checkIn cX8_checkIn 3 (Option.some Jvm.ClassFile.FieldType.int) 2 := ⟨tw_707, ts_21, tw_13, tw_708, by decide, by decide, by decide⟩
theorem y_X8_check : yV yX8_check cX8_check 3 (Option.some Jvm.ClassFile.FieldType.int) 2 := ⟨tw_698, tw_699, tw_13, tw_700, by decide, by decide, by decide⟩
theorem y_X8_missed : yV yX8_missed cX8_missed 9 (Option.some Jvm.ClassFile.FieldType.int) 3 := ⟨tw_719, tw_720, tw_13, tw_721, by decide, by decide, by decide⟩
theorem y_X8_note1 : yV yX8_note1 cX8_note1 2 (Option.none : Option Jvm.ClassFile.FieldType) 0 := ⟨tw_741, ts_24, tw_13, tw_742, by decide, by decide, by decide⟩
theorem y_X8_undo : yV yX8_undo cX8_undo 2 (Option.some Jvm.ClassFile.FieldType.int) 0 := ⟨tw_723, tw_724, tw_13, tw_725, by decide, by decide, by decide⟩
theorem y_X8_run : yV yX8_run cX8_run 4 (Option.some Jvm.ClassFile.FieldType.int) 3 := ⟨tw_727, tw_728, tw_13, tw_729, by decide, by decide, by decide⟩
theorem y_X8_stands : yV yX8_stands cX8_stands 4 (Option.some Jvm.ClassFile.FieldType.int) 2 := ⟨tw_773, ts_31, tw_13, tw_774, by decide, by decide, by decide⟩
theorem y_X8_spoil : yV yX8_spoil cX8_spoil 3 (Option.some Jvm.ClassFile.FieldType.int) 2 := ⟨tw_744, tw_745, tw_13, tw_746, by decide, by decide, by decide⟩
theorem y_X8_numberAt : yV yX8_numberAt cX8_numberAt 5 (Option.some Jvm.ClassFile.FieldType.int) 4 := ⟨tw_781, ts_32, tw_13, tw_782, by decide, by decide, by decide⟩
theorem y_X8_spoilSheet : yV yX8_spoilSheet cX8_spoilSheet 8 (Option.some Jvm.ClassFile.FieldType.int) 3 := ⟨tw_776, tw_777, tw_13, tw_778, by decide, by decide, by decide⟩
theorem y_X8_printed : yV yX8_printed cX8_printed 4 (Option.some Jvm.ClassFile.FieldType.int) 1 := ⟨tw_790, ts_33, tw_13, tw_791, by decide, by decide, by decide⟩
theorem y_X8_spoiled : yV yX8_spoiled cX8_spoiled 4 (Option.some Jvm.ClassFile.FieldType.int) 1 := ⟨tw_794, ts_34, tw_13, tw_795, by decide, by decide, by decide⟩
theorem y_X8_leftOf : yV yX8_leftOf cX8_leftOf 4 (Option.some Jvm.ClassFile.FieldType.int) 1 := ⟨tw_798, ts_35, tw_13, tw_799, by decide, by decide, by decide⟩
theorem y_X8_packs : yV yX8_packs cX8_packs 2 (Option.some Jvm.ClassFile.FieldType.int) 1 := ⟨tw_802, ts_36, tw_13, tw_803, by decide, by decide, by decide⟩
theorem y_X8_isWhole : yV yX8_isWhole cX8_isWhole 4 (Option.some Jvm.ClassFile.FieldType.boolean) 2 := ⟨tw_810, ts_38, tw_13, tw_811, by decide, by decide, by decide⟩
theorem y_X8_wholes : yV yX8_wholes cX8_wholes 4 (Option.some Jvm.ClassFile.FieldType.int) 1 := ⟨tw_806, ts_37, tw_13, tw_807, by decide, by decide, by decide⟩
theorem y_X8_series : yV yX8_series cX8_series 3 (Option.some Jvm.ClassFile.FieldType.int) 2 := ⟨tw_784, tw_785, tw_13, tw_786, by decide, by decide, by decide⟩
theorem y_X8_share : yV yX8_share cX8_share 4 (Option.some Jvm.ClassFile.FieldType.int) 3 := ⟨tw_813, tw_814, tw_13, tw_815, by decide, by decide, by decide⟩
theorem y_X8_where : yV yX8_where cX8_where 5 (Option.some Jvm.ClassFile.FieldType.int) 3 := ⟨tw_818, tw_819, tw_13, tw_820, by decide, by decide, by decide⟩
theorem y_X8_number : yV yX8_number cX8_number 6 (Option.some Jvm.ClassFile.FieldType.int) 4 := ⟨tw_823, tw_824, tw_13, tw_825, by decide, by decide, by decide⟩
theorem y_X8_note : yV yX8_note cX8_note 3 (Option.some Jvm.ClassFile.FieldType.int) 2 := ⟨tw_827, tw_828, tw_13, tw_829, by decide, by decide, by decide⟩
theorem y_X8_star : yV yX8_star cX8_star 3 (Option.some Jvm.ClassFile.FieldType.int) 2 := ⟨tw_831, tw_832, tw_13, tw_833, by decide, by decide, by decide⟩
theorem y_X8_starOf : yV yX8_starOf cX8_starOf 3 (Option.some Jvm.ClassFile.FieldType.int) 2 := ⟨tw_835, tw_836, tw_13, tw_837, by decide, by decide, by decide⟩
theorem y_X8_judgeStar : yV yX8_judgeStar cX8_judgeStar 3 (Option.some Jvm.ClassFile.FieldType.int) 2 := ⟨tw_846, ts_39, tw_13, tw_847, by decide, by decide, by decide⟩
theorem y_X8_judge : yV yX8_judge cX8_judge 5 (Option.some Jvm.ClassFile.FieldType.int) 3 := ⟨tw_839, tw_840, tw_13, tw_841, by decide, by decide, by decide⟩
theorem y_X8_pack : yV yX8_pack cX8_pack 6 (Option.some Jvm.ClassFile.FieldType.int) 3 := ⟨tw_849, tw_850, tw_13, tw_851, by decide, by decide, by decide⟩
theorem y_X8_count : yV yX8_count cX8_count 6 (Option.some Jvm.ClassFile.FieldType.int) 1 := ⟨tw_854, tw_855, tw_13, tw_856, by decide, by decide, by decide⟩
