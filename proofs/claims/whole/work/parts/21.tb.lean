/-! all tables; the links of each class; where the words lie -/
def pt_0 : List pz_Ey := [(pm_0, pr_0), (pm_1, pr_1), (pm_2, pr_2), (pm_3, pr_3), (pm_4, pr_4), (pm_5, pr_5), (pm_6, pr_6), (pm_7, pr_7), (pm_8, pr_8), (pm_9, pr_9), (pm_10, pr_10), (pm_11, pr_11), (pm_12, pr_12), (pm_13, pr_13), (pm_14, pr_14), (pm_15, pr_15)]
def pt_1 : List pz_Ey := [(pm_16, pr_16), (pm_17, pr_17), (pm_18, pr_18), (pm_19, pr_19), (pm_20, pr_20), (pm_21, pr_21), (pm_22, pr_22), (pm_23, pr_23), (pm_24, pr_24), (pm_25, pr_25), (pm_26, pr_26), (pm_27, pr_27), (pm_28, pr_28), (pm_29, pr_29), (pm_30, pr_30), (pm_31, pr_31)]
def pt_2 : List pz_Ey := [(pm_32, pr_32), (pm_33, pr_33), (pm_34, pr_34), (pm_35, pr_35), (pm_36, pr_36), (pm_37, pr_37), (pm_38, pr_38), (pm_39, pr_39), (pm_40, pr_40), (pm_41, pr_41), (pm_42, pr_42), (pm_43, pr_43), (pm_44, pr_44), (pm_45, pr_45), (pm_46, pr_46), (pm_47, pr_47)]
def pt_3 : List pz_Ey := [(pm_48, pr_48), (pm_49, pr_49), (pm_50, pr_50), (pm_51, pr_51), (pm_52, pr_52), (pm_53, pr_53), (pm_54, pr_54), (pm_55, pr_55), (pm_56, pr_56), (pm_57, pr_57), (pm_58, pr_58), (pm_59, pr_59), (pm_60, pr_60), (pm_61, pr_61), (pm_62, pr_62), (pm_63, pr_63)]
def pt_4 : List pz_Ey := [(pm_64, pr_64), (pm_65, pr_65), (pm_66, pr_66), (pm_67, pr_67), (pm_68, pr_68), (pm_69, pr_69), (pm_70, pr_70), (pm_71, pr_71), (pm_72, pr_72), (pm_73, pr_73), (pm_74, pr_74), (pm_75, pr_75), (pm_76, pr_76), (pm_77, pr_77), (pm_78, pr_78), (pm_79, pr_79)]
def pt_5 : List pz_Ey := [(pm_80, pr_80), (pm_81, pr_81), (pm_82, pr_82), (pm_83, pr_83), (pm_84, pr_84), (pm_85, pr_85), (pm_86, pr_86), (pm_87, pr_87), (pm_88, pr_88), (pm_89, pr_89), (pm_90, pr_90), (pm_91, pr_91), (pm_92, pr_92), (pm_93, pr_93), (pm_94, pr_94), (pm_95, pr_95)]
def pt_6 : List pz_Ey := [(pm_96, pr_96), (pm_97, pr_97), (pm_98, pr_98), (pm_99, pr_99), (pm_100, pr_100), (pm_101, pr_101), (pm_102, pr_102), (pm_103, pr_103), (pm_104, pr_104), (pm_105, pr_105), (pm_106, pr_106), (pm_107, pr_107), (pm_108, pr_108), (pm_109, pr_109), (pm_110, pr_110), (pm_111, pr_111)]
def pt_7 : List pz_Ey := [(pm_112, pr_112), (pm_113, pr_113), (pm_114, pr_114), (pm_115, pr_115), (pm_116, pr_116), (pm_117, pr_117), (pm_118, pr_118), (pm_119, pr_119), (pm_120, pr_120), (pm_121, pr_121), (pm_122, pr_122), (pm_123, pr_123), (pm_124, pr_124), (pm_125, pr_125), (pm_126, pr_126), (pm_127, pr_127)]
def pt_8 : List pz_Ey := [(pm_128, pr_128), (pm_129, pr_129), (pm_130, pr_130), (pm_131, pr_131), (pm_132, pr_132), (pm_133, pr_133), (pm_134, pr_134), (pm_135, pr_135), (pm_136, pr_136), (pm_137, pr_137), (pm_138, pr_138), (pm_139, pr_139), (pm_140, pr_140), (pm_141, pr_141), (pm_142, pr_142), (pm_143, pr_143)]
def pt_9 : List pz_Ey := [(pm_144, pr_144), (pm_145, pr_145), (pm_146, pr_146), (pm_147, pr_147), (pm_148, pr_148), (pm_149, pr_149), (pm_150, pr_150), (pm_151, pr_151), (pm_152, pr_152), (pm_153, pr_153), (pm_154, pr_154), (pm_155, pr_155), (pm_156, pr_156), (pm_157, pr_157), (pm_158, pr_158), (pm_159, pr_159)]
def pt_10 : List pz_Ey := [(pm_160, pr_160), (pm_161, pr_161), (pm_162, pr_162), (pm_163, pr_163), (pm_164, pr_164), (pm_165, pr_165), (pm_166, pr_166), (pm_167, pr_167), (pm_168, pr_168), (pm_169, pr_169), (pm_170, pr_170), (pm_171, pr_171), (pm_172, pr_172), (pm_173, pr_173), (pm_174, pr_174), (pm_175, pr_175)]
def pt_11 : List pz_Ey := [(pm_176, pr_176), (pm_177, pr_177), (pm_178, pr_178), (pm_179, pr_179), (pm_180, pr_180), (pm_181, pr_181), (pm_182, pr_182), (pm_183, pr_183), (pm_184, pr_184), (pm_185, pr_185), (pm_186, pr_186), (pm_187, pr_187), (pm_188, pr_188), (pm_189, pr_189), (pm_190, pr_190), (pm_191, pr_191)]
def pt_12 : List pz_Ey := [(pm_192, pr_192), (pm_193, pr_193), (pm_194, pr_194), (pm_195, pr_195), (pm_196, pr_196), (pm_197, pr_197), (pm_198, pr_198), (pm_199, pr_199), (pm_200, pr_200), (pm_201, pr_201), (pm_202, pr_202), (pm_203, pr_203), (pm_204, pr_204), (pm_205, pr_205), (pm_206, pr_206), (pm_207, pr_207)]
def pt_13 : List pz_Ey := [(pm_208, pr_208), (pm_209, pr_209), (pm_210, pr_210), (pm_211, pr_211), (pm_212, pr_212), (pm_213, pr_213), (pm_214, pr_214), (pm_215, pr_215), (pm_216, pr_216), (pm_217, pr_217), (pm_218, pr_218), (pm_219, pr_219), (pm_220, pr_220), (pm_221, pr_221), (pm_222, pr_222), (pm_223, pr_223)]
def pt_14 : List pz_Ey := [(pm_224, pr_224), (pm_225, pr_225), (pm_226, pr_226), (pm_227, pr_227), (pm_228, pr_228), (pm_229, pr_229), (pm_230, pr_230), (pm_231, pr_231), (pm_232, pr_232), (pm_233, pr_233), (pm_234, pr_234), (pm_235, pr_235), (pm_236, pr_236), (pm_237, pr_237), (pm_238, pr_238), (pm_239, pr_239)]
def pt_15 : List pz_Ey := [(pm_240, pr_240), (pm_241, pr_241), (pm_242, pr_242), (pm_243, pr_243), (pm_244, pr_244), (pm_245, pr_245), (pm_246, pr_246), (pm_247, pr_247), (pm_248, pr_248), (pm_249, pr_249), (pm_250, pr_250), (pm_251, pr_251), (pm_252, pr_252), (pm_253, pr_253), (pm_254, pr_254), (pm_255, pr_255)]
def pt_16 : List pz_Ey := [(pm_256, pr_256), (pm_257, pr_257), (pm_258, pr_258), (pm_259, pr_259), (pm_260, pr_260), (pm_261, pr_261), (pm_262, pr_262), (pm_263, pr_263), (pm_264, pr_264), (pm_265, pr_265), (pm_266, pr_266), (pm_267, pr_267), (pm_268, pr_268), (pm_269, pr_269), (pm_270, pr_270), (pm_271, pr_271)]
def pt_17 : List pz_Ey := [(pm_272, pr_272), (pm_273, pr_273), (pm_274, pr_274), (pm_275, pr_275), (pm_276, pr_276), (pm_277, pr_277), (pm_278, pr_278), (pm_279, pr_279), (pm_280, pr_280), (pm_281, pr_281), (pm_282, pr_282), (pm_283, pr_283), (pm_284, pr_284), (pm_285, pr_285), (pm_286, pr_286), (pm_287, pr_287)]
def pt_18 : List pz_Ey := [(pm_288, pr_288), (pm_289, pr_289), (pm_290, pr_290), (pm_291, pr_291), (pm_292, pr_292), (pm_293, pr_293), (pm_294, pr_294), (pm_295, pr_295), (pm_296, pr_296), (pm_297, pr_297), (pm_298, pr_298), (pm_299, pr_299), (pm_300, pr_300), (pm_301, pr_301), (pm_302, pr_302), (pm_303, pr_303)]
def pt_19 : List pz_Ey := [(pm_304, pr_304), (pm_305, pr_305), (pm_306, pr_306), (pm_307, pr_307), (pm_308, pr_308), (pm_309, pr_309), (pm_310, pr_310), (pm_311, pr_311), (pm_312, pr_312), (pm_313, pr_313), (pm_314, pr_314), (pm_315, pr_315), (pm_316, pr_316), (pm_317, pr_317), (pm_318, pr_318), (pm_319, pr_319)]
def pt_20 : List pz_Ey := [(pm_320, pr_320), (pm_321, pr_321), (pm_322, pr_322), (pm_323, pr_323), (pm_324, pr_324), (pm_325, pr_325), (pm_326, pr_326), (pm_327, pr_327), (pm_328, pr_328), (pm_329, pr_329), (pm_330, pr_330), (pm_331, pr_331), (pm_332, pr_332), (pm_333, pr_333), (pm_334, pr_334), (pm_335, pr_335)]
def pt_21 : List pz_Ey := [(pm_336, pr_336), (pm_337, pr_337), (pm_338, pr_338), (pm_339, pr_339), (pm_340, pr_340), (pm_341, pr_341), (pm_342, pr_342), (pm_343, pr_343), (pm_344, pr_344), (pm_345, pr_345), (pm_346, pr_346), (pm_347, pr_347), (pm_348, pr_348), (pm_349, pr_349), (pm_350, pr_350), (pm_351, pr_351)]
def pt_22 : List pz_Ey := [(pm_352, pr_352), (pm_353, pr_353), (pm_354, pr_354), (pm_355, pr_355), (pm_356, pr_356), (pm_357, pr_357), (pm_358, pr_358), (pm_359, pr_359), (pm_360, pr_360), (pm_361, pr_361), (pm_362, pr_362), (pm_363, pr_363), (pm_364, pr_364), (pm_365, pr_365), (pm_366, pr_366), (pm_367, pr_367)]
def pt_23 : List pz_Ey := [(pm_368, pr_368), (pm_369, pr_369), (pm_370, pr_370), (pm_371, pr_371), (pm_372, pr_372), (pm_373, pr_373), (pm_374, pr_374), (pm_375, pr_375), (pm_376, pr_376), (pm_377, pr_377), (pm_378, pr_378), (pm_379, pr_379), (pm_380, pr_380), (pm_381, pr_381), (pm_382, pr_382), (pm_383, pr_383)]
def pt_24 : List pz_Ey := [(pm_384, pr_384), (pm_385, pr_385), (pm_386, pr_386), (pm_387, pr_387), (pm_388, pr_388), (pm_389, pr_389), (pm_390, pr_390), (pm_391, pr_391), (pm_392, pr_392), (pm_393, pr_393), (pm_394, pr_394), (pm_395, pr_395), (pm_396, pr_396), (pm_397, pr_397), (pm_398, pr_398), (pm_399, pr_399)]
def pt_25 : List pz_Ey := [(pm_400, pr_400), (pm_401, pr_401), (pm_402, pr_402), (pm_403, pr_403), (pm_404, pr_404), (pm_405, pr_405), (pm_406, pr_406), (pm_407, pr_407), (pm_408, pr_408), (pm_409, pr_409), (pm_410, pr_410), (pm_411, pr_411), (pm_412, pr_412), (pm_413, pr_413), (pm_414, pr_414), (pm_415, pr_415)]
def pt_26 : List pz_Ey := [(pm_416, pr_416), (pm_417, pr_417), (pm_418, pr_418), (pm_419, pr_419), (pm_420, pr_420), (pm_421, pr_421), (pm_422, pr_422), (pm_423, pr_423), (pm_424, pr_424), (pm_425, pr_425), (pm_426, pr_426), (pm_427, pr_427), (pm_428, pr_428), (pm_429, pr_429), (pm_430, pr_430), (pm_431, pr_431)]
def pt_27 : List pz_Ey := [(pm_432, pr_432), (pm_433, pr_433), (pm_434, pr_434), (pm_435, pr_435), (pm_436, pr_436), (pm_437, pr_437), (pm_438, pr_438), (pm_439, pr_439), (pm_440, pr_440), (pm_441, pr_441), (pm_442, pr_442), (pm_443, pr_443), (pm_444, pr_444), (pm_445, pr_445), (pm_446, pr_446), (pm_447, pr_447)]
def pt_28 : List pz_Ey := [(pm_448, pr_448), (pm_449, pr_449), (pm_450, pr_450), (pm_451, pr_451), (pm_452, pr_452), (pm_453, pr_453), (pm_454, pr_454), (pm_455, pr_455), (pm_456, pr_456), (pm_457, pr_457), (pm_458, pr_458), (pm_459, pr_459), (pm_460, pr_460), (pm_461, pr_461), (pm_462, pr_462), (pm_463, pr_463)]
def pt_29 : List pz_Ey := [(pm_464, pr_464), (pm_465, pr_465), (pm_466, pr_466), (pm_467, pr_467), (pm_468, pr_468), (pm_469, pr_469), (pm_470, pr_470), (pm_471, pr_471), (pm_472, pr_472), (pm_473, pr_473), (pm_474, pr_474), (pm_475, pr_475), (pm_476, pr_476), (pm_477, pr_477), (pm_478, pr_478), (pm_479, pr_479)]
def pt_30 : List pz_Ey := [(pm_480, pr_480), (pm_481, pr_481), (pm_482, pr_482), (pm_483, pr_483), (pm_484, pr_484), (pm_485, pr_485), (pm_486, pr_486), (pm_487, pr_487), (pm_488, pr_488), (pm_489, pr_489), (pm_490, pr_490), (pm_491, pr_491), (pm_492, pr_492), (pm_493, pr_493), (pm_494, pr_494), (pm_495, pr_495)]
def pt_31 : List pz_Ey := [(pm_496, pr_496), (pm_497, pr_497), (pm_498, pr_498), (pm_499, pr_499), (pm_500, pr_500), (pm_501, pr_501), (pm_502, pr_502), (pm_503, pr_503), (pm_504, pr_504), (pm_505, pr_505), (pm_506, pr_506), (pm_507, pr_507), (pm_508, pr_508), (pm_509, pr_509), (pm_510, pr_510), (pm_511, pr_511)]
def pt_32 : List pz_Ey := [(pm_512, pr_512), (pm_513, pr_513), (pm_514, pr_514), (pm_515, pr_515), (pm_516, pr_516), (pm_517, pr_517), (pm_518, pr_518), (pm_519, pr_519), (pm_520, pr_520), (pm_521, pr_521), (pm_522, pr_522), (pm_523, pr_523), (pm_524, pr_524), (pm_525, pr_525), (pm_526, pr_526), (pm_527, pr_527)]
def pt_33 : List pz_Ey := [(pm_528, pr_528), (pm_529, pr_529), (pm_530, pr_530), (pm_531, pr_531), (pm_532, pr_532), (pm_533, pr_533), (pm_534, pr_534), (pm_535, pr_535), (pm_536, pr_536), (pm_537, pr_537), (pm_538, pr_538), (pm_539, pr_539), (pm_540, pr_540), (pm_541, pr_541), (pm_542, pr_542), (pm_543, pr_543)]
def pt_34 : List pz_Ey := [(pm_544, pr_544), (pm_545, pr_545), (pm_546, pr_546), (pm_547, pr_547), (pm_548, pr_548), (pm_549, pr_549), (pm_550, pr_550), (pm_551, pr_551), (pm_552, pr_552), (pm_553, pr_553), (pm_554, pr_554), (pm_555, pr_555), (pm_556, pr_556), (pm_557, pr_557), (pm_558, pr_558), (pm_559, pr_559)]
def pt_35 : List pz_Ey := [(pm_560, pr_560), (pm_561, pr_561), (pm_562, pr_562), (pm_563, pr_563), (pm_564, pr_564), (pm_565, pr_565), (pm_566, pr_566), (pm_567, pr_567), (pm_568, pr_568), (pm_569, pr_569), (pm_570, pr_570), (pm_571, pr_571), (pm_572, pr_572), (pm_573, pr_573), (pm_574, pr_574), (pm_575, pr_575)]
def pt_36 : List pz_Ey := [(pm_576, pr_576), (pm_577, pr_577), (pm_578, pr_578), (pm_579, pr_579), (pm_580, pr_580), (pm_581, pr_581), (pm_582, pr_582), (pm_583, pr_583), (pm_584, pr_584), (pm_585, pr_585), (pm_586, pr_586), (pm_587, pr_587), (pm_588, pr_588), (pm_589, pr_589), (pm_590, pr_590), (pm_591, pr_591)]
def pt_37 : List pz_Ey := [(pm_592, pr_592), (pm_593, pr_593), (pm_594, pr_594), (pm_595, pr_595), (pm_596, pr_596), (pm_597, pr_597), (pm_598, pr_598), (pm_599, pr_599), (pm_600, pr_600), (pm_601, pr_601), (pm_602, pr_602), (pm_603, pr_603), (pm_604, pr_604), (pm_605, pr_605), (pm_606, pr_606), (pm_607, pr_607)]
def pt_38 : List pz_Ey := [(pm_608, pr_608), (pm_609, pr_609), (pm_610, pr_610), (pm_611, pr_611), (pm_612, pr_612), (pm_613, pr_613), (pm_614, pr_614), (pm_615, pr_615), (pm_616, pr_616), (pm_617, pr_617), (pm_618, pr_618), (pm_619, pr_619), (pm_620, pr_620), (pm_621, pr_621), (pm_622, pr_622), (pm_623, pr_623)]
def pt_39 : List pz_Ey := [(pm_624, pr_624), (pm_625, pr_625), (pm_626, pr_626), (pm_627, pr_627), (pm_628, pr_628), (pm_629, pr_629), (pm_630, pr_630), (pm_631, pr_631), (pm_632, pr_632)]
def pz_tb : pz_All := [pt_0, pt_1, pt_2, pt_3, pt_4, pt_5, pt_6, pt_7, pt_8, pt_9, pt_10, pt_11, pt_12, pt_13, pt_14, pt_15, pt_16, pt_17, pt_18, pt_19, pt_20, pt_21, pt_22, pt_23, pt_24, pt_25, pt_26, pt_27, pt_28, pt_29, pt_30, pt_31, pt_32, pt_33, pt_34, pt_35, pt_36, pt_37, pt_38, pt_39]
def pz_Tt : pz_Tb := pz_TT pz_tb
def pz_I : pz_Ib := pz_II pz_tb
theorem wl_m_1 : ∀ w ∈ wsL_law0_r1, w ∈ wsL_law := wl_at0 (k := 0) rfl
theorem wl_m_2 : ∀ w ∈ wsL_law0_r2, w ∈ wsL_law := wl_at0 (k := 1) rfl
theorem wl_m_3 : ∀ w ∈ wsL_law0_r3, w ∈ wsL_law := wl_at0 (k := 2) rfl
theorem wl_m_4 : ∀ w ∈ wsL_law0_r4, w ∈ wsL_law := wl_at0 (k := 3) rfl
theorem wl_m_5 : ∀ w ∈ wsL_law0_r5, w ∈ wsL_law := wl_at0 (k := 4) rfl
theorem wl_m_6 : ∀ w ∈ wsL_law0_r6, w ∈ wsL_law := wl_at0 (k := 5) rfl
theorem wl_m_7 : ∀ w ∈ wsL_law0_r7, w ∈ wsL_law := wl_at0 (k := 6) rfl
theorem wl_m_8 : ∀ w ∈ wsL_law0_r8, w ∈ wsL_law := wl_at0 (k := 7) rfl
theorem wl_m_9 : ∀ w ∈ wsL_law0_r9, w ∈ wsL_law := wl_at0 (k := 8) rfl
theorem wl_m_10 : ∀ w ∈ wsL_law0_r10, w ∈ wsL_law := wl_at0 (k := 9) rfl
theorem wl_m_11 : ∀ w ∈ wsL_law0_r11, w ∈ wsL_law := wl_at0 (k := 10) rfl
theorem wl_m_12 : ∀ w ∈ wsL_law0_r12, w ∈ wsL_law := wl_at0 (k := 11) rfl
theorem wl_m_13 : ∀ w ∈ wsL_law0_r13, w ∈ wsL_law := wl_at0 (k := 12) rfl
theorem wl_m_14 : ∀ w ∈ wsL_law0_r14, w ∈ wsL_law := wl_at0 (k := 13) rfl
theorem wl_m_15 : ∀ w ∈ wsL_law0_r15, w ∈ wsL_law := wl_at0 (k := 14) rfl
theorem wl_m_16 : ∀ w ∈ wsL_law0_r16, w ∈ wsL_law := wl_at0 (k := 15) rfl
theorem wl_m_17 : ∀ w ∈ wsL_law0_r17, w ∈ wsL_law := wl_at0 (k := 16) rfl
theorem wl_m_18 : ∀ w ∈ wsL_law0_r18, w ∈ wsL_law := wl_at0 (k := 17) rfl
theorem wl_m_19 : ∀ w ∈ wsL_law0_r19, w ∈ wsL_law := wl_at0 (k := 18) rfl
theorem wl_m_20 : ∀ w ∈ wsL_law0_r20, w ∈ wsL_law := wl_at0 (k := 19) rfl
theorem wl_m_21 : ∀ w ∈ wsL_law0_r21, w ∈ wsL_law := wl_at0 (k := 20) rfl
theorem wl_m_22 : ∀ w ∈ wsL_law0_r22, w ∈ wsL_law := wl_at0 (k := 21) rfl
theorem wl_m_23 : ∀ w ∈ wsL_law0_r23, w ∈ wsL_law := wl_at0 (k := 22) rfl
theorem wl_m_24 : ∀ w ∈ wsL_law0_r24, w ∈ wsL_law := wl_at0 (k := 23) rfl
theorem wl_m_25 : ∀ w ∈ wsL_law0_r25, w ∈ wsL_law := wl_at0 (k := 24) rfl
theorem wl_m_26 : ∀ w ∈ wsL_law0_r26, w ∈ wsL_law := wl_at0 (k := 25) rfl
theorem wl_m_27 : ∀ w ∈ wsL_law0_r27, w ∈ wsL_law := wl_at0 (k := 26) rfl
theorem wl_m_28 : ∀ w ∈ wsL_law0_r28, w ∈ wsL_law := wl_at0 (k := 27) rfl
theorem wl_m_29 : ∀ w ∈ wsL_law0_r29, w ∈ wsL_law := wl_at0 (k := 28) rfl
theorem wl_m_30 : ∀ w ∈ wsL_law0_r30, w ∈ wsL_law := wl_at0 (k := 29) rfl
theorem wl_m_31 : ∀ w ∈ wsL_law0_r31, w ∈ wsL_law := wl_at0 (k := 30) rfl
theorem wl_m_32 : ∀ w ∈ wsL_law0_r32, w ∈ wsL_law := wl_at0 (k := 31) rfl
theorem wl_m_33 : ∀ w ∈ wsL_law0_r33, w ∈ wsL_law := wl_at0 (k := 32) rfl
theorem wl_m_34 : ∀ w ∈ wsL_law0_r34, w ∈ wsL_law := wl_at0 (k := 33) rfl
theorem wl_m_35 : ∀ w ∈ wsL_law0_r35, w ∈ wsL_law := wl_at0 (k := 34) rfl
theorem wl_m_36 : ∀ w ∈ wsL_law0_r36, w ∈ wsL_law := wl_at0 (k := 35) rfl
theorem wl_m_37 : ∀ w ∈ wsL_law0_r37, w ∈ wsL_law := wl_at0 (k := 36) rfl
theorem wl_m_38 : ∀ w ∈ wsL_law0_r38, w ∈ wsL_law := wl_at0 (k := 37) rfl
theorem wl_m_39 : ∀ w ∈ wsL_law0_r39, w ∈ wsL_law := wl_at0 (k := 38) rfl
theorem wl_m_40 : ∀ w ∈ wsL_law0_r40, w ∈ wsL_law := wl_at0 (k := 39) rfl
theorem wl_m_41 : ∀ w ∈ wsL_law0_r41, w ∈ wsL_law := wl_at0 (k := 40) rfl
theorem wl_m_42 : ∀ w ∈ wsL_law0_r42, w ∈ wsL_law := wl_at0 (k := 41) rfl
theorem wl_m_43 : ∀ w ∈ wsL_law0_r43, w ∈ wsL_law := wl_at0 (k := 42) rfl
theorem wl_m_44 : ∀ w ∈ wsL_law0_r44, w ∈ wsL_law := wl_at0 (k := 43) rfl
theorem wl_m_45 : ∀ w ∈ wsL_law0_r45, w ∈ wsL_law := wl_at0 (k := 44) rfl
theorem wl_m_46 : ∀ w ∈ wsL_law0_r46, w ∈ wsL_law := wl_at0 (k := 45) rfl
theorem wl_m_47 : ∀ w ∈ wsL_law0_r47, w ∈ wsL_law := wl_at0 (k := 46) rfl
theorem wl_m_48 : ∀ w ∈ wsL_law0_r48, w ∈ wsL_law := wl_at0 (k := 47) rfl
theorem wl_m_49 : ∀ w ∈ wsL_law0_r49, w ∈ wsL_law := wl_at0 (k := 48) rfl
theorem wl_m_50 : ∀ w ∈ wsL_law0_r50, w ∈ wsL_law := wl_at0 (k := 49) rfl
theorem wl_m_51 : ∀ w ∈ wsL_law0_r51, w ∈ wsL_law := wl_at0 (k := 50) rfl
theorem wl_m_52 : ∀ w ∈ wsL_law0_r52, w ∈ wsL_law := wl_at0 (k := 51) rfl
theorem wl_m_53 : ∀ w ∈ wsL_law0_r53, w ∈ wsL_law := wl_at0 (k := 52) rfl
theorem wl_m_54 : ∀ w ∈ wsL_law0_r54, w ∈ wsL_law := wl_at0 (k := 53) rfl
theorem wl_m_55 : ∀ w ∈ wsL_law0_r55, w ∈ wsL_law := wl_at0 (k := 54) rfl
theorem wl_m_56 : ∀ w ∈ wsL_law0_r56, w ∈ wsL_law := wl_at0 (k := 55) rfl
theorem wl_m_57 : ∀ w ∈ wsL_law0_r57, w ∈ wsL_law := wl_at0 (k := 56) rfl
theorem wl_m_58 : ∀ w ∈ wsL_law0_r58, w ∈ wsL_law := wl_at0 (k := 57) rfl
theorem wl_m_59 : ∀ w ∈ wsL_law0_r59, w ∈ wsL_law := wl_at0 (k := 58) rfl
theorem wl_m_60 : ∀ w ∈ wsL_law0_r60, w ∈ wsL_law := wl_at0 (k := 59) rfl
theorem wl_m_61 : ∀ w ∈ wsL_law0_r61, w ∈ wsL_law := wl_at0 (k := 60) rfl
theorem wl_m_62 : ∀ w ∈ wsL_law0_r62, w ∈ wsL_law := wl_at0 (k := 61) rfl
theorem wl_m_63 : ∀ w ∈ wsL_law0_r63, w ∈ wsL_law := wl_at0 (k := 62) rfl
theorem wl_m_64 : ∀ w ∈ wsL_law0_r64, w ∈ wsL_law := wl_at0 (k := 63) rfl
theorem wl_m_65 : ∀ w ∈ wsL_law0_r65, w ∈ wsL_law := wl_at0 (k := 64) rfl
theorem wl_m_66 : ∀ w ∈ wsL_law0_r66, w ∈ wsL_law := wl_at0 (k := 65) rfl
theorem wl_m_67 : ∀ w ∈ wsL_law0_r67, w ∈ wsL_law := wl_at0 (k := 66) rfl
theorem wl_m_68 : ∀ w ∈ wsL_law0_r68, w ∈ wsL_law := wl_at0 (k := 67) rfl
theorem wl_m_69 : ∀ w ∈ wsL_law0_r69, w ∈ wsL_law := wl_at0 (k := 68) rfl
theorem wl_m_70 : ∀ w ∈ wsL_law0_r70, w ∈ wsL_law := wl_at0 (k := 69) rfl
theorem wl_m_71 : ∀ w ∈ wsL_law0_r71, w ∈ wsL_law := wl_at0 (k := 70) rfl
theorem wl_m_72 : ∀ w ∈ wsL_law0_r72, w ∈ wsL_law := wl_at0 (k := 71) rfl
theorem wl_m_73 : ∀ w ∈ wsL_law0_r73, w ∈ wsL_law := wl_at0 (k := 72) rfl
theorem wl_m_74 : ∀ w ∈ wsL_law0_r74, w ∈ wsL_law := wl_at0 (k := 73) rfl
theorem wl_m_75 : ∀ w ∈ wsL_law0_r75, w ∈ wsL_law := wl_at0 (k := 74) rfl
theorem wl_m_76 : ∀ w ∈ wsL_law0_r76, w ∈ wsL_law := wl_at0 (k := 75) rfl
theorem wl_m_77 : ∀ w ∈ wsL_law0_r77, w ∈ wsL_law := wl_at0 (k := 76) rfl
theorem wl_m_78 : ∀ w ∈ wsL_law0_r78, w ∈ wsL_law := wl_at0 (k := 77) rfl
theorem wl_m_79 : ∀ w ∈ wsL_law0_r79, w ∈ wsL_law := wl_at0 (k := 78) rfl
theorem wl_m_80 : ∀ w ∈ wsL_law0_r80, w ∈ wsL_law := wl_at0 (k := 79) rfl
theorem wl_m_81 : ∀ w ∈ wsL_law0_r81, w ∈ wsL_law := wl_at0 (k := 80) rfl
theorem wl_m_82 : ∀ w ∈ wsL_law0_r82, w ∈ wsL_law := wl_at0 (k := 81) rfl
theorem wl_m_83 : ∀ w ∈ wsL_law0_r83, w ∈ wsL_law := wl_at0 (k := 82) rfl
theorem wl_m_84 : ∀ w ∈ wsL_law0_r84, w ∈ wsL_law := wl_at0 (k := 83) rfl
theorem wl_m_85 : ∀ w ∈ wsL_law0_r85, w ∈ wsL_law := wl_at0 (k := 84) rfl
theorem wl_m_86 : ∀ w ∈ wsL_law0_r86, w ∈ wsL_law := wl_at0 (k := 85) rfl
theorem wl_m_87 : ∀ w ∈ wsL_law0_r87, w ∈ wsL_law := wl_at0 (k := 86) rfl
theorem wl_m_88 : ∀ w ∈ wsL_law0_r88, w ∈ wsL_law := wl_at0 (k := 87) rfl
theorem wl_m_89 : ∀ w ∈ wsL_law0_r89, w ∈ wsL_law := wl_at0 (k := 88) rfl
theorem wl_m_90 : ∀ w ∈ wsL_law0_r90, w ∈ wsL_law := wl_at0 (k := 89) rfl
theorem wl_m_91 : ∀ w ∈ wsL_law0_r91, w ∈ wsL_law := wl_at0 (k := 90) rfl
theorem wl_m_92 : ∀ w ∈ wsL_law0_r92, w ∈ wsL_law := wl_at0 (k := 91) rfl
theorem wl_m_93 : ∀ w ∈ wsL_law0_r93, w ∈ wsL_law := wl_at0 (k := 92) rfl
theorem wl_m_94 : ∀ w ∈ wsL_law0_r94, w ∈ wsL_law := wl_at0 (k := 93) rfl
theorem wl_m_95 : ∀ w ∈ wsL_law0_r95, w ∈ wsL_law := wl_at0 (k := 94) rfl
theorem wl_m_96 : ∀ w ∈ wsL_law0_r96, w ∈ wsL_law := wl_at0 (k := 95) rfl
theorem wl_m_97 : ∀ w ∈ wsL_law0_r97, w ∈ wsL_law := wl_at0 (k := 96) rfl
theorem wl_m_98 : ∀ w ∈ wsL_law0_r98, w ∈ wsL_law := wl_at0 (k := 97) rfl
theorem wl_m_99 : ∀ w ∈ wsL_law0_r99, w ∈ wsL_law := wl_at0 (k := 98) rfl
theorem wl_m_100 : ∀ w ∈ wsL_law0_r100, w ∈ wsL_law := wl_at0 (k := 99) rfl
theorem wl_m_101 : ∀ w ∈ wsL_law0_r101, w ∈ wsL_law := wl_at0 (k := 100) rfl
theorem wl_m_102 : ∀ w ∈ wsL_law0_r102, w ∈ wsL_law := wl_at0 (k := 101) rfl
theorem wl_m_103 : ∀ w ∈ wsL_law0_r103, w ∈ wsL_law := wl_at0 (k := 102) rfl
theorem wl_m_104 : ∀ w ∈ wsL_law0_r104, w ∈ wsL_law := wl_at0 (k := 103) rfl
theorem wl_m_105 : ∀ w ∈ wsL_law0_r105, w ∈ wsL_law := wl_at0 (k := 104) rfl
theorem wl_m_106 : ∀ w ∈ wsL_law0_r106, w ∈ wsL_law := wl_at0 (k := 105) rfl
theorem wl_m_107 : ∀ w ∈ wsL_law0_r107, w ∈ wsL_law := wl_at0 (k := 106) rfl
theorem wl_m_108 : ∀ w ∈ wsL_law0_r108, w ∈ wsL_law := wl_at0 (k := 107) rfl
theorem wl_m_109 : ∀ w ∈ wsL_law0_r109, w ∈ wsL_law := wl_at0 (k := 108) rfl
theorem wl_m_110 : ∀ w ∈ wsL_law0_r110, w ∈ wsL_law := wl_at0 (k := 109) rfl
theorem wl_m_111 : ∀ w ∈ wsL_law0_r111, w ∈ wsL_law := wl_at0 (k := 110) rfl
theorem wl_m_112 : ∀ w ∈ wsL_law0_r112, w ∈ wsL_law := wl_at0 (k := 111) rfl
theorem wl_m_113 : ∀ w ∈ wsL_law0_r113, w ∈ wsL_law := wl_at0 (k := 112) rfl
theorem wl_m_114 : ∀ w ∈ wsL_law0_r114, w ∈ wsL_law := wl_at0 (k := 113) rfl
