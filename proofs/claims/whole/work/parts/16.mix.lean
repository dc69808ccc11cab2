/-! SHA-256's block: the class's Hash.mixBlock -/
def sg0 (x : Int32) : Int32 := (kf_ush x 7 ||| x <<< ((25 : Int32) &&& 31)) ^^^ (kf_ush x 18 ||| x <<< ((14 : Int32) &&& 31)) ^^^ kf_ush x 3
def sg1 (x : Int32) : Int32 := (kf_ush x 17 ||| x <<< ((15 : Int32) &&& 31)) ^^^ (kf_ush x 19 ||| x <<< ((13 : Int32) &&& 31)) ^^^ kf_ush x 10
def wstep (W : List Int32) (i : Nat) : List Int32 := W.set i (W.getD (i - 16) 0 + sg0 (W.getD (i - 15) 0) + W.getD (i - 7) 0 + sg1 (W.getD (i - 2) 0))
def wext (W : List Int32) (i : Nat) : Nat → List Int32
  | 0 => W
  | m + 1 => wext (wstep W i) (i + 1) m
theorem wext_len : ∀ (m i : Nat) (W : List Int32), (wext W i m).length = W.length
  | 0, _, _ => rfl
  | m + 1, i, W => by rw [wext, wext_len m]; simp [wstep]
abbrev R8 : Type := Int32 × Int32 × Int32 × Int32 × Int32 × Int32 × Int32 × Int32
def big1 (e : Int32) : Int32 := (kf_ush e 6 ||| e <<< ((26 : Int32) &&& 31)) ^^^ (kf_ush e 11 ||| e <<< ((21 : Int32) &&& 31)) ^^^ (kf_ush e 25 ||| e <<< ((7 : Int32) &&& 31))
def big0 (a : Int32) : Int32 := (kf_ush a 2 ||| a <<< ((30 : Int32) &&& 31)) ^^^ (kf_ush a 13 ||| a <<< ((19 : Int32) &&& 31)) ^^^ (kf_ush a 22 ||| a <<< ((10 : Int32) &&& 31))
def rnd (k w : Int32) (s : R8) : R8 := match s with
  | (a, b, c, d, e, f, g, h) => (h + big1 e + ((e &&& f) ^^^ ((e ^^^ (-1)) &&& g)) + k + w + (big0 a + ((a &&& b) ^^^ (a &&& c) ^^^ (b &&& c))), a, b, c, d + (h + big1 e + ((e &&& f) ^^^ ((e ^^^ (-1)) &&& g)) + k + w), e, f, g)
def rnds (K W : List Int32) (i : Nat) : Nat → R8 → R8
  | 0, s => s
  | m + 1, s => rnds K W (i + 1) m (rnd (K.getD i 0) (W.getD i 0) s)
theorem getD_of {xs : List Int32} {i : Nat} (h : i < xs.length) : xs[i]? = some (xs.getD i 0) := by rw [List.getD_eq_getElem?_getD, List.getElem?_eq_getElem h]; rfl
theorem c29a {M : kf_M} {a : Nat} {S : Value} {len : Value} (ga : gO M a = some (2, [S, .ref (a + 2), len])) (ha : 19 ≤ a) (hl : a + 2 < M.length) : ∀ (m i : Nat) (W : List Int32) (u2 u3 u4 u5 : Option Value), i + m = 64 → 16 ≤ i → W.length = 64 → ∃ v2 v3 v4 v5, kf_ev 29 3 [some (.ref a), some (.int (nI i)), u2, u3, u4, u5, none, none, none, none, none, none, none, none] [] (M.set (a + 2) (oI W)) = kf_ev 29 116 [some (.ref a), some (.int 64), v2, v3, v4, v5, none, none, none, none, none, none, none, none] [] (M.set (a + 2) (oI (wext W i m))) := by
  intro m
  induction m with
  | zero =>
    intro i W u2 u3 u4 u5 hi h16 hW
    have hi : i = 64 := by omega
    subst hi
    refine ⟨u2, u3, u4, u5, (e29_3 _ _ _).trans ?_⟩
    have e : (64 : Int32) ≤ nI 64 := by decide
    simp only [s_iload_n, lI_0, lI_s, fv_1, Option.bind_some, d_G, Nat.reduceAdd, e29_4, s_bipush, e29_6, s_ige, Int32.reduceOfInt, e, if_true, Int.reduceToNat, wext]
    rfl
  | succ m ih =>
    intro i W u2 u3 u4 u5 hi h16 hW
    have g1 : gO (M.set (a + 2) (oI W)) a = some (2, [S, .ref (a + 2), len]) := by rw [gO_ne (by omega)]; exact ga
    have g2 : gI (M.set (a + 2) (oI W)) (a + 2) = some W := gI_self hl
    have e : ¬ (64 : Int32) ≤ nI i := nI_ge (a := i) (b := 64) (by omega) (by omega)
    have d15 : nI i - 15 = nI (i - 15) := pk_sub (b := 15) (by omega)
    have d2 : nI i - 2 = nI (i - 2) := pk_sub (b := 2) (by omega)
    have d16 : nI i - 16 = nI (i - 16) := pk_sub (b := 16) (by omega)
    have d7 : nI i - 7 = nI (i - 7) := pk_sub (b := 7) (by omega)
    have p0 : ∀ k, k ≤ i → ¬ nI k < 0 := fun k hk => nI_pos (by omega)
    have p1 : ∀ k, k ≤ i → (nI k).toNatClampNeg = k := fun k hk => nI_clamp (by omega)
    have w15 := getD_of (xs := W) (i := i - 15) (by omega)
    have w2 := getD_of (xs := W) (i := i - 2) (by omega)
    have w16 := getD_of (xs := W) (i := i - 16) (by omega)
    have w7 := getD_of (xs := W) (i := i - 7) (by omega)
    have b1 : ¬ W.length ≤ i := by omega
    have b2 : ¬ a + 2 < 19 := by omega
    obtain ⟨v2, v3, v4, v5, ih'⟩ := ih (i + 1) (wstep W i) (some (.int (W.getD (i - 15) 0))) (some (.int (W.getD (i - 2) 0))) (some (.int (sg0 (W.getD (i - 15) 0)))) (some (.int (sg1 (W.getD (i - 2) 0)))) (by omega) (by omega) (by simp [wstep, hW])
    refine ⟨v2, v3, v4, v5, (e29_3 _ _ _).trans (Eq.trans ?_ ih')⟩
    simp only [cl_29, e29_0, e29_2, e29_4, e29_6, e29_9, e29_10, e29_13, e29_14, e29_16, e29_17, e29_18, e29_19, e29_20, e29_23, e29_24, e29_25, e29_26, e29_27, e29_28, e29_29, e29_31, e29_32, e29_33, e29_35, e29_36, e29_37, e29_38, e29_40, e29_41, e29_42, e29_44, e29_45, e29_46, e29_47, e29_48, e29_49, e29_50, e29_51, e29_53, e29_54, e29_56, e29_57, e29_58, e29_60, e29_61, e29_62, e29_63, e29_65, e29_66, e29_67, e29_69, e29_70, e29_71, e29_72, e29_73, e29_75, e29_76, e29_77, e29_79, e29_80, e29_83, e29_84, e29_85, e29_88, e29_89, e29_91, e29_92, e29_93, e29_95, e29_96, e29_97, e29_100, e29_101, e29_103, e29_104, e29_105, e29_106, e29_108, e29_109, e29_110, e29_113, e29_117, e29_120, e29_121, e29_122, e29_123, e29_124, e29_127, e29_128, e29_129, e29_130, e29_131, e29_134, e29_135, e29_136, e29_137, e29_138, e29_141, e29_142, e29_143, e29_145, e29_146, e29_149, e29_150, e29_151, e29_153, e29_154, e29_157, e29_158, e29_159, e29_161, e29_162, e29_165, e29_167, e29_168, e29_170, e29_171, e29_174, e29_176, e29_177, e29_179, e29_180, e29_182, e29_184, e29_186, e29_189, e29_191, e29_193, e29_194, e29_196, e29_198, e29_199, e29_200, e29_202, e29_204, e29_205, e29_207, e29_209, e29_210, e29_211, e29_212, e29_214, e29_216, e29_217, e29_219, e29_221, e29_222, e29_223, e29_224, e29_226, e29_227, e29_228, e29_229, e29_230, e29_232, e29_233, e29_234, e29_235, e29_237, e29_238, e29_239, e29_241, e29_242, e29_243, e29_244, e29_245, e29_247, e29_248, e29_249, e29_251, e29_252, e29_253, e29_254, e29_256, e29_258, e29_260, e29_261, e29_263, e29_265, e29_266, e29_268, e29_269, e29_270, e29_272, e29_273, e29_274, e29_275, e29_278, e29_280, e29_281, e29_282, e29_283, e29_286, e29_288, e29_289, e29_290, e29_292, e29_294, e29_295, e29_296, e29_297, e29_298, e29_299, e29_300, e29_301, e29_302, e29_303, e29_304, e29_305, e29_306, e29_308, e29_310, e29_312, e29_314, e29_316, e29_318, e29_320, e29_322, e29_324, e29_325, e29_327, e29_328, e29_330, e29_331, e29_332, e29_333, e29_334, e29_336, e29_338, e29_339, e29_340, e29_343, e29_346, e29_347, e29_350, e29_351, e29_352, e29_353, e29_354, e29_355, e29_356, e29_357, e29_360, e29_361, e29_362, e29_363, e29_364, e29_365, e29_366, e29_367, e29_370, e29_371, e29_372, e29_373, e29_374, e29_375, e29_376, e29_377, e29_380, e29_381, e29_382, e29_383, e29_385, e29_386, e29_387, e29_388, e29_391, e29_392, e29_393, e29_394, e29_396, e29_397, e29_398, e29_399, e29_402, e29_403, e29_404, e29_405, e29_407, e29_408, e29_409, e29_410, e29_413, e29_415, e29_416, e29_417, e29_419, e29_420, e29_421, e29_422, e29_425, e29_427, e29_428, e29_429, e29_431, e29_432, e29_433, ow_29, Int32.reduceOfInt, Int32.reduceOfNat, Int32.reduceToNatClampNeg, Int32.reduceLT, Int32.reduceLE, Int32.reduceAdd, Int32.reduceSub, Int32.reduceMul, Int64.reduceOfNat, Int64.reduceOfInt, Nat.reduceLeDiff, Nat.reduceLT, Nat.reduceEqDiff, Nat.reduceSub, cs_0, cs_1, cs_2, cs_3, cs_4, cs_5, cs_6, cs_7, cs_8, or_false, false_or, not_false_eq_true, and_true, true_and, if_true, if_false, List.length_cons, List.length_nil, List.getElem?_cons_succ, List.getElem?_cons_zero, List.set_cons_succ, List.set_cons_zero, reduceIte, d_G, d_R, s_aload, s_aload_n, s_iload, s_iload_n, s_lload, s_lload_n, s_istore, s_istore_n, s_astore, s_astoreN, s_astore_n, s_astore_nN, s_lstore, s_lstore_n, s_iinc, s_iconst, s_bipush, s_sipush, s_lconst, s_ldc2_w, s_aconst_null, s_dupA, s_dupI, s_dup2, s_iadd, s_isub, s_imul, s_iand, s_ior, s_ixor, s_ishl, s_ishr, s_iushr, s_ineg, s_idiv, s_irem, s_ladd, s_lsub, s_lmul, s_land, s_lor, s_lxor, s_ldiv, s_lshl, s_lshr, s_lushr, s_i2l, s_l2i, s_lcmp, s_goto, s_ieq, s_ine, s_ilt, s_ige, s_igt, s_ile, s_zeq, s_zne, s_zlt, s_zge, s_zgt, s_zle, s_ifnull, s_ifnullN, s_ifnonnull, s_ifnonnullN, s_tableswitch, s_lookupswitch, s_getfield, s_putfield, s_getstatic, s_iaload, s_laload, s_baload, s_aaload, s_iastore, s_lastore, s_bastore, s_aastore, s_arraylength, s_newI, s_newJ, s_newZ, s_anewarray, s_new, s_copy, s_max, s_min, s_invokestatic, s_objinit, s_invokespecial, kf_isr_r, s_invokevirtual, s_ireturn, s_lreturn, s_areturn, s_areturnN, s_return, lI_0, lI_s, lJ_0, lJ_s, lA_0, lA_0N, lA_s, lS1_0, lS1_1, lS1_2, lS2_0, lS2_1, lS2_2, lK_n, lK_i, lK_j, lK_a, lK_N, d_C', kf_w_0, kf_w_i, kf_w_a, kf_w_n, kf_w_j, c_0, c_1, c_2, c_3, c_4, c_5, c_6, tl_0, tl_1, Option.bind_some, Option.bind_none, Option.map_some, Nat.reduceAdd, Nat.reduceMul, Nat.reduceDiv, Nat.reduceMod, Int.reduceToNat, Fin.val_zero, Fin.isValue, Fin.val_one, Fin.val_two, fv_0, fv_1, fv_2, fv_3, fw_0, fw_1, d_ite, true_or, or_true, and_false, false_and, or_self, and_self, e, g1, g2, d15, d2, d16, d7, p0 _ (Nat.sub_le i 15), p0 _ (Nat.sub_le i 2), p0 _ (Nat.sub_le i 16), p0 _ (Nat.sub_le i 7), p0 i (Nat.le_refl i), p1 _ (Nat.sub_le i 15), p1 _ (Nat.sub_le i 2), p1 _ (Nat.sub_le i 16), p1 _ (Nat.sub_le i 7), p1 i (Nat.le_refl i), w15, w2, w16, w7, b1, b2, nI_1, kf_NS, List.set_set]
    rfl
