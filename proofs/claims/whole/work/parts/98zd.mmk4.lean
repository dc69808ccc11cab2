/-! The reference: make -/
section MMK4
variable {M : kf_M} {fs : List Value} {tp ou : List Int32} {tl ol n w : Nat} {V : Vs} {tc fl g : Int32} {ks : List Ky} {wt : List Nat} {wd : List Int32} {W : Ws} {G : Gs} {cs : List Int32} {m : PM}
theorem mkO_fr {k : Ky} : mkO k (frV V) wd = mkO k V wd := rfl
theorem mkD_fr {k : Ky} : mkD k (frV V) = mkD k V := rfl
theorem mkKs_len {o : Option Nat} (h : ks.length ≤ 10) (ho : ∀ j, o = some j → j < ks.length) (hn : ¬ (o = none ∧ 10 ≤ ks.length)) : (mkKs ks o).length < 10 := by
  cases o with
  | none =>
    have : ¬ 10 ≤ ks.length := fun q => hn ⟨rfl, q⟩
    show ks.length < 10
    omega
  | some j =>
    have := ho j rfl
    show (ks.eraseIdx j).length < 10
    rw [List.length_eraseIdx, if_pos this]
    omega
set_option maxHeartbeats 4000000 in
theorem R190 (bcs : isB cs) (hcl : cs.length ≤ 400) (m1 : MdIs M fs) (m2 : MF fs tl 0 V tc ks.length 0 fl G.1) (m3 : MAr M cs [] V ks [] wd G) (hv : VB V) (htc : tc = 0 ∨ tc = 1) : ∃ M', kf_cl 190 [.ref 284, .int (nI cs.length)] M = some (some (.int (sMk cs V tc ks G).1), M') ∧ MCr M' tl cs (sMk cs V tc ks G) ∧ Off CM M M' := by
  obtain ⟨M0, M1, M2, M3, M4, M5, k0, k1, k2, k3, k4, k5, ⟨rc0, rc1, rc2, rc3, rc4, rc5⟩, K5, o5⟩ := knoM m1 m3.2.2.2.2.2.2.2.2.2.2.2.2.2.2.2.2.2.2.1
  have n5 := m1.off o5 (by decide)
  have q5 := m3.kn o5 (KNs K5.1)
  have rc := m1.rc
  obtain ⟨h1, h2⟩ := r180x bcs hcl n5 m2 q5 K5
  have z18 : ¬ (18 : Int32) = 0 := by decide
  unfold sMk
  cases hp : pmp cs with
  | none =>
    obtain ⟨M6, fs6, k6, n6, f6, q6, o6⟩ := h1 hp
    refine ⟨M6, ?_, ⟨fs6, fl, wd, n6, f6, q6, CW0, ⟨Nat.zero_le _, isB_nil⟩, hv, htc, Nat.zero_le _⟩, (o5.cm (by decide)).tr (o6.cm (by decide))⟩
    simp only [cl_190, e190_0, e190_1, e190_4, e190_5, e190_6, e190_7, e190_8, e190_10, e190_12, e190_15, e190_16, e190_17, e190_18, e190_19, e190_20, e190_22, e190_25, e190_26, e190_27, e190_28, e190_29, e190_30, e190_32, e190_35, e190_36, e190_37, e190_38, e190_39, e190_41, e190_43, e190_46, e190_47, e190_49, e190_50, e190_51, e190_53, e190_55, e190_58, e190_59, e190_60, e190_63, e190_64, e190_65, e190_68, e190_69, e190_70, e190_71, e190_72, e190_75, e190_76, e190_78, e190_79, e190_82, e190_85, e190_86, e190_89, e190_90, e190_91, e190_94, e190_95, e190_96, e190_99, e190_102, e190_103, e190_104, e190_105, e190_108, e190_111, e190_113, e190_114, e190_117, e190_121, e190_124, e190_127, e190_128, e190_131, e190_133, e190_134, e190_137, e190_139, e190_140, e190_141, e190_144, e190_147, e190_148, e190_150, e190_151, e190_154, e190_157, e190_159, e190_161, e190_162, e190_165, e190_166, e190_167, e190_168, e190_171, e190_172, e190_175, e190_177, e190_180, e190_182, e190_184, e190_187, e190_190, e190_192, e190_194, e190_195, e190_198, e190_199, e190_200, e190_203, e190_204, e190_205, e190_209, e190_212, e190_214, e190_215, e190_216, e190_219, e190_220, e190_221, e190_224, e190_225, e190_228, e190_229, e190_230, e190_233, e190_235, e190_237, e190_238, e190_240, e190_243, e190_244, e190_247, e190_249, e190_250, e190_253, e190_254, e190_255, e190_256, e190_257, e190_260, e190_261, e190_264, e190_265, e190_266, e190_267, e190_270, e190_272, e190_274, e190_275, e190_276, e190_279, e190_280, e190_281, e190_284, e190_285, e190_288, e190_289, e190_290, e190_293, e190_294, e190_297, e190_298, e190_301, e190_302, e190_305, e190_306, e190_309, e190_311, e190_313, e190_314, e190_317, e190_318, e190_321, e190_322, e190_323, e190_326, e190_328, e190_330, e190_331, e190_333, e190_336, e190_337, e190_339, e190_340, e190_343, e190_345, e190_347, e190_348, e190_351, e190_352, e190_355, e190_357, e190_358, e190_359, e190_360, e190_361, e190_364, e190_367, e190_370, e190_373, e190_374, e190_377, e190_378, e190_381, e190_383, e190_385, e190_386, e190_389, e190_390, e190_393, e190_394, e190_397, e190_399, e190_401, e190_402, e190_404, e190_405, e190_409, e190_411, e190_412, e190_415, e190_418, e190_420, e190_423, e190_425, e190_428, e190_429, e190_430, e190_433, e190_435, e190_437, e190_438, e190_440, e190_443, e190_444, e190_445, e190_448, e190_450, e190_452, e190_453, e190_455, e190_458, e190_459, e190_461, e190_462, e190_465, e190_466, e190_469, e190_470, e190_471, e190_474, e190_475, e190_478, e190_481, e190_482, e190_483, e190_484, e190_487, e190_488, e190_489, e190_492, e190_495, e190_496, e190_497, e190_498, e190_501, e190_502, e190_504, e190_507, e190_508, ow_190, Int32.reduceOfInt, Int32.reduceOfNat, Int32.reduceToNatClampNeg, Int32.reduceLT, Int32.reduceLE, Int32.reduceAdd, Int32.reduceSub, Int32.reduceMul, Int64.reduceOfNat, Int64.reduceOfInt, Nat.reduceLeDiff, Nat.reduceLT, Nat.reduceEqDiff, Nat.reduceSub, cs_0, cs_1, cs_2, cs_3, cs_4, cs_5, cs_6, cs_7, cs_8, or_false, false_or, not_false_eq_true, and_true, true_and, if_true, if_false, List.length_cons, List.length_nil, List.getElem?_cons_succ, List.getElem?_cons_zero, List.set_cons_succ, List.set_cons_zero, reduceIte, d_G, d_R, s_aload, s_aload_n, s_iload, s_iload_n, s_lload, s_lload_n, s_istore, s_istore_n, s_astore, s_astoreN, s_astore_n, s_astore_nN, s_lstore, s_lstore_n, s_iinc, s_iconst, s_bipush, s_sipush, s_lconst, s_ldc2_w, s_aconst_null, s_dupA, s_dupI, s_dup2, s_iadd, s_isub, s_imul, s_iand, s_ior, s_ixor, s_ishl, s_ishr, s_iushr, s_ineg, s_idiv, s_irem, s_ladd, s_lsub, s_lmul, s_land, s_lor, s_lxor, s_ldiv, s_lshl, s_lshr, s_lushr, s_i2l, s_l2i, s_lcmp, s_goto, s_ieq, s_ine, s_ilt, s_ige, s_igt, s_ile, s_zeq, s_zne, s_zlt, s_zge, s_zgt, s_zle, s_ifnull, s_ifnullN, s_ifnonnull, s_ifnonnullN, s_tableswitch, s_lookupswitch, s_getfield, s_putfield, s_getstatic, s_iaload, s_laload, s_baload, s_aaload, s_iastore, s_lastore, s_bastore, s_aastore, s_arraylength, s_newI, s_newJ, s_newZ, s_anewarray, s_new, s_copy, s_max, s_min, s_invokestatic, s_objinit, s_invokespecial, kf_isr_r, s_invokevirtual, s_ireturn, s_lreturn, s_areturn, s_areturnN, s_return, lI_0, lI_s, lJ_0, lJ_s, lA_0, lA_0N, lA_s, lS1_0, lS1_1, lS1_2, lS2_0, lS2_1, lS2_2, lK_n, lK_i, lK_j, lK_a, lK_N, d_C', kf_w_0, kf_w_i, kf_w_a, kf_w_n, kf_w_j, c_0, c_1, c_2, c_3, c_4, c_5, c_6, tl_0, tl_1, Option.bind_some, Option.bind_none, Option.map_some, Nat.reduceAdd, Nat.reduceMul, Nat.reduceDiv, Nat.reduceMod, Int.reduceToNat, Fin.val_zero, Fin.isValue, Fin.val_one, Fin.val_two, fv_0, fv_1, fv_2, fv_3, fw_0, fw_1, d_ite, true_or, or_true, and_false, false_and, or_self, and_self, ow_175, ow_176, ow_180, rc, k0, rc0, k1, rc1, k2, rc2, k3, rc3, k4, rc4, k5, rc5, k6, z18]
  | some m =>
    obtain ⟨M6, fs6, kk, fr, sz, p, k6, T6, R6, f6, q6, o6⟩ := h2 m hp
    rw [fltM_M] at k6
    have ok := pmp_ok hp
    dsimp only
    by_cases cf : fltS m tbM = 0
    · rw [if_pos cf]
      rw [cf, nI_0] at k6
      obtain ⟨x, x1, x2, x3, x4⟩ := flt_r cf (e := (2, 3, 1, 1, 32)) (by decide) (Or.inr rfl) ((flt_e cf (e := (2, 3, 1, 1, 32)) (by decide)).2.1 rfl)
      have x1 : m.getD 2 none = some x := x1
      have x2 : x.1 = 3 := x2
      obtain ⟨y, y1, y2, y3, y4⟩ := flt_r cf (e := (3, 2, 1, 1, 16)) (by decide) (Or.inl rfl) ((flt_e cf (e := (3, 2, 1, 1, 16)) (by decide)).2.1 rfl)
      have y1 : m.getD 3 none = some y := y1
      have y2 : y.1 = 2 := y2
      have y3 : 1 ≤ y.2.2.1 := y3
      have y4 : y.2.2.1 ≤ 16 := y4
      obtain ⟨v, v1, v2, v3, v4⟩ := flt_r cf (e := (1, 2, 1, 32, 32)) (by decide) (Or.inl rfl) ((flt_e cf (e := (1, 2, 1, 32, 32)) (by decide)).2.1 rfl)
      have v1 : m.getD 1 none = some v := v1
      have v2 : v.1 = 2 := v2
      have v3 : 32 ≤ v.2.2.1 := v3
      have v4 : v.2.2.1 ≤ 32 := v4
      obtain ⟨M7, fs7, k7, n7, q7, H7, F7, o7⟩ := R181 (nm := 2) T6 R6 ok bcs q6 (by decide) x1 (Or.inr x2)
      rw [show nI 2 = 2 from rfl] at k7
      have rc6 := T6.1.rc
      have T7 := T6.fo n7 F7 (by decide) o7 (by decide)
      have f7 := f6.fo F7 (by decide)
      have f13 := f7.2.2.2.2.2.2.2.1
      have pre : kf_cl 190 [.ref 284, .int (nI cs.length)] M = kf_ev 190 77 [some (.ref 284), some (.int (nI cs.length)), some (.int 0), some (.int 0), none] [] M7 := by
        simp only [cl_190, e190_0, e190_1, e190_4, e190_5, e190_6, e190_7, e190_8, e190_10, e190_12, e190_15, e190_16, e190_17, e190_18, e190_19, e190_20, e190_22, e190_25, e190_26, e190_27, e190_28, e190_29, e190_30, e190_32, e190_35, e190_36, e190_37, e190_38, e190_39, e190_41, e190_43, e190_46, e190_47, e190_49, e190_50, e190_51, e190_53, e190_55, e190_58, e190_59, e190_60, e190_63, e190_64, e190_65, e190_68, e190_69, e190_70, e190_71, e190_72, e190_75, e190_76, e190_78, e190_79, e190_82, e190_85, e190_86, e190_89, e190_90, e190_91, e190_94, e190_95, e190_96, e190_99, e190_102, e190_103, e190_104, e190_105, e190_108, e190_111, e190_113, e190_114, e190_117, e190_121, e190_124, e190_127, e190_128, e190_131, e190_133, e190_134, e190_137, e190_139, e190_140, e190_141, e190_144, e190_147, e190_148, e190_150, e190_151, e190_154, e190_157, e190_159, e190_161, e190_162, e190_165, e190_166, e190_167, e190_168, e190_171, e190_172, e190_175, e190_177, e190_180, e190_182, e190_184, e190_187, e190_190, e190_192, e190_194, e190_195, e190_198, e190_199, e190_200, e190_203, e190_204, e190_205, e190_209, e190_212, e190_214, e190_215, e190_216, e190_219, e190_220, e190_221, e190_224, e190_225, e190_228, e190_229, e190_230, e190_233, e190_235, e190_237, e190_238, e190_240, e190_243, e190_244, e190_247, e190_249, e190_250, e190_253, e190_254, e190_255, e190_256, e190_257, e190_260, e190_261, e190_264, e190_265, e190_266, e190_267, e190_270, e190_272, e190_274, e190_275, e190_276, e190_279, e190_280, e190_281, e190_284, e190_285, e190_288, e190_289, e190_290, e190_293, e190_294, e190_297, e190_298, e190_301, e190_302, e190_305, e190_306, e190_309, e190_311, e190_313, e190_314, e190_317, e190_318, e190_321, e190_322, e190_323, e190_326, e190_328, e190_330, e190_331, e190_333, e190_336, e190_337, e190_339, e190_340, e190_343, e190_345, e190_347, e190_348, e190_351, e190_352, e190_355, e190_357, e190_358, e190_359, e190_360, e190_361, e190_364, e190_367, e190_370, e190_373, e190_374, e190_377, e190_378, e190_381, e190_383, e190_385, e190_386, e190_389, e190_390, e190_393, e190_394, e190_397, e190_399, e190_401, e190_402, e190_404, e190_405, e190_409, e190_411, e190_412, e190_415, e190_418, e190_420, e190_423, e190_425, e190_428, e190_429, e190_430, e190_433, e190_435, e190_437, e190_438, e190_440, e190_443, e190_444, e190_445, e190_448, e190_450, e190_452, e190_453, e190_455, e190_458, e190_459, e190_461, e190_462, e190_465, e190_466, e190_469, e190_470, e190_471, e190_474, e190_475, e190_478, e190_481, e190_482, e190_483, e190_484, e190_487, e190_488, e190_489, e190_492, e190_495, e190_496, e190_497, e190_498, e190_501, e190_502, e190_504, e190_507, e190_508, ow_190, Int32.reduceOfInt, Int32.reduceOfNat, Int32.reduceToNatClampNeg, Int32.reduceLT, Int32.reduceLE, Int32.reduceAdd, Int32.reduceSub, Int32.reduceMul, Int64.reduceOfNat, Int64.reduceOfInt, Nat.reduceLeDiff, Nat.reduceLT, Nat.reduceEqDiff, Nat.reduceSub, cs_0, cs_1, cs_2, cs_3, cs_4, cs_5, cs_6, cs_7, cs_8, or_false, false_or, not_false_eq_true, and_true, true_and, if_true, if_false, List.length_cons, List.length_nil, List.getElem?_cons_succ, List.getElem?_cons_zero, List.set_cons_succ, List.set_cons_zero, reduceIte, d_G, d_R, s_aload, s_aload_n, s_iload, s_iload_n, s_lload, s_lload_n, s_istore, s_istore_n, s_astore, s_astoreN, s_astore_n, s_astore_nN, s_lstore, s_lstore_n, s_iinc, s_iconst, s_bipush, s_sipush, s_lconst, s_ldc2_w, s_aconst_null, s_dupA, s_dupI, s_dup2, s_iadd, s_isub, s_imul, s_iand, s_ior, s_ixor, s_ishl, s_ishr, s_iushr, s_ineg, s_idiv, s_irem, s_ladd, s_lsub, s_lmul, s_land, s_lor, s_lxor, s_ldiv, s_lshl, s_lshr, s_lushr, s_i2l, s_l2i, s_lcmp, s_goto, s_ieq, s_ine, s_ilt, s_ige, s_igt, s_ile, s_zeq, s_zne, s_zlt, s_zge, s_zgt, s_zle, s_ifnull, s_ifnullN, s_ifnonnull, s_ifnonnullN, s_tableswitch, s_lookupswitch, s_getfield, s_putfield, s_getstatic, s_iaload, s_laload, s_baload, s_aaload, s_iastore, s_lastore, s_bastore, s_aastore, s_arraylength, s_newI, s_newJ, s_newZ, s_anewarray, s_new, s_copy, s_max, s_min, s_invokestatic, s_objinit, s_invokespecial, kf_isr_r, s_invokevirtual, s_ireturn, s_lreturn, s_areturn, s_areturnN, s_return, lI_0, lI_s, lJ_0, lJ_s, lA_0, lA_0N, lA_s, lS1_0, lS1_1, lS1_2, lS2_0, lS2_1, lS2_2, lK_n, lK_i, lK_j, lK_a, lK_N, d_C', kf_w_0, kf_w_i, kf_w_a, kf_w_n, kf_w_j, c_0, c_1, c_2, c_3, c_4, c_5, c_6, tl_0, tl_1, Option.bind_some, Option.bind_none, Option.map_some, Nat.reduceAdd, Nat.reduceMul, Nat.reduceDiv, Nat.reduceMod, Int.reduceToNat, Fin.val_zero, Fin.isValue, Fin.val_one, Fin.val_two, fv_0, fv_1, fv_2, fv_3, fw_0, fw_1, d_ite, true_or, or_true, and_false, false_and, or_self, and_self, ow_181, ow_175, ow_176, ow_180, rc, k0, rc0, k1, rc1, k2, rc2, k3, rc3, k4, rc4, k5, rc5, k6, rc6, k7]
      have O7 : Off CM M M7 := ((o5.cm (by decide)).tr (o6.cm (by decide))).tr (o7.cm (by decide))
      have bhs : isB (sha (rowOf cs m 2)) := isB_sha
      generalize sha (rowOf cs m 2) = hs at *
      have hl : ks.length ≤ 10 := by obtain ⟨_, _, _, _, _, _, _, _, _, q⟩ := q7.2.2.2.2.2.1; exact q
      have no : ∀ (MX : kf_M) (fX : List Value) (r : Int32), MdIs MX fX → MF fX tl 0 V tc ks.length 0 fl G.1 → MAr MX cs [] V ks [] wd G → MCr MX tl cs (r, [], V, tc, ks, W0, G) := fun MX fX r w1 w2 w3 => ⟨fX, fl, wd, w1, w2, w3, CW0, ⟨Nat.zero_le _, isB_nil⟩, hv, htc, Nat.zero_le _⟩
      obtain ⟨M8, fs8, p8, d, T8, F8, o8, ky, kn⟩ := d190a (l1 := nI cs.length) bcs T7 R6 ok cf f13 q7.2.2.2.2.2.1 H7
      have f8 := f7.fo F8 (by decide)
      have q8 := q7.o o8
      have O8 := O7.tr (o8.cm (by decide))
      by_cases c1 : ks.any (excK cs m 5 hs) = true
      · have eR : mkR cs m V tc ks hs (rowOf cs m 1) = 25 := by unfold mkR; rw [if_pos c1]
        rw [eR, if_neg (by decide)]
        exact ⟨M8, pre.trans (ky c1), no M8 fs8 25 T8.1 f8 q8, O8⟩
      have c1' : ks.any (excK cs m 5 hs) = false := by
        cases hx : ks.any (excK cs m 5 hs) with
        | true => exact absurd hx c1
        | false => rfl
      have k8 := pre.trans (kn c1')
      obtain ⟨M9, fs9, T9, f9, q9, H9, o9, z1, z2, z3⟩ := d190b (l1 := nI cs.length) (d := d) T8 R6 ok cf f8 q8 (H7.off o8 (by decide))
      have O9 := O8.tr o9
      by_cases c2 : V.2.2.2.2.2.2 ≠ 0 ∧ kdm m 8 = 0
      · have eR : mkR cs m V tc ks hs (rowOf cs m 1) = 54 := by unfold mkR; rw [if_neg c1, if_pos c2]
        rw [eR, if_neg (by decide)]
        exact ⟨M9, k8.trans (z1 c2), no M9 fs9 54 T9.1 f9 q9, O9⟩
      by_cases c3 : V.2.2.2.2.2.2 ≠ 0 ∧ ¬ (hmac V.2.2.1 (rowOf cs m 1)).take 16 = rowOf cs m 8
      · have eR : mkR cs m V tc ks hs (rowOf cs m 1) = 51 := by unfold mkR; rw [if_neg c1, if_neg c2, if_pos c3]
        rw [eR, if_neg (by decide)]
        exact ⟨M9, k8.trans (z2 c2 c3), no M9 fs9 51 T9.1 f9 q9, O9⟩
      have k9 := k8.trans (z3 c2 c3)
      obtain ⟨u1, u2, u3⟩ := d190c (l1 := nI cs.length) (d := d) T9 R6 ok cf f9 q9.2.2.2.2.2.1 H9
      by_cases c4 : fidx hs (rowOf cs m 3) ks 0 = none ∧ 10 ≤ ks.length
      · have eR : mkR cs m V tc ks hs (rowOf cs m 1) = 40 := by unfold mkR; rw [if_neg c1, if_neg c2, if_neg c3, if_pos c4]
        rw [eR, if_neg (by decide)]
        exact ⟨M9, k9.trans (u1 c4), no M9 fs9 40 T9.1 f9 q9, O9⟩
      by_cases c5 : tc = 0
      · have eR : mkR cs m V tc ks hs (rowOf cs m 1) = 39 := by unfold mkR; rw [if_neg c1, if_neg c2, if_neg c3, if_neg c4, if_pos c5]
        rw [eR, if_neg (by decide)]
        exact ⟨M9, k9.trans (u2 c4 c5), no M9 fs9 39 T9.1 f9 q9, O9⟩
      have eR : mkR cs m V tc ks hs (rowOf cs m 1) = 0 := by unfold mkR; rw [if_neg c1, if_neg c2, if_neg c3, if_neg c4, if_neg c5]
      rw [eR, if_pos rfl]
      have ho : ∀ j, fidx hs (rowOf cs m 3) ks 0 = some j → j < ks.length := fun j hj => by have := fidx_lt ks 0 j hj; omega
      have hlt := mkKs_len hl ho c4
      obtain ⟨M10, fs10, k10, T10, f10, q10, H10, o10⟩ := d190d (l1 := nI cs.length) T9 f9 q9 H9 ho
      generalize fidx hs (rowOf cs m 3) ks 0 = oo at *
      generalize mkKs ks oo = ks' at *
      obtain ⟨M11, fs11, k11, T11, f11, q11, o11⟩ := d190e (l1 := nI cs.length) (d3 := fI oo) T10 R6 ok bcs f10 q10 H10 bhs hlt y1 y2 ⟨y3, y4⟩
      have la : (ks' ++ [newK hs (rowOf cs m 3) V]).length = ks'.length + 1 := by rw [List.length_append]; rfl
      have hkn : (ks' ++ [newK hs (rowOf cs m 3) V])[ks'.length]? = some (newK hs (rowOf cs m 3) V) := by
        rw [List.getElem?_append_right (Nat.le_refl _), Nat.sub_self]
        rfl
      rw [← la] at f11
      generalize newK hs (rowOf cs m 3) V = kN at *
      generalize ks' ++ [kN] = kz at *
      obtain ⟨M12, fs12, k12, n12, f12, q12, b12, l12, o12⟩ := d190f (l1 := nI cs.length) (d3 := fI oo) T11 R6 ok bcs f11 q11 hkn v1 v2 (by omega)
      rw [mkO_fr] at f12 q12 b12 l12
      rw [mkD_fr] at q12
      exact ⟨M12, k9.trans ((u3 c4 c5).trans (k10.trans (k11.trans k12))), ⟨fs12, fl, wd, n12, f12, q12, CW0, ⟨l12, b12⟩, hv, Or.inl rfl, Nat.zero_le _⟩, ((O9.tr o10).tr o11).tr o12⟩
    · rw [if_neg cf]
      have nz := fltS_n cf
      refine ⟨M6, ?_, ⟨fs6, fl, wd, T6.1, f6, q6, CW0, ⟨Nat.zero_le _, isB_nil⟩, hv, htc, Nat.zero_le _⟩, (o5.cm (by decide)).tr (o6.cm (by decide))⟩
      simp only [cl_190, e190_0, e190_1, e190_4, e190_5, e190_6, e190_7, e190_8, e190_10, e190_12, e190_15, e190_16, e190_17, e190_18, e190_19, e190_20, e190_22, e190_25, e190_26, e190_27, e190_28, e190_29, e190_30, e190_32, e190_35, e190_36, e190_37, e190_38, e190_39, e190_41, e190_43, e190_46, e190_47, e190_49, e190_50, e190_51, e190_53, e190_55, e190_58, e190_59, e190_60, e190_63, e190_64, e190_65, e190_68, e190_69, e190_70, e190_71, e190_72, e190_75, e190_76, e190_78, e190_79, e190_82, e190_85, e190_86, e190_89, e190_90, e190_91, e190_94, e190_95, e190_96, e190_99, e190_102, e190_103, e190_104, e190_105, e190_108, e190_111, e190_113, e190_114, e190_117, e190_121, e190_124, e190_127, e190_128, e190_131, e190_133, e190_134, e190_137, e190_139, e190_140, e190_141, e190_144, e190_147, e190_148, e190_150, e190_151, e190_154, e190_157, e190_159, e190_161, e190_162, e190_165, e190_166, e190_167, e190_168, e190_171, e190_172, e190_175, e190_177, e190_180, e190_182, e190_184, e190_187, e190_190, e190_192, e190_194, e190_195, e190_198, e190_199, e190_200, e190_203, e190_204, e190_205, e190_209, e190_212, e190_214, e190_215, e190_216, e190_219, e190_220, e190_221, e190_224, e190_225, e190_228, e190_229, e190_230, e190_233, e190_235, e190_237, e190_238, e190_240, e190_243, e190_244, e190_247, e190_249, e190_250, e190_253, e190_254, e190_255, e190_256, e190_257, e190_260, e190_261, e190_264, e190_265, e190_266, e190_267, e190_270, e190_272, e190_274, e190_275, e190_276, e190_279, e190_280, e190_281, e190_284, e190_285, e190_288, e190_289, e190_290, e190_293, e190_294, e190_297, e190_298, e190_301, e190_302, e190_305, e190_306, e190_309, e190_311, e190_313, e190_314, e190_317, e190_318, e190_321, e190_322, e190_323, e190_326, e190_328, e190_330, e190_331, e190_333, e190_336, e190_337, e190_339, e190_340, e190_343, e190_345, e190_347, e190_348, e190_351, e190_352, e190_355, e190_357, e190_358, e190_359, e190_360, e190_361, e190_364, e190_367, e190_370, e190_373, e190_374, e190_377, e190_378, e190_381, e190_383, e190_385, e190_386, e190_389, e190_390, e190_393, e190_394, e190_397, e190_399, e190_401, e190_402, e190_404, e190_405, e190_409, e190_411, e190_412, e190_415, e190_418, e190_420, e190_423, e190_425, e190_428, e190_429, e190_430, e190_433, e190_435, e190_437, e190_438, e190_440, e190_443, e190_444, e190_445, e190_448, e190_450, e190_452, e190_453, e190_455, e190_458, e190_459, e190_461, e190_462, e190_465, e190_466, e190_469, e190_470, e190_471, e190_474, e190_475, e190_478, e190_481, e190_482, e190_483, e190_484, e190_487, e190_488, e190_489, e190_492, e190_495, e190_496, e190_497, e190_498, e190_501, e190_502, e190_504, e190_507, e190_508, ow_190, Int32.reduceOfInt, Int32.reduceOfNat, Int32.reduceToNatClampNeg, Int32.reduceLT, Int32.reduceLE, Int32.reduceAdd, Int32.reduceSub, Int32.reduceMul, Int64.reduceOfNat, Int64.reduceOfInt, Nat.reduceLeDiff, Nat.reduceLT, Nat.reduceEqDiff, Nat.reduceSub, cs_0, cs_1, cs_2, cs_3, cs_4, cs_5, cs_6, cs_7, cs_8, or_false, false_or, not_false_eq_true, and_true, true_and, if_true, if_false, List.length_cons, List.length_nil, List.getElem?_cons_succ, List.getElem?_cons_zero, List.set_cons_succ, List.set_cons_zero, reduceIte, d_G, d_R, s_aload, s_aload_n, s_iload, s_iload_n, s_lload, s_lload_n, s_istore, s_istore_n, s_astore, s_astoreN, s_astore_n, s_astore_nN, s_lstore, s_lstore_n, s_iinc, s_iconst, s_bipush, s_sipush, s_lconst, s_ldc2_w, s_aconst_null, s_dupA, s_dupI, s_dup2, s_iadd, s_isub, s_imul, s_iand, s_ior, s_ixor, s_ishl, s_ishr, s_iushr, s_ineg, s_idiv, s_irem, s_ladd, s_lsub, s_lmul, s_land, s_lor, s_lxor, s_ldiv, s_lshl, s_lshr, s_lushr, s_i2l, s_l2i, s_lcmp, s_goto, s_ieq, s_ine, s_ilt, s_ige, s_igt, s_ile, s_zeq, s_zne, s_zlt, s_zge, s_zgt, s_zle, s_ifnull, s_ifnullN, s_ifnonnull, s_ifnonnullN, s_tableswitch, s_lookupswitch, s_getfield, s_putfield, s_getstatic, s_iaload, s_laload, s_baload, s_aaload, s_iastore, s_lastore, s_bastore, s_aastore, s_arraylength, s_newI, s_newJ, s_newZ, s_anewarray, s_new, s_copy, s_max, s_min, s_invokestatic, s_objinit, s_invokespecial, kf_isr_r, s_invokevirtual, s_ireturn, s_lreturn, s_areturn, s_areturnN, s_return, lI_0, lI_s, lJ_0, lJ_s, lA_0, lA_0N, lA_s, lS1_0, lS1_1, lS1_2, lS2_0, lS2_1, lS2_2, lK_n, lK_i, lK_j, lK_a, lK_N, d_C', kf_w_0, kf_w_i, kf_w_a, kf_w_n, kf_w_j, c_0, c_1, c_2, c_3, c_4, c_5, c_6, tl_0, tl_1, Option.bind_some, Option.bind_none, Option.map_some, Nat.reduceAdd, Nat.reduceMul, Nat.reduceDiv, Nat.reduceMod, Int.reduceToNat, Fin.val_zero, Fin.isValue, Fin.val_one, Fin.val_two, fv_0, fv_1, fv_2, fv_3, fw_0, fw_1, d_ite, true_or, or_true, and_false, false_and, or_self, and_self, ow_175, ow_176, ow_180, rc, k0, rc0, k1, rc1, k2, rc2, k3, rc3, k4, rc4, k5, rc5, k6, nz]
end MMK4
