/-! The reference: make, the answer -/
section MMK3
variable {M : kf_M} {fs : List Value} {tp ou : List Int32} {tl ol n w : Nat} {V : Vs} {tc fl g : Int32} {ks : List Ky} {wt : List Nat} {wd : List Int32} {W : Ws} {G : Gs} {cs kk fr sz : List Int32} {p : Nat} {m : PM}
theorem MAr.dw {M' : kf_M} {fs' : List Value} {da : List Int32} (h : MAr M tp ou V ks wt wd G) (o : Off [284, 340] M M') (hd : DW M' fs' da) : MAr M' tp ou V ks wt wd G := by
  obtain ⟨a1, a2, a3, a4, a5, a6, a7, a8, a9, a10, a11, a12, a13, a14, a15, a16, a17, a18, a19, a20, a21, a22⟩ := h
  exact ⟨a1.off o (by decide), a2.off o (by decide), a3.off o (by decide), a4.off o (by decide), a5.off o (by decide), a6.off o (by decide), a7.off o (by decide), a8.off o (by decide), a9.off o (by decide), a10.of5 o (by decide), a11.off o (by decide), a12.off' o (by decide), a13.off o (by decide), a14.off o (by decide), a15.off o (by decide), a16.off o (by decide), a17.off o (by decide), a18.off o (by decide), a19.off o (by decide), a20.off o (by decide), (by obtain ⟨t, y1, -⟩ := hd.2.2; exact ⟨t, y1⟩), a22.off o (by decide)⟩
set_option maxHeartbeats 8000000 in
theorem d190f {i : Nat} {k : Ky} {l1 d3 : Int32} {v : PV} (h : MT M fs cs kk fr sz p) (hR : MR kk fr sz m) (ho : okM cs m) (bcs : isB cs) (m2 : MF fs tl 0 V tc n w fl G.1) (m3 : MAr M cs [] V ks wt wd G) (hk : ks[i]? = some k) (hm : m.getD 1 none = some v) (hkv : v.1 = 2) (hz : v.2.2.1 = 32) : ∃ M' fs', kf_ev 190 408 [some (.ref 284), some (.int l1), some (.int 0), some (.int d3), some (.int (nI i))] [] M = some (some (.int 0), M') ∧ MdIs M' fs' ∧ MF fs' tl (mkO k V (rowOf cs m 1)).length V tc n w fl (G.1 + 1) ∧ MAr M' cs (mkO k V (rowOf cs m 1)) V ks wt wd (G.1 + 1, some (sha (mkD k V ++ rowOf cs m 1), k.2.2.1)) ∧ isB (mkO k V (rowOf cs m 1)) ∧ (mkO k V (rowOf cs m 1)).length ≤ 200 ∧ Off CM M M' := by
  obtain ⟨-, -, y3⟩ := mTR h hR (by decide) hm
  have y3 := y3 (Or.inl hkv)
  have hv := (ho.2 1 v (mG_some hm)).2.2.1 (Or.inl hkv)
  have m30 := m3
  obtain ⟨a1, a2, a3, a4, a5, a6, a7, a8, a9, a10, a11, a12, a13, a14, a15, a16, a17, a18, a19, a20, a21, a22⟩ := m3
  obtain ⟨hos, ul, us, se, ide, ct, po, h7, hr, hl⟩ := id a6
  obtain ⟨ok, r1_, r2_, r3_, r4_, r5_, r6_, r7_⟩ := hr i k hk
  have hi : i < ks.length := (List.getElem?_eq_some_iff.mp hk).1
  obtain ⟨t, ht, ht2⟩ := id a1
  have hcl : cs.length ≤ 400 := by
    have := congrArg List.length ht2
    rw [List.length_take, ht.2] at this
    omega
  have e16 : (16 : Int32) * nI i = nI (16 * i) := pk_mul 16 i
  have e64 : (64 : Int32) * nI i = nI (64 * i) := pk_mul 64 i
  have q1_ : ¬ (1 : Int32) < 0 := by decide
  have p1_ : (1 : Int32).toNatClampNeg = 1 := by decide
  have g0 := gO_of h.1.1
  have f9 := m2.2.2.2.1
  have rc := h.1.rc
  obtain ⟨x, ex⟩ : ∃ x : Int32, x = if V.2.2.2.2.2.2 = 0 then 65 else 69 := ⟨_, rfl⟩
  have hx : ∃ c, c < 256 ∧ x = nI c := by
    rw [ex]
    split
    · exact ⟨65, by decide, rfl⟩
    · exact ⟨69, by decide, rfl⟩
  -- the data
  obtain ⟨M1, fs1, k1, D1, F1, o1⟩ := R186 (x := x) h.1 a6 a21 hk
  have g1 := gO_of D1.1.1
  have rc1 := D1.1.rc
  have r18 := D1.1.rf 18 294 (by decide)
  have i1 := h7.2.2.2.2.1.off o1 (by decide)
  have ld1 : (datA k x).length = 37 := datA_len ok
  obtain ⟨M2, fs2, k2, D2, F2, o2⟩ := R185 (b := 294) (at1 := 16 * i) (N := 16) D1 i1.1 (by rw [i1.2]; omega) (by rw [i1.2]; decide) (by decide) (by omega)
  rw [r5_] at D2
  rw [show nI 16 = 16 from rfl] at k2
  have g2 := gO_of D2.1.1
  have rc2 := D2.1.rc
  have r20 := D2.1.rf 20 296 (by decide)
  have o12 := o1.tr o2
  have i2 := h7.2.2.2.2.2.2.off o12 (by decide)
  have ld2 : (datA k x ++ kId k.2.2.1).length = 53 := by rw [List.length_append, ld1, kId_len]
  obtain ⟨M3, fs3, k3, D3, F3, o3⟩ := R185 (b := 296) (at1 := 64 * i) (N := 64) D2 i2.1 (by rw [i2.2]; omega) (by rw [i2.2]; decide) (by decide) (by omega)
  rw [r7_] at D3
  rw [show nI 64 = 64 from rfl] at k3
  have o13 := o12.tr o3
  have F13 : Fo [73] fs fs3 := (F1.tr F2).tr F3
  have emk : datA k x ++ kId k.2.2.1 ++ kPt k.2.2.1 = mkD k V := by rw [ex]; rfl
  rw [emk] at D3
  have q3 := m30.dw o13 D3
  have g3 := gO_of D3.1.1
  have rc3 := D3.1.rc
  have r1 := D3.1.rf 1 285 (by decide)
  have r62 := D3.1.rf 62 333 (by decide)
  have gf := gI_of (h.2.2.2.2.1.off o13 (by decide)).1
  have ld : (mkD k V).length = 117 := mkD_len ok
  have bd : isB (mkD k V) := mkD_b ok
  -- the signature
  have t3 := ht.off o13 (by decide)
  obtain ⟨ww, eww⟩ : ∃ X, X = rowOf cs m 1 := ⟨_, rfl⟩
  have ew : (t.drop v.2.1).take 32 = ww := by
    rw [← hz, seg_eq ht2 hv, eww, rowOf_eq hm]
  have bw : isB ww := by rw [eww]; exact rowOf_b bcs
  rw [← eww]
  have hO : mkO k V ww = [162] ++ rwB 1 (mkD k V) ++ rwB 2 (sgB (nBL 32 k.2.2.1) (sha (mkD k V ++ ww))) := rfl
  rw [hO]
  clear hO
  generalize mkD k V = da at *
  obtain ⟨M4, fs4, k4, n4, q4, s4, D4, f25, F4, o4⟩ := R187 (b := 285) (at1 := v.2.1) (ww := ww) D3 bd (by rw [ld]; decide) q3 ((F13 25 (by decide)).trans m2.2.2.2.2.2.2.2.2.2.2) hk t3.1 (Or.inr rfl) (by rw [t3.2]; omega) (by rw [t3.2]; decide) ew bw
  have rc4 := n4.rc
  -- the reply
  have f4 : fs4[4]? = some (.int (nI 0)) := (F4 4 (by decide)).trans ((F13 4 (by decide)).trans m2.2.1)
  have W4 : OW M4 fs4 [] := ⟨n4, f4, q4.2.1⟩
  obtain ⟨M5, fs5, k5, W5, F5, o5⟩ := R166 (b := 162) W4 (by decide)
  have rc5 := W5.1.rc
  have g5 := gO_of W5.1.1
  have r72 := W5.1.rf 72 340 (by decide)
  have f73 : fs5[73]? = some (.int (nI da.length)) := (F5 73 (by decide)).trans D4.2.1
  obtain ⟨dt, hdt, hdr⟩ := D4.2.2
  have dt5 := hdt.off o5 (by decide)
  obtain ⟨M6, fs6, k6, W6, F6, o6⟩ := R167 (x := 1) (b := 340) (at1 := 0) (N := da.length) W5 dt5.1 (by rw [dt5.2, ld]; decide) (by rw [dt5.2]; decide) (by decide) (by show 1 + _ + 3 ≤ _; omega) (by rw [ld]; decide)
  rw [List.drop_zero, hdr] at W6
  rw [nI_0] at k6
  have l6 : ([] ++ [162] ++ rwB 1 da).length ≤ 121 := by
    rw [List.length_append]
    have := rwB_len (x := 1) (xs := da)
    show 1 + _ ≤ _
    omega
  have rc6 := W6.1.rc
  have g6 := gO_of W6.1.1
  have r28 := W6.1.rf 28 301 (by decide)
  have o46 := o5.tr o6
  have s6 := s4.off o46 (by decide)
  obtain ⟨sg, esg⟩ : ∃ X, X = sgB (nBL 32 k.2.2.1) (sha (da ++ ww)) := ⟨_, rfl⟩
  rw [← esg] at s6 ⊢
  have bsg : isB sg := by rw [esg]; exact isB_sg
  obtain ⟨M7, fs7, k7, W7, F7, o7⟩ := R167 (x := 2) (b := 301) (at1 := 0) (N := 64) W6 s6.1 (by rw [s6.2]; decide) (by rw [s6.2]; decide) (by decide) (by omega) (by decide)
  rw [List.drop_zero, List.take_of_length_le (by rw [s6.2]; decide), List.nil_append] at W7
  rw [nI_0, show nI 64 = 64 from rfl] at k7
  have o47 := o46.tr o7
  have F47 : Fo [4] fs4 fs7 := (F5.tr F6).tr F7
  have F04 : MF fs4 tl 0 V tc n w fl (G.1 + 1) := by
    obtain ⟨h2, h4, h6, h9, h10, h11, h12, h13, h21, h24, h25⟩ := m2
    have e : ∀ k, k ∉ [25, 30, 43] → k ∉ [73] → ∀ y, fs[k]? = y → fs4[k]? = y := fun k w1 w2 y hy => (F4 k w1).trans ((F13 k w2).trans hy)
    exact ⟨e 2 (by decide) (by decide) _ h2, e 4 (by decide) (by decide) _ h4, e 6 (by decide) (by decide) _ h6, e 9 (by decide) (by decide) _ h9, e 10 (by decide) (by decide) _ h10, e 11 (by decide) (by decide) _ h11, e 12 (by decide) (by decide) _ h12, e 13 (by decide) (by decide) _ h13, e 21 (by decide) (by decide) _ h21, e 24 (by decide) (by decide) _ h24, f25⟩
  refine ⟨M7, fs7, (e190_408 _ _ _).trans ?_, W7.1, F04.t4 F47 W7.2.1, q4.nu o47 W7.2.2, ?_, ?_, ((o13.cm (by decide)).tr (o4.cm (by decide))).tr (o47.cm (by decide))⟩
  · by_cases c9 : V.2.2.2.2.2.2 = 0
    · rw [if_pos c9] at ex
      subst ex
      have c9 : (V.2.2.2.2.2.2 = 0) = True := eq_true c9
      simp only [cl_190, e190_0, e190_1, e190_4, e190_5, e190_6, e190_7, e190_8, e190_10, e190_12, e190_15, e190_16, e190_17, e190_18, e190_19, e190_20, e190_22, e190_25, e190_26, e190_27, e190_28, e190_29, e190_30, e190_32, e190_35, e190_36, e190_37, e190_38, e190_39, e190_41, e190_43, e190_46, e190_47, e190_49, e190_50, e190_51, e190_53, e190_55, e190_58, e190_59, e190_60, e190_63, e190_64, e190_65, e190_68, e190_69, e190_70, e190_71, e190_72, e190_75, e190_76, e190_78, e190_79, e190_82, e190_85, e190_86, e190_89, e190_90, e190_91, e190_94, e190_95, e190_96, e190_99, e190_102, e190_103, e190_104, e190_105, e190_108, e190_111, e190_113, e190_114, e190_117, e190_121, e190_124, e190_127, e190_128, e190_131, e190_133, e190_134, e190_137, e190_139, e190_140, e190_141, e190_144, e190_147, e190_148, e190_150, e190_151, e190_154, e190_157, e190_159, e190_161, e190_162, e190_165, e190_166, e190_167, e190_168, e190_171, e190_172, e190_175, e190_177, e190_180, e190_182, e190_184, e190_187, e190_190, e190_192, e190_194, e190_195, e190_198, e190_199, e190_200, e190_203, e190_204, e190_205, e190_209, e190_212, e190_214, e190_215, e190_216, e190_219, e190_220, e190_221, e190_224, e190_225, e190_228, e190_229, e190_230, e190_233, e190_235, e190_237, e190_238, e190_240, e190_243, e190_244, e190_247, e190_249, e190_250, e190_253, e190_254, e190_255, e190_256, e190_257, e190_260, e190_261, e190_264, e190_265, e190_266, e190_267, e190_270, e190_272, e190_274, e190_275, e190_276, e190_279, e190_280, e190_281, e190_284, e190_285, e190_288, e190_289, e190_290, e190_293, e190_294, e190_297, e190_298, e190_301, e190_302, e190_305, e190_306, e190_309, e190_311, e190_313, e190_314, e190_317, e190_318, e190_321, e190_322, e190_323, e190_326, e190_328, e190_330, e190_331, e190_333, e190_336, e190_337, e190_339, e190_340, e190_343, e190_345, e190_347, e190_348, e190_351, e190_352, e190_355, e190_357, e190_358, e190_359, e190_360, e190_361, e190_364, e190_367, e190_370, e190_373, e190_374, e190_377, e190_378, e190_381, e190_383, e190_385, e190_386, e190_389, e190_390, e190_393, e190_394, e190_397, e190_399, e190_401, e190_402, e190_404, e190_405, e190_409, e190_411, e190_412, e190_415, e190_418, e190_420, e190_423, e190_425, e190_428, e190_429, e190_430, e190_433, e190_435, e190_437, e190_438, e190_440, e190_443, e190_444, e190_445, e190_448, e190_450, e190_452, e190_453, e190_455, e190_458, e190_459, e190_461, e190_462, e190_465, e190_466, e190_469, e190_470, e190_471, e190_474, e190_475, e190_478, e190_481, e190_482, e190_483, e190_484, e190_487, e190_488, e190_489, e190_492, e190_495, e190_496, e190_497, e190_498, e190_501, e190_502, e190_504, e190_507, e190_508, ow_190, Int32.reduceOfInt, Int32.reduceOfNat, Int32.reduceToNatClampNeg, Int32.reduceLT, Int32.reduceLE, Int32.reduceAdd, Int32.reduceSub, Int32.reduceMul, Int64.reduceOfNat, Int64.reduceOfInt, Nat.reduceLeDiff, Nat.reduceLT, Nat.reduceEqDiff, Nat.reduceSub, cs_0, cs_1, cs_2, cs_3, cs_4, cs_5, cs_6, cs_7, cs_8, or_false, false_or, not_false_eq_true, and_true, true_and, if_true, if_false, List.length_cons, List.length_nil, List.getElem?_cons_succ, List.getElem?_cons_zero, List.set_cons_succ, List.set_cons_zero, reduceIte, d_G, d_R, s_aload, s_aload_n, s_iload, s_iload_n, s_lload, s_lload_n, s_istore, s_istore_n, s_astore, s_astoreN, s_astore_n, s_astore_nN, s_lstore, s_lstore_n, s_iinc, s_iconst, s_bipush, s_sipush, s_lconst, s_ldc2_w, s_aconst_null, s_dupA, s_dupI, s_dup2, s_iadd, s_isub, s_imul, s_iand, s_ior, s_ixor, s_ishl, s_ishr, s_iushr, s_ineg, s_idiv, s_irem, s_ladd, s_lsub, s_lmul, s_land, s_lor, s_lxor, s_ldiv, s_lshl, s_lshr, s_lushr, s_i2l, s_l2i, s_lcmp, s_goto, s_ieq, s_ine, s_ilt, s_ige, s_igt, s_ile, s_zeq, s_zne, s_zlt, s_zge, s_zgt, s_zle, s_ifnull, s_ifnullN, s_ifnonnull, s_ifnonnullN, s_tableswitch, s_lookupswitch, s_getfield, s_putfield, s_getstatic, s_iaload, s_laload, s_baload, s_aaload, s_iastore, s_lastore, s_bastore, s_aastore, s_arraylength, s_newI, s_newJ, s_newZ, s_anewarray, s_new, s_copy, s_max, s_min, s_invokestatic, s_objinit, s_invokespecial, kf_isr_r, s_invokevirtual, s_ireturn, s_lreturn, s_areturn, s_areturnN, s_return, lI_0, lI_s, lJ_0, lJ_s, lA_0, lA_0N, lA_s, lS1_0, lS1_1, lS1_2, lS2_0, lS2_1, lS2_2, lK_n, lK_i, lK_j, lK_a, lK_N, d_C', kf_w_0, kf_w_i, kf_w_a, kf_w_n, kf_w_j, c_0, c_1, c_2, c_3, c_4, c_5, c_6, tl_0, tl_1, Option.bind_some, Option.bind_none, Option.map_some, Nat.reduceAdd, Nat.reduceMul, Nat.reduceDiv, Nat.reduceMod, Int.reduceToNat, Fin.val_zero, Fin.isValue, Fin.val_one, Fin.val_two, fv_0, fv_1, fv_2, fv_3, fw_0, fw_1, d_ite, true_or, or_true, and_false, false_and, or_self, and_self, ow_186, ow_185, ow_187, ow_166, ow_167, g0, f9, c9, rc, k1, g1, r18, e16, rc1, k2, g2, r20, e64, rc2, k3, g3, r1, r62, gf, q1_, p1_, y3, rc3, k4, rc4, k5, g5, r72, f73, rc5, k6, g6, r28, rc6, k7]
    · rw [if_neg c9] at ex
      subst ex
      simp only [cl_190, e190_0, e190_1, e190_4, e190_5, e190_6, e190_7, e190_8, e190_10, e190_12, e190_15, e190_16, e190_17, e190_18, e190_19, e190_20, e190_22, e190_25, e190_26, e190_27, e190_28, e190_29, e190_30, e190_32, e190_35, e190_36, e190_37, e190_38, e190_39, e190_41, e190_43, e190_46, e190_47, e190_49, e190_50, e190_51, e190_53, e190_55, e190_58, e190_59, e190_60, e190_63, e190_64, e190_65, e190_68, e190_69, e190_70, e190_71, e190_72, e190_75, e190_76, e190_78, e190_79, e190_82, e190_85, e190_86, e190_89, e190_90, e190_91, e190_94, e190_95, e190_96, e190_99, e190_102, e190_103, e190_104, e190_105, e190_108, e190_111, e190_113, e190_114, e190_117, e190_121, e190_124, e190_127, e190_128, e190_131, e190_133, e190_134, e190_137, e190_139, e190_140, e190_141, e190_144, e190_147, e190_148, e190_150, e190_151, e190_154, e190_157, e190_159, e190_161, e190_162, e190_165, e190_166, e190_167, e190_168, e190_171, e190_172, e190_175, e190_177, e190_180, e190_182, e190_184, e190_187, e190_190, e190_192, e190_194, e190_195, e190_198, e190_199, e190_200, e190_203, e190_204, e190_205, e190_209, e190_212, e190_214, e190_215, e190_216, e190_219, e190_220, e190_221, e190_224, e190_225, e190_228, e190_229, e190_230, e190_233, e190_235, e190_237, e190_238, e190_240, e190_243, e190_244, e190_247, e190_249, e190_250, e190_253, e190_254, e190_255, e190_256, e190_257, e190_260, e190_261, e190_264, e190_265, e190_266, e190_267, e190_270, e190_272, e190_274, e190_275, e190_276, e190_279, e190_280, e190_281, e190_284, e190_285, e190_288, e190_289, e190_290, e190_293, e190_294, e190_297, e190_298, e190_301, e190_302, e190_305, e190_306, e190_309, e190_311, e190_313, e190_314, e190_317, e190_318, e190_321, e190_322, e190_323, e190_326, e190_328, e190_330, e190_331, e190_333, e190_336, e190_337, e190_339, e190_340, e190_343, e190_345, e190_347, e190_348, e190_351, e190_352, e190_355, e190_357, e190_358, e190_359, e190_360, e190_361, e190_364, e190_367, e190_370, e190_373, e190_374, e190_377, e190_378, e190_381, e190_383, e190_385, e190_386, e190_389, e190_390, e190_393, e190_394, e190_397, e190_399, e190_401, e190_402, e190_404, e190_405, e190_409, e190_411, e190_412, e190_415, e190_418, e190_420, e190_423, e190_425, e190_428, e190_429, e190_430, e190_433, e190_435, e190_437, e190_438, e190_440, e190_443, e190_444, e190_445, e190_448, e190_450, e190_452, e190_453, e190_455, e190_458, e190_459, e190_461, e190_462, e190_465, e190_466, e190_469, e190_470, e190_471, e190_474, e190_475, e190_478, e190_481, e190_482, e190_483, e190_484, e190_487, e190_488, e190_489, e190_492, e190_495, e190_496, e190_497, e190_498, e190_501, e190_502, e190_504, e190_507, e190_508, ow_190, Int32.reduceOfInt, Int32.reduceOfNat, Int32.reduceToNatClampNeg, Int32.reduceLT, Int32.reduceLE, Int32.reduceAdd, Int32.reduceSub, Int32.reduceMul, Int64.reduceOfNat, Int64.reduceOfInt, Nat.reduceLeDiff, Nat.reduceLT, Nat.reduceEqDiff, Nat.reduceSub, cs_0, cs_1, cs_2, cs_3, cs_4, cs_5, cs_6, cs_7, cs_8, or_false, false_or, not_false_eq_true, and_true, true_and, if_true, if_false, List.length_cons, List.length_nil, List.getElem?_cons_succ, List.getElem?_cons_zero, List.set_cons_succ, List.set_cons_zero, reduceIte, d_G, d_R, s_aload, s_aload_n, s_iload, s_iload_n, s_lload, s_lload_n, s_istore, s_istore_n, s_astore, s_astoreN, s_astore_n, s_astore_nN, s_lstore, s_lstore_n, s_iinc, s_iconst, s_bipush, s_sipush, s_lconst, s_ldc2_w, s_aconst_null, s_dupA, s_dupI, s_dup2, s_iadd, s_isub, s_imul, s_iand, s_ior, s_ixor, s_ishl, s_ishr, s_iushr, s_ineg, s_idiv, s_irem, s_ladd, s_lsub, s_lmul, s_land, s_lor, s_lxor, s_ldiv, s_lshl, s_lshr, s_lushr, s_i2l, s_l2i, s_lcmp, s_goto, s_ieq, s_ine, s_ilt, s_ige, s_igt, s_ile, s_zeq, s_zne, s_zlt, s_zge, s_zgt, s_zle, s_ifnull, s_ifnullN, s_ifnonnull, s_ifnonnullN, s_tableswitch, s_lookupswitch, s_getfield, s_putfield, s_getstatic, s_iaload, s_laload, s_baload, s_aaload, s_iastore, s_lastore, s_bastore, s_aastore, s_arraylength, s_newI, s_newJ, s_newZ, s_anewarray, s_new, s_copy, s_max, s_min, s_invokestatic, s_objinit, s_invokespecial, kf_isr_r, s_invokevirtual, s_ireturn, s_lreturn, s_areturn, s_areturnN, s_return, lI_0, lI_s, lJ_0, lJ_s, lA_0, lA_0N, lA_s, lS1_0, lS1_1, lS1_2, lS2_0, lS2_1, lS2_2, lK_n, lK_i, lK_j, lK_a, lK_N, d_C', kf_w_0, kf_w_i, kf_w_a, kf_w_n, kf_w_j, c_0, c_1, c_2, c_3, c_4, c_5, c_6, tl_0, tl_1, Option.bind_some, Option.bind_none, Option.map_some, Nat.reduceAdd, Nat.reduceMul, Nat.reduceDiv, Nat.reduceMod, Int.reduceToNat, Fin.val_zero, Fin.isValue, Fin.val_one, Fin.val_two, fv_0, fv_1, fv_2, fv_3, fw_0, fw_1, d_ite, true_or, or_true, and_false, false_and, or_self, and_self, ow_186, ow_185, ow_187, ow_166, ow_167, g0, f9, c9, rc, k1, g1, r18, e16, rc1, k2, g2, r20, e64, rc2, k3, g3, r1, r62, gf, q1_, p1_, y3, rc3, k4, rc4, k5, g5, r72, f73, rc5, k6, g6, r28, rc6, k7]
  · refine isB_app (isB_app ?_ (isB_rw ⟨1, by decide, rfl⟩ bd)) (isB_rw ⟨2, by decide, rfl⟩ bsg)
    intro z hz
    rw [List.mem_singleton] at hz
    rw [hz]
    exact ⟨162, by decide, rfl⟩
  · rw [List.nil_append] at l6
    rw [List.length_append]
    have := rwB_len (x := 2) (xs := sg)
    have := s6.2
    omega
end MMK3
