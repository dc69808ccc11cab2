/-! isRight -/
theorem cg_zm {m a b v : Nat} (h : cg m v ((a : Int) - b)) (hv : v < m) (ha : a < m) (hb : b < m) : (v = 0) = (a = b) := by
  obtain ⟨k, hk⟩ := h
  have k1 : 1 ≤ k → (m : Int) * 1 ≤ m * k := fun q => Int.mul_le_mul_of_nonneg_left q (by omega)
  have k2 : k ≤ -1 → (m : Int) * k ≤ m * (-1) := fun q => Int.mul_le_mul_of_nonneg_left q (by omega)
  have k3 : k = 0 → (m : Int) * k = 0 := fun q => by rw [q, Int.mul_zero]
  have k4 : 2 ≤ k → (m : Int) * 2 ≤ m * k := fun q => Int.mul_le_mul_of_nonneg_left q (by omega)
  have hc : k ≤ -1 ∨ k = 0 ∨ 1 ≤ k := by omega
  apply propext
  generalize (m : Int) * k = z at *
  constructor
  · rintro rfl
    rcases hc with q | q | q
    · have := k2 q; omega
    · have := k3 q; omega
    · have := k1 q; omega
  · rintro rfl
    rcases hc with q | q | q
    · have := k2 q; omega
    · have := k3 q; omega
    · have := k1 q; omega
def A160 : List Nat := [284, 308, 309, 310, 311, 312, 313, 314, 315, 316, 317, 318, 319, 320, 321, 322, 323, 324, 325, 326, 328, 329, 330, 331]
theorem n160e {M : kf_M} {fs : List Value} {S : Pt} {r : Nat} {l1 : Int32} (hM : MdIs M fs) (hC : Cal M) (hp : PtM M fs S) (hv : vP S) (hr : Wd M 325 r) (r0 : r ≠ 0) (r1 : r < nN) : ∃ (M' : kf_M), kf_ev 160 246 [some (.ref 284), some (.int l1)] [] M = some (some (.int (if fpx S % nN = r then 1 else 0)), M') ∧ MdIs M' fs ∧ Cal M' ∧ Off A160 M M' := by
  have g0 := gO_of hM.1
  have r41 := hM.rf 41 313 (by decide)
  have r46 := hM.rf 46 317 (by decide)
  have r54 := hM.rf 54 325 (by decide)
  have z1 : ¬ (1 : Int32) = 0 := by decide
  cases S with
  | none =>
    have hn : fs[43]? = some (.int 1) := hp
    have e : ¬ fpx none % nN = r := by
      show ¬ (0 : Int) % nN = r
      rw [Int.zero_emod]
      omega
    rw [if_neg e]
    refine ⟨M, (e160_246 _ _ _).trans ?_, hM, hC, Off.rf⟩
    simp only [cl_160, e160_0, e160_1, e160_4, e160_5, e160_8, e160_9, e160_12, e160_13, e160_16, e160_17, e160_20, e160_22, e160_25, e160_26, e160_29, e160_32, e160_35, e160_36, e160_39, e160_42, e160_45, e160_46, e160_49, e160_52, e160_55, e160_58, e160_59, e160_62, e160_65, e160_68, e160_71, e160_72, e160_73, e160_74, e160_77, e160_78, e160_81, e160_82, e160_85, e160_86, e160_89, e160_92, e160_95, e160_96, e160_97, e160_100, e160_101, e160_104, e160_107, e160_110, e160_111, e160_112, e160_115, e160_116, e160_119, e160_120, e160_123, e160_126, e160_129, e160_130, e160_131, e160_134, e160_135, e160_138, e160_139, e160_142, e160_145, e160_148, e160_149, e160_150, e160_153, e160_156, e160_159, e160_162, e160_163, e160_166, e160_167, e160_168, e160_171, e160_172, e160_175, e160_178, e160_179, e160_182, e160_183, e160_186, e160_189, e160_190, e160_193, e160_194, e160_197, e160_198, e160_201, e160_202, e160_205, e160_206, e160_209, e160_211, e160_214, e160_215, e160_216, e160_219, e160_220, e160_223, e160_224, e160_227, e160_230, e160_231, e160_234, e160_235, e160_236, e160_239, e160_240, e160_243, e160_247, e160_250, e160_253, e160_254, e160_255, e160_256, e160_259, e160_262, e160_265, e160_266, e160_269, e160_270, e160_273, e160_274, e160_277, e160_280, e160_283, e160_284, e160_287, e160_290, ow_160, Int32.reduceOfInt, Int32.reduceOfNat, Int32.reduceToNatClampNeg, Int32.reduceLT, Int32.reduceLE, Int32.reduceAdd, Int32.reduceSub, Int32.reduceMul, Int64.reduceOfNat, Int64.reduceOfInt, Nat.reduceLeDiff, Nat.reduceLT, Nat.reduceEqDiff, Nat.reduceSub, cs_0, cs_1, cs_2, cs_3, cs_4, cs_5, cs_6, cs_7, cs_8, or_false, false_or, not_false_eq_true, and_true, true_and, if_true, if_false, List.length_cons, List.length_nil, List.getElem?_cons_succ, List.getElem?_cons_zero, List.set_cons_succ, List.set_cons_zero, reduceIte, d_G, d_R, s_aload, s_aload_n, s_iload, s_iload_n, s_lload, s_lload_n, s_istore, s_istore_n, s_astore, s_astoreN, s_astore_n, s_astore_nN, s_lstore, s_lstore_n, s_iinc, s_iconst, s_bipush, s_sipush, s_lconst, s_ldc2_w, s_aconst_null, s_dupA, s_dupI, s_dup2, s_iadd, s_isub, s_imul, s_iand, s_ior, s_ixor, s_ishl, s_ishr, s_iushr, s_ineg, s_idiv, s_irem, s_ladd, s_lsub, s_lmul, s_land, s_lor, s_lxor, s_ldiv, s_lshl, s_lshr, s_lushr, s_i2l, s_l2i, s_lcmp, s_goto, s_ieq, s_ine, s_ilt, s_ige, s_igt, s_ile, s_zeq, s_zne, s_zlt, s_zge, s_zgt, s_zle, s_ifnull, s_ifnullN, s_ifnonnull, s_ifnonnullN, s_tableswitch, s_lookupswitch, s_getfield, s_putfield, s_getstatic, s_iaload, s_laload, s_baload, s_aaload, s_iastore, s_lastore, s_bastore, s_aastore, s_arraylength, s_newI, s_newJ, s_newZ, s_anewarray, s_new, s_copy, s_max, s_min, s_invokestatic, s_objinit, s_invokespecial, kf_isr_r, s_invokevirtual, s_ireturn, s_lreturn, s_areturn, s_areturnN, s_return, lI_0, lI_s, lJ_0, lJ_s, lA_0, lA_0N, lA_s, lS1_0, lS1_1, lS1_2, lS2_0, lS2_1, lS2_2, lK_n, lK_i, lK_j, lK_a, lK_N, d_C', kf_w_0, kf_w_i, kf_w_a, kf_w_n, kf_w_j, c_0, c_1, c_2, c_3, c_4, c_5, c_6, tl_0, tl_1, Option.bind_some, Option.bind_none, Option.map_some, Nat.reduceAdd, Nat.reduceMul, Nat.reduceDiv, Nat.reduceMod, Int.reduceToNat, Fin.val_zero, Fin.isValue, Fin.val_one, Fin.val_two, fv_0, fv_1, fv_2, fv_3, fw_0, fw_1, d_ite, true_or, or_true, and_false, false_and, or_self, and_self, g0, hn, z1]
  | some xy =>
    obtain ⟨x, y⟩ := xy
    have hn := hp.1
    have hx := hp.2.1
    have ex := toN hv.1
    have hno := nN_o
    obtain ⟨M1, k1, w1, C1, o1⟩ := q144 (to := 313) hC Mo14 (by decide) hx
    have hM1 := hM.off o1 (by decide)
    have g1 := gO_of hM1.1
    have lx : x.toNat % nN < nN := Nat.mod_lt _ (by omega)
    obtain ⟨M2, v2, k2, w2, b2, c2, C2, o2⟩ := q146 (to := 317) C1 Mo14 w1 (hr.off o1 (by decide)) (by decide) lx r1
    have hM2 := hM1.off o2 (by decide)
    have g2 := gO_of hM2.1
    have iz := n138 w2
    have hz := cg_zm c2 b2 lx r1
    have e : (fpx (some (x, y)) % nN = r) = (v2 = 0) := by
      rw [hz]
      show (x % nN = r) = _
      have e2 : x % (nN : Int) = ((x.toNat % nN : Nat) : Int) := by rw [Int.natCast_emod, ex]
      rw [e2]
      apply propext
      omega
    simp only [e]
    refine ⟨M2, (e160_246 _ _ _).trans ?_, hM2, C2, (o1.wk (by decide)).tr (o2.wk (by decide))⟩
    have hi : (if v2 = 0 then (1 : Int32) else 0) = 0 ∨ (if v2 = 0 then (1 : Int32) else 0) = 1 := by split <;> simp
    simp only [cl_160, e160_0, e160_1, e160_4, e160_5, e160_8, e160_9, e160_12, e160_13, e160_16, e160_17, e160_20, e160_22, e160_25, e160_26, e160_29, e160_32, e160_35, e160_36, e160_39, e160_42, e160_45, e160_46, e160_49, e160_52, e160_55, e160_58, e160_59, e160_62, e160_65, e160_68, e160_71, e160_72, e160_73, e160_74, e160_77, e160_78, e160_81, e160_82, e160_85, e160_86, e160_89, e160_92, e160_95, e160_96, e160_97, e160_100, e160_101, e160_104, e160_107, e160_110, e160_111, e160_112, e160_115, e160_116, e160_119, e160_120, e160_123, e160_126, e160_129, e160_130, e160_131, e160_134, e160_135, e160_138, e160_139, e160_142, e160_145, e160_148, e160_149, e160_150, e160_153, e160_156, e160_159, e160_162, e160_163, e160_166, e160_167, e160_168, e160_171, e160_172, e160_175, e160_178, e160_179, e160_182, e160_183, e160_186, e160_189, e160_190, e160_193, e160_194, e160_197, e160_198, e160_201, e160_202, e160_205, e160_206, e160_209, e160_211, e160_214, e160_215, e160_216, e160_219, e160_220, e160_223, e160_224, e160_227, e160_230, e160_231, e160_234, e160_235, e160_236, e160_239, e160_240, e160_243, e160_247, e160_250, e160_253, e160_254, e160_255, e160_256, e160_259, e160_262, e160_265, e160_266, e160_269, e160_270, e160_273, e160_274, e160_277, e160_280, e160_283, e160_284, e160_287, e160_290, ow_160, Int32.reduceOfInt, Int32.reduceOfNat, Int32.reduceToNatClampNeg, Int32.reduceLT, Int32.reduceLE, Int32.reduceAdd, Int32.reduceSub, Int32.reduceMul, Int64.reduceOfNat, Int64.reduceOfInt, Nat.reduceLeDiff, Nat.reduceLT, Nat.reduceEqDiff, Nat.reduceSub, cs_0, cs_1, cs_2, cs_3, cs_4, cs_5, cs_6, cs_7, cs_8, or_false, false_or, not_false_eq_true, and_true, true_and, if_true, if_false, List.length_cons, List.length_nil, List.getElem?_cons_succ, List.getElem?_cons_zero, List.set_cons_succ, List.set_cons_zero, reduceIte, d_G, d_R, s_aload, s_aload_n, s_iload, s_iload_n, s_lload, s_lload_n, s_istore, s_istore_n, s_astore, s_astoreN, s_astore_n, s_astore_nN, s_lstore, s_lstore_n, s_iinc, s_iconst, s_bipush, s_sipush, s_lconst, s_ldc2_w, s_aconst_null, s_dupA, s_dupI, s_dup2, s_iadd, s_isub, s_imul, s_iand, s_ior, s_ixor, s_ishl, s_ishr, s_iushr, s_ineg, s_idiv, s_irem, s_ladd, s_lsub, s_lmul, s_land, s_lor, s_lxor, s_ldiv, s_lshl, s_lshr, s_lushr, s_i2l, s_l2i, s_lcmp, s_goto, s_ieq, s_ine, s_ilt, s_ige, s_igt, s_ile, s_zeq, s_zne, s_zlt, s_zge, s_zgt, s_zle, s_ifnull, s_ifnullN, s_ifnonnull, s_ifnonnullN, s_tableswitch, s_lookupswitch, s_getfield, s_putfield, s_getstatic, s_iaload, s_laload, s_baload, s_aaload, s_iastore, s_lastore, s_bastore, s_aastore, s_arraylength, s_newI, s_newJ, s_newZ, s_anewarray, s_new, s_copy, s_max, s_min, s_invokestatic, s_objinit, s_invokespecial, kf_isr_r, s_invokevirtual, s_ireturn, s_lreturn, s_areturn, s_areturnN, s_return, lI_0, lI_s, lJ_0, lJ_s, lA_0, lA_0N, lA_s, lS1_0, lS1_1, lS1_2, lS2_0, lS2_1, lS2_2, lK_n, lK_i, lK_j, lK_a, lK_N, d_C', kf_w_0, kf_w_i, kf_w_a, kf_w_n, kf_w_j, c_0, c_1, c_2, c_3, c_4, c_5, c_6, tl_0, tl_1, Option.bind_some, Option.bind_none, Option.map_some, Nat.reduceAdd, Nat.reduceMul, Nat.reduceDiv, Nat.reduceMod, Int.reduceToNat, Fin.val_zero, Fin.isValue, Fin.val_one, Fin.val_two, fv_0, fv_1, fv_2, fv_3, fw_0, fw_1, d_ite, true_or, or_true, and_false, false_and, or_self, and_self, g0, g1, g2, hn, r41, r46, r54, k1, k2, iz]
    rcases hi with q | q <;> rw [q] <;> simp only [cl_160, e160_0, e160_1, e160_4, e160_5, e160_8, e160_9, e160_12, e160_13, e160_16, e160_17, e160_20, e160_22, e160_25, e160_26, e160_29, e160_32, e160_35, e160_36, e160_39, e160_42, e160_45, e160_46, e160_49, e160_52, e160_55, e160_58, e160_59, e160_62, e160_65, e160_68, e160_71, e160_72, e160_73, e160_74, e160_77, e160_78, e160_81, e160_82, e160_85, e160_86, e160_89, e160_92, e160_95, e160_96, e160_97, e160_100, e160_101, e160_104, e160_107, e160_110, e160_111, e160_112, e160_115, e160_116, e160_119, e160_120, e160_123, e160_126, e160_129, e160_130, e160_131, e160_134, e160_135, e160_138, e160_139, e160_142, e160_145, e160_148, e160_149, e160_150, e160_153, e160_156, e160_159, e160_162, e160_163, e160_166, e160_167, e160_168, e160_171, e160_172, e160_175, e160_178, e160_179, e160_182, e160_183, e160_186, e160_189, e160_190, e160_193, e160_194, e160_197, e160_198, e160_201, e160_202, e160_205, e160_206, e160_209, e160_211, e160_214, e160_215, e160_216, e160_219, e160_220, e160_223, e160_224, e160_227, e160_230, e160_231, e160_234, e160_235, e160_236, e160_239, e160_240, e160_243, e160_247, e160_250, e160_253, e160_254, e160_255, e160_256, e160_259, e160_262, e160_265, e160_266, e160_269, e160_270, e160_273, e160_274, e160_277, e160_280, e160_283, e160_284, e160_287, e160_290, ow_160, Int32.reduceOfInt, Int32.reduceOfNat, Int32.reduceToNatClampNeg, Int32.reduceLT, Int32.reduceLE, Int32.reduceAdd, Int32.reduceSub, Int32.reduceMul, Int64.reduceOfNat, Int64.reduceOfInt, Nat.reduceLeDiff, Nat.reduceLT, Nat.reduceEqDiff, Nat.reduceSub, cs_0, cs_1, cs_2, cs_3, cs_4, cs_5, cs_6, cs_7, cs_8, or_false, false_or, not_false_eq_true, and_true, true_and, if_true, if_false, List.length_cons, List.length_nil, List.getElem?_cons_succ, List.getElem?_cons_zero, List.set_cons_succ, List.set_cons_zero, reduceIte, d_G, d_R, s_aload, s_aload_n, s_iload, s_iload_n, s_lload, s_lload_n, s_istore, s_istore_n, s_astore, s_astoreN, s_astore_n, s_astore_nN, s_lstore, s_lstore_n, s_iinc, s_iconst, s_bipush, s_sipush, s_lconst, s_ldc2_w, s_aconst_null, s_dupA, s_dupI, s_dup2, s_iadd, s_isub, s_imul, s_iand, s_ior, s_ixor, s_ishl, s_ishr, s_iushr, s_ineg, s_idiv, s_irem, s_ladd, s_lsub, s_lmul, s_land, s_lor, s_lxor, s_ldiv, s_lshl, s_lshr, s_lushr, s_i2l, s_l2i, s_lcmp, s_goto, s_ieq, s_ine, s_ilt, s_ige, s_igt, s_ile, s_zeq, s_zne, s_zlt, s_zge, s_zgt, s_zle, s_ifnull, s_ifnullN, s_ifnonnull, s_ifnonnullN, s_tableswitch, s_lookupswitch, s_getfield, s_putfield, s_getstatic, s_iaload, s_laload, s_baload, s_aaload, s_iastore, s_lastore, s_bastore, s_aastore, s_arraylength, s_newI, s_newJ, s_newZ, s_anewarray, s_new, s_copy, s_max, s_min, s_invokestatic, s_objinit, s_invokespecial, kf_isr_r, s_invokevirtual, s_ireturn, s_lreturn, s_areturn, s_areturnN, s_return, lI_0, lI_s, lJ_0, lJ_s, lA_0, lA_0N, lA_s, lS1_0, lS1_1, lS1_2, lS2_0, lS2_1, lS2_2, lK_n, lK_i, lK_j, lK_a, lK_N, d_C', kf_w_0, kf_w_i, kf_w_a, kf_w_n, kf_w_j, c_0, c_1, c_2, c_3, c_4, c_5, c_6, tl_0, tl_1, Option.bind_some, Option.bind_none, Option.map_some, Nat.reduceAdd, Nat.reduceMul, Nat.reduceDiv, Nat.reduceMod, Int.reduceToNat, Fin.val_zero, Fin.isValue, Fin.val_one, Fin.val_two, fv_0, fv_1, fv_2, fv_3, fw_0, fw_1, d_ite, true_or, or_true, and_false, false_and, or_self, and_self, z1] <;> rfl
set_option maxRecDepth 100000 in
set_option maxHeartbeats 4000000 in
theorem n160 {M : kf_M} {fs : List Value} {x y : Nat} {dig lp t : List Int32} (hM : MdIs M fs) (hC : Cal M) (hlh : ArI M 299 32 dig) (bd : isB dig) (hlp : ArI M 300 64 lp) (elp : lp = nBL 32 x ++ nBL 32 y) (hx : x < 2 ^ 256) (hy : y < 2 ^ 256) (vQ : vP (some ((x : Int), (y : Int)))) (ht : ArI M 327 64 t) (bt : isB t) : ∃ (M' : kf_M) (fs' : List Value), kf_cl 160 [.ref 284] M = some (some (.int (vrI (nb dig) (nb (t.take 32)) (nb (t.drop 32)) (some ((x : Int), (y : Int))))), M') ∧ MdIs M' fs' ∧ Cal M' ∧ Fo [43] fs fs' ∧ Off A160 M M' := by
  have hno := nN_o
  subst elp
  have ltt := ht.2
  obtain ⟨H0, H1⟩ := nb_32 bd hlh.2
  obtain ⟨R0, R1⟩ := nb_32 (xs := t.take 32) (isB_sub bt (fun _ h => List.mem_of_mem_take h)) (by rw [List.length_take]; omega)
  obtain ⟨S0, S1⟩ := nb_32 (xs := t.drop 32) (isB_sub bt (fun _ h => List.mem_of_mem_drop h)) (by rw [List.length_drop]; omega)
  generalize nb dig = H at *
  generalize nb (t.take 32) = r at *
  generalize nb (t.drop 32) = s at *
  have r54 := hM.rf 54 325 (by decide)
  have r55 := hM.rf 55 326 (by decide)
  have r56 := hM.rf 56 327 (by decide)
  have g0 := gO_of hM.1
  have z1 : ¬ (1 : Int32) = 0 := by decide
  obtain ⟨M1, k1, w1, C1, o1⟩ := q152 (to := 325) (row := 327) (at1 := 0) hC (by decide) (by decide) ht.1 (by rw [ht.2]; decide) (by rw [ht.2]; decide) (by rw [List.drop_zero]; exact R1) R0
  have hM1 := hM.off o1 (by decide)
  have g1 := gO_of hM1.1
  have ht1 := ht.off o1 (by decide)
  obtain ⟨M2, k2, w2, C2, o2⟩ := q152 (to := 326) (row := 327) (at1 := 32) C1 (by decide) (by decide) ht1.1 (by rw [ht.2]; decide) (by rw [ht.2]; decide) (by rw [List.take_of_length_le (by rw [List.length_drop, ht.2]; decide)]; exact S1) S0
  have hM_2 := hM1.off o2 (by decide)
  have w1_2 := w1.off o2 (by decide)
  have O2 : Off A160 M M2 := (o1.wk (by decide)).tr (o2.wk (by decide))
  have lh_2 := (hlh.off o1 (by decide)).off o2 (by decide)
  have lp_2 := (hlp.off o1 (by decide)).off o2 (by decide)
  have ir := n138 w1_2
  have is := n138 w2
  have lr := n137 w1_2 C2.2.2.2.1
  have lss := n137 w2 C2.2.2.2.1
  rw [nI_0] at k1
  rw [show nI 32 = 32 from rfl] at k2
  have g2' := gO_of hM_2.1
  have q54 := hM_2.rf 54 325 (by decide)
  have q55 := hM_2.rf 55 326 (by decide)
  by_cases r0 : r = 0
  · rw [if_pos r0] at ir
    refine ⟨M2, fs, ?_, hM_2, C2, Fo.rf, O2⟩
    rw [vrI_0 (fun h => h.1.1 (by omega))]
    simp only [cl_160, e160_0, e160_1, e160_4, e160_5, e160_8, e160_9, e160_12, e160_13, e160_16, e160_17, e160_20, e160_22, e160_25, e160_26, e160_29, e160_32, e160_35, e160_36, e160_39, e160_42, e160_45, e160_46, e160_49, e160_52, e160_55, e160_58, e160_59, e160_62, e160_65, e160_68, e160_71, e160_72, e160_73, e160_74, e160_77, e160_78, e160_81, e160_82, e160_85, e160_86, e160_89, e160_92, e160_95, e160_96, e160_97, e160_100, e160_101, e160_104, e160_107, e160_110, e160_111, e160_112, e160_115, e160_116, e160_119, e160_120, e160_123, e160_126, e160_129, e160_130, e160_131, e160_134, e160_135, e160_138, e160_139, e160_142, e160_145, e160_148, e160_149, e160_150, e160_153, e160_156, e160_159, e160_162, e160_163, e160_166, e160_167, e160_168, e160_171, e160_172, e160_175, e160_178, e160_179, e160_182, e160_183, e160_186, e160_189, e160_190, e160_193, e160_194, e160_197, e160_198, e160_201, e160_202, e160_205, e160_206, e160_209, e160_211, e160_214, e160_215, e160_216, e160_219, e160_220, e160_223, e160_224, e160_227, e160_230, e160_231, e160_234, e160_235, e160_236, e160_239, e160_240, e160_243, e160_247, e160_250, e160_253, e160_254, e160_255, e160_256, e160_259, e160_262, e160_265, e160_266, e160_269, e160_270, e160_273, e160_274, e160_277, e160_280, e160_283, e160_284, e160_287, e160_290, ow_160, Int32.reduceOfInt, Int32.reduceOfNat, Int32.reduceToNatClampNeg, Int32.reduceLT, Int32.reduceLE, Int32.reduceAdd, Int32.reduceSub, Int32.reduceMul, Int64.reduceOfNat, Int64.reduceOfInt, Nat.reduceLeDiff, Nat.reduceLT, Nat.reduceEqDiff, Nat.reduceSub, cs_0, cs_1, cs_2, cs_3, cs_4, cs_5, cs_6, cs_7, cs_8, or_false, false_or, not_false_eq_true, and_true, true_and, if_true, if_false, List.length_cons, List.length_nil, List.getElem?_cons_succ, List.getElem?_cons_zero, List.set_cons_succ, List.set_cons_zero, reduceIte, d_G, d_R, s_aload, s_aload_n, s_iload, s_iload_n, s_lload, s_lload_n, s_istore, s_istore_n, s_astore, s_astoreN, s_astore_n, s_astore_nN, s_lstore, s_lstore_n, s_iinc, s_iconst, s_bipush, s_sipush, s_lconst, s_ldc2_w, s_aconst_null, s_dupA, s_dupI, s_dup2, s_iadd, s_isub, s_imul, s_iand, s_ior, s_ixor, s_ishl, s_ishr, s_iushr, s_ineg, s_idiv, s_irem, s_ladd, s_lsub, s_lmul, s_land, s_lor, s_lxor, s_ldiv, s_lshl, s_lshr, s_lushr, s_i2l, s_l2i, s_lcmp, s_goto, s_ieq, s_ine, s_ilt, s_ige, s_igt, s_ile, s_zeq, s_zne, s_zlt, s_zge, s_zgt, s_zle, s_ifnull, s_ifnullN, s_ifnonnull, s_ifnonnullN, s_tableswitch, s_lookupswitch, s_getfield, s_putfield, s_getstatic, s_iaload, s_laload, s_baload, s_aaload, s_iastore, s_lastore, s_bastore, s_aastore, s_arraylength, s_newI, s_newJ, s_newZ, s_anewarray, s_new, s_copy, s_max, s_min, s_invokestatic, s_objinit, s_invokespecial, kf_isr_r, s_invokevirtual, s_ireturn, s_lreturn, s_areturn, s_areturnN, s_return, lI_0, lI_s, lJ_0, lJ_s, lA_0, lA_0N, lA_s, lS1_0, lS1_1, lS1_2, lS2_0, lS2_1, lS2_2, lK_n, lK_i, lK_j, lK_a, lK_N, d_C', kf_w_0, kf_w_i, kf_w_a, kf_w_n, kf_w_j, c_0, c_1, c_2, c_3, c_4, c_5, c_6, tl_0, tl_1, Option.bind_some, Option.bind_none, Option.map_some, Nat.reduceAdd, Nat.reduceMul, Nat.reduceDiv, Nat.reduceMod, Int.reduceToNat, Fin.val_zero, Fin.isValue, Fin.val_one, Fin.val_two, fv_0, fv_1, fv_2, fv_3, fw_0, fw_1, d_ite, true_or, or_true, and_false, false_and, or_self, and_self, g0, g1, g2', r54, r55, r56, k1, k2, ir, z1]
  rw [if_neg r0] at ir
  by_cases s0 : s = 0
  · rw [if_pos s0] at is
    refine ⟨M2, fs, ?_, hM_2, C2, Fo.rf, O2⟩
    rw [vrI_0 (fun h => h.2.1.1 (by omega))]
    simp only [cl_160, e160_0, e160_1, e160_4, e160_5, e160_8, e160_9, e160_12, e160_13, e160_16, e160_17, e160_20, e160_22, e160_25, e160_26, e160_29, e160_32, e160_35, e160_36, e160_39, e160_42, e160_45, e160_46, e160_49, e160_52, e160_55, e160_58, e160_59, e160_62, e160_65, e160_68, e160_71, e160_72, e160_73, e160_74, e160_77, e160_78, e160_81, e160_82, e160_85, e160_86, e160_89, e160_92, e160_95, e160_96, e160_97, e160_100, e160_101, e160_104, e160_107, e160_110, e160_111, e160_112, e160_115, e160_116, e160_119, e160_120, e160_123, e160_126, e160_129, e160_130, e160_131, e160_134, e160_135, e160_138, e160_139, e160_142, e160_145, e160_148, e160_149, e160_150, e160_153, e160_156, e160_159, e160_162, e160_163, e160_166, e160_167, e160_168, e160_171, e160_172, e160_175, e160_178, e160_179, e160_182, e160_183, e160_186, e160_189, e160_190, e160_193, e160_194, e160_197, e160_198, e160_201, e160_202, e160_205, e160_206, e160_209, e160_211, e160_214, e160_215, e160_216, e160_219, e160_220, e160_223, e160_224, e160_227, e160_230, e160_231, e160_234, e160_235, e160_236, e160_239, e160_240, e160_243, e160_247, e160_250, e160_253, e160_254, e160_255, e160_256, e160_259, e160_262, e160_265, e160_266, e160_269, e160_270, e160_273, e160_274, e160_277, e160_280, e160_283, e160_284, e160_287, e160_290, ow_160, Int32.reduceOfInt, Int32.reduceOfNat, Int32.reduceToNatClampNeg, Int32.reduceLT, Int32.reduceLE, Int32.reduceAdd, Int32.reduceSub, Int32.reduceMul, Int64.reduceOfNat, Int64.reduceOfInt, Nat.reduceLeDiff, Nat.reduceLT, Nat.reduceEqDiff, Nat.reduceSub, cs_0, cs_1, cs_2, cs_3, cs_4, cs_5, cs_6, cs_7, cs_8, or_false, false_or, not_false_eq_true, and_true, true_and, if_true, if_false, List.length_cons, List.length_nil, List.getElem?_cons_succ, List.getElem?_cons_zero, List.set_cons_succ, List.set_cons_zero, reduceIte, d_G, d_R, s_aload, s_aload_n, s_iload, s_iload_n, s_lload, s_lload_n, s_istore, s_istore_n, s_astore, s_astoreN, s_astore_n, s_astore_nN, s_lstore, s_lstore_n, s_iinc, s_iconst, s_bipush, s_sipush, s_lconst, s_ldc2_w, s_aconst_null, s_dupA, s_dupI, s_dup2, s_iadd, s_isub, s_imul, s_iand, s_ior, s_ixor, s_ishl, s_ishr, s_iushr, s_ineg, s_idiv, s_irem, s_ladd, s_lsub, s_lmul, s_land, s_lor, s_lxor, s_ldiv, s_lshl, s_lshr, s_lushr, s_i2l, s_l2i, s_lcmp, s_goto, s_ieq, s_ine, s_ilt, s_ige, s_igt, s_ile, s_zeq, s_zne, s_zlt, s_zge, s_zgt, s_zle, s_ifnull, s_ifnullN, s_ifnonnull, s_ifnonnullN, s_tableswitch, s_lookupswitch, s_getfield, s_putfield, s_getstatic, s_iaload, s_laload, s_baload, s_aaload, s_iastore, s_lastore, s_bastore, s_aastore, s_arraylength, s_newI, s_newJ, s_newZ, s_anewarray, s_new, s_copy, s_max, s_min, s_invokestatic, s_objinit, s_invokespecial, kf_isr_r, s_invokevirtual, s_ireturn, s_lreturn, s_areturn, s_areturnN, s_return, lI_0, lI_s, lJ_0, lJ_s, lA_0, lA_0N, lA_s, lS1_0, lS1_1, lS1_2, lS2_0, lS2_1, lS2_2, lK_n, lK_i, lK_j, lK_a, lK_N, d_C', kf_w_0, kf_w_i, kf_w_a, kf_w_n, kf_w_j, c_0, c_1, c_2, c_3, c_4, c_5, c_6, tl_0, tl_1, Option.bind_some, Option.bind_none, Option.map_some, Nat.reduceAdd, Nat.reduceMul, Nat.reduceDiv, Nat.reduceMod, Int.reduceToNat, Fin.val_zero, Fin.isValue, Fin.val_one, Fin.val_two, fv_0, fv_1, fv_2, fv_3, fw_0, fw_1, d_ite, true_or, or_true, and_false, false_and, or_self, and_self, g0, g1, g2', r54, r55, r56, k1, k2, ir, is, z1]
  rw [if_neg s0] at is
  by_cases r1 : r < nN
  case neg =>
    rw [if_neg r1] at lr
    refine ⟨M2, fs, ?_, hM_2, C2, Fo.rf, O2⟩
    rw [vrI_0 (fun h => r1 (by have := h.1.2; omega))]
    simp only [cl_160, e160_0, e160_1, e160_4, e160_5, e160_8, e160_9, e160_12, e160_13, e160_16, e160_17, e160_20, e160_22, e160_25, e160_26, e160_29, e160_32, e160_35, e160_36, e160_39, e160_42, e160_45, e160_46, e160_49, e160_52, e160_55, e160_58, e160_59, e160_62, e160_65, e160_68, e160_71, e160_72, e160_73, e160_74, e160_77, e160_78, e160_81, e160_82, e160_85, e160_86, e160_89, e160_92, e160_95, e160_96, e160_97, e160_100, e160_101, e160_104, e160_107, e160_110, e160_111, e160_112, e160_115, e160_116, e160_119, e160_120, e160_123, e160_126, e160_129, e160_130, e160_131, e160_134, e160_135, e160_138, e160_139, e160_142, e160_145, e160_148, e160_149, e160_150, e160_153, e160_156, e160_159, e160_162, e160_163, e160_166, e160_167, e160_168, e160_171, e160_172, e160_175, e160_178, e160_179, e160_182, e160_183, e160_186, e160_189, e160_190, e160_193, e160_194, e160_197, e160_198, e160_201, e160_202, e160_205, e160_206, e160_209, e160_211, e160_214, e160_215, e160_216, e160_219, e160_220, e160_223, e160_224, e160_227, e160_230, e160_231, e160_234, e160_235, e160_236, e160_239, e160_240, e160_243, e160_247, e160_250, e160_253, e160_254, e160_255, e160_256, e160_259, e160_262, e160_265, e160_266, e160_269, e160_270, e160_273, e160_274, e160_277, e160_280, e160_283, e160_284, e160_287, e160_290, ow_160, Int32.reduceOfInt, Int32.reduceOfNat, Int32.reduceToNatClampNeg, Int32.reduceLT, Int32.reduceLE, Int32.reduceAdd, Int32.reduceSub, Int32.reduceMul, Int64.reduceOfNat, Int64.reduceOfInt, Nat.reduceLeDiff, Nat.reduceLT, Nat.reduceEqDiff, Nat.reduceSub, cs_0, cs_1, cs_2, cs_3, cs_4, cs_5, cs_6, cs_7, cs_8, or_false, false_or, not_false_eq_true, and_true, true_and, if_true, if_false, List.length_cons, List.length_nil, List.getElem?_cons_succ, List.getElem?_cons_zero, List.set_cons_succ, List.set_cons_zero, reduceIte, d_G, d_R, s_aload, s_aload_n, s_iload, s_iload_n, s_lload, s_lload_n, s_istore, s_istore_n, s_astore, s_astoreN, s_astore_n, s_astore_nN, s_lstore, s_lstore_n, s_iinc, s_iconst, s_bipush, s_sipush, s_lconst, s_ldc2_w, s_aconst_null, s_dupA, s_dupI, s_dup2, s_iadd, s_isub, s_imul, s_iand, s_ior, s_ixor, s_ishl, s_ishr, s_iushr, s_ineg, s_idiv, s_irem, s_ladd, s_lsub, s_lmul, s_land, s_lor, s_lxor, s_ldiv, s_lshl, s_lshr, s_lushr, s_i2l, s_l2i, s_lcmp, s_goto, s_ieq, s_ine, s_ilt, s_ige, s_igt, s_ile, s_zeq, s_zne, s_zlt, s_zge, s_zgt, s_zle, s_ifnull, s_ifnullN, s_ifnonnull, s_ifnonnullN, s_tableswitch, s_lookupswitch, s_getfield, s_putfield, s_getstatic, s_iaload, s_laload, s_baload, s_aaload, s_iastore, s_lastore, s_bastore, s_aastore, s_arraylength, s_newI, s_newJ, s_newZ, s_anewarray, s_new, s_copy, s_max, s_min, s_invokestatic, s_objinit, s_invokespecial, kf_isr_r, s_invokevirtual, s_ireturn, s_lreturn, s_areturn, s_areturnN, s_return, lI_0, lI_s, lJ_0, lJ_s, lA_0, lA_0N, lA_s, lS1_0, lS1_1, lS1_2, lS2_0, lS2_1, lS2_2, lK_n, lK_i, lK_j, lK_a, lK_N, d_C', kf_w_0, kf_w_i, kf_w_a, kf_w_n, kf_w_j, c_0, c_1, c_2, c_3, c_4, c_5, c_6, tl_0, tl_1, Option.bind_some, Option.bind_none, Option.map_some, Nat.reduceAdd, Nat.reduceMul, Nat.reduceDiv, Nat.reduceMod, Int.reduceToNat, Fin.val_zero, Fin.isValue, Fin.val_one, Fin.val_two, fv_0, fv_1, fv_2, fv_3, fw_0, fw_1, d_ite, true_or, or_true, and_false, false_and, or_self, and_self, g0, g1, g2', r54, r55, r56, k1, k2, ir, is, lr, z1]
  rw [if_pos r1] at lr
  by_cases s1 : s < nN
  case neg =>
    rw [if_neg s1] at lss
    refine ⟨M2, fs, ?_, hM_2, C2, Fo.rf, O2⟩
    rw [vrI_0 (fun h => s1 (by have := h.2.1.2; omega))]
    simp only [cl_160, e160_0, e160_1, e160_4, e160_5, e160_8, e160_9, e160_12, e160_13, e160_16, e160_17, e160_20, e160_22, e160_25, e160_26, e160_29, e160_32, e160_35, e160_36, e160_39, e160_42, e160_45, e160_46, e160_49, e160_52, e160_55, e160_58, e160_59, e160_62, e160_65, e160_68, e160_71, e160_72, e160_73, e160_74, e160_77, e160_78, e160_81, e160_82, e160_85, e160_86, e160_89, e160_92, e160_95, e160_96, e160_97, e160_100, e160_101, e160_104, e160_107, e160_110, e160_111, e160_112, e160_115, e160_116, e160_119, e160_120, e160_123, e160_126, e160_129, e160_130, e160_131, e160_134, e160_135, e160_138, e160_139, e160_142, e160_145, e160_148, e160_149, e160_150, e160_153, e160_156, e160_159, e160_162, e160_163, e160_166, e160_167, e160_168, e160_171, e160_172, e160_175, e160_178, e160_179, e160_182, e160_183, e160_186, e160_189, e160_190, e160_193, e160_194, e160_197, e160_198, e160_201, e160_202, e160_205, e160_206, e160_209, e160_211, e160_214, e160_215, e160_216, e160_219, e160_220, e160_223, e160_224, e160_227, e160_230, e160_231, e160_234, e160_235, e160_236, e160_239, e160_240, e160_243, e160_247, e160_250, e160_253, e160_254, e160_255, e160_256, e160_259, e160_262, e160_265, e160_266, e160_269, e160_270, e160_273, e160_274, e160_277, e160_280, e160_283, e160_284, e160_287, e160_290, ow_160, Int32.reduceOfInt, Int32.reduceOfNat, Int32.reduceToNatClampNeg, Int32.reduceLT, Int32.reduceLE, Int32.reduceAdd, Int32.reduceSub, Int32.reduceMul, Int64.reduceOfNat, Int64.reduceOfInt, Nat.reduceLeDiff, Nat.reduceLT, Nat.reduceEqDiff, Nat.reduceSub, cs_0, cs_1, cs_2, cs_3, cs_4, cs_5, cs_6, cs_7, cs_8, or_false, false_or, not_false_eq_true, and_true, true_and, if_true, if_false, List.length_cons, List.length_nil, List.getElem?_cons_succ, List.getElem?_cons_zero, List.set_cons_succ, List.set_cons_zero, reduceIte, d_G, d_R, s_aload, s_aload_n, s_iload, s_iload_n, s_lload, s_lload_n, s_istore, s_istore_n, s_astore, s_astoreN, s_astore_n, s_astore_nN, s_lstore, s_lstore_n, s_iinc, s_iconst, s_bipush, s_sipush, s_lconst, s_ldc2_w, s_aconst_null, s_dupA, s_dupI, s_dup2, s_iadd, s_isub, s_imul, s_iand, s_ior, s_ixor, s_ishl, s_ishr, s_iushr, s_ineg, s_idiv, s_irem, s_ladd, s_lsub, s_lmul, s_land, s_lor, s_lxor, s_ldiv, s_lshl, s_lshr, s_lushr, s_i2l, s_l2i, s_lcmp, s_goto, s_ieq, s_ine, s_ilt, s_ige, s_igt, s_ile, s_zeq, s_zne, s_zlt, s_zge, s_zgt, s_zle, s_ifnull, s_ifnullN, s_ifnonnull, s_ifnonnullN, s_tableswitch, s_lookupswitch, s_getfield, s_putfield, s_getstatic, s_iaload, s_laload, s_baload, s_aaload, s_iastore, s_lastore, s_bastore, s_aastore, s_arraylength, s_newI, s_newJ, s_newZ, s_anewarray, s_new, s_copy, s_max, s_min, s_invokestatic, s_objinit, s_invokespecial, kf_isr_r, s_invokevirtual, s_ireturn, s_lreturn, s_areturn, s_areturnN, s_return, lI_0, lI_s, lJ_0, lJ_s, lA_0, lA_0N, lA_s, lS1_0, lS1_1, lS1_2, lS2_0, lS2_1, lS2_2, lK_n, lK_i, lK_j, lK_a, lK_N, d_C', kf_w_0, kf_w_i, kf_w_a, kf_w_n, kf_w_j, c_0, c_1, c_2, c_3, c_4, c_5, c_6, tl_0, tl_1, Option.bind_some, Option.bind_none, Option.map_some, Nat.reduceAdd, Nat.reduceMul, Nat.reduceDiv, Nat.reduceMod, Int.reduceToNat, Fin.val_zero, Fin.isValue, Fin.val_one, Fin.val_two, fv_0, fv_1, fv_2, fv_3, fw_0, fw_1, d_ite, true_or, or_true, and_false, false_and, or_self, and_self, g0, g1, g2', r54, r55, r56, k1, k2, ir, is, lr, lss, z1]
  rw [if_pos s1] at lss
  have g2 := gO_of hM_2.1
  have rc2 := hM_2.rc
  have r26_2 := hM_2.rf 26 299 (by decide)
  have r27_2 := hM_2.rf 27 300 (by decide)
  have r41_2 := hM_2.rf 41 313 (by decide)
  have r42_2 := hM_2.rf 42 314 (by decide)
  have r46_2 := hM_2.rf 46 317 (by decide)
  have r51_2 := hM_2.rf 51 322 (by decide)
  have r52_2 := hM_2.rf 52 323 (by decide)
  have r53_2 := hM_2.rf 53 324 (by decide)
  have r54_2 := hM_2.rf 54 325 (by decide)
  have r55_2 := hM_2.rf 55 326 (by decide)
  have r57_2 := hM_2.rf 57 328 (by decide)
  have r58_2 := hM_2.rf 58 329 (by decide)
  have r59_2 := hM_2.rf 59 330 (by decide)
  have r60_2 := hM_2.rf 60 331 (by decide)
  obtain ⟨M23, k3, w3, C3, o3⟩ := q152 (to := 324) (row := 299) (at1 := 0) C2 (by decide) (by decide) lh_2.1 (by rw [lh_2.2]; decide) (by rw [lh_2.2]; decide) (by rw [List.drop_zero, List.take_of_length_le (by rw [lh_2.2]; decide)]; exact H1) H0
  have hM_3 := hM_2.off o3 (by decide)
  have r_3 := w1_2.off o3 (by decide)
  have s_3 := w2.off o3 (by decide)
  have lh_3 := lh_2.off o3 (by decide)
  have lp_3 := lp_2.off o3 (by decide)
  have O3 : Off A160 M2 M23 := o3.wk (by decide)
  have g3 := gO_of hM_3.1
  have rc3 := hM_3.rc
  obtain ⟨M24, k4, w4, C4, o4⟩ := q144 (to := 324) C3 Mo14 (by decide) w3
  have hM_4 := hM_3.off o4 (by decide)
  have r_4 := r_3.off o4 (by decide)
  have s_4 := s_3.off o4 (by decide)
  have lh_4 := lh_3.off o4 (by decide)
  have lp_4 := lp_3.off o4 (by decide)
  have O4 : Off A160 M2 M24 := O3.tr (o4.wk (by decide))
  have g4 := gO_of hM_4.1
  have rc4 := hM_4.rc
  obtain ⟨M25, v5, k5, w5, b5, c5, C5, o5⟩ := q151 (to := 317) hM_4 C4 Mo14 s_4 (by decide) (by decide) (by decide) (Nat.pos_of_ne_zero s0) s1
  have hM_5 := hM_4.off o5 (by decide)
  have r_5 := r_4.off o5 (by decide)
  have s_5 := s_4.off o5 (by decide)
  have lh_5 := lh_4.off o5 (by decide)
  have lp_5 := lp_4.off o5 (by decide)
  have ha_5 := w4.off o5 (by decide)
  have O5 : Off A160 M2 M25 := O4.tr (o5.wk (by decide))
  have g5 := gO_of hM_5.1
  have rc5 := hM_5.rc
  obtain ⟨M26, v6, k6, w6, b6, c6, C6, o6⟩ := q147 (to := 328) hM_5 C5 Mo14 ha_5 w5 (by decide) (by decide) (by decide)
  have hM_6 := hM_5.off o6 (by decide)
  have r_6 := r_5.off o6 (by decide)
  have s_6 := s_5.off o6 (by decide)
  have lh_6 := lh_5.off o6 (by decide)
  have lp_6 := lp_5.off o6 (by decide)
  have ha_6 := ha_5.off o6 (by decide)
  have mi_6 := w5.off o6 (by decide)
  have O6 : Off A160 M2 M26 := O5.tr (o6.wk (by decide))
  have g6 := gO_of hM_6.1
  have rc6 := hM_6.rc
  obtain ⟨M27, v7, k7, w7, b7, c7, C7, o7⟩ := q147 (to := 329) hM_6 C6 Mo14 r_6 mi_6 (by decide) (by decide) (by decide)
  have hM_7 := hM_6.off o7 (by decide)
  have r_7 := r_6.off o7 (by decide)
  have s_7 := s_6.off o7 (by decide)
  have lh_7 := lh_6.off o7 (by decide)
  have lp_7 := lp_6.off o7 (by decide)
  have ha_7 := ha_6.off o7 (by decide)
  have mi_7 := mi_6.off o7 (by decide)
  have u1_7 := w6.off o7 (by decide)
  have O7 : Off A160 M2 M27 := O6.tr (o7.wk (by decide))
  have g7 := gO_of hM_7.1
  have rc7 := hM_7.rc
  obtain ⟨M28, f8, k8, h8, C8, p8, e8, o8⟩ := n157 (kr := 328) (xr := 15) (yr := 16) (x := gXn) (y := gYn) hM_7 C7 u1_7 C7.2.2.2.2.1 C7.2.2.2.2.2 (by rw [← gXY]; exact Gpt_v) (by decide) (by decide) (by decide)
  have r_8 := r_7.off o8 (by decide)
  have s_8 := s_7.off o8 (by decide)
  have lh_8 := lh_7.off o8 (by decide)
  have lp_8 := lp_7.off o8 (by decide)
  have ha_8 := ha_7.off o8 (by decide)
  have u1_8 := u1_7.off o8 (by decide)
  have u2_8 := w7.off o8 (by decide)
  have O8 : Off A160 M2 M28 := O7.tr (o8.wk (by decide))
  have g8 := gO_of h8.1
  have rc8 := h8.rc
  have r26_8 := h8.rf 26 299 (by decide)
  have r27_8 := h8.rf 27 300 (by decide)
  have r41_8 := h8.rf 41 313 (by decide)
  have r42_8 := h8.rf 42 314 (by decide)
  have r46_8 := h8.rf 46 317 (by decide)
  have r51_8 := h8.rf 51 322 (by decide)
  have r52_8 := h8.rf 52 323 (by decide)
  have r53_8 := h8.rf 53 324 (by decide)
  have r54_8 := h8.rf 54 325 (by decide)
  have r55_8 := h8.rf 55 326 (by decide)
  have r57_8 := h8.rf 57 328 (by decide)
  have r58_8 := h8.rf 58 329 (by decide)
  have r59_8 := h8.rf 59 330 (by decide)
  have r60_8 := h8.rf 60 331 (by decide)
  rw [← gXY] at p8
  obtain ⟨lpx, gpx1, gpx2⟩ := C8.2.1 313 (by decide)
  obtain ⟨lpy, gpy1, gpy2⟩ := C8.2.1 314 (by decide)
  have wpx : Wd M28 313 (wv lpx 0 8) := ⟨lpx, gpx1, gpx2, rfl⟩
  have wpy : Wd M28 314 (wv lpy 0 8) := ⟨lpy, gpy1, gpy2, rfl⟩
  obtain ⟨M29, k9, w9, C9, o9⟩ := q140 (to := 330) C8 wpx (by decide) (by decide)
  have hM_9 := h8.off o9 (by decide)
  have r_9 := r_8.off o9 (by decide)
  have s_9 := s_8.off o9 (by decide)
  have lh_9 := lh_8.off o9 (by decide)
  have lp_9 := lp_8.off o9 (by decide)
  have ha_9 := ha_8.off o9 (by decide)
  have u1_9 := u1_8.off o9 (by decide)
  have u2_9 := u2_8.off o9 (by decide)
  have px_9 := wpx.off o9 (by decide)
  have py_9 := wpy.off o9 (by decide)
  have O9 : Off A160 M2 M29 := O8.tr (o9.wk (by decide))
  have g9 := gO_of hM_9.1
  have rc9 := hM_9.rc
  obtain ⟨M210, k10, w10, C10, o10⟩ := q140 (to := 331) C9 py_9 (by decide) (by decide)
  have hM_10 := hM_9.off o10 (by decide)
  have r_10 := r_9.off o10 (by decide)
  have s_10 := s_9.off o10 (by decide)
  have lh_10 := lh_9.off o10 (by decide)
  have lp_10 := lp_9.off o10 (by decide)
  have ha_10 := ha_9.off o10 (by decide)
  have u1_10 := u1_9.off o10 (by decide)
  have u2_10 := u2_9.off o10 (by decide)
  have px_10 := px_9.off o10 (by decide)
  have py_10 := py_9.off o10 (by decide)
  have sx_10 := w9.off o10 (by decide)
  have O10 : Off A160 M2 M210 := O9.tr (o10.wk (by decide))
  have g10 := gO_of hM_10.1
  have rc10 := hM_10.rc
  obtain ⟨M211, k11, w11, C11, o11⟩ := q152 (to := 322) (row := 300) (at1 := 0) C10 (by decide) (by decide) lp_10.1 (by rw [lp_10.2]; decide) (by rw [lp_10.2]; decide) (by rw [List.drop_zero]; exact take_app nBL_len) hx
  have hM_11 := hM_10.off o11 (by decide)
  have r_11 := r_10.off o11 (by decide)
  have s_11 := s_10.off o11 (by decide)
  have lh_11 := lh_10.off o11 (by decide)
  have lp_11 := lp_10.off o11 (by decide)
  have ha_11 := ha_10.off o11 (by decide)
  have u1_11 := u1_10.off o11 (by decide)
  have u2_11 := u2_10.off o11 (by decide)
  have sx_11 := sx_10.off o11 (by decide)
  have sy_11 := w10.off o11 (by decide)
  have O11 : Off A160 M2 M211 := O10.tr (o11.wk (by decide))
  have g11 := gO_of hM_11.1
  have rc11 := hM_11.rc
  obtain ⟨M212, k12, w12, C12, o12⟩ := q152 (to := 323) (row := 300) (at1 := 32) C11 (by decide) (by decide) lp_11.1 (by rw [lp_11.2]; decide) (by rw [lp_11.2]; decide) (by rw [drop_app nBL_len]; exact List.take_of_length_le (by rw [nBL_len]; exact Nat.le_refl _)) hy
  have hM_12 := hM_11.off o12 (by decide)
  have r_12 := r_11.off o12 (by decide)
  have s_12 := s_11.off o12 (by decide)
  have lh_12 := lh_11.off o12 (by decide)
  have lp_12 := lp_11.off o12 (by decide)
  have ha_12 := ha_11.off o12 (by decide)
  have u1_12 := u1_11.off o12 (by decide)
  have u2_12 := u2_11.off o12 (by decide)
  have sx_12 := sx_11.off o12 (by decide)
  have sy_12 := sy_11.off o12 (by decide)
  have kx_12 := w11.off o12 (by decide)
  have O12 : Off A160 M2 M212 := O11.tr (o12.wk (by decide))
  have g12 := gO_of hM_12.1
  have rc12 := hM_12.rc
  obtain ⟨M213, f13, k13, h13, C13, p13, e13, o13⟩ := n157 (kr := 329) (xr := 322) (yr := 323) (x := x) (y := y) hM_12 C12 u2_12 kx_12 w12 vQ (by decide) (by decide) (by decide)
  have r_13 := r_12.off o13 (by decide)
  have s_13 := s_12.off o13 (by decide)
  have lh_13 := lh_12.off o13 (by decide)
  have lp_13 := lp_12.off o13 (by decide)
  have ha_13 := ha_12.off o13 (by decide)
  have u1_13 := u1_12.off o13 (by decide)
  have u2_13 := u2_12.off o13 (by decide)
  have sx_13 := sx_12.off o13 (by decide)
  have sy_13 := sy_12.off o13 (by decide)
  have kx_13 := kx_12.off o13 (by decide)
  have ky_13 := w12.off o13 (by decide)
  have O13 : Off A160 M2 M213 := O12.tr (o13.wk (by decide))
  have g13 := gO_of h13.1
  have rc13 := h13.rc
  have r26_13 := h13.rf 26 299 (by decide)
  have r27_13 := h13.rf 27 300 (by decide)
  have r41_13 := h13.rf 41 313 (by decide)
  have r42_13 := h13.rf 42 314 (by decide)
  have r46_13 := h13.rf 46 317 (by decide)
  have r51_13 := h13.rf 51 322 (by decide)
  have r52_13 := h13.rf 52 323 (by decide)
  have r53_13 := h13.rf 53 324 (by decide)
  have r54_13 := h13.rf 54 325 (by decide)
  have r55_13 := h13.rf 55 326 (by decide)
  have r57_13 := h13.rf 57 328 (by decide)
  have r58_13 := h13.rf 58 329 (by decide)
  have r59_13 := h13.rf 59 330 (by decide)
  have r60_13 := h13.rf 60 331 (by decide)
  have e6 : (v6 : Int) = vU s H := by
    refine vU_un (by omega) (by omega) b6 ?_
    have a1 := cg_ml c6 (cg_rf (m := nN) (a := (s : Int)))
    rw [Int.mul_assoc] at a1
    have a2 := cg_ml (cg_mod (a := H) (m := nN)) c5
    rw [Int.mul_one] at a2
    exact cg_tr a1 a2
  have e7 : (v7 : Int) = vU s r := by
    refine vU_un (by omega) (by omega) b7 ?_
    have a1 := cg_ml c7 (cg_rf (m := nN) (a := (s : Int)))
    rw [Int.mul_assoc] at a1
    have a2 := cg_ml (cg_rf (m := nN) (a := (r : Int))) c5
    rw [Int.mul_one] at a2
    exact cg_tr a1 a2
  have eS : ∀ i : Int32, i = (if fpx (padd (pmul v6 Gpt) (pmul v7 (some ((x : Int), (y : Int))))) % nN = r then 1 else 0) → i = vrI H r s (some ((x : Int), (y : Int))) := by
    intro i hi
    have d : vrd H r s (some ((x : Int), (y : Int))) = (fpx (padd (pmul v6 Gpt) (pmul v7 (some ((x : Int), (y : Int))))) % nN = r) := by
      unfold vrd
      rw [← e6, ← e7, show ((v6 : Int)).toNat = v6 from rfl, show ((v7 : Int)).toNat = v7 from rfl]
      apply propext
      constructor
      · intro h; exact h.2.2
      · intro h; exact ⟨⟨by omega, by omega⟩, ⟨by omega, by omega⟩, h⟩
    by_cases q : fpx (padd (pmul v6 Gpt) (pmul v7 (some ((x : Int), (y : Int))))) % nN = r
    · rw [if_pos q] at hi
      rw [hi, vrI_1 (by rw [d]; exact q)]
    · rw [if_neg q] at hi
      rw [hi, vrI_0 (by rw [d]; exact q)]
  have v1 := Gm_v v6
  have v2 := pmul_v vQ v7
  have Fall : Fo [43] fs f13 := (Fo.of43 e8).tr (Fo.of43 e13)
  rw [nI_0] at k3 k11
  rw [show nI 32 = 32 from rfl] at k12
  cases hq1 : pmul v6 Gpt with
  | none =>
    rw [hq1] at p8 eS v1
    have hn8 : f8[43]? = some (.int 1) := p8
    rw [padd_0 v2] at eS
    obtain ⟨M14, k14, hM14, C14, o14⟩ := n160e (l1 := 1) h13 C13 p13 v2 r_13 r0 r1
    refine ⟨M14, f13, ?_, hM14, C14, Fall, (O2.tr O13).tr o14⟩
    rw [← eS _ rfl]
    simp only [cl_160, e160_0, e160_1, e160_4, e160_5, e160_8, e160_9, e160_12, e160_13, e160_16, e160_17, e160_20, e160_22, e160_25, e160_26, e160_29, e160_32, e160_35, e160_36, e160_39, e160_42, e160_45, e160_46, e160_49, e160_52, e160_55, e160_58, e160_59, e160_62, e160_65, e160_68, e160_71, e160_72, e160_73, e160_74, e160_77, e160_78, e160_81, e160_82, e160_85, e160_86, e160_89, e160_92, e160_95, e160_96, e160_97, e160_100, e160_101, e160_104, e160_107, e160_110, e160_111, e160_112, e160_115, e160_116, e160_119, e160_120, e160_123, e160_126, e160_129, e160_130, e160_131, e160_134, e160_135, e160_138, e160_139, e160_142, e160_145, e160_148, e160_149, e160_150, e160_153, e160_156, e160_159, e160_162, e160_163, e160_166, e160_167, e160_168, e160_171, e160_172, e160_175, e160_178, e160_179, e160_182, e160_183, e160_186, e160_189, e160_190, e160_193, e160_194, e160_197, e160_198, e160_201, e160_202, e160_205, e160_206, e160_209, e160_211, e160_214, e160_215, e160_216, e160_219, e160_220, e160_223, e160_224, e160_227, e160_230, e160_231, e160_234, e160_235, e160_236, e160_239, e160_240, e160_243, e160_247, e160_250, e160_253, e160_254, e160_255, e160_256, e160_259, e160_262, e160_265, e160_266, e160_269, e160_270, e160_273, e160_274, e160_277, e160_280, e160_283, e160_284, e160_287, e160_290, ow_160, Int32.reduceOfInt, Int32.reduceOfNat, Int32.reduceToNatClampNeg, Int32.reduceLT, Int32.reduceLE, Int32.reduceAdd, Int32.reduceSub, Int32.reduceMul, Int64.reduceOfNat, Int64.reduceOfInt, Nat.reduceLeDiff, Nat.reduceLT, Nat.reduceEqDiff, Nat.reduceSub, cs_0, cs_1, cs_2, cs_3, cs_4, cs_5, cs_6, cs_7, cs_8, or_false, false_or, not_false_eq_true, and_true, true_and, if_true, if_false, List.length_cons, List.length_nil, List.getElem?_cons_succ, List.getElem?_cons_zero, List.set_cons_succ, List.set_cons_zero, reduceIte, d_G, d_R, s_aload, s_aload_n, s_iload, s_iload_n, s_lload, s_lload_n, s_istore, s_istore_n, s_astore, s_astoreN, s_astore_n, s_astore_nN, s_lstore, s_lstore_n, s_iinc, s_iconst, s_bipush, s_sipush, s_lconst, s_ldc2_w, s_aconst_null, s_dupA, s_dupI, s_dup2, s_iadd, s_isub, s_imul, s_iand, s_ior, s_ixor, s_ishl, s_ishr, s_iushr, s_ineg, s_idiv, s_irem, s_ladd, s_lsub, s_lmul, s_land, s_lor, s_lxor, s_ldiv, s_lshl, s_lshr, s_lushr, s_i2l, s_l2i, s_lcmp, s_goto, s_ieq, s_ine, s_ilt, s_ige, s_igt, s_ile, s_zeq, s_zne, s_zlt, s_zge, s_zgt, s_zle, s_ifnull, s_ifnullN, s_ifnonnull, s_ifnonnullN, s_tableswitch, s_lookupswitch, s_getfield, s_putfield, s_getstatic, s_iaload, s_laload, s_baload, s_aaload, s_iastore, s_lastore, s_bastore, s_aastore, s_arraylength, s_newI, s_newJ, s_newZ, s_anewarray, s_new, s_copy, s_max, s_min, s_invokestatic, s_objinit, s_invokespecial, kf_isr_r, s_invokevirtual, s_ireturn, s_lreturn, s_areturn, s_areturnN, s_return, lI_0, lI_s, lJ_0, lJ_s, lA_0, lA_0N, lA_s, lS1_0, lS1_1, lS1_2, lS2_0, lS2_1, lS2_2, lK_n, lK_i, lK_j, lK_a, lK_N, d_C', kf_w_0, kf_w_i, kf_w_a, kf_w_n, kf_w_j, c_0, c_1, c_2, c_3, c_4, c_5, c_6, tl_0, tl_1, Option.bind_some, Option.bind_none, Option.map_some, Nat.reduceAdd, Nat.reduceMul, Nat.reduceDiv, Nat.reduceMod, Int.reduceToNat, Fin.val_zero, Fin.isValue, Fin.val_one, Fin.val_two, fv_0, fv_1, fv_2, fv_3, fw_0, fw_1, d_ite, true_or, or_true, and_false, false_and, or_self, and_self, g0, g1, r54, r55, r56, k1, k2, ir, is, lr, lss, z1, hn8, ow_147, ow_151, ow_157, g2, g3, g4, g5, g6, g7, g8, g9, g10, g11, g12, g13, rc2, rc3, rc4, rc5, rc6, rc7, rc8, rc9, rc10, rc11, rc12, rc13, r26_2, r27_2, r41_2, r42_2, r46_2, r51_2, r52_2, r53_2, r54_2, r55_2, r57_2, r58_2, r59_2, r60_2, r26_8, r27_8, r41_8, r42_8, r46_8, r51_8, r52_8, r53_8, r54_8, r55_8, r57_8, r58_8, r59_8, r60_8, r26_13, r27_13, r41_13, r42_13, r46_13, r51_13, r52_13, r53_13, r54_13, r55_13, r57_13, r58_13, r59_13, r60_13, k3, k4, k5, k6, k7, k8, k9, k10, k11, k12, k13, k14]
  | some ab =>
    obtain ⟨a, b⟩ := ab
    rw [hq1] at p8 eS v1
    have hn8 := p8.1
    have ea : wv lpx 0 8 = a.toNat := by
      obtain ⟨l, h1, h2, h3⟩ := p8.2.1
      rw [oI_in gpx1 h1]; exact h3
    have eb : wv lpy 0 8 = b.toNat := by
      obtain ⟨l, h1, h2, h3⟩ := p8.2.2
      rw [oI_in gpy1 h1]; exact h3
    have sx := sx_13
    have sy := sy_13
    rw [ea] at sx
    rw [eb] at sy
    obtain ⟨M14, f14, k14, hM14, p14, C14, e14, o14⟩ := n154 (xr := 330) (yr := 331) h13 C13 p13 v2 sx sy v1 (by decide) (by decide)
    have g14 := gO_of hM14.1
    rw [padd_cm v2 v1] at p14
    obtain ⟨M15, k15, hM15, C15, o15⟩ := n160e (l1 := 0) hM14 C14 p14 (padd_v v1 v2) (r_13.off o14 (by decide)) r0 r1
    refine ⟨M15, f14, ?_, hM15, C15, Fall.tr (Fo.of43 e14), ((O2.tr O13).tr (o14.wk (by decide))).tr o15⟩
    rw [← eS _ rfl]
    simp only [cl_160, e160_0, e160_1, e160_4, e160_5, e160_8, e160_9, e160_12, e160_13, e160_16, e160_17, e160_20, e160_22, e160_25, e160_26, e160_29, e160_32, e160_35, e160_36, e160_39, e160_42, e160_45, e160_46, e160_49, e160_52, e160_55, e160_58, e160_59, e160_62, e160_65, e160_68, e160_71, e160_72, e160_73, e160_74, e160_77, e160_78, e160_81, e160_82, e160_85, e160_86, e160_89, e160_92, e160_95, e160_96, e160_97, e160_100, e160_101, e160_104, e160_107, e160_110, e160_111, e160_112, e160_115, e160_116, e160_119, e160_120, e160_123, e160_126, e160_129, e160_130, e160_131, e160_134, e160_135, e160_138, e160_139, e160_142, e160_145, e160_148, e160_149, e160_150, e160_153, e160_156, e160_159, e160_162, e160_163, e160_166, e160_167, e160_168, e160_171, e160_172, e160_175, e160_178, e160_179, e160_182, e160_183, e160_186, e160_189, e160_190, e160_193, e160_194, e160_197, e160_198, e160_201, e160_202, e160_205, e160_206, e160_209, e160_211, e160_214, e160_215, e160_216, e160_219, e160_220, e160_223, e160_224, e160_227, e160_230, e160_231, e160_234, e160_235, e160_236, e160_239, e160_240, e160_243, e160_247, e160_250, e160_253, e160_254, e160_255, e160_256, e160_259, e160_262, e160_265, e160_266, e160_269, e160_270, e160_273, e160_274, e160_277, e160_280, e160_283, e160_284, e160_287, e160_290, ow_160, Int32.reduceOfInt, Int32.reduceOfNat, Int32.reduceToNatClampNeg, Int32.reduceLT, Int32.reduceLE, Int32.reduceAdd, Int32.reduceSub, Int32.reduceMul, Int64.reduceOfNat, Int64.reduceOfInt, Nat.reduceLeDiff, Nat.reduceLT, Nat.reduceEqDiff, Nat.reduceSub, cs_0, cs_1, cs_2, cs_3, cs_4, cs_5, cs_6, cs_7, cs_8, or_false, false_or, not_false_eq_true, and_true, true_and, if_true, if_false, List.length_cons, List.length_nil, List.getElem?_cons_succ, List.getElem?_cons_zero, List.set_cons_succ, List.set_cons_zero, reduceIte, d_G, d_R, s_aload, s_aload_n, s_iload, s_iload_n, s_lload, s_lload_n, s_istore, s_istore_n, s_astore, s_astoreN, s_astore_n, s_astore_nN, s_lstore, s_lstore_n, s_iinc, s_iconst, s_bipush, s_sipush, s_lconst, s_ldc2_w, s_aconst_null, s_dupA, s_dupI, s_dup2, s_iadd, s_isub, s_imul, s_iand, s_ior, s_ixor, s_ishl, s_ishr, s_iushr, s_ineg, s_idiv, s_irem, s_ladd, s_lsub, s_lmul, s_land, s_lor, s_lxor, s_ldiv, s_lshl, s_lshr, s_lushr, s_i2l, s_l2i, s_lcmp, s_goto, s_ieq, s_ine, s_ilt, s_ige, s_igt, s_ile, s_zeq, s_zne, s_zlt, s_zge, s_zgt, s_zle, s_ifnull, s_ifnullN, s_ifnonnull, s_ifnonnullN, s_tableswitch, s_lookupswitch, s_getfield, s_putfield, s_getstatic, s_iaload, s_laload, s_baload, s_aaload, s_iastore, s_lastore, s_bastore, s_aastore, s_arraylength, s_newI, s_newJ, s_newZ, s_anewarray, s_new, s_copy, s_max, s_min, s_invokestatic, s_objinit, s_invokespecial, kf_isr_r, s_invokevirtual, s_ireturn, s_lreturn, s_areturn, s_areturnN, s_return, lI_0, lI_s, lJ_0, lJ_s, lA_0, lA_0N, lA_s, lS1_0, lS1_1, lS1_2, lS2_0, lS2_1, lS2_2, lK_n, lK_i, lK_j, lK_a, lK_N, d_C', kf_w_0, kf_w_i, kf_w_a, kf_w_n, kf_w_j, c_0, c_1, c_2, c_3, c_4, c_5, c_6, tl_0, tl_1, Option.bind_some, Option.bind_none, Option.map_some, Nat.reduceAdd, Nat.reduceMul, Nat.reduceDiv, Nat.reduceMod, Int.reduceToNat, Fin.val_zero, Fin.isValue, Fin.val_one, Fin.val_two, fv_0, fv_1, fv_2, fv_3, fw_0, fw_1, d_ite, true_or, or_true, and_false, false_and, or_self, and_self, g0, g1, r54, r55, r56, k1, k2, ir, is, lr, lss, z1, hn8, ow_147, ow_151, ow_154, ow_157, g2, g3, g4, g5, g6, g7, g8, g9, g10, g11, g12, g13, rc2, rc3, rc4, rc5, rc6, rc7, rc8, rc9, rc10, rc11, rc12, rc13, r26_2, r27_2, r41_2, r42_2, r46_2, r51_2, r52_2, r53_2, r54_2, r55_2, r57_2, r58_2, r59_2, r60_2, r26_8, r27_8, r41_8, r42_8, r46_8, r51_8, r52_8, r53_8, r54_8, r55_8, r57_8, r58_8, r59_8, r60_8, r26_13, r27_13, r41_13, r42_13, r46_13, r51_13, r52_13, r53_13, r54_13, r55_13, r57_13, r58_13, r59_13, r60_13, k3, k4, k5, k6, k7, k8, k9, k10, k11, k12, k13, k14, k15]
