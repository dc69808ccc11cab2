/-! Hash.end -/
abbrev HS : Type := List Int32 × List Int32 × Nat
def padz : Nat → HS → HS
  | 0, s => s
  | m + 1, s => if s.2.2 % 64 = 56 then s else padz m (hput s 0)
def hok (s : HS) : Prop := s.1.length = 8 ∧ s.2.1.length = 64
def HashV (M : kf_M) (a : Nat) (s : HS) : Prop := HashIs M a s.1 s.2.1 s.2.2
theorem hput_ok {s : HS} {v : Int32} (h : hok s) : hok (hput s v) := ⟨(hput_len h.1 h.2).1, (hput_len h.1 h.2).2.1⟩
theorem c26v {M : kf_M} {a : Nat} {s : HS} {v : Int32} (h : HashV M a s) (ho : hok s) (hn : s.2.2 < 2 ^ 30) (gk : M[1]? = some (oI sx_1)) (ha : 19 ≤ a) : ∃ M', kf_cl 26 [.ref a, .int v] M = some (none, M') ∧ HashV M' a (hput s v) ∧ Off [a, a + 1, a + 2] M M' := c26 h ho.1 ho.2 hn gk ha
theorem padz_ok : ∀ (m : Nat) (s : HS), hok s → hok (padz m s) ∧ (padz m s).2.2 ≤ s.2.2 + m
  | 0, s, h => ⟨h, Nat.le_refl _⟩
  | m + 1, s, h => by
    rw [padz]
    split
    · exact ⟨h, by omega⟩
    · have := padz_ok m (hput s 0) (hput_ok h)
      refine ⟨this.1, Nat.le_trans this.2 ?_⟩
      rw [(hput_len h.1 h.2).2.2]
      omega
theorem c28a {a : Nat} {I : Value} {bt : Int64} {in1 : Nat} (hI : I = .ref in1) (ha : 19 ≤ a) : ∀ (m i : Nat) (M : kf_M) (s : HS), i + m = 64 → HashV M a s → hok s → s.2.2 + m < 2 ^ 30 → M[1]? = some (oI sx_1) → ∃ M' j, kf_ev 28 20 [some (.ref a), some I, some (.long bt), none, some (.int (nI i))] [] M = kf_ev 28 50 [some (.ref a), some I, some (.long bt), none, some (.int j)] [] M' ∧ HashV M' a (padz m s) ∧ Off [a, a + 1, a + 2] M M' := by
  subst hI
  intro m
  induction m with
  | zero =>
    intro i M s hi hH ho hk gk
    have hi : i = 64 := by omega
    subst hi
    have e : (64 : Int32) ≤ nI 64 := by decide
    exact ⟨M, nI 64, (e28_20 _ _ _).trans (by simp only [cl_28, e28_0, e28_1, e28_4, e28_5, e28_8, e28_9, e28_10, e28_11, e28_14, e28_17, e28_18, e28_22, e28_24, e28_27, e28_28, e28_31, e28_33, e28_34, e28_36, e28_39, e28_40, e28_41, e28_44, e28_47, e28_52, e28_56, e28_59, e28_60, e28_61, e28_63, e28_64, e28_65, e28_68, e28_71, e28_74, e28_75, e28_79, e28_81, e28_84, e28_86, e28_87, e28_88, e28_91, e28_92, e28_94, e28_95, e28_98, e28_100, e28_101, e28_102, e28_103, e28_105, e28_107, e28_109, e28_110, e28_111, e28_112, e28_113, e28_114, e28_117, e28_118, e28_119, e28_122, e28_125, ow_28, Int32.reduceOfInt, Int32.reduceOfNat, Int32.reduceToNatClampNeg, Int32.reduceLT, Int32.reduceLE, Int32.reduceAdd, Int32.reduceSub, Int32.reduceMul, Int64.reduceOfNat, Int64.reduceOfInt, Nat.reduceLeDiff, Nat.reduceLT, Nat.reduceEqDiff, Nat.reduceSub, cs_0, cs_1, cs_2, cs_3, cs_4, cs_5, cs_6, cs_7, cs_8, or_false, false_or, not_false_eq_true, and_true, true_and, if_true, if_false, List.length_cons, List.length_nil, List.getElem?_cons_succ, List.getElem?_cons_zero, List.set_cons_succ, List.set_cons_zero, reduceIte, d_G, d_R, s_aload, s_aload_n, s_iload, s_iload_n, s_lload, s_lload_n, s_istore, s_istore_n, s_astore, s_astoreN, s_astore_n, s_astore_nN, s_lstore, s_lstore_n, s_iinc, s_iconst, s_bipush, s_sipush, s_lconst, s_ldc2_w, s_aconst_null, s_dupA, s_dupI, s_dup2, s_iadd, s_isub, s_imul, s_iand, s_ior, s_ixor, s_ishl, s_ishr, s_iushr, s_ineg, s_idiv, s_irem, s_ladd, s_lsub, s_lmul, s_land, s_lor, s_lxor, s_ldiv, s_lshl, s_lshr, s_lushr, s_i2l, s_l2i, s_lcmp, s_goto, s_ieq, s_ine, s_ilt, s_ige, s_igt, s_ile, s_zeq, s_zne, s_zlt, s_zge, s_zgt, s_zle, s_ifnull, s_ifnullN, s_ifnonnull, s_ifnonnullN, s_tableswitch, s_lookupswitch, s_getfield, s_putfield, s_getstatic, s_iaload, s_laload, s_baload, s_aaload, s_iastore, s_lastore, s_bastore, s_aastore, s_arraylength, s_newI, s_newJ, s_newZ, s_anewarray, s_new, s_copy, s_max, s_min, s_invokestatic, s_objinit, s_invokespecial, kf_isr_r, s_invokevirtual, s_ireturn, s_lreturn, s_areturn, s_areturnN, s_return, lI_0, lI_s, lJ_0, lJ_s, lA_0, lA_0N, lA_s, lS1_0, lS1_1, lS1_2, lS2_0, lS2_1, lS2_2, lK_n, lK_i, lK_j, lK_a, lK_N, d_C', kf_w_0, kf_w_i, kf_w_a, kf_w_n, kf_w_j, c_0, c_1, c_2, c_3, c_4, c_5, c_6, tl_0, tl_1, Option.bind_some, Option.bind_none, Option.map_some, Nat.reduceAdd, Nat.reduceMul, Nat.reduceDiv, Nat.reduceMod, Int.reduceToNat, Fin.val_zero, Fin.isValue, Fin.val_one, Fin.val_two, fv_0, fv_1, fv_2, fv_3, fw_0, fw_1, d_ite, true_or, or_true, and_false, false_and, or_self, and_self, e]), hH, Off.rf⟩
  | succ m ih =>
    intro i M s hi hH ho hk gk
    have ga := gO_of hH.1
    have e : ¬ (64 : Int32) ≤ nI i := nI_ge (a := i) (b := 64) (by omega) (by omega)
    have e63 : nI s.2.2 &&& 63 = nI (s.2.2 % 64) := pk_andN (by omega) 6 (by decide)
    by_cases h56 : s.2.2 % 64 = 56
    · have e5 : (nI (s.2.2 % 64) = 56) = True := eq_true (by rw [h56]; rfl)
      refine ⟨M, nI i, (e28_20 _ _ _).trans (by simp only [cl_28, e28_0, e28_1, e28_4, e28_5, e28_8, e28_9, e28_10, e28_11, e28_14, e28_17, e28_18, e28_22, e28_24, e28_27, e28_28, e28_31, e28_33, e28_34, e28_36, e28_39, e28_40, e28_41, e28_44, e28_47, e28_52, e28_56, e28_59, e28_60, e28_61, e28_63, e28_64, e28_65, e28_68, e28_71, e28_74, e28_75, e28_79, e28_81, e28_84, e28_86, e28_87, e28_88, e28_91, e28_92, e28_94, e28_95, e28_98, e28_100, e28_101, e28_102, e28_103, e28_105, e28_107, e28_109, e28_110, e28_111, e28_112, e28_113, e28_114, e28_117, e28_118, e28_119, e28_122, e28_125, ow_28, Int32.reduceOfInt, Int32.reduceOfNat, Int32.reduceToNatClampNeg, Int32.reduceLT, Int32.reduceLE, Int32.reduceAdd, Int32.reduceSub, Int32.reduceMul, Int64.reduceOfNat, Int64.reduceOfInt, Nat.reduceLeDiff, Nat.reduceLT, Nat.reduceEqDiff, Nat.reduceSub, cs_0, cs_1, cs_2, cs_3, cs_4, cs_5, cs_6, cs_7, cs_8, or_false, false_or, not_false_eq_true, and_true, true_and, if_true, if_false, List.length_cons, List.length_nil, List.getElem?_cons_succ, List.getElem?_cons_zero, List.set_cons_succ, List.set_cons_zero, reduceIte, d_G, d_R, s_aload, s_aload_n, s_iload, s_iload_n, s_lload, s_lload_n, s_istore, s_istore_n, s_astore, s_astoreN, s_astore_n, s_astore_nN, s_lstore, s_lstore_n, s_iinc, s_iconst, s_bipush, s_sipush, s_lconst, s_ldc2_w, s_aconst_null, s_dupA, s_dupI, s_dup2, s_iadd, s_isub, s_imul, s_iand, s_ior, s_ixor, s_ishl, s_ishr, s_iushr, s_ineg, s_idiv, s_irem, s_ladd, s_lsub, s_lmul, s_land, s_lor, s_lxor, s_ldiv, s_lshl, s_lshr, s_lushr, s_i2l, s_l2i, s_lcmp, s_goto, s_ieq, s_ine, s_ilt, s_ige, s_igt, s_ile, s_zeq, s_zne, s_zlt, s_zge, s_zgt, s_zle, s_ifnull, s_ifnullN, s_ifnonnull, s_ifnonnullN, s_tableswitch, s_lookupswitch, s_getfield, s_putfield, s_getstatic, s_iaload, s_laload, s_baload, s_aaload, s_iastore, s_lastore, s_bastore, s_aastore, s_arraylength, s_newI, s_newJ, s_newZ, s_anewarray, s_new, s_copy, s_max, s_min, s_invokestatic, s_objinit, s_invokespecial, kf_isr_r, s_invokevirtual, s_ireturn, s_lreturn, s_areturn, s_areturnN, s_return, lI_0, lI_s, lJ_0, lJ_s, lA_0, lA_0N, lA_s, lS1_0, lS1_1, lS1_2, lS2_0, lS2_1, lS2_2, lK_n, lK_i, lK_j, lK_a, lK_N, d_C', kf_w_0, kf_w_i, kf_w_a, kf_w_n, kf_w_j, c_0, c_1, c_2, c_3, c_4, c_5, c_6, tl_0, tl_1, Option.bind_some, Option.bind_none, Option.map_some, Nat.reduceAdd, Nat.reduceMul, Nat.reduceDiv, Nat.reduceMod, Int.reduceToNat, Fin.val_zero, Fin.isValue, Fin.val_one, Fin.val_two, fv_0, fv_1, fv_2, fv_3, fw_0, fw_1, d_ite, true_or, or_true, and_false, false_and, or_self, and_self, e, ga, e63, e5]), ?_, Off.rf⟩
      rw [padz, if_pos h56]
      exact hH
    · have e5 : ¬ nI (s.2.2 % 64) = 56 := fun q => h56 ((nI_eq (by omega) (by omega)).mp (show nI (s.2.2 % 64) = nI 56 from q))
      obtain ⟨M1, k1, r1, o1⟩ := c26v (v := 0) hH ho (by omega) gk ha
      obtain ⟨M2, j, k2, r2, o2⟩ := ih (i + 1) M1 (hput s 0) (by omega) r1 (hput_ok ho) (by rw [(hput_len ho.1 ho.2).2.2]; omega) (o1.at (by simp; omega) gk)
      have rc := HashIs.rc hH
      refine ⟨M2, j, (e28_20 _ _ _).trans (by simp only [cl_28, e28_0, e28_1, e28_4, e28_5, e28_8, e28_9, e28_10, e28_11, e28_14, e28_17, e28_18, e28_22, e28_24, e28_27, e28_28, e28_31, e28_33, e28_34, e28_36, e28_39, e28_40, e28_41, e28_44, e28_47, e28_52, e28_56, e28_59, e28_60, e28_61, e28_63, e28_64, e28_65, e28_68, e28_71, e28_74, e28_75, e28_79, e28_81, e28_84, e28_86, e28_87, e28_88, e28_91, e28_92, e28_94, e28_95, e28_98, e28_100, e28_101, e28_102, e28_103, e28_105, e28_107, e28_109, e28_110, e28_111, e28_112, e28_113, e28_114, e28_117, e28_118, e28_119, e28_122, e28_125, ow_28, Int32.reduceOfInt, Int32.reduceOfNat, Int32.reduceToNatClampNeg, Int32.reduceLT, Int32.reduceLE, Int32.reduceAdd, Int32.reduceSub, Int32.reduceMul, Int64.reduceOfNat, Int64.reduceOfInt, Nat.reduceLeDiff, Nat.reduceLT, Nat.reduceEqDiff, Nat.reduceSub, cs_0, cs_1, cs_2, cs_3, cs_4, cs_5, cs_6, cs_7, cs_8, or_false, false_or, not_false_eq_true, and_true, true_and, if_true, if_false, List.length_cons, List.length_nil, List.getElem?_cons_succ, List.getElem?_cons_zero, List.set_cons_succ, List.set_cons_zero, reduceIte, d_G, d_R, s_aload, s_aload_n, s_iload, s_iload_n, s_lload, s_lload_n, s_istore, s_istore_n, s_astore, s_astoreN, s_astore_n, s_astore_nN, s_lstore, s_lstore_n, s_iinc, s_iconst, s_bipush, s_sipush, s_lconst, s_ldc2_w, s_aconst_null, s_dupA, s_dupI, s_dup2, s_iadd, s_isub, s_imul, s_iand, s_ior, s_ixor, s_ishl, s_ishr, s_iushr, s_ineg, s_idiv, s_irem, s_ladd, s_lsub, s_lmul, s_land, s_lor, s_lxor, s_ldiv, s_lshl, s_lshr, s_lushr, s_i2l, s_l2i, s_lcmp, s_goto, s_ieq, s_ine, s_ilt, s_ige, s_igt, s_ile, s_zeq, s_zne, s_zlt, s_zge, s_zgt, s_zle, s_ifnull, s_ifnullN, s_ifnonnull, s_ifnonnullN, s_tableswitch, s_lookupswitch, s_getfield, s_putfield, s_getstatic, s_iaload, s_laload, s_baload, s_aaload, s_iastore, s_lastore, s_bastore, s_aastore, s_arraylength, s_newI, s_newJ, s_newZ, s_anewarray, s_new, s_copy, s_max, s_min, s_invokestatic, s_objinit, s_invokespecial, kf_isr_r, s_invokevirtual, s_ireturn, s_lreturn, s_areturn, s_areturnN, s_return, lI_0, lI_s, lJ_0, lJ_s, lA_0, lA_0N, lA_s, lS1_0, lS1_1, lS1_2, lS2_0, lS2_1, lS2_2, lK_n, lK_i, lK_j, lK_a, lK_N, d_C', kf_w_0, kf_w_i, kf_w_a, kf_w_n, kf_w_j, c_0, c_1, c_2, c_3, c_4, c_5, c_6, tl_0, tl_1, Option.bind_some, Option.bind_none, Option.map_some, Nat.reduceAdd, Nat.reduceMul, Nat.reduceDiv, Nat.reduceMod, Int.reduceToNat, Fin.val_zero, Fin.isValue, Fin.val_one, Fin.val_two, fv_0, fv_1, fv_2, fv_3, fw_0, fw_1, d_ite, true_or, or_true, and_false, false_and, or_self, and_self, ow_26, e, ga, e63, e5, rc, k1, nI_1, k2]), ?_, o1.tr o2⟩
      rw [padz, if_neg h56]
      exact r2
/-- byte i of a digest -/
def dgB (S : List Int32) (i : Nat) : Int32 := (S.getD (i / 4) 0 >>> (nI (24 - 8 * (i % 4)) &&& 31)) &&& 255
def dgF (S : List Int32) (xs : List Int32) (i : Nat) : Nat → List Int32
  | 0 => xs
  | m + 1 => dgF S (xs.set i (dgB S i)) (i + 1) m
theorem c28c {a b n : Nat} {S W : List Int32} {bt : Int64} (hS : S.length = 8) (hb : b ∉ [a, a + 1, a + 2]) (hbN : 19 ≤ b) : ∀ (m i : Nat) (M : kf_M) (xs : List Int32), i + m = 32 → HashIs M a S W n → M[b]? = some (oI xs) → 32 ≤ xs.length → xs.length < 2 ^ 20 → kf_ev 28 77 [some (.ref a), some (.ref b), some (.long bt), none, some (.int (nI i))] [] M = some (none, M.set b (oI (dgF S xs i m))) := by
  intro m
  induction m with
  | zero =>
    intro i M xs hi hH gb h1 h2
    have hi : i = 32 := by omega
    subst hi
    have e : (32 : Int32) ≤ nI 32 := by decide
    have es : M.set b (oI (dgF S xs 32 0)) = M := by
      apply List.ext_getElem?
      intro j
      by_cases hj : b = j
      · subst hj; rw [m_self (m_lt gb), gb]; rfl
      · rw [m_ne hj]
    rw [es]
    exact (e28_77 _ _ _).trans (by simp only [cl_28, e28_0, e28_1, e28_4, e28_5, e28_8, e28_9, e28_10, e28_11, e28_14, e28_17, e28_18, e28_22, e28_24, e28_27, e28_28, e28_31, e28_33, e28_34, e28_36, e28_39, e28_40, e28_41, e28_44, e28_47, e28_52, e28_56, e28_59, e28_60, e28_61, e28_63, e28_64, e28_65, e28_68, e28_71, e28_74, e28_75, e28_79, e28_81, e28_84, e28_86, e28_87, e28_88, e28_91, e28_92, e28_94, e28_95, e28_98, e28_100, e28_101, e28_102, e28_103, e28_105, e28_107, e28_109, e28_110, e28_111, e28_112, e28_113, e28_114, e28_117, e28_118, e28_119, e28_122, e28_125, ow_28, Int32.reduceOfInt, Int32.reduceOfNat, Int32.reduceToNatClampNeg, Int32.reduceLT, Int32.reduceLE, Int32.reduceAdd, Int32.reduceSub, Int32.reduceMul, Int64.reduceOfNat, Int64.reduceOfInt, Nat.reduceLeDiff, Nat.reduceLT, Nat.reduceEqDiff, Nat.reduceSub, cs_0, cs_1, cs_2, cs_3, cs_4, cs_5, cs_6, cs_7, cs_8, or_false, false_or, not_false_eq_true, and_true, true_and, if_true, if_false, List.length_cons, List.length_nil, List.getElem?_cons_succ, List.getElem?_cons_zero, List.set_cons_succ, List.set_cons_zero, reduceIte, d_G, d_R, s_aload, s_aload_n, s_iload, s_iload_n, s_lload, s_lload_n, s_istore, s_istore_n, s_astore, s_astoreN, s_astore_n, s_astore_nN, s_lstore, s_lstore_n, s_iinc, s_iconst, s_bipush, s_sipush, s_lconst, s_ldc2_w, s_aconst_null, s_dupA, s_dupI, s_dup2, s_iadd, s_isub, s_imul, s_iand, s_ior, s_ixor, s_ishl, s_ishr, s_iushr, s_ineg, s_idiv, s_irem, s_ladd, s_lsub, s_lmul, s_land, s_lor, s_lxor, s_ldiv, s_lshl, s_lshr, s_lushr, s_i2l, s_l2i, s_lcmp, s_goto, s_ieq, s_ine, s_ilt, s_ige, s_igt, s_ile, s_zeq, s_zne, s_zlt, s_zge, s_zgt, s_zle, s_ifnull, s_ifnullN, s_ifnonnull, s_ifnonnullN, s_tableswitch, s_lookupswitch, s_getfield, s_putfield, s_getstatic, s_iaload, s_laload, s_baload, s_aaload, s_iastore, s_lastore, s_bastore, s_aastore, s_arraylength, s_newI, s_newJ, s_newZ, s_anewarray, s_new, s_copy, s_max, s_min, s_invokestatic, s_objinit, s_invokespecial, kf_isr_r, s_invokevirtual, s_ireturn, s_lreturn, s_areturn, s_areturnN, s_return, lI_0, lI_s, lJ_0, lJ_s, lA_0, lA_0N, lA_s, lS1_0, lS1_1, lS1_2, lS2_0, lS2_1, lS2_2, lK_n, lK_i, lK_j, lK_a, lK_N, d_C', kf_w_0, kf_w_i, kf_w_a, kf_w_n, kf_w_j, c_0, c_1, c_2, c_3, c_4, c_5, c_6, tl_0, tl_1, Option.bind_some, Option.bind_none, Option.map_some, Nat.reduceAdd, Nat.reduceMul, Nat.reduceDiv, Nat.reduceMod, Int.reduceToNat, Fin.val_zero, Fin.isValue, Fin.val_one, Fin.val_two, fv_0, fv_1, fv_2, fv_3, fw_0, fw_1, d_ite, true_or, or_true, and_false, false_and, or_self, and_self, e])
  | succ m ih =>
    intro i M xs hi hH gb h1 h2
    simp only [List.mem_cons, List.not_mem_nil, or_false, not_or] at hb
    have ga := gO_of hH.1
    have gs := gI_of hH.2.1
    have gi := gI_of gb
    have e : ¬ (32 : Int32) ≤ nI i := nI_ge (a := i) (b := 32) (by omega) (by omega)
    have e2 : ¬ nI xs.length ≤ nI i := nI_ge (by omega) (by omega)
    have e4 : nI i >>> ((2 : Int32) &&& 31) = nI (i / 4) := pk_shrN (by omega) _ 2 (by decide)
    have e3 : nI i &&& 3 = nI (i % 4) := pk_andN (by omega) 2 (by decide)
    have e8 : (8 : Int32) * nI (i % 4) = nI (8 * (i % 4)) := pk_mul 8 (i % 4)
    have e9 : (24 : Int32) - nI (8 * (i % 4)) = nI (24 - 8 * (i % 4)) := pk_sub (a := 24) (by omega)
    have p0 : ¬ nI (i / 4) < 0 := nI_pos (by omega)
    have p1 : (nI (i / 4)).toNatClampNeg = i / 4 := nI_clamp (by omega)
    have p2 : ¬ nI i < 0 := nI_pos (by omega)
    have p3 : (nI i).toNatClampNeg = i := nI_clamp (by omega)
    have w0 := getD_of (xs := S) (i := i / 4) (by omega)
    have b1 : ¬ xs.length ≤ i := by omega
    have b2 : ¬ b < 19 := by omega
    have hH2 : HashIs (M.set b (oI (xs.set i (dgB S i)))) a S W n := ⟨by rw [m_ne (fun q => hb.1 q)]; exact hH.1, by rw [m_ne (fun q => hb.2.1 q)]; exact hH.2.1, by rw [m_ne (fun q => hb.2.2 q)]; exact hH.2.2⟩
    have ih' := ih (i + 1) (M.set b (oI (xs.set i (dgB S i)))) (xs.set i (dgB S i)) (by omega) hH2 (m_self (m_lt gb)) (by simpa using h1) (by simpa using h2)
    rw [List.set_set] at ih'
    refine (e28_77 _ _ _).trans (Eq.trans ?_ ih')
    simp only [cl_28, e28_0, e28_1, e28_4, e28_5, e28_8, e28_9, e28_10, e28_11, e28_14, e28_17, e28_18, e28_22, e28_24, e28_27, e28_28, e28_31, e28_33, e28_34, e28_36, e28_39, e28_40, e28_41, e28_44, e28_47, e28_52, e28_56, e28_59, e28_60, e28_61, e28_63, e28_64, e28_65, e28_68, e28_71, e28_74, e28_75, e28_79, e28_81, e28_84, e28_86, e28_87, e28_88, e28_91, e28_92, e28_94, e28_95, e28_98, e28_100, e28_101, e28_102, e28_103, e28_105, e28_107, e28_109, e28_110, e28_111, e28_112, e28_113, e28_114, e28_117, e28_118, e28_119, e28_122, e28_125, ow_28, Int32.reduceOfInt, Int32.reduceOfNat, Int32.reduceToNatClampNeg, Int32.reduceLT, Int32.reduceLE, Int32.reduceAdd, Int32.reduceSub, Int32.reduceMul, Int64.reduceOfNat, Int64.reduceOfInt, Nat.reduceLeDiff, Nat.reduceLT, Nat.reduceEqDiff, Nat.reduceSub, cs_0, cs_1, cs_2, cs_3, cs_4, cs_5, cs_6, cs_7, cs_8, or_false, false_or, not_false_eq_true, and_true, true_and, if_true, if_false, List.length_cons, List.length_nil, List.getElem?_cons_succ, List.getElem?_cons_zero, List.set_cons_succ, List.set_cons_zero, reduceIte, d_G, d_R, s_aload, s_aload_n, s_iload, s_iload_n, s_lload, s_lload_n, s_istore, s_istore_n, s_astore, s_astoreN, s_astore_n, s_astore_nN, s_lstore, s_lstore_n, s_iinc, s_iconst, s_bipush, s_sipush, s_lconst, s_ldc2_w, s_aconst_null, s_dupA, s_dupI, s_dup2, s_iadd, s_isub, s_imul, s_iand, s_ior, s_ixor, s_ishl, s_ishr, s_iushr, s_ineg, s_idiv, s_irem, s_ladd, s_lsub, s_lmul, s_land, s_lor, s_lxor, s_ldiv, s_lshl, s_lshr, s_lushr, s_i2l, s_l2i, s_lcmp, s_goto, s_ieq, s_ine, s_ilt, s_ige, s_igt, s_ile, s_zeq, s_zne, s_zlt, s_zge, s_zgt, s_zle, s_ifnull, s_ifnullN, s_ifnonnull, s_ifnonnullN, s_tableswitch, s_lookupswitch, s_getfield, s_putfield, s_getstatic, s_iaload, s_laload, s_baload, s_aaload, s_iastore, s_lastore, s_bastore, s_aastore, s_arraylength, s_newI, s_newJ, s_newZ, s_anewarray, s_new, s_copy, s_max, s_min, s_invokestatic, s_objinit, s_invokespecial, kf_isr_r, s_invokevirtual, s_ireturn, s_lreturn, s_areturn, s_areturnN, s_return, lI_0, lI_s, lJ_0, lJ_s, lA_0, lA_0N, lA_s, lS1_0, lS1_1, lS1_2, lS2_0, lS2_1, lS2_2, lK_n, lK_i, lK_j, lK_a, lK_N, d_C', kf_w_0, kf_w_i, kf_w_a, kf_w_n, kf_w_j, c_0, c_1, c_2, c_3, c_4, c_5, c_6, tl_0, tl_1, Option.bind_some, Option.bind_none, Option.map_some, Nat.reduceAdd, Nat.reduceMul, Nat.reduceDiv, Nat.reduceMod, Int.reduceToNat, Fin.val_zero, Fin.isValue, Fin.val_one, Fin.val_two, fv_0, fv_1, fv_2, fv_3, fw_0, fw_1, d_ite, true_or, or_true, and_false, false_and, or_self, and_self, gb, oLen_I, toI, ga, gs, gi, e, e2, e3, e4, e8, e9, p0, p1, p2, p3, w0, b1, b2, nI_1, kf_NS]
    rfl
