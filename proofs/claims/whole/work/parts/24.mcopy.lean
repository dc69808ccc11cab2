/-! The reference's copy and isSame -/
theorem kf_cp_0 {α : Type} {xs ys : List α} {a b : Nat} : kf_cp xs ys a b 0 = ys := by simp [kf_cp]
theorem kf_cp_s {xs ys : List Int32} {a b k : Nat} (h1 : a + (k + 1) ≤ xs.length) (h2 : b + (k + 1) ≤ ys.length) : (kf_cp xs ys a b k).set (b + k) (xs.getD (a + k) 0) = kf_cp xs ys a b (k + 1) := by
  apply List.ext_getElem?
  intro j
  rw [kf_cp_get h1 h2]
  by_cases hj : b + k = j
  · subst hj
    rw [List.getElem?_set_self (by rw [kf_cp_len (by omega) (by omega)]; omega), if_pos ⟨by omega, by omega⟩, show a + (b + k - b) = a + k by omega, getD_of (by omega)]
  · rw [List.getElem?_set_ne hj, kf_cp_get (by omega) (by omega)]
    by_cases hq : b ≤ j ∧ j < b + k
    · rw [if_pos hq, if_pos ⟨hq.1, by omega⟩]
    · rw [if_neg hq, if_neg (by omega)]
theorem c130l {p q a b n : Nat} {xs ys : List Int32} (hpq : p ≠ q) (hq : 19 ≤ q) (h1 : a + n ≤ xs.length) (h2 : b + n ≤ ys.length) (h3 : xs.length < 2 ^ 20) (h4 : ys.length < 2 ^ 20) {M : kf_M} (gp : M[p]? = some (oI xs)) (gq : q < M.length) : ∀ (m k : Nat), k + m = n → kf_ev 130 3 [some (.ref p), some (.int (nI a)), some (.ref q), some (.int (nI b)), some (.int (nI n)), some (.int (nI k))] [] (M.set q (oI (kf_cp xs ys a b k))) = some (none, M.set q (oI (kf_cp xs ys a b n))) := by
  intro m
  induction m with
  | zero =>
    intro k hk
    have hk : k = n := by omega
    subst hk
    have e : nI k ≤ nI k := nI_le (Nat.le_refl _) (by omega)
    exact (e130_3 _ _ _).trans (by simp only [cl_130, e130_0, e130_1, e130_5, e130_7, e130_10, e130_11, e130_12, e130_14, e130_15, e130_16, e130_17, e130_19, e130_20, e130_21, e130_22, e130_25, e130_28, ow_130, Int32.reduceOfInt, Int32.reduceOfNat, Int32.reduceToNatClampNeg, Int32.reduceLT, Int32.reduceLE, Int32.reduceAdd, Int32.reduceSub, Int32.reduceMul, Int64.reduceOfNat, Int64.reduceOfInt, Nat.reduceLeDiff, Nat.reduceLT, Nat.reduceEqDiff, Nat.reduceSub, cs_0, cs_1, cs_2, cs_3, cs_4, cs_5, cs_6, cs_7, cs_8, or_false, false_or, not_false_eq_true, and_true, true_and, if_true, if_false, List.length_cons, List.length_nil, List.getElem?_cons_succ, List.getElem?_cons_zero, List.set_cons_succ, List.set_cons_zero, reduceIte, d_G, d_R, s_aload, s_aload_n, s_iload, s_iload_n, s_lload, s_lload_n, s_istore, s_istore_n, s_astore, s_astoreN, s_astore_n, s_astore_nN, s_lstore, s_lstore_n, s_iinc, s_iconst, s_bipush, s_sipush, s_lconst, s_ldc2_w, s_aconst_null, s_dupA, s_dupI, s_dup2, s_iadd, s_isub, s_imul, s_iand, s_ior, s_ixor, s_ishl, s_ishr, s_iushr, s_ineg, s_idiv, s_irem, s_ladd, s_lsub, s_lmul, s_land, s_lor, s_lxor, s_ldiv, s_lshl, s_lshr, s_lushr, s_i2l, s_l2i, s_lcmp, s_goto, s_ieq, s_ine, s_ilt, s_ige, s_igt, s_ile, s_zeq, s_zne, s_zlt, s_zge, s_zgt, s_zle, s_ifnull, s_ifnullN, s_ifnonnull, s_ifnonnullN, s_tableswitch, s_lookupswitch, s_getfield, s_putfield, s_getstatic, s_iaload, s_laload, s_baload, s_aaload, s_iastore, s_lastore, s_bastore, s_aastore, s_arraylength, s_newI, s_newJ, s_newZ, s_anewarray, s_new, s_copy, s_max, s_min, s_invokestatic, s_objinit, s_invokespecial, kf_isr_r, s_invokevirtual, s_ireturn, s_lreturn, s_areturn, s_areturnN, s_return, lI_0, lI_s, lJ_0, lJ_s, lA_0, lA_0N, lA_s, lS1_0, lS1_1, lS1_2, lS2_0, lS2_1, lS2_2, lK_n, lK_i, lK_j, lK_a, lK_N, d_C', kf_w_0, kf_w_i, kf_w_a, kf_w_n, kf_w_j, c_0, c_1, c_2, c_3, c_4, c_5, c_6, tl_0, tl_1, Option.bind_some, Option.bind_none, Option.map_some, Nat.reduceAdd, Nat.reduceMul, Nat.reduceDiv, Nat.reduceMod, Int.reduceToNat, Fin.val_zero, Fin.isValue, Fin.val_one, Fin.val_two, fv_0, fv_1, fv_2, fv_3, fw_0, fw_1, d_ite, true_or, or_true, and_false, false_and, or_self, and_self, e])
  | succ m ih =>
    intro k hk
    have e : ¬ nI n ≤ nI k := nI_ge (by omega) (by omega)
    have g1 : gI (M.set q (oI (kf_cp xs ys a b k))) p = some xs := by rw [gI_ne (Ne.symm hpq)]; exact gI_of gp
    have g2 : gI (M.set q (oI (kf_cp xs ys a b k))) q = some (kf_cp xs ys a b k) := gI_self gq
    have p0 : ¬ nI (a + k) < 0 := nI_pos (by omega)
    have p1 : (nI (a + k)).toNatClampNeg = a + k := nI_clamp (by omega)
    have p2 : ¬ nI (b + k) < 0 := nI_pos (by omega)
    have p3 : (nI (b + k)).toNatClampNeg = b + k := nI_clamp (by omega)
    have w0 := getD_of (xs := xs) (i := a + k) (by omega)
    have b1 : ¬ (kf_cp xs ys a b k).length ≤ b + k := by rw [kf_cp_len (by omega) (by omega)]; omega
    have b2 : ¬ q < 19 := by omega
    have ih' := ih (k + 1) (by omega)
    have es := kf_cp_s (xs := xs) (ys := ys) (a := a) (b := b) (k := k) (by omega) (by omega)
    refine (e130_3 _ _ _).trans (Eq.trans ?_ ih')
    simp only [cl_130, e130_0, e130_1, e130_5, e130_7, e130_10, e130_11, e130_12, e130_14, e130_15, e130_16, e130_17, e130_19, e130_20, e130_21, e130_22, e130_25, e130_28, ow_130, Int32.reduceOfInt, Int32.reduceOfNat, Int32.reduceToNatClampNeg, Int32.reduceLT, Int32.reduceLE, Int32.reduceAdd, Int32.reduceSub, Int32.reduceMul, Int64.reduceOfNat, Int64.reduceOfInt, Nat.reduceLeDiff, Nat.reduceLT, Nat.reduceEqDiff, Nat.reduceSub, cs_0, cs_1, cs_2, cs_3, cs_4, cs_5, cs_6, cs_7, cs_8, or_false, false_or, not_false_eq_true, and_true, true_and, if_true, if_false, List.length_cons, List.length_nil, List.getElem?_cons_succ, List.getElem?_cons_zero, List.set_cons_succ, List.set_cons_zero, reduceIte, d_G, d_R, s_aload, s_aload_n, s_iload, s_iload_n, s_lload, s_lload_n, s_istore, s_istore_n, s_astore, s_astoreN, s_astore_n, s_astore_nN, s_lstore, s_lstore_n, s_iinc, s_iconst, s_bipush, s_sipush, s_lconst, s_ldc2_w, s_aconst_null, s_dupA, s_dupI, s_dup2, s_iadd, s_isub, s_imul, s_iand, s_ior, s_ixor, s_ishl, s_ishr, s_iushr, s_ineg, s_idiv, s_irem, s_ladd, s_lsub, s_lmul, s_land, s_lor, s_lxor, s_ldiv, s_lshl, s_lshr, s_lushr, s_i2l, s_l2i, s_lcmp, s_goto, s_ieq, s_ine, s_ilt, s_ige, s_igt, s_ile, s_zeq, s_zne, s_zlt, s_zge, s_zgt, s_zle, s_ifnull, s_ifnullN, s_ifnonnull, s_ifnonnullN, s_tableswitch, s_lookupswitch, s_getfield, s_putfield, s_getstatic, s_iaload, s_laload, s_baload, s_aaload, s_iastore, s_lastore, s_bastore, s_aastore, s_arraylength, s_newI, s_newJ, s_newZ, s_anewarray, s_new, s_copy, s_max, s_min, s_invokestatic, s_objinit, s_invokespecial, kf_isr_r, s_invokevirtual, s_ireturn, s_lreturn, s_areturn, s_areturnN, s_return, lI_0, lI_s, lJ_0, lJ_s, lA_0, lA_0N, lA_s, lS1_0, lS1_1, lS1_2, lS2_0, lS2_1, lS2_2, lK_n, lK_i, lK_j, lK_a, lK_N, d_C', kf_w_0, kf_w_i, kf_w_a, kf_w_n, kf_w_j, c_0, c_1, c_2, c_3, c_4, c_5, c_6, tl_0, tl_1, Option.bind_some, Option.bind_none, Option.map_some, Nat.reduceAdd, Nat.reduceMul, Nat.reduceDiv, Nat.reduceMod, Int.reduceToNat, Fin.val_zero, Fin.isValue, Fin.val_one, Fin.val_two, fv_0, fv_1, fv_2, fv_3, fw_0, fw_1, d_ite, true_or, or_true, and_false, false_and, or_self, and_self, e, g1, g2, nI_add, nI_1, p0, p1, p2, p3, w0, b1, b2, kf_NS, List.set_set, es]
theorem c130 {p q a b n : Nat} {xs ys : List Int32} {M : kf_M} (gp : M[p]? = some (oI xs)) (gq : M[q]? = some (oI ys)) (hpq : p ≠ q) (hq : 19 ≤ q) (h1 : a + n ≤ xs.length) (h2 : b + n ≤ ys.length) (h3 : xs.length < 2 ^ 20) (h4 : ys.length < 2 ^ 20) : kf_cl 130 [.ref p, .int (nI a), .ref q, .int (nI b), .int (nI n)] M = some (none, M.set q (oI (kf_cp xs ys a b n))) := by
  have hl := c130l hpq hq h1 h2 h3 h4 gp (m_lt gq) n 0 (by omega)
  have hset : M.set q (oI ys) = M := by
    apply List.ext_getElem?
    intro j
    by_cases hj : q = j
    · subst hj; rw [m_self (m_lt gq), gq]
    · rw [m_ne hj]
  rw [kf_cp_0, hset, nI_0] at hl
  simp only [cl_130, e130_0, e130_1, e130_5, e130_7, e130_10, e130_11, e130_12, e130_14, e130_15, e130_16, e130_17, e130_19, e130_20, e130_21, e130_22, e130_25, e130_28, ow_130, Int32.reduceOfInt, Int32.reduceOfNat, Int32.reduceToNatClampNeg, Int32.reduceLT, Int32.reduceLE, Int32.reduceAdd, Int32.reduceSub, Int32.reduceMul, Int64.reduceOfNat, Int64.reduceOfInt, Nat.reduceLeDiff, Nat.reduceLT, Nat.reduceEqDiff, Nat.reduceSub, cs_0, cs_1, cs_2, cs_3, cs_4, cs_5, cs_6, cs_7, cs_8, or_false, false_or, not_false_eq_true, and_true, true_and, if_true, if_false, List.length_cons, List.length_nil, List.getElem?_cons_succ, List.getElem?_cons_zero, List.set_cons_succ, List.set_cons_zero, reduceIte, d_G, d_R, s_aload, s_aload_n, s_iload, s_iload_n, s_lload, s_lload_n, s_istore, s_istore_n, s_astore, s_astoreN, s_astore_n, s_astore_nN, s_lstore, s_lstore_n, s_iinc, s_iconst, s_bipush, s_sipush, s_lconst, s_ldc2_w, s_aconst_null, s_dupA, s_dupI, s_dup2, s_iadd, s_isub, s_imul, s_iand, s_ior, s_ixor, s_ishl, s_ishr, s_iushr, s_ineg, s_idiv, s_irem, s_ladd, s_lsub, s_lmul, s_land, s_lor, s_lxor, s_ldiv, s_lshl, s_lshr, s_lushr, s_i2l, s_l2i, s_lcmp, s_goto, s_ieq, s_ine, s_ilt, s_ige, s_igt, s_ile, s_zeq, s_zne, s_zlt, s_zge, s_zgt, s_zle, s_ifnull, s_ifnullN, s_ifnonnull, s_ifnonnullN, s_tableswitch, s_lookupswitch, s_getfield, s_putfield, s_getstatic, s_iaload, s_laload, s_baload, s_aaload, s_iastore, s_lastore, s_bastore, s_aastore, s_arraylength, s_newI, s_newJ, s_newZ, s_anewarray, s_new, s_copy, s_max, s_min, s_invokestatic, s_objinit, s_invokespecial, kf_isr_r, s_invokevirtual, s_ireturn, s_lreturn, s_areturn, s_areturnN, s_return, lI_0, lI_s, lJ_0, lJ_s, lA_0, lA_0N, lA_s, lS1_0, lS1_1, lS1_2, lS2_0, lS2_1, lS2_2, lK_n, lK_i, lK_j, lK_a, lK_N, d_C', kf_w_0, kf_w_i, kf_w_a, kf_w_n, kf_w_j, c_0, c_1, c_2, c_3, c_4, c_5, c_6, tl_0, tl_1, Option.bind_some, Option.bind_none, Option.map_some, Nat.reduceAdd, Nat.reduceMul, Nat.reduceDiv, Nat.reduceMod, Int.reduceToNat, Fin.val_zero, Fin.isValue, Fin.val_one, Fin.val_two, fv_0, fv_1, fv_2, fv_3, fw_0, fw_1, d_ite, true_or, or_true, and_false, false_and, or_self, and_self, hl]
