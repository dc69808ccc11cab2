/-! Field: clear, same, isBelow, isProper, enter, leave, draw -/
theorem lg0 (p q : Int64) : (lg_cmp p q = 0) = (p = q) := by
  apply propext
  unfold lg_cmp
  constructor
  · intro h
    by_cases h1 : p > q
    · rw [if_pos h1] at h
      exact absurd h (by decide)
    · rw [if_neg h1] at h
      by_cases h2 : p = q
      · exact h2
      · rw [if_neg h2] at h
        exact absurd h (by decide)
  · intro h
    subst h
    rw [if_neg (by rw [gt_iff_lt, Int64.lt_iff_toInt_lt]; omega), if_pos rfl]
theorem lgN (p q : Int64) : (0 ≤ lg_cmp p q) = ¬ p < q := by
  apply propext
  unfold lg_cmp
  have t1 : p > q ↔ q.toInt < p.toInt := Int64.lt_iff_toInt_lt
  have t2 : p < q ↔ p.toInt < q.toInt := Int64.lt_iff_toInt_lt
  by_cases h1 : p > q
  · rw [if_pos h1, t2]
    rw [t1] at h1
    exact ⟨fun _ => by omega, fun _ => by decide⟩
  · rw [if_neg h1, t2]
    rw [t1] at h1
    by_cases h2 : p = q
    · rw [if_pos h2]
      subst h2
      exact ⟨fun _ => by omega, fun _ => by decide⟩
    · rw [if_neg h2]
      have : p.toInt ≠ q.toInt := fun q => h2 (Int64.toInt_inj.mp q)
      exact ⟨fun h => absurd h (by decide), fun h => by omega⟩
theorem nI_dec (k : Nat) : nI (k + 1) + -1 = nI k := by
  rw [← nI_1, Int32.add_assoc, show (1 : Int32) + -1 = 0 from by decide, Int32.add_zero]
def smx (la lb : List Int64) (i : Nat) : Nat → Bool
  | 0 => true
  | n + 1 => decide (la.getD i 0 = lb.getD i 0) && smx la lb (i + 1) n
theorem c12l {M : kf_M} {a b : Nat} {la lb : List Int64} (ga : gJ M a = some la) (gb : gJ M b = some lb) (l1 : la.length = 10) (l2 : lb.length = 10) : ∀ (n i : Nat), i + n = 10 → kf_ev 12 2 [some (.ref a), some (.ref b), some (.int (nI i))] [] M = some (some (.int (if smx la lb i n = true then 1 else 0)), M) := by
  intro n
  induction n with
  | zero =>
    intro i hi
    have hi : i = 10 := by omega
    subst hi
    have e : (10 : Int32) ≤ nI 10 := by decide
    refine (e12_2 _ _ _).trans ?_
    simp only [cl_12, e12_0, e12_1, e12_3, e12_5, e12_8, e12_9, e12_10, e12_11, e12_12, e12_13, e12_14, e12_15, e12_18, e12_19, e12_20, e12_23, e12_26, e12_27, ow_12, Int32.reduceOfInt, Int32.reduceOfNat, Int32.reduceToNatClampNeg, Int32.reduceLT, Int32.reduceLE, Int32.reduceAdd, Int32.reduceSub, Int32.reduceMul, Int64.reduceOfNat, Int64.reduceOfInt, Nat.reduceLeDiff, Nat.reduceLT, Nat.reduceEqDiff, Nat.reduceSub, cs_0, cs_1, cs_2, cs_3, cs_4, cs_5, cs_6, cs_7, cs_8, or_false, false_or, not_false_eq_true, and_true, true_and, if_true, if_false, List.length_cons, List.length_nil, List.getElem?_cons_succ, List.getElem?_cons_zero, List.set_cons_succ, List.set_cons_zero, reduceIte, d_G, d_R, s_aload, s_aload_n, s_iload, s_iload_n, s_lload, s_lload_n, s_istore, s_istore_n, s_astore, s_astoreN, s_astore_n, s_astore_nN, s_lstore, s_lstore_n, s_iinc, s_iconst, s_bipush, s_sipush, s_lconst, s_ldc2_w, s_aconst_null, s_dupA, s_dupI, s_dup2, s_iadd, s_isub, s_imul, s_iand, s_ior, s_ixor, s_ishl, s_ishr, s_iushr, s_ineg, s_idiv, s_irem, s_ladd, s_lsub, s_lmul, s_land, s_lor, s_lxor, s_ldiv, s_lshl, s_lshr, s_lushr, s_i2l, s_l2i, s_lcmp, s_goto, s_ieq, s_ine, s_ilt, s_ige, s_igt, s_ile, s_zeq, s_zne, s_zlt, s_zge, s_zgt, s_zle, s_ifnull, s_ifnullN, s_ifnonnull, s_ifnonnullN, s_tableswitch, s_lookupswitch, s_getfield, s_putfield, s_getstatic, s_iaload, s_laload, s_baload, s_aaload, s_iastore, s_lastore, s_bastore, s_aastore, s_arraylength, s_newI, s_newJ, s_newZ, s_anewarray, s_new, s_copy, s_max, s_min, s_invokestatic, s_objinit, s_invokespecial, kf_isr_r, s_invokevirtual, s_ireturn, s_lreturn, s_areturn, s_areturnN, s_return, lI_0, lI_s, lJ_0, lJ_s, lA_0, lA_0N, lA_s, lS1_0, lS1_1, lS1_2, lS2_0, lS2_1, lS2_2, lK_n, lK_i, lK_j, lK_a, lK_N, d_C', kf_w_0, kf_w_i, kf_w_a, kf_w_n, kf_w_j, c_0, c_1, c_2, c_3, c_4, c_5, c_6, tl_0, tl_1, Option.bind_some, Option.bind_none, Option.map_some, Nat.reduceAdd, Nat.reduceMul, Nat.reduceDiv, Nat.reduceMod, Int.reduceToNat, Fin.val_zero, Fin.isValue, Fin.val_one, Fin.val_two, fv_0, fv_1, fv_2, fv_3, fw_0, fw_1, d_ite, true_or, or_true, and_false, false_and, or_self, and_self, e, smx]
  | succ n ih =>
    intro i hi
    have e : ¬ (10 : Int32) ≤ nI i := nI_ge (a := i) (b := 10) (by omega) (by omega)
    have p0 : ¬ nI i < 0 := nI_pos (by omega)
    have p1 : (nI i).toNatClampNeg = i := nI_clamp (by omega)
    have x1 := jD_of (xs := la) (i := i) (by omega)
    have x2 := jD_of (xs := lb) (i := i) (by omega)
    have ih' := ih (i + 1) (by omega)
    refine (e12_2 _ _ _).trans ?_
    by_cases q : la.getD i 0 = lb.getD i 0
    · simp only [cl_12, e12_0, e12_1, e12_3, e12_5, e12_8, e12_9, e12_10, e12_11, e12_12, e12_13, e12_14, e12_15, e12_18, e12_19, e12_20, e12_23, e12_26, e12_27, ow_12, Int32.reduceOfInt, Int32.reduceOfNat, Int32.reduceToNatClampNeg, Int32.reduceLT, Int32.reduceLE, Int32.reduceAdd, Int32.reduceSub, Int32.reduceMul, Int64.reduceOfNat, Int64.reduceOfInt, Nat.reduceLeDiff, Nat.reduceLT, Nat.reduceEqDiff, Nat.reduceSub, cs_0, cs_1, cs_2, cs_3, cs_4, cs_5, cs_6, cs_7, cs_8, or_false, false_or, not_false_eq_true, and_true, true_and, if_true, if_false, List.length_cons, List.length_nil, List.getElem?_cons_succ, List.getElem?_cons_zero, List.set_cons_succ, List.set_cons_zero, reduceIte, d_G, d_R, s_aload, s_aload_n, s_iload, s_iload_n, s_lload, s_lload_n, s_istore, s_istore_n, s_astore, s_astoreN, s_astore_n, s_astore_nN, s_lstore, s_lstore_n, s_iinc, s_iconst, s_bipush, s_sipush, s_lconst, s_ldc2_w, s_aconst_null, s_dupA, s_dupI, s_dup2, s_iadd, s_isub, s_imul, s_iand, s_ior, s_ixor, s_ishl, s_ishr, s_iushr, s_ineg, s_idiv, s_irem, s_ladd, s_lsub, s_lmul, s_land, s_lor, s_lxor, s_ldiv, s_lshl, s_lshr, s_lushr, s_i2l, s_l2i, s_lcmp, s_goto, s_ieq, s_ine, s_ilt, s_ige, s_igt, s_ile, s_zeq, s_zne, s_zlt, s_zge, s_zgt, s_zle, s_ifnull, s_ifnullN, s_ifnonnull, s_ifnonnullN, s_tableswitch, s_lookupswitch, s_getfield, s_putfield, s_getstatic, s_iaload, s_laload, s_baload, s_aaload, s_iastore, s_lastore, s_bastore, s_aastore, s_arraylength, s_newI, s_newJ, s_newZ, s_anewarray, s_new, s_copy, s_max, s_min, s_invokestatic, s_objinit, s_invokespecial, kf_isr_r, s_invokevirtual, s_ireturn, s_lreturn, s_areturn, s_areturnN, s_return, lI_0, lI_s, lJ_0, lJ_s, lA_0, lA_0N, lA_s, lS1_0, lS1_1, lS1_2, lS2_0, lS2_1, lS2_2, lK_n, lK_i, lK_j, lK_a, lK_N, d_C', kf_w_0, kf_w_i, kf_w_a, kf_w_n, kf_w_j, c_0, c_1, c_2, c_3, c_4, c_5, c_6, tl_0, tl_1, Option.bind_some, Option.bind_none, Option.map_some, Nat.reduceAdd, Nat.reduceMul, Nat.reduceDiv, Nat.reduceMod, Int.reduceToNat, Fin.val_zero, Fin.isValue, Fin.val_one, Fin.val_two, fv_0, fv_1, fv_2, fv_3, fw_0, fw_1, d_ite, true_or, or_true, and_false, false_and, or_self, and_self, ga, gb, e, p0, p1, x1, x2, lg0, eq_true q, nI_1, ih']
      simp only [smx, eq_true q, decide_true, Bool.true_and]
    · simp only [cl_12, e12_0, e12_1, e12_3, e12_5, e12_8, e12_9, e12_10, e12_11, e12_12, e12_13, e12_14, e12_15, e12_18, e12_19, e12_20, e12_23, e12_26, e12_27, ow_12, Int32.reduceOfInt, Int32.reduceOfNat, Int32.reduceToNatClampNeg, Int32.reduceLT, Int32.reduceLE, Int32.reduceAdd, Int32.reduceSub, Int32.reduceMul, Int64.reduceOfNat, Int64.reduceOfInt, Nat.reduceLeDiff, Nat.reduceLT, Nat.reduceEqDiff, Nat.reduceSub, cs_0, cs_1, cs_2, cs_3, cs_4, cs_5, cs_6, cs_7, cs_8, or_false, false_or, not_false_eq_true, and_true, true_and, if_true, if_false, List.length_cons, List.length_nil, List.getElem?_cons_succ, List.getElem?_cons_zero, List.set_cons_succ, List.set_cons_zero, reduceIte, d_G, d_R, s_aload, s_aload_n, s_iload, s_iload_n, s_lload, s_lload_n, s_istore, s_istore_n, s_astore, s_astoreN, s_astore_n, s_astore_nN, s_lstore, s_lstore_n, s_iinc, s_iconst, s_bipush, s_sipush, s_lconst, s_ldc2_w, s_aconst_null, s_dupA, s_dupI, s_dup2, s_iadd, s_isub, s_imul, s_iand, s_ior, s_ixor, s_ishl, s_ishr, s_iushr, s_ineg, s_idiv, s_irem, s_ladd, s_lsub, s_lmul, s_land, s_lor, s_lxor, s_ldiv, s_lshl, s_lshr, s_lushr, s_i2l, s_l2i, s_lcmp, s_goto, s_ieq, s_ine, s_ilt, s_ige, s_igt, s_ile, s_zeq, s_zne, s_zlt, s_zge, s_zgt, s_zle, s_ifnull, s_ifnullN, s_ifnonnull, s_ifnonnullN, s_tableswitch, s_lookupswitch, s_getfield, s_putfield, s_getstatic, s_iaload, s_laload, s_baload, s_aaload, s_iastore, s_lastore, s_bastore, s_aastore, s_arraylength, s_newI, s_newJ, s_newZ, s_anewarray, s_new, s_copy, s_max, s_min, s_invokestatic, s_objinit, s_invokespecial, kf_isr_r, s_invokevirtual, s_ireturn, s_lreturn, s_areturn, s_areturnN, s_return, lI_0, lI_s, lJ_0, lJ_s, lA_0, lA_0N, lA_s, lS1_0, lS1_1, lS1_2, lS2_0, lS2_1, lS2_2, lK_n, lK_i, lK_j, lK_a, lK_N, d_C', kf_w_0, kf_w_i, kf_w_a, kf_w_n, kf_w_j, c_0, c_1, c_2, c_3, c_4, c_5, c_6, tl_0, tl_1, Option.bind_some, Option.bind_none, Option.map_some, Nat.reduceAdd, Nat.reduceMul, Nat.reduceDiv, Nat.reduceMod, Int.reduceToNat, Fin.val_zero, Fin.isValue, Fin.val_one, Fin.val_two, fv_0, fv_1, fv_2, fv_3, fw_0, fw_1, d_ite, true_or, or_true, and_false, false_and, or_self, and_self, ga, gb, e, p0, p1, x1, x2, lg0, eq_false q]
      simp only [smx, eq_false q, decide_false, Bool.false_and]
      rfl
theorem smx_ok {la lb : List Int64} (l1 : la.length = 10) (l2 : lb.length = 10) : (smx la lb 0 10 = true) = (la = lb) := by
  obtain ⟨x0, x1, x2, x3, x4, x5, x6, x7, x8, x9, rfl⟩ := len10 l1
  obtain ⟨y0, y1, y2, y3, y4, y5, y6, y7, y8, y9, rfl⟩ := len10 l2
  simp only [smx, List.getD_cons_succ, List.getD_cons_zero, Nat.reduceAdd, Bool.and_true, Bool.and_eq_true, decide_eq_true_eq, List.cons.injEq, and_true]
theorem f12 {M : kf_M} {a b : Nat} {va vb : Int} (ha : Num M a va) (hb : Num M b vb) : kf_cl 12 [.ref a, .ref b] M = some (some (.int (if va = vb then 1 else 0)), M) := by
  obtain ⟨la, ga, hla⟩ := ha
  obtain ⟨lb, gb, hlb⟩ := hb
  have k1 := c12l (gJ_of ga) (gJ_of gb) (lmb_len hla) (lmb_len hlb) 10 0 rfl
  rw [nI_0] at k1
  have e : (smx la lb 0 10 = true) = (va = vb) := by
    rw [smx_ok (lmb_len hla) (lmb_len hlb)]
    apply propext
    constructor
    · intro q
      subst q
      obtain ⟨l0, l1, l2, l3, l4, l5, l6, l7, l8, l9, h1, -, -, -, -, -, -, -, -, -, e1⟩ := hla
      obtain ⟨k0, k1, k2, k3, k4, k5, k6, k7, k8, k9, h2, -, -, -, -, -, -, -, -, -, e2⟩ := hlb
      rw [h1] at h2
      injection h2 with d0 h2
      injection h2 with d1 h2
      injection h2 with d2 h2
      injection h2 with d3 h2
      injection h2 with d4 h2
      injection h2 with d5 h2
      injection h2 with d6 h2
      injection h2 with d7 h2
      injection h2 with d8 h2
      injection h2 with d9 h2
      rw [e1, e2, d0, d1, d2, d3, d4, d5, d6, d7, d8, d9]
    · intro q
      subst q
      exact lmb_inj hla hlb
  simp only [cl_12, e12_0, e12_1, e12_3, e12_5, e12_8, e12_9, e12_10, e12_11, e12_12, e12_13, e12_14, e12_15, e12_18, e12_19, e12_20, e12_23, e12_26, e12_27, ow_12, Int32.reduceOfInt, Int32.reduceOfNat, Int32.reduceToNatClampNeg, Int32.reduceLT, Int32.reduceLE, Int32.reduceAdd, Int32.reduceSub, Int32.reduceMul, Int64.reduceOfNat, Int64.reduceOfInt, Nat.reduceLeDiff, Nat.reduceLT, Nat.reduceEqDiff, Nat.reduceSub, cs_0, cs_1, cs_2, cs_3, cs_4, cs_5, cs_6, cs_7, cs_8, or_false, false_or, not_false_eq_true, and_true, true_and, if_true, if_false, List.length_cons, List.length_nil, List.getElem?_cons_succ, List.getElem?_cons_zero, List.set_cons_succ, List.set_cons_zero, reduceIte, d_G, d_R, s_aload, s_aload_n, s_iload, s_iload_n, s_lload, s_lload_n, s_istore, s_istore_n, s_astore, s_astoreN, s_astore_n, s_astore_nN, s_lstore, s_lstore_n, s_iinc, s_iconst, s_bipush, s_sipush, s_lconst, s_ldc2_w, s_aconst_null, s_dupA, s_dupI, s_dup2, s_iadd, s_isub, s_imul, s_iand, s_ior, s_ixor, s_ishl, s_ishr, s_iushr, s_ineg, s_idiv, s_irem, s_ladd, s_lsub, s_lmul, s_land, s_lor, s_lxor, s_ldiv, s_lshl, s_lshr, s_lushr, s_i2l, s_l2i, s_lcmp, s_goto, s_ieq, s_ine, s_ilt, s_ige, s_igt, s_ile, s_zeq, s_zne, s_zlt, s_zge, s_zgt, s_zle, s_ifnull, s_ifnullN, s_ifnonnull, s_ifnonnullN, s_tableswitch, s_lookupswitch, s_getfield, s_putfield, s_getstatic, s_iaload, s_laload, s_baload, s_aaload, s_iastore, s_lastore, s_bastore, s_aastore, s_arraylength, s_newI, s_newJ, s_newZ, s_anewarray, s_new, s_copy, s_max, s_min, s_invokestatic, s_objinit, s_invokespecial, kf_isr_r, s_invokevirtual, s_ireturn, s_lreturn, s_areturn, s_areturnN, s_return, lI_0, lI_s, lJ_0, lJ_s, lA_0, lA_0N, lA_s, lS1_0, lS1_1, lS1_2, lS2_0, lS2_1, lS2_2, lK_n, lK_i, lK_j, lK_a, lK_N, d_C', kf_w_0, kf_w_i, kf_w_a, kf_w_n, kf_w_j, c_0, c_1, c_2, c_3, c_4, c_5, c_6, tl_0, tl_1, Option.bind_some, Option.bind_none, Option.map_some, Nat.reduceAdd, Nat.reduceMul, Nat.reduceDiv, Nat.reduceMod, Int.reduceToNat, Fin.val_zero, Fin.isValue, Fin.val_one, Fin.val_two, fv_0, fv_1, fv_2, fv_3, fw_0, fw_1, d_ite, true_or, or_true, and_false, false_and, or_self, and_self, k1, e]
def clr (i : Nat) : Nat → List Int64 → List Int64
  | 0, X => X
  | n + 1, X => clr (i + 1) n (X.set i 0)
theorem c13l {M : kf_M} {a : Nat} (ha : 19 ≤ a) (hl : a < M.length) : ∀ (n i : Nat) (X : List Int64), i + n = 10 → X.length = 10 → kf_ev 13 2 [some (.ref a), some (.int (nI i))] [] (M.set a (oJ X)) = some (none, M.set a (oJ (clr i n X))) := by
  intro n
  induction n with
  | zero =>
    intro i X hi hX
    have hi : i = 10 := by omega
    subst hi
    have e : (10 : Int32) ≤ nI 10 := by decide
    refine (e13_2 _ _ _).trans ?_
    simp only [cl_13, e13_0, e13_1, e13_3, e13_5, e13_8, e13_9, e13_10, e13_11, e13_12, e13_15, e13_18, ow_13, Int32.reduceOfInt, Int32.reduceOfNat, Int32.reduceToNatClampNeg, Int32.reduceLT, Int32.reduceLE, Int32.reduceAdd, Int32.reduceSub, Int32.reduceMul, Int64.reduceOfNat, Int64.reduceOfInt, Nat.reduceLeDiff, Nat.reduceLT, Nat.reduceEqDiff, Nat.reduceSub, cs_0, cs_1, cs_2, cs_3, cs_4, cs_5, cs_6, cs_7, cs_8, or_false, false_or, not_false_eq_true, and_true, true_and, if_true, if_false, List.length_cons, List.length_nil, List.getElem?_cons_succ, List.getElem?_cons_zero, List.set_cons_succ, List.set_cons_zero, reduceIte, d_G, d_R, s_aload, s_aload_n, s_iload, s_iload_n, s_lload, s_lload_n, s_istore, s_istore_n, s_astore, s_astoreN, s_astore_n, s_astore_nN, s_lstore, s_lstore_n, s_iinc, s_iconst, s_bipush, s_sipush, s_lconst, s_ldc2_w, s_aconst_null, s_dupA, s_dupI, s_dup2, s_iadd, s_isub, s_imul, s_iand, s_ior, s_ixor, s_ishl, s_ishr, s_iushr, s_ineg, s_idiv, s_irem, s_ladd, s_lsub, s_lmul, s_land, s_lor, s_lxor, s_ldiv, s_lshl, s_lshr, s_lushr, s_i2l, s_l2i, s_lcmp, s_goto, s_ieq, s_ine, s_ilt, s_ige, s_igt, s_ile, s_zeq, s_zne, s_zlt, s_zge, s_zgt, s_zle, s_ifnull, s_ifnullN, s_ifnonnull, s_ifnonnullN, s_tableswitch, s_lookupswitch, s_getfield, s_putfield, s_getstatic, s_iaload, s_laload, s_baload, s_aaload, s_iastore, s_lastore, s_bastore, s_aastore, s_arraylength, s_newI, s_newJ, s_newZ, s_anewarray, s_new, s_copy, s_max, s_min, s_invokestatic, s_objinit, s_invokespecial, kf_isr_r, s_invokevirtual, s_ireturn, s_lreturn, s_areturn, s_areturnN, s_return, lI_0, lI_s, lJ_0, lJ_s, lA_0, lA_0N, lA_s, lS1_0, lS1_1, lS1_2, lS2_0, lS2_1, lS2_2, lK_n, lK_i, lK_j, lK_a, lK_N, d_C', kf_w_0, kf_w_i, kf_w_a, kf_w_n, kf_w_j, c_0, c_1, c_2, c_3, c_4, c_5, c_6, tl_0, tl_1, Option.bind_some, Option.bind_none, Option.map_some, Nat.reduceAdd, Nat.reduceMul, Nat.reduceDiv, Nat.reduceMod, Int.reduceToNat, Fin.val_zero, Fin.isValue, Fin.val_one, Fin.val_two, fv_0, fv_1, fv_2, fv_3, fw_0, fw_1, d_ite, true_or, or_true, and_false, false_and, or_self, and_self, e, clr]
  | succ n ih =>
    intro i X hi hX
    have e : ¬ (10 : Int32) ≤ nI i := nI_ge (a := i) (b := 10) (by omega) (by omega)
    have p0 : ¬ nI i < 0 := nI_pos (by omega)
    have p1 : (nI i).toNatClampNeg = i := nI_clamp (by omega)
    have g : gJ (M.set a (oJ X)) a = some X := gJ_self hl
    have n1 : ¬ a < 19 := by omega
    have n2 : ¬ X.length ≤ i := by omega
    have ih' := ih (i + 1) (X.set i 0) (by omega) (by rw [List.length_set]; exact hX)
    refine (e13_2 _ _ _).trans (Eq.trans ?_ ih')
    simp only [cl_13, e13_0, e13_1, e13_3, e13_5, e13_8, e13_9, e13_10, e13_11, e13_12, e13_15, e13_18, ow_13, Int32.reduceOfInt, Int32.reduceOfNat, Int32.reduceToNatClampNeg, Int32.reduceLT, Int32.reduceLE, Int32.reduceAdd, Int32.reduceSub, Int32.reduceMul, Int64.reduceOfNat, Int64.reduceOfInt, Nat.reduceLeDiff, Nat.reduceLT, Nat.reduceEqDiff, Nat.reduceSub, cs_0, cs_1, cs_2, cs_3, cs_4, cs_5, cs_6, cs_7, cs_8, or_false, false_or, not_false_eq_true, and_true, true_and, if_true, if_false, List.length_cons, List.length_nil, List.getElem?_cons_succ, List.getElem?_cons_zero, List.set_cons_succ, List.set_cons_zero, reduceIte, d_G, d_R, s_aload, s_aload_n, s_iload, s_iload_n, s_lload, s_lload_n, s_istore, s_istore_n, s_astore, s_astoreN, s_astore_n, s_astore_nN, s_lstore, s_lstore_n, s_iinc, s_iconst, s_bipush, s_sipush, s_lconst, s_ldc2_w, s_aconst_null, s_dupA, s_dupI, s_dup2, s_iadd, s_isub, s_imul, s_iand, s_ior, s_ixor, s_ishl, s_ishr, s_iushr, s_ineg, s_idiv, s_irem, s_ladd, s_lsub, s_lmul, s_land, s_lor, s_lxor, s_ldiv, s_lshl, s_lshr, s_lushr, s_i2l, s_l2i, s_lcmp, s_goto, s_ieq, s_ine, s_ilt, s_ige, s_igt, s_ile, s_zeq, s_zne, s_zlt, s_zge, s_zgt, s_zle, s_ifnull, s_ifnullN, s_ifnonnull, s_ifnonnullN, s_tableswitch, s_lookupswitch, s_getfield, s_putfield, s_getstatic, s_iaload, s_laload, s_baload, s_aaload, s_iastore, s_lastore, s_bastore, s_aastore, s_arraylength, s_newI, s_newJ, s_newZ, s_anewarray, s_new, s_copy, s_max, s_min, s_invokestatic, s_objinit, s_invokespecial, kf_isr_r, s_invokevirtual, s_ireturn, s_lreturn, s_areturn, s_areturnN, s_return, lI_0, lI_s, lJ_0, lJ_s, lA_0, lA_0N, lA_s, lS1_0, lS1_1, lS1_2, lS2_0, lS2_1, lS2_2, lK_n, lK_i, lK_j, lK_a, lK_N, d_C', kf_w_0, kf_w_i, kf_w_a, kf_w_n, kf_w_j, c_0, c_1, c_2, c_3, c_4, c_5, c_6, tl_0, tl_1, Option.bind_some, Option.bind_none, Option.map_some, Nat.reduceAdd, Nat.reduceMul, Nat.reduceDiv, Nat.reduceMod, Int.reduceToNat, Fin.val_zero, Fin.isValue, Fin.val_one, Fin.val_two, fv_0, fv_1, fv_2, fv_3, fw_0, fw_1, d_ite, true_or, or_true, and_false, false_and, or_self, and_self, e, p0, p1, g, n1, n2, nI_1, kf_NS, List.set_set]
theorem jset_id {M : kf_M} {a : Nat} {ob : kf_Ob} (g : M[a]? = some ob) : M.set a ob = M := by
  apply List.ext_getElem?
  intro j
  by_cases hj : a = j
  · subst hj; rw [m_self (m_lt g), g]
  · rw [m_ne hj]
theorem lmb_0 : lmb [0, 0, 0, 0, 0, 0, 0, 0, 0, 0] 0 := ⟨0, 0, 0, 0, 0, 0, 0, 0, 0, 0, rfl, by decide⟩
theorem lmb_1 : lmb sx_4 1 := ⟨1, 0, 0, 0, 0, 0, 0, 0, 0, 0, rfl, by decide⟩
theorem f13 {M : kf_M} {a : Nat} (hj : Jar M a) (ha : 19 ≤ a) : ∃ M', kf_cl 13 [.ref a] M = some (none, M') ∧ Num M' a 0 ∧ Off [a] M M' := by
  obtain ⟨l, g, hl⟩ := hj
  have k1 := c13l ha (m_lt g) 10 0 l rfl hl
  rw [jset_id g, nI_0] at k1
  obtain ⟨x0, x1, x2, x3, x4, x5, x6, x7, x8, x9, rfl⟩ := len10 hl
  exact ⟨_, by (simp only [cl_13, e13_0, e13_1, e13_3, e13_5, e13_8, e13_9, e13_10, e13_11, e13_12, e13_15, e13_18, ow_13, Int32.reduceOfInt, Int32.reduceOfNat, Int32.reduceToNatClampNeg, Int32.reduceLT, Int32.reduceLE, Int32.reduceAdd, Int32.reduceSub, Int32.reduceMul, Int64.reduceOfNat, Int64.reduceOfInt, Nat.reduceLeDiff, Nat.reduceLT, Nat.reduceEqDiff, Nat.reduceSub, cs_0, cs_1, cs_2, cs_3, cs_4, cs_5, cs_6, cs_7, cs_8, or_false, false_or, not_false_eq_true, and_true, true_and, if_true, if_false, List.length_cons, List.length_nil, List.getElem?_cons_succ, List.getElem?_cons_zero, List.set_cons_succ, List.set_cons_zero, reduceIte, d_G, d_R, s_aload, s_aload_n, s_iload, s_iload_n, s_lload, s_lload_n, s_istore, s_istore_n, s_astore, s_astoreN, s_astore_n, s_astore_nN, s_lstore, s_lstore_n, s_iinc, s_iconst, s_bipush, s_sipush, s_lconst, s_ldc2_w, s_aconst_null, s_dupA, s_dupI, s_dup2, s_iadd, s_isub, s_imul, s_iand, s_ior, s_ixor, s_ishl, s_ishr, s_iushr, s_ineg, s_idiv, s_irem, s_ladd, s_lsub, s_lmul, s_land, s_lor, s_lxor, s_ldiv, s_lshl, s_lshr, s_lushr, s_i2l, s_l2i, s_lcmp, s_goto, s_ieq, s_ine, s_ilt, s_ige, s_igt, s_ile, s_zeq, s_zne, s_zlt, s_zge, s_zgt, s_zle, s_ifnull, s_ifnullN, s_ifnonnull, s_ifnonnullN, s_tableswitch, s_lookupswitch, s_getfield, s_putfield, s_getstatic, s_iaload, s_laload, s_baload, s_aaload, s_iastore, s_lastore, s_bastore, s_aastore, s_arraylength, s_newI, s_newJ, s_newZ, s_anewarray, s_new, s_copy, s_max, s_min, s_invokestatic, s_objinit, s_invokespecial, kf_isr_r, s_invokevirtual, s_ireturn, s_lreturn, s_areturn, s_areturnN, s_return, lI_0, lI_s, lJ_0, lJ_s, lA_0, lA_0N, lA_s, lS1_0, lS1_1, lS1_2, lS2_0, lS2_1, lS2_2, lK_n, lK_i, lK_j, lK_a, lK_N, d_C', kf_w_0, kf_w_i, kf_w_a, kf_w_n, kf_w_j, c_0, c_1, c_2, c_3, c_4, c_5, c_6, tl_0, tl_1, Option.bind_some, Option.bind_none, Option.map_some, Nat.reduceAdd, Nat.reduceMul, Nat.reduceDiv, Nat.reduceMod, Int.reduceToNat, Fin.val_zero, Fin.isValue, Fin.val_one, Fin.val_two, fv_0, fv_1, fv_2, fv_3, fw_0, fw_1, d_ite, true_or, or_true, and_false, false_and, or_self, and_self, k1]; rfl), ⟨_, m_self (m_lt g), lmb_0⟩, Off.set (by simp)⟩
/-! isBelow -/
def blw (la lm : List Int64) : Nat → Bool
  | 0 => false
  | n + 1 => if la.getD n 0 = lm.getD n 0 then blw la lm n else decide (la.getD n 0 < lm.getD n 0)
theorem c22l {M : kf_M} {a f mo : Nat} {la lm : List Int64} {f1 f2 f3 f4 f5 : Value} (gO1 : gO M f = some (1, [.ref mo, f1, f2, f3, f4, f5])) (ga : gJ M a = some la) (gm : gJ M mo = some lm) (l1 : la.length = 10) (l2 : lm.length = 10) : ∀ n, n < 10 → kf_ev 22 3 [some (.ref f), some (.ref a), some (.int (nI n))] [] M = some (some (.int (if blw la lm (n + 1) = true then 1 else 0)), M) := by
  intro n
  induction n with
  | zero =>
    intro hn
    have p0 : ¬ nI 0 < 0 := by decide
    have p1 : (nI 0).toNatClampNeg = 0 := by decide
    have x1 := jD_of (xs := la) (i := 0) (by omega)
    have x2 := jD_of (xs := lm) (i := 0) (by omega)
    have m1 : nI 0 + -1 = -1 := by decide
    have hd : kf_ev 22 3 [some (.ref f), some (.ref a), some (.int (-1))] [] M = some (some (.int 0), M) := by
      refine (e22_3 _ _ _).trans ?_
      have m2 : (-1 : Int32) < 0 := by decide
      simp only [cl_22, e22_0, e22_2, e22_4, e22_7, e22_8, e22_9, e22_10, e22_11, e22_14, e22_15, e22_16, e22_17, e22_20, e22_21, e22_22, e22_23, e22_24, e22_27, e22_28, e22_29, e22_30, e22_33, e22_34, e22_37, e22_38, e22_39, e22_42, e22_45, e22_46, ow_22, Int32.reduceOfInt, Int32.reduceOfNat, Int32.reduceToNatClampNeg, Int32.reduceLT, Int32.reduceLE, Int32.reduceAdd, Int32.reduceSub, Int32.reduceMul, Int64.reduceOfNat, Int64.reduceOfInt, Nat.reduceLeDiff, Nat.reduceLT, Nat.reduceEqDiff, Nat.reduceSub, cs_0, cs_1, cs_2, cs_3, cs_4, cs_5, cs_6, cs_7, cs_8, or_false, false_or, not_false_eq_true, and_true, true_and, if_true, if_false, List.length_cons, List.length_nil, List.getElem?_cons_succ, List.getElem?_cons_zero, List.set_cons_succ, List.set_cons_zero, reduceIte, d_G, d_R, s_aload, s_aload_n, s_iload, s_iload_n, s_lload, s_lload_n, s_istore, s_istore_n, s_astore, s_astoreN, s_astore_n, s_astore_nN, s_lstore, s_lstore_n, s_iinc, s_iconst, s_bipush, s_sipush, s_lconst, s_ldc2_w, s_aconst_null, s_dupA, s_dupI, s_dup2, s_iadd, s_isub, s_imul, s_iand, s_ior, s_ixor, s_ishl, s_ishr, s_iushr, s_ineg, s_idiv, s_irem, s_ladd, s_lsub, s_lmul, s_land, s_lor, s_lxor, s_ldiv, s_lshl, s_lshr, s_lushr, s_i2l, s_l2i, s_lcmp, s_goto, s_ieq, s_ine, s_ilt, s_ige, s_igt, s_ile, s_zeq, s_zne, s_zlt, s_zge, s_zgt, s_zle, s_ifnull, s_ifnullN, s_ifnonnull, s_ifnonnullN, s_tableswitch, s_lookupswitch, s_getfield, s_putfield, s_getstatic, s_iaload, s_laload, s_baload, s_aaload, s_iastore, s_lastore, s_bastore, s_aastore, s_arraylength, s_newI, s_newJ, s_newZ, s_anewarray, s_new, s_copy, s_max, s_min, s_invokestatic, s_objinit, s_invokespecial, kf_isr_r, s_invokevirtual, s_ireturn, s_lreturn, s_areturn, s_areturnN, s_return, lI_0, lI_s, lJ_0, lJ_s, lA_0, lA_0N, lA_s, lS1_0, lS1_1, lS1_2, lS2_0, lS2_1, lS2_2, lK_n, lK_i, lK_j, lK_a, lK_N, d_C', kf_w_0, kf_w_i, kf_w_a, kf_w_n, kf_w_j, c_0, c_1, c_2, c_3, c_4, c_5, c_6, tl_0, tl_1, Option.bind_some, Option.bind_none, Option.map_some, Nat.reduceAdd, Nat.reduceMul, Nat.reduceDiv, Nat.reduceMod, Int.reduceToNat, Fin.val_zero, Fin.isValue, Fin.val_one, Fin.val_two, fv_0, fv_1, fv_2, fv_3, fw_0, fw_1, d_ite, true_or, or_true, and_false, false_and, or_self, and_self, m2]
    refine (e22_3 _ _ _).trans ?_
    by_cases q : la.getD 0 0 = lm.getD 0 0
    · simp only [cl_22, e22_0, e22_2, e22_4, e22_7, e22_8, e22_9, e22_10, e22_11, e22_14, e22_15, e22_16, e22_17, e22_20, e22_21, e22_22, e22_23, e22_24, e22_27, e22_28, e22_29, e22_30, e22_33, e22_34, e22_37, e22_38, e22_39, e22_42, e22_45, e22_46, ow_22, Int32.reduceOfInt, Int32.reduceOfNat, Int32.reduceToNatClampNeg, Int32.reduceLT, Int32.reduceLE, Int32.reduceAdd, Int32.reduceSub, Int32.reduceMul, Int64.reduceOfNat, Int64.reduceOfInt, Nat.reduceLeDiff, Nat.reduceLT, Nat.reduceEqDiff, Nat.reduceSub, cs_0, cs_1, cs_2, cs_3, cs_4, cs_5, cs_6, cs_7, cs_8, or_false, false_or, not_false_eq_true, and_true, true_and, if_true, if_false, List.length_cons, List.length_nil, List.getElem?_cons_succ, List.getElem?_cons_zero, List.set_cons_succ, List.set_cons_zero, reduceIte, d_G, d_R, s_aload, s_aload_n, s_iload, s_iload_n, s_lload, s_lload_n, s_istore, s_istore_n, s_astore, s_astoreN, s_astore_n, s_astore_nN, s_lstore, s_lstore_n, s_iinc, s_iconst, s_bipush, s_sipush, s_lconst, s_ldc2_w, s_aconst_null, s_dupA, s_dupI, s_dup2, s_iadd, s_isub, s_imul, s_iand, s_ior, s_ixor, s_ishl, s_ishr, s_iushr, s_ineg, s_idiv, s_irem, s_ladd, s_lsub, s_lmul, s_land, s_lor, s_lxor, s_ldiv, s_lshl, s_lshr, s_lushr, s_i2l, s_l2i, s_lcmp, s_goto, s_ieq, s_ine, s_ilt, s_ige, s_igt, s_ile, s_zeq, s_zne, s_zlt, s_zge, s_zgt, s_zle, s_ifnull, s_ifnullN, s_ifnonnull, s_ifnonnullN, s_tableswitch, s_lookupswitch, s_getfield, s_putfield, s_getstatic, s_iaload, s_laload, s_baload, s_aaload, s_iastore, s_lastore, s_bastore, s_aastore, s_arraylength, s_newI, s_newJ, s_newZ, s_anewarray, s_new, s_copy, s_max, s_min, s_invokestatic, s_objinit, s_invokespecial, kf_isr_r, s_invokevirtual, s_ireturn, s_lreturn, s_areturn, s_areturnN, s_return, lI_0, lI_s, lJ_0, lJ_s, lA_0, lA_0N, lA_s, lS1_0, lS1_1, lS1_2, lS2_0, lS2_1, lS2_2, lK_n, lK_i, lK_j, lK_a, lK_N, d_C', kf_w_0, kf_w_i, kf_w_a, kf_w_n, kf_w_j, c_0, c_1, c_2, c_3, c_4, c_5, c_6, tl_0, tl_1, Option.bind_some, Option.bind_none, Option.map_some, Nat.reduceAdd, Nat.reduceMul, Nat.reduceDiv, Nat.reduceMod, Int.reduceToNat, Fin.val_zero, Fin.isValue, Fin.val_one, Fin.val_two, fv_0, fv_1, fv_2, fv_3, fw_0, fw_1, d_ite, true_or, or_true, and_false, false_and, or_self, and_self, gO1, ga, gm, p0, p1, x1, x2, lg0, lgN, eq_true q, m1, hd]
      simp only [blw, eq_true q, if_true]
      rfl
    · by_cases r : la.getD 0 0 < lm.getD 0 0
      · simp only [cl_22, e22_0, e22_2, e22_4, e22_7, e22_8, e22_9, e22_10, e22_11, e22_14, e22_15, e22_16, e22_17, e22_20, e22_21, e22_22, e22_23, e22_24, e22_27, e22_28, e22_29, e22_30, e22_33, e22_34, e22_37, e22_38, e22_39, e22_42, e22_45, e22_46, ow_22, Int32.reduceOfInt, Int32.reduceOfNat, Int32.reduceToNatClampNeg, Int32.reduceLT, Int32.reduceLE, Int32.reduceAdd, Int32.reduceSub, Int32.reduceMul, Int64.reduceOfNat, Int64.reduceOfInt, Nat.reduceLeDiff, Nat.reduceLT, Nat.reduceEqDiff, Nat.reduceSub, cs_0, cs_1, cs_2, cs_3, cs_4, cs_5, cs_6, cs_7, cs_8, or_false, false_or, not_false_eq_true, and_true, true_and, if_true, if_false, List.length_cons, List.length_nil, List.getElem?_cons_succ, List.getElem?_cons_zero, List.set_cons_succ, List.set_cons_zero, reduceIte, d_G, d_R, s_aload, s_aload_n, s_iload, s_iload_n, s_lload, s_lload_n, s_istore, s_istore_n, s_astore, s_astoreN, s_astore_n, s_astore_nN, s_lstore, s_lstore_n, s_iinc, s_iconst, s_bipush, s_sipush, s_lconst, s_ldc2_w, s_aconst_null, s_dupA, s_dupI, s_dup2, s_iadd, s_isub, s_imul, s_iand, s_ior, s_ixor, s_ishl, s_ishr, s_iushr, s_ineg, s_idiv, s_irem, s_ladd, s_lsub, s_lmul, s_land, s_lor, s_lxor, s_ldiv, s_lshl, s_lshr, s_lushr, s_i2l, s_l2i, s_lcmp, s_goto, s_ieq, s_ine, s_ilt, s_ige, s_igt, s_ile, s_zeq, s_zne, s_zlt, s_zge, s_zgt, s_zle, s_ifnull, s_ifnullN, s_ifnonnull, s_ifnonnullN, s_tableswitch, s_lookupswitch, s_getfield, s_putfield, s_getstatic, s_iaload, s_laload, s_baload, s_aaload, s_iastore, s_lastore, s_bastore, s_aastore, s_arraylength, s_newI, s_newJ, s_newZ, s_anewarray, s_new, s_copy, s_max, s_min, s_invokestatic, s_objinit, s_invokespecial, kf_isr_r, s_invokevirtual, s_ireturn, s_lreturn, s_areturn, s_areturnN, s_return, lI_0, lI_s, lJ_0, lJ_s, lA_0, lA_0N, lA_s, lS1_0, lS1_1, lS1_2, lS2_0, lS2_1, lS2_2, lK_n, lK_i, lK_j, lK_a, lK_N, d_C', kf_w_0, kf_w_i, kf_w_a, kf_w_n, kf_w_j, c_0, c_1, c_2, c_3, c_4, c_5, c_6, tl_0, tl_1, Option.bind_some, Option.bind_none, Option.map_some, Nat.reduceAdd, Nat.reduceMul, Nat.reduceDiv, Nat.reduceMod, Int.reduceToNat, Fin.val_zero, Fin.isValue, Fin.val_one, Fin.val_two, fv_0, fv_1, fv_2, fv_3, fw_0, fw_1, d_ite, true_or, or_true, and_false, false_and, or_self, and_self, gO1, ga, gm, p0, p1, x1, x2, lg0, lgN, eq_false q, eq_true r, not_true_eq_false]
        simp only [blw, eq_false q, eq_true r, if_false, decide_true, if_true]
      · simp only [cl_22, e22_0, e22_2, e22_4, e22_7, e22_8, e22_9, e22_10, e22_11, e22_14, e22_15, e22_16, e22_17, e22_20, e22_21, e22_22, e22_23, e22_24, e22_27, e22_28, e22_29, e22_30, e22_33, e22_34, e22_37, e22_38, e22_39, e22_42, e22_45, e22_46, ow_22, Int32.reduceOfInt, Int32.reduceOfNat, Int32.reduceToNatClampNeg, Int32.reduceLT, Int32.reduceLE, Int32.reduceAdd, Int32.reduceSub, Int32.reduceMul, Int64.reduceOfNat, Int64.reduceOfInt, Nat.reduceLeDiff, Nat.reduceLT, Nat.reduceEqDiff, Nat.reduceSub, cs_0, cs_1, cs_2, cs_3, cs_4, cs_5, cs_6, cs_7, cs_8, or_false, false_or, not_false_eq_true, and_true, true_and, if_true, if_false, List.length_cons, List.length_nil, List.getElem?_cons_succ, List.getElem?_cons_zero, List.set_cons_succ, List.set_cons_zero, reduceIte, d_G, d_R, s_aload, s_aload_n, s_iload, s_iload_n, s_lload, s_lload_n, s_istore, s_istore_n, s_astore, s_astoreN, s_astore_n, s_astore_nN, s_lstore, s_lstore_n, s_iinc, s_iconst, s_bipush, s_sipush, s_lconst, s_ldc2_w, s_aconst_null, s_dupA, s_dupI, s_dup2, s_iadd, s_isub, s_imul, s_iand, s_ior, s_ixor, s_ishl, s_ishr, s_iushr, s_ineg, s_idiv, s_irem, s_ladd, s_lsub, s_lmul, s_land, s_lor, s_lxor, s_ldiv, s_lshl, s_lshr, s_lushr, s_i2l, s_l2i, s_lcmp, s_goto, s_ieq, s_ine, s_ilt, s_ige, s_igt, s_ile, s_zeq, s_zne, s_zlt, s_zge, s_zgt, s_zle, s_ifnull, s_ifnullN, s_ifnonnull, s_ifnonnullN, s_tableswitch, s_lookupswitch, s_getfield, s_putfield, s_getstatic, s_iaload, s_laload, s_baload, s_aaload, s_iastore, s_lastore, s_bastore, s_aastore, s_arraylength, s_newI, s_newJ, s_newZ, s_anewarray, s_new, s_copy, s_max, s_min, s_invokestatic, s_objinit, s_invokespecial, kf_isr_r, s_invokevirtual, s_ireturn, s_lreturn, s_areturn, s_areturnN, s_return, lI_0, lI_s, lJ_0, lJ_s, lA_0, lA_0N, lA_s, lS1_0, lS1_1, lS1_2, lS2_0, lS2_1, lS2_2, lK_n, lK_i, lK_j, lK_a, lK_N, d_C', kf_w_0, kf_w_i, kf_w_a, kf_w_n, kf_w_j, c_0, c_1, c_2, c_3, c_4, c_5, c_6, tl_0, tl_1, Option.bind_some, Option.bind_none, Option.map_some, Nat.reduceAdd, Nat.reduceMul, Nat.reduceDiv, Nat.reduceMod, Int.reduceToNat, Fin.val_zero, Fin.isValue, Fin.val_one, Fin.val_two, fv_0, fv_1, fv_2, fv_3, fw_0, fw_1, d_ite, true_or, or_true, and_false, false_and, or_self, and_self, gO1, ga, gm, p0, p1, x1, x2, lg0, lgN, eq_false q, eq_false r]
        simp only [blw, eq_false q, eq_false r, if_false, decide_false]
        rfl
  | succ n ih =>
    intro hn
    have p0 : ¬ nI (n + 1) < 0 := nI_pos (by omega)
    have p1 : (nI (n + 1)).toNatClampNeg = n + 1 := nI_clamp (by omega)
    have x1 := jD_of (xs := la) (i := n + 1) (by omega)
    have x2 := jD_of (xs := lm) (i := n + 1) (by omega)
    have ih' := ih (by omega)
    refine (e22_3 _ _ _).trans ?_
    by_cases q : la.getD (n + 1) 0 = lm.getD (n + 1) 0
    · simp only [cl_22, e22_0, e22_2, e22_4, e22_7, e22_8, e22_9, e22_10, e22_11, e22_14, e22_15, e22_16, e22_17, e22_20, e22_21, e22_22, e22_23, e22_24, e22_27, e22_28, e22_29, e22_30, e22_33, e22_34, e22_37, e22_38, e22_39, e22_42, e22_45, e22_46, ow_22, Int32.reduceOfInt, Int32.reduceOfNat, Int32.reduceToNatClampNeg, Int32.reduceLT, Int32.reduceLE, Int32.reduceAdd, Int32.reduceSub, Int32.reduceMul, Int64.reduceOfNat, Int64.reduceOfInt, Nat.reduceLeDiff, Nat.reduceLT, Nat.reduceEqDiff, Nat.reduceSub, cs_0, cs_1, cs_2, cs_3, cs_4, cs_5, cs_6, cs_7, cs_8, or_false, false_or, not_false_eq_true, and_true, true_and, if_true, if_false, List.length_cons, List.length_nil, List.getElem?_cons_succ, List.getElem?_cons_zero, List.set_cons_succ, List.set_cons_zero, reduceIte, d_G, d_R, s_aload, s_aload_n, s_iload, s_iload_n, s_lload, s_lload_n, s_istore, s_istore_n, s_astore, s_astoreN, s_astore_n, s_astore_nN, s_lstore, s_lstore_n, s_iinc, s_iconst, s_bipush, s_sipush, s_lconst, s_ldc2_w, s_aconst_null, s_dupA, s_dupI, s_dup2, s_iadd, s_isub, s_imul, s_iand, s_ior, s_ixor, s_ishl, s_ishr, s_iushr, s_ineg, s_idiv, s_irem, s_ladd, s_lsub, s_lmul, s_land, s_lor, s_lxor, s_ldiv, s_lshl, s_lshr, s_lushr, s_i2l, s_l2i, s_lcmp, s_goto, s_ieq, s_ine, s_ilt, s_ige, s_igt, s_ile, s_zeq, s_zne, s_zlt, s_zge, s_zgt, s_zle, s_ifnull, s_ifnullN, s_ifnonnull, s_ifnonnullN, s_tableswitch, s_lookupswitch, s_getfield, s_putfield, s_getstatic, s_iaload, s_laload, s_baload, s_aaload, s_iastore, s_lastore, s_bastore, s_aastore, s_arraylength, s_newI, s_newJ, s_newZ, s_anewarray, s_new, s_copy, s_max, s_min, s_invokestatic, s_objinit, s_invokespecial, kf_isr_r, s_invokevirtual, s_ireturn, s_lreturn, s_areturn, s_areturnN, s_return, lI_0, lI_s, lJ_0, lJ_s, lA_0, lA_0N, lA_s, lS1_0, lS1_1, lS1_2, lS2_0, lS2_1, lS2_2, lK_n, lK_i, lK_j, lK_a, lK_N, d_C', kf_w_0, kf_w_i, kf_w_a, kf_w_n, kf_w_j, c_0, c_1, c_2, c_3, c_4, c_5, c_6, tl_0, tl_1, Option.bind_some, Option.bind_none, Option.map_some, Nat.reduceAdd, Nat.reduceMul, Nat.reduceDiv, Nat.reduceMod, Int.reduceToNat, Fin.val_zero, Fin.isValue, Fin.val_one, Fin.val_two, fv_0, fv_1, fv_2, fv_3, fw_0, fw_1, d_ite, true_or, or_true, and_false, false_and, or_self, and_self, gO1, ga, gm, p0, p1, x1, x2, lg0, lgN, eq_true q, nI_dec, ih']
      rw [show blw la lm (n + 1 + 1) = blw la lm (n + 1) from if_pos q]
    · by_cases r : la.getD (n + 1) 0 < lm.getD (n + 1) 0
      · simp only [cl_22, e22_0, e22_2, e22_4, e22_7, e22_8, e22_9, e22_10, e22_11, e22_14, e22_15, e22_16, e22_17, e22_20, e22_21, e22_22, e22_23, e22_24, e22_27, e22_28, e22_29, e22_30, e22_33, e22_34, e22_37, e22_38, e22_39, e22_42, e22_45, e22_46, ow_22, Int32.reduceOfInt, Int32.reduceOfNat, Int32.reduceToNatClampNeg, Int32.reduceLT, Int32.reduceLE, Int32.reduceAdd, Int32.reduceSub, Int32.reduceMul, Int64.reduceOfNat, Int64.reduceOfInt, Nat.reduceLeDiff, Nat.reduceLT, Nat.reduceEqDiff, Nat.reduceSub, cs_0, cs_1, cs_2, cs_3, cs_4, cs_5, cs_6, cs_7, cs_8, or_false, false_or, not_false_eq_true, and_true, true_and, if_true, if_false, List.length_cons, List.length_nil, List.getElem?_cons_succ, List.getElem?_cons_zero, List.set_cons_succ, List.set_cons_zero, reduceIte, d_G, d_R, s_aload, s_aload_n, s_iload, s_iload_n, s_lload, s_lload_n, s_istore, s_istore_n, s_astore, s_astoreN, s_astore_n, s_astore_nN, s_lstore, s_lstore_n, s_iinc, s_iconst, s_bipush, s_sipush, s_lconst, s_ldc2_w, s_aconst_null, s_dupA, s_dupI, s_dup2, s_iadd, s_isub, s_imul, s_iand, s_ior, s_ixor, s_ishl, s_ishr, s_iushr, s_ineg, s_idiv, s_irem, s_ladd, s_lsub, s_lmul, s_land, s_lor, s_lxor, s_ldiv, s_lshl, s_lshr, s_lushr, s_i2l, s_l2i, s_lcmp, s_goto, s_ieq, s_ine, s_ilt, s_ige, s_igt, s_ile, s_zeq, s_zne, s_zlt, s_zge, s_zgt, s_zle, s_ifnull, s_ifnullN, s_ifnonnull, s_ifnonnullN, s_tableswitch, s_lookupswitch, s_getfield, s_putfield, s_getstatic, s_iaload, s_laload, s_baload, s_aaload, s_iastore, s_lastore, s_bastore, s_aastore, s_arraylength, s_newI, s_newJ, s_newZ, s_anewarray, s_new, s_copy, s_max, s_min, s_invokestatic, s_objinit, s_invokespecial, kf_isr_r, s_invokevirtual, s_ireturn, s_lreturn, s_areturn, s_areturnN, s_return, lI_0, lI_s, lJ_0, lJ_s, lA_0, lA_0N, lA_s, lS1_0, lS1_1, lS1_2, lS2_0, lS2_1, lS2_2, lK_n, lK_i, lK_j, lK_a, lK_N, d_C', kf_w_0, kf_w_i, kf_w_a, kf_w_n, kf_w_j, c_0, c_1, c_2, c_3, c_4, c_5, c_6, tl_0, tl_1, Option.bind_some, Option.bind_none, Option.map_some, Nat.reduceAdd, Nat.reduceMul, Nat.reduceDiv, Nat.reduceMod, Int.reduceToNat, Fin.val_zero, Fin.isValue, Fin.val_one, Fin.val_two, fv_0, fv_1, fv_2, fv_3, fw_0, fw_1, d_ite, true_or, or_true, and_false, false_and, or_self, and_self, gO1, ga, gm, p0, p1, x1, x2, lg0, lgN, eq_false q, eq_true r, not_true_eq_false]
        rw [show blw la lm (n + 1 + 1) = decide (la.getD (n + 1) 0 < lm.getD (n + 1) 0) from if_neg q, decide_eq_true r]
        rfl
      · simp only [cl_22, e22_0, e22_2, e22_4, e22_7, e22_8, e22_9, e22_10, e22_11, e22_14, e22_15, e22_16, e22_17, e22_20, e22_21, e22_22, e22_23, e22_24, e22_27, e22_28, e22_29, e22_30, e22_33, e22_34, e22_37, e22_38, e22_39, e22_42, e22_45, e22_46, ow_22, Int32.reduceOfInt, Int32.reduceOfNat, Int32.reduceToNatClampNeg, Int32.reduceLT, Int32.reduceLE, Int32.reduceAdd, Int32.reduceSub, Int32.reduceMul, Int64.reduceOfNat, Int64.reduceOfInt, Nat.reduceLeDiff, Nat.reduceLT, Nat.reduceEqDiff, Nat.reduceSub, cs_0, cs_1, cs_2, cs_3, cs_4, cs_5, cs_6, cs_7, cs_8, or_false, false_or, not_false_eq_true, and_true, true_and, if_true, if_false, List.length_cons, List.length_nil, List.getElem?_cons_succ, List.getElem?_cons_zero, List.set_cons_succ, List.set_cons_zero, reduceIte, d_G, d_R, s_aload, s_aload_n, s_iload, s_iload_n, s_lload, s_lload_n, s_istore, s_istore_n, s_astore, s_astoreN, s_astore_n, s_astore_nN, s_lstore, s_lstore_n, s_iinc, s_iconst, s_bipush, s_sipush, s_lconst, s_ldc2_w, s_aconst_null, s_dupA, s_dupI, s_dup2, s_iadd, s_isub, s_imul, s_iand, s_ior, s_ixor, s_ishl, s_ishr, s_iushr, s_ineg, s_idiv, s_irem, s_ladd, s_lsub, s_lmul, s_land, s_lor, s_lxor, s_ldiv, s_lshl, s_lshr, s_lushr, s_i2l, s_l2i, s_lcmp, s_goto, s_ieq, s_ine, s_ilt, s_ige, s_igt, s_ile, s_zeq, s_zne, s_zlt, s_zge, s_zgt, s_zle, s_ifnull, s_ifnullN, s_ifnonnull, s_ifnonnullN, s_tableswitch, s_lookupswitch, s_getfield, s_putfield, s_getstatic, s_iaload, s_laload, s_baload, s_aaload, s_iastore, s_lastore, s_bastore, s_aastore, s_arraylength, s_newI, s_newJ, s_newZ, s_anewarray, s_new, s_copy, s_max, s_min, s_invokestatic, s_objinit, s_invokespecial, kf_isr_r, s_invokevirtual, s_ireturn, s_lreturn, s_areturn, s_areturnN, s_return, lI_0, lI_s, lJ_0, lJ_s, lA_0, lA_0N, lA_s, lS1_0, lS1_1, lS1_2, lS2_0, lS2_1, lS2_2, lK_n, lK_i, lK_j, lK_a, lK_N, d_C', kf_w_0, kf_w_i, kf_w_a, kf_w_n, kf_w_j, c_0, c_1, c_2, c_3, c_4, c_5, c_6, tl_0, tl_1, Option.bind_some, Option.bind_none, Option.map_some, Nat.reduceAdd, Nat.reduceMul, Nat.reduceDiv, Nat.reduceMod, Int.reduceToNat, Fin.val_zero, Fin.isValue, Fin.val_one, Fin.val_two, fv_0, fv_1, fv_2, fv_3, fw_0, fw_1, d_ite, true_or, or_true, and_false, false_and, or_self, and_self, gO1, ga, gm, p0, p1, x1, x2, lg0, lgN, eq_false q, eq_false r]
        rw [show blw la lm (n + 1 + 1) = decide (la.getD (n + 1) 0 < lm.getD (n + 1) 0) from if_neg q, decide_eq_false r]
        rfl
set_option maxHeartbeats 4000000 in
theorem blw_ok {la lm : List Int64} {va m : Int} (ha : lmb la va) (hm : lmb lm m) : (blw la lm 10 = true) = (va < m) := by
  obtain ⟨l0, l1, l2, l3, l4, l5, l6, l7, l8, l9, rfl, p0, p1, p2, p3, p4, p5, p6, p7, p8, e1⟩ := ha
  obtain ⟨k0, k1, k2, k3, k4, k5, k6, k7, k8, k9, rfl, q0, q1, q2, q3, q4, q5, q6, q7, q8, e2⟩ := hm
  simp only [blw, List.getD_cons_succ, List.getD_cons_zero, Nat.reduceAdd]
  apply propext
  by_cases d9 : l9 = k9
  · rw [if_pos d9]
    have g9 : l9.toInt = k9.toInt := by rw [d9]
    by_cases d8 : l8 = k8
    · rw [if_pos d8]
      have g8 : l8.toInt = k8.toInt := by rw [d8]
      by_cases d7 : l7 = k7
      · rw [if_pos d7]
        have g7 : l7.toInt = k7.toInt := by rw [d7]
        by_cases d6 : l6 = k6
        · rw [if_pos d6]
          have g6 : l6.toInt = k6.toInt := by rw [d6]
          by_cases d5 : l5 = k5
          · rw [if_pos d5]
            have g5 : l5.toInt = k5.toInt := by rw [d5]
            by_cases d4 : l4 = k4
            · rw [if_pos d4]
              have g4 : l4.toInt = k4.toInt := by rw [d4]
              by_cases d3 : l3 = k3
              · rw [if_pos d3]
                have g3 : l3.toInt = k3.toInt := by rw [d3]
                by_cases d2 : l2 = k2
                · rw [if_pos d2]
                  have g2 : l2.toInt = k2.toInt := by rw [d2]
                  by_cases d1 : l1 = k1
                  · rw [if_pos d1]
                    have g1 : l1.toInt = k1.toInt := by rw [d1]
                    by_cases d0 : l0 = k0
                    · rw [if_pos d0]
                      have g0 : l0.toInt = k0.toInt := by rw [d0]
                      exact ⟨fun h => absurd h (by decide), fun h => by omega⟩
                    · rw [if_neg d0, decide_eq_true_eq, Int64.lt_iff_toInt_lt]
                      have g0 : l0.toInt ≠ k0.toInt := fun q => d0 (Int64.toInt_inj.mp q)
                      exact ⟨fun h => by omega, fun h => by omega⟩
                  · rw [if_neg d1, decide_eq_true_eq, Int64.lt_iff_toInt_lt]
                    have g1 : l1.toInt ≠ k1.toInt := fun q => d1 (Int64.toInt_inj.mp q)
                    exact ⟨fun h => by omega, fun h => by omega⟩
                · rw [if_neg d2, decide_eq_true_eq, Int64.lt_iff_toInt_lt]
                  have g2 : l2.toInt ≠ k2.toInt := fun q => d2 (Int64.toInt_inj.mp q)
                  exact ⟨fun h => by omega, fun h => by omega⟩
              · rw [if_neg d3, decide_eq_true_eq, Int64.lt_iff_toInt_lt]
                have g3 : l3.toInt ≠ k3.toInt := fun q => d3 (Int64.toInt_inj.mp q)
                exact ⟨fun h => by omega, fun h => by omega⟩
            · rw [if_neg d4, decide_eq_true_eq, Int64.lt_iff_toInt_lt]
              have g4 : l4.toInt ≠ k4.toInt := fun q => d4 (Int64.toInt_inj.mp q)
              exact ⟨fun h => by omega, fun h => by omega⟩
          · rw [if_neg d5, decide_eq_true_eq, Int64.lt_iff_toInt_lt]
            have g5 : l5.toInt ≠ k5.toInt := fun q => d5 (Int64.toInt_inj.mp q)
            exact ⟨fun h => by omega, fun h => by omega⟩
        · rw [if_neg d6, decide_eq_true_eq, Int64.lt_iff_toInt_lt]
          have g6 : l6.toInt ≠ k6.toInt := fun q => d6 (Int64.toInt_inj.mp q)
          exact ⟨fun h => by omega, fun h => by omega⟩
      · rw [if_neg d7, decide_eq_true_eq, Int64.lt_iff_toInt_lt]
        have g7 : l7.toInt ≠ k7.toInt := fun q => d7 (Int64.toInt_inj.mp q)
        exact ⟨fun h => by omega, fun h => by omega⟩
    · rw [if_neg d8, decide_eq_true_eq, Int64.lt_iff_toInt_lt]
      have g8 : l8.toInt ≠ k8.toInt := fun q => d8 (Int64.toInt_inj.mp q)
      exact ⟨fun h => by omega, fun h => by omega⟩
  · rw [if_neg d9, decide_eq_true_eq, Int64.lt_iff_toInt_lt]
    have g9 : l9.toInt ≠ k9.toInt := fun q => d9 (Int64.toInt_inj.mp q)
    exact ⟨fun h => by omega, fun h => by omega⟩
theorem f22 {M : kf_M} {f a : Nat} {m va : Int} (hF : Mod M f m) (ha : Num M a va) : kf_cl 22 [.ref f, .ref a] M = some (some (.int (if va < m then 1 else 0)), M) := by
  obtain ⟨inv, hO, ⟨lm, gm, hm⟩, -⟩ := hF
  obtain ⟨la, ga, hla⟩ := ha
  have k1 := c22l (gO_of hO) (gJ_of ga) (gJ_of gm) (lmb_len hla) (lmb_len hm) 9 (by omega)
  rw [show nI 9 = 9 from rfl, show 9 + 1 = 10 from rfl] at k1
  have e := blw_ok hla hm
  simp only [cl_22, e22_0, e22_2, e22_4, e22_7, e22_8, e22_9, e22_10, e22_11, e22_14, e22_15, e22_16, e22_17, e22_20, e22_21, e22_22, e22_23, e22_24, e22_27, e22_28, e22_29, e22_30, e22_33, e22_34, e22_37, e22_38, e22_39, e22_42, e22_45, e22_46, ow_22, Int32.reduceOfInt, Int32.reduceOfNat, Int32.reduceToNatClampNeg, Int32.reduceLT, Int32.reduceLE, Int32.reduceAdd, Int32.reduceSub, Int32.reduceMul, Int64.reduceOfNat, Int64.reduceOfInt, Nat.reduceLeDiff, Nat.reduceLT, Nat.reduceEqDiff, Nat.reduceSub, cs_0, cs_1, cs_2, cs_3, cs_4, cs_5, cs_6, cs_7, cs_8, or_false, false_or, not_false_eq_true, and_true, true_and, if_true, if_false, List.length_cons, List.length_nil, List.getElem?_cons_succ, List.getElem?_cons_zero, List.set_cons_succ, List.set_cons_zero, reduceIte, d_G, d_R, s_aload, s_aload_n, s_iload, s_iload_n, s_lload, s_lload_n, s_istore, s_istore_n, s_astore, s_astoreN, s_astore_n, s_astore_nN, s_lstore, s_lstore_n, s_iinc, s_iconst, s_bipush, s_sipush, s_lconst, s_ldc2_w, s_aconst_null, s_dupA, s_dupI, s_dup2, s_iadd, s_isub, s_imul, s_iand, s_ior, s_ixor, s_ishl, s_ishr, s_iushr, s_ineg, s_idiv, s_irem, s_ladd, s_lsub, s_lmul, s_land, s_lor, s_lxor, s_ldiv, s_lshl, s_lshr, s_lushr, s_i2l, s_l2i, s_lcmp, s_goto, s_ieq, s_ine, s_ilt, s_ige, s_igt, s_ile, s_zeq, s_zne, s_zlt, s_zge, s_zgt, s_zle, s_ifnull, s_ifnullN, s_ifnonnull, s_ifnonnullN, s_tableswitch, s_lookupswitch, s_getfield, s_putfield, s_getstatic, s_iaload, s_laload, s_baload, s_aaload, s_iastore, s_lastore, s_bastore, s_aastore, s_arraylength, s_newI, s_newJ, s_newZ, s_anewarray, s_new, s_copy, s_max, s_min, s_invokestatic, s_objinit, s_invokespecial, kf_isr_r, s_invokevirtual, s_ireturn, s_lreturn, s_areturn, s_areturnN, s_return, lI_0, lI_s, lJ_0, lJ_s, lA_0, lA_0N, lA_s, lS1_0, lS1_1, lS1_2, lS2_0, lS2_1, lS2_2, lK_n, lK_i, lK_j, lK_a, lK_N, d_C', kf_w_0, kf_w_i, kf_w_a, kf_w_n, kf_w_j, c_0, c_1, c_2, c_3, c_4, c_5, c_6, tl_0, tl_1, Option.bind_some, Option.bind_none, Option.map_some, Nat.reduceAdd, Nat.reduceMul, Nat.reduceDiv, Nat.reduceMod, Int.reduceToNat, Fin.val_zero, Fin.isValue, Fin.val_one, Fin.val_two, fv_0, fv_1, fv_2, fv_3, fw_0, fw_1, d_ite, true_or, or_true, and_false, false_and, or_self, and_self, k1, e]
