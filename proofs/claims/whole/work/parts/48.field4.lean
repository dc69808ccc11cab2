/-! Field: isProper, bit, invert -/
theorem zrx_ok {la : List Int64} {va : Int} (h : lmb la va) : (zrx la 0 10 true = true) = (va = 0) := by
  obtain ⟨l0, l1, l2, l3, l4, l5, l6, l7, l8, l9, rfl, p0, p1, p2, p3, p4, p5, p6, p7, p8, e1⟩ := h
  simp only [zrx, List.getD_cons_succ, List.getD_cons_zero, Nat.reduceAdd, Bool.true_and, Bool.and_eq_true, decide_eq_true_eq]
  have z : (0 : Int64).toInt = 0 := rfl
  simp only [← Int64.toInt_inj, z]
  apply propext
  constructor
  · intro q
    obtain ⟨⟨⟨⟨⟨⟨⟨⟨⟨d0, d1⟩, d2⟩, d3⟩, d4⟩, d5⟩, d6⟩, d7⟩, d8⟩, d9⟩ := q
    omega
  · intro q
    refine ⟨⟨⟨⟨⟨⟨⟨⟨⟨?_, ?_⟩, ?_⟩, ?_⟩, ?_⟩, ?_⟩, ?_⟩, ?_⟩, ?_⟩, ?_⟩ <;> omega
theorem f20 {M : kf_M} {f a : Nat} {m va : Int} (hF : Mod M f m) (ha : Num M a va) : kf_cl 20 [.ref f, .ref a] M = some (some (.int (if va ≠ 0 ∧ va < m then 1 else 0)), M) := by
  have k2 := f22 hF ha
  have rc := hF.rc
  obtain ⟨la, ga, hla⟩ := ha
  have k1 := c20l (f := f) (gJ_of ga) (lmb_len hla) 10 0 true rfl
  rw [nI_0, show b01 true = 1 from rfl] at k1
  have e := zrx_ok hla
  have h10 : ¬ (1 : Int32) = 0 := by decide
  by_cases q : va = 0
  · have e2 : zrx la 0 10 true = true := by rw [e]; exact q
    rw [e2, show b01 true = 1 from rfl] at k1
    rw [if_neg (by intro h; exact h.1 q)]
    simp only [cl_20, e20_0, e20_1, e20_2, e20_3, e20_5, e20_7, e20_10, e20_11, e20_14, e20_15, e20_16, e20_17, e20_18, e20_19, e20_22, e20_23, e20_26, e20_27, e20_28, e20_31, e20_34, e20_35, e20_38, e20_39, e20_40, e20_43, e20_46, e20_47, e20_50, e20_51, ow_20, Int32.reduceOfInt, Int32.reduceOfNat, Int32.reduceToNatClampNeg, Int32.reduceLT, Int32.reduceLE, Int32.reduceAdd, Int32.reduceSub, Int32.reduceMul, Int64.reduceOfNat, Int64.reduceOfInt, Nat.reduceLeDiff, Nat.reduceLT, Nat.reduceEqDiff, Nat.reduceSub, cs_0, cs_1, cs_2, cs_3, cs_4, cs_5, cs_6, cs_7, cs_8, or_false, false_or, not_false_eq_true, and_true, true_and, if_true, if_false, List.length_cons, List.length_nil, List.getElem?_cons_succ, List.getElem?_cons_zero, List.set_cons_succ, List.set_cons_zero, reduceIte, d_G, d_R, s_aload, s_aload_n, s_iload, s_iload_n, s_lload, s_lload_n, s_istore, s_istore_n, s_astore, s_astoreN, s_astore_n, s_astore_nN, s_lstore, s_lstore_n, s_iinc, s_iconst, s_bipush, s_sipush, s_lconst, s_ldc2_w, s_aconst_null, s_dupA, s_dupI, s_dup2, s_iadd, s_isub, s_imul, s_iand, s_ior, s_ixor, s_ishl, s_ishr, s_iushr, s_ineg, s_idiv, s_irem, s_ladd, s_lsub, s_lmul, s_land, s_lor, s_lxor, s_ldiv, s_lshl, s_lshr, s_lushr, s_i2l, s_l2i, s_lcmp, s_goto, s_ieq, s_ine, s_ilt, s_ige, s_igt, s_ile, s_zeq, s_zne, s_zlt, s_zge, s_zgt, s_zle, s_ifnull, s_ifnullN, s_ifnonnull, s_ifnonnullN, s_tableswitch, s_lookupswitch, s_getfield, s_putfield, s_getstatic, s_iaload, s_laload, s_baload, s_aaload, s_iastore, s_lastore, s_bastore, s_aastore, s_arraylength, s_newI, s_newJ, s_newZ, s_anewarray, s_new, s_copy, s_max, s_min, s_invokestatic, s_objinit, s_invokespecial, kf_isr_r, s_invokevirtual, s_ireturn, s_lreturn, s_areturn, s_areturnN, s_return, lI_0, lI_s, lJ_0, lJ_s, lA_0, lA_0N, lA_s, lS1_0, lS1_1, lS1_2, lS2_0, lS2_1, lS2_2, lK_n, lK_i, lK_j, lK_a, lK_N, d_C', kf_w_0, kf_w_i, kf_w_a, kf_w_n, kf_w_j, c_0, c_1, c_2, c_3, c_4, c_5, c_6, tl_0, tl_1, Option.bind_some, Option.bind_none, Option.map_some, Nat.reduceAdd, Nat.reduceMul, Nat.reduceDiv, Nat.reduceMod, Int.reduceToNat, Fin.val_zero, Fin.isValue, Fin.val_one, Fin.val_two, fv_0, fv_1, fv_2, fv_3, fw_0, fw_1, d_ite, true_or, or_true, and_false, false_and, or_self, and_self, k1, h10]
  · have e2 : zrx la 0 10 true = false := by
      cases h : zrx la 0 10 true with
      | false => rfl
      | true => rw [e] at h; exact absurd h q
    rw [e2, show b01 false = 0 from rfl] at k1
    by_cases r : va < m
    · rw [if_pos r] at k2
      rw [if_pos ⟨q, r⟩]
      simp only [cl_20, e20_0, e20_1, e20_2, e20_3, e20_5, e20_7, e20_10, e20_11, e20_14, e20_15, e20_16, e20_17, e20_18, e20_19, e20_22, e20_23, e20_26, e20_27, e20_28, e20_31, e20_34, e20_35, e20_38, e20_39, e20_40, e20_43, e20_46, e20_47, e20_50, e20_51, ow_20, Int32.reduceOfInt, Int32.reduceOfNat, Int32.reduceToNatClampNeg, Int32.reduceLT, Int32.reduceLE, Int32.reduceAdd, Int32.reduceSub, Int32.reduceMul, Int64.reduceOfNat, Int64.reduceOfInt, Nat.reduceLeDiff, Nat.reduceLT, Nat.reduceEqDiff, Nat.reduceSub, cs_0, cs_1, cs_2, cs_3, cs_4, cs_5, cs_6, cs_7, cs_8, or_false, false_or, not_false_eq_true, and_true, true_and, if_true, if_false, List.length_cons, List.length_nil, List.getElem?_cons_succ, List.getElem?_cons_zero, List.set_cons_succ, List.set_cons_zero, reduceIte, d_G, d_R, s_aload, s_aload_n, s_iload, s_iload_n, s_lload, s_lload_n, s_istore, s_istore_n, s_astore, s_astoreN, s_astore_n, s_astore_nN, s_lstore, s_lstore_n, s_iinc, s_iconst, s_bipush, s_sipush, s_lconst, s_ldc2_w, s_aconst_null, s_dupA, s_dupI, s_dup2, s_iadd, s_isub, s_imul, s_iand, s_ior, s_ixor, s_ishl, s_ishr, s_iushr, s_ineg, s_idiv, s_irem, s_ladd, s_lsub, s_lmul, s_land, s_lor, s_lxor, s_ldiv, s_lshl, s_lshr, s_lushr, s_i2l, s_l2i, s_lcmp, s_goto, s_ieq, s_ine, s_ilt, s_ige, s_igt, s_ile, s_zeq, s_zne, s_zlt, s_zge, s_zgt, s_zle, s_ifnull, s_ifnullN, s_ifnonnull, s_ifnonnullN, s_tableswitch, s_lookupswitch, s_getfield, s_putfield, s_getstatic, s_iaload, s_laload, s_baload, s_aaload, s_iastore, s_lastore, s_bastore, s_aastore, s_arraylength, s_newI, s_newJ, s_newZ, s_anewarray, s_new, s_copy, s_max, s_min, s_invokestatic, s_objinit, s_invokespecial, kf_isr_r, s_invokevirtual, s_ireturn, s_lreturn, s_areturn, s_areturnN, s_return, lI_0, lI_s, lJ_0, lJ_s, lA_0, lA_0N, lA_s, lS1_0, lS1_1, lS1_2, lS2_0, lS2_1, lS2_2, lK_n, lK_i, lK_j, lK_a, lK_N, d_C', kf_w_0, kf_w_i, kf_w_a, kf_w_n, kf_w_j, c_0, c_1, c_2, c_3, c_4, c_5, c_6, tl_0, tl_1, Option.bind_some, Option.bind_none, Option.map_some, Nat.reduceAdd, Nat.reduceMul, Nat.reduceDiv, Nat.reduceMod, Int.reduceToNat, Fin.val_zero, Fin.isValue, Fin.val_one, Fin.val_two, fv_0, fv_1, fv_2, fv_3, fw_0, fw_1, d_ite, true_or, or_true, and_false, false_and, or_self, and_self, ow_22, rc, k1, k2, h10]
    · rw [if_neg r] at k2
      rw [if_neg (by intro h; exact r h.2)]
      simp only [cl_20, e20_0, e20_1, e20_2, e20_3, e20_5, e20_7, e20_10, e20_11, e20_14, e20_15, e20_16, e20_17, e20_18, e20_19, e20_22, e20_23, e20_26, e20_27, e20_28, e20_31, e20_34, e20_35, e20_38, e20_39, e20_40, e20_43, e20_46, e20_47, e20_50, e20_51, ow_20, Int32.reduceOfInt, Int32.reduceOfNat, Int32.reduceToNatClampNeg, Int32.reduceLT, Int32.reduceLE, Int32.reduceAdd, Int32.reduceSub, Int32.reduceMul, Int64.reduceOfNat, Int64.reduceOfInt, Nat.reduceLeDiff, Nat.reduceLT, Nat.reduceEqDiff, Nat.reduceSub, cs_0, cs_1, cs_2, cs_3, cs_4, cs_5, cs_6, cs_7, cs_8, or_false, false_or, not_false_eq_true, and_true, true_and, if_true, if_false, List.length_cons, List.length_nil, List.getElem?_cons_succ, List.getElem?_cons_zero, List.set_cons_succ, List.set_cons_zero, reduceIte, d_G, d_R, s_aload, s_aload_n, s_iload, s_iload_n, s_lload, s_lload_n, s_istore, s_istore_n, s_astore, s_astoreN, s_astore_n, s_astore_nN, s_lstore, s_lstore_n, s_iinc, s_iconst, s_bipush, s_sipush, s_lconst, s_ldc2_w, s_aconst_null, s_dupA, s_dupI, s_dup2, s_iadd, s_isub, s_imul, s_iand, s_ior, s_ixor, s_ishl, s_ishr, s_iushr, s_ineg, s_idiv, s_irem, s_ladd, s_lsub, s_lmul, s_land, s_lor, s_lxor, s_ldiv, s_lshl, s_lshr, s_lushr, s_i2l, s_l2i, s_lcmp, s_goto, s_ieq, s_ine, s_ilt, s_ige, s_igt, s_ile, s_zeq, s_zne, s_zlt, s_zge, s_zgt, s_zle, s_ifnull, s_ifnullN, s_ifnonnull, s_ifnonnullN, s_tableswitch, s_lookupswitch, s_getfield, s_putfield, s_getstatic, s_iaload, s_laload, s_baload, s_aaload, s_iastore, s_lastore, s_bastore, s_aastore, s_arraylength, s_newI, s_newJ, s_newZ, s_anewarray, s_new, s_copy, s_max, s_min, s_invokestatic, s_objinit, s_invokespecial, kf_isr_r, s_invokevirtual, s_ireturn, s_lreturn, s_areturn, s_areturnN, s_return, lI_0, lI_s, lJ_0, lJ_s, lA_0, lA_0N, lA_s, lS1_0, lS1_1, lS1_2, lS2_0, lS2_1, lS2_2, lK_n, lK_i, lK_j, lK_a, lK_N, d_C', kf_w_0, kf_w_i, kf_w_a, kf_w_n, kf_w_j, c_0, c_1, c_2, c_3, c_4, c_5, c_6, tl_0, tl_1, Option.bind_some, Option.bind_none, Option.map_some, Nat.reduceAdd, Nat.reduceMul, Nat.reduceDiv, Nat.reduceMod, Int.reduceToNat, Fin.val_zero, Fin.isValue, Fin.val_one, Fin.val_two, fv_0, fv_1, fv_2, fv_3, fw_0, fw_1, d_ite, true_or, or_true, and_false, false_and, or_self, and_self, ow_22, rc, k1, k2]
theorem lmb_dg {l : List Int64} {v : Int} (h : lmb l v) (h0 : 0 ≤ v) (h1 : v < 2 ^ 280) {j : Nat} (hj : j < 10) : (l.getD j 0).toInt = ((v.toNat / 2 ^ (28 * j) % 2 ^ 28 : Nat) : Int) := by
  obtain ⟨l0, l1, l2, l3, l4, l5, l6, l7, l8, l9, rfl, p0, p1, p2, p3, p4, p5, p6, p7, p8, e1⟩ := h
  match j, hj with
  | 0, _ =>
    show l0.toInt = ((v.toNat / 1 % 268435456 : Nat) : Int)
    omega
  | 1, _ =>
    show l1.toInt = ((v.toNat / 268435456 % 268435456 : Nat) : Int)
    omega
  | 2, _ =>
    show l2.toInt = ((v.toNat / 72057594037927936 % 268435456 : Nat) : Int)
    omega
  | 3, _ =>
    show l3.toInt = ((v.toNat / 19342813113834066795298816 % 268435456 : Nat) : Int)
    omega
  | 4, _ =>
    show l4.toInt = ((v.toNat / 5192296858534827628530496329220096 % 268435456 : Nat) : Int)
    omega
  | 5, _ =>
    show l5.toInt = ((v.toNat / 1393796574908163946345982392040522594123776 % 268435456 : Nat) : Int)
    omega
  | 6, _ =>
    show l6.toInt = ((v.toNat / 374144419156711147060143317175368453031918731001856 % 268435456 : Nat) : Int)
    omega
  | 7, _ =>
    show l7.toInt = ((v.toNat / 100433627766186892221372630771322662657637687111424552206336 % 268435456 : Nat) : Int)
    omega
  | 8, _ =>
    show l8.toInt = ((v.toNat / 26959946667150639794667015087019630673637144422540572481103610249216 % 268435456 : Nat) : Int)
    omega
  | 9, _ =>
    show l9.toInt = ((v.toNat / 7237005577332262213973186563042994240829374041602535252466099000494570602496 % 268435456 : Nat) : Int)
    omega
theorem shcnt : ∀ s, s < 64 → (((nI s).toInt64 &&& 63).toBitVec.smod 64).toNat = s := by decide +kernel
theorem jshr (p : Int64) {s : Nat} (hs : s < 64) : (p >>> ((nI s).toInt64 &&& 63)).toInt = p.toInt / 2 ^ s := by
  rw [← Int64.toInt_toBitVec, Int64.toBitVec_shiftRight, BitVec.toInt_sshiftRight', shcnt s hs, Int.shiftRight_eq_div_pow, Int64.toInt_toBitVec]
  rfl
/-- a small long as an int -/
theorem j2i {p : Int64} {n : Nat} (h : p.toInt = (n : Int)) (hn : n < 2 ^ 31) : p.toInt32 = nI n := by
  apply Int32.toInt_inj.mp
  rw [Int64.toInt_toInt32, h, nI_toInt hn]
  exact Int.bmod_eq_of_le_mul_two (by omega) (by omega)
theorem dgbit {n j s : Nat} (hs : s < 28) : n / 2 ^ (28 * j) % 2 ^ 28 / 2 ^ s % 2 = n / 2 ^ (28 * j + s) % 2 := by
  rw [show (2 : Nat) ^ 28 = 2 ^ s * 2 ^ (28 - s) by rw [← Nat.pow_add]; congr 1; omega, Nat.mod_mul_right_div_self, Nat.div_div_eq_div_mul, ← Nat.pow_add]
  rw [show 28 - s = (27 - s) + 1 by omega, Nat.pow_succ]
  exact Nat.mod_mod_of_dvd _ (Nat.dvd_mul_left _ _)
theorem f11 {M : kf_M} {a i : Nat} {v : Int} (ha : Num M a v) (h0 : 0 ≤ v) (h1 : v < 2 ^ 256) (hi : i < 256) : kf_cl 11 [.ref a, .int (nI i)] M = some (some (.int (nI (v.toNat / 2 ^ i % 2))), M) := by
  obtain ⟨l, ga, hl⟩ := ha
  have g := gJ_of ga
  have p0 : ¬ nI i < 0 := nI_pos (by omega)
  have p1 : ¬ (256 : Int32) ≤ nI i := nI_ge (a := i) (b := 256) (by omega) (by omega)
  have e1 : nI i / 28 = nI (i / 28) := pk_div (d := 28) (by omega) (by omega) (by omega)
  have e2 : nI i - nI (i / 28) * 28 = nI (i % 28) := by rw [← e1]; exact pk_rem (d := 28) (by omega) (by omega) (by omega)
  have p2 : ¬ nI (i / 28) < 0 := nI_pos (by omega)
  have p3 : (nI (i / 28)).toNatClampNeg = i / 28 := nI_clamp (by omega)
  have x1 := jD_of (xs := l) (i := i / 28) (by rw [lmb_len hl]; omega)
  have z : ¬ (28 : Int32) = 0 := by decide
  have e3 := lmb_dg hl h0 (by omega) (j := i / 28) (by omega)
  have e4 : (l.getD (i / 28) 0 >>> ((nI (i % 28)).toInt64 &&& 63)).toInt32 = nI (v.toNat / 2 ^ (28 * (i / 28)) % 2 ^ 28 / 2 ^ (i % 28)) := by
    apply j2i
    · rw [jshr _ (by omega), e3]
      rfl
    · have : v.toNat / 2 ^ (28 * (i / 28)) % 2 ^ 28 < 2 ^ 28 := Nat.mod_lt _ (by decide)
      have := Nat.div_le_self (v.toNat / 2 ^ (28 * (i / 28)) % 2 ^ 28) (2 ^ (i % 28))
      omega
  have e5 : nI (v.toNat / 2 ^ (28 * (i / 28)) % 2 ^ 28 / 2 ^ (i % 28)) &&& 1 = nI (v.toNat / 2 ^ i % 2) := by
    have hlt : v.toNat / 2 ^ (28 * (i / 28)) % 2 ^ 28 < 2 ^ 28 := Nat.mod_lt _ (by decide)
    have hle := Nat.div_le_self (v.toNat / 2 ^ (28 * (i / 28)) % 2 ^ 28) (2 ^ (i % 28))
    rw [pk_andN (k := 1) (by omega) rfl]
    show nI (_ % 2) = _
    rw [dgbit (by omega), show 28 * (i / 28) + i % 28 = i by omega]
  simp only [cl_11, e11_0, e11_1, e11_4, e11_5, e11_8, e11_11, e11_12, e11_13, e11_15, e11_16, e11_17, e11_18, e11_20, e11_21, e11_22, e11_23, e11_24, e11_25, e11_28, e11_29, ow_11, Int32.reduceOfInt, Int32.reduceOfNat, Int32.reduceToNatClampNeg, Int32.reduceLT, Int32.reduceLE, Int32.reduceAdd, Int32.reduceSub, Int32.reduceMul, Int64.reduceOfNat, Int64.reduceOfInt, Nat.reduceLeDiff, Nat.reduceLT, Nat.reduceEqDiff, Nat.reduceSub, cs_0, cs_1, cs_2, cs_3, cs_4, cs_5, cs_6, cs_7, cs_8, or_false, false_or, not_false_eq_true, and_true, true_and, if_true, if_false, List.length_cons, List.length_nil, List.getElem?_cons_succ, List.getElem?_cons_zero, List.set_cons_succ, List.set_cons_zero, reduceIte, d_G, d_R, s_aload, s_aload_n, s_iload, s_iload_n, s_lload, s_lload_n, s_istore, s_istore_n, s_astore, s_astoreN, s_astore_n, s_astore_nN, s_lstore, s_lstore_n, s_iinc, s_iconst, s_bipush, s_sipush, s_lconst, s_ldc2_w, s_aconst_null, s_dupA, s_dupI, s_dup2, s_iadd, s_isub, s_imul, s_iand, s_ior, s_ixor, s_ishl, s_ishr, s_iushr, s_ineg, s_idiv, s_irem, s_ladd, s_lsub, s_lmul, s_land, s_lor, s_lxor, s_ldiv, s_lshl, s_lshr, s_lushr, s_i2l, s_l2i, s_lcmp, s_goto, s_ieq, s_ine, s_ilt, s_ige, s_igt, s_ile, s_zeq, s_zne, s_zlt, s_zge, s_zgt, s_zle, s_ifnull, s_ifnullN, s_ifnonnull, s_ifnonnullN, s_tableswitch, s_lookupswitch, s_getfield, s_putfield, s_getstatic, s_iaload, s_laload, s_baload, s_aaload, s_iastore, s_lastore, s_bastore, s_aastore, s_arraylength, s_newI, s_newJ, s_newZ, s_anewarray, s_new, s_copy, s_max, s_min, s_invokestatic, s_objinit, s_invokespecial, kf_isr_r, s_invokevirtual, s_ireturn, s_lreturn, s_areturn, s_areturnN, s_return, lI_0, lI_s, lJ_0, lJ_s, lA_0, lA_0N, lA_s, lS1_0, lS1_1, lS1_2, lS2_0, lS2_1, lS2_2, lK_n, lK_i, lK_j, lK_a, lK_N, d_C', kf_w_0, kf_w_i, kf_w_a, kf_w_n, kf_w_j, c_0, c_1, c_2, c_3, c_4, c_5, c_6, tl_0, tl_1, Option.bind_some, Option.bind_none, Option.map_some, Nat.reduceAdd, Nat.reduceMul, Nat.reduceDiv, Nat.reduceMod, Int.reduceToNat, Fin.val_zero, Fin.isValue, Fin.val_one, Fin.val_two, fv_0, fv_1, fv_2, fv_3, fw_0, fw_1, d_ite, true_or, or_true, and_false, false_and, or_self, and_self, g, p0, p1, e1, e2, p2, p3, x1, z, e4, e5]
/-! invert: a power -/
theorem mont_s {m s v w : Int} (hs : cg m (s * 2 ^ 280) 1) (h : cg m (v * 2 ^ 280) w) : cg m v (w * s) := by
  have h1 : cg m (v * (s * 2 ^ 280)) (v * 1) := cg_ml cg_rf hs
  rw [Int.mul_one] at h1
  have h2 : cg m (v * 2 ^ 280 * s) (w * s) := cg_ml h cg_rf
  rw [show v * 2 ^ 280 * s = v * (s * 2 ^ 280) by rw [Int.mul_assoc, Int.mul_comm s]] at h2
  exact cg_tr (cg_sy h1) h2
theorem f17l {f to a : Nat} {m va s : Int} {e : Nat} (hs : cg m (s * 2 ^ 280) 1) (hf : 19 ≤ f) (ha5 : a ≠ f + 5) (a1 : bgi va) (he : (e : Int) = m - 2) (he2 : e < 2 ^ 256) : ∀ n, n < 256 → ∀ (M : kf_M) (x : Int), Mod M f m → Num M (f + 2) (m - 2) → Num M a va → Num M (f + 5) x → sml x → cg m x (2 ^ 280 * (va * s) ^ (e / 2 ^ (n + 1))) → ∃ M' x', kf_ev 17 15 [some (.ref f), some (.ref to), some (.ref a), some (.int (nI n))] [] M = kf_ev 17 66 [some (.ref f), some (.ref to), some (.ref a), some (.int (-1))] [] M' ∧ Num M' (f + 5) x' ∧ sml x' ∧ cg m x' (2 ^ 280 * (va * s) ^ e) ∧ Off [f + 5] M M' := by
  have step : ∀ n, n < 256 → ∀ (M : kf_M) (x : Int), Mod M f m → Num M (f + 2) (m - 2) → Num M a va → Num M (f + 5) x → sml x → cg m x (2 ^ 280 * (va * s) ^ (e / 2 ^ (n + 1))) → ∃ M' x', kf_ev 17 15 [some (.ref f), some (.ref to), some (.ref a), some (.int (nI n))] [] M = kf_ev 17 15 [some (.ref f), some (.ref to), some (.ref a), some (.int (nI n + -1))] [] M' ∧ Num M' (f + 5) x' ∧ sml x' ∧ cg m x' (2 ^ 280 * (va * s) ^ (e / 2 ^ n)) ∧ Off [f + 5] M M' := by
    intro n hn M x hF hE hA hX sx cx
    obtain ⟨inv, g⟩ := hF.gO
    have rc := hF.rc
    have p0 : ¬ nI n < 0 := nI_pos (by omega)
    obtain ⟨M1, x1, k1, n1, c1, s1, o1⟩ := f16c hF hX hX hX.jar (by omega) (sml_b sx) (sml_b sx)
    have hF1 := hF.off o1 (by simp) (by simp)
    obtain ⟨inv1, g1⟩ := hF1.gO
    have rc1 := hF1.rc
    have hE1 := hE.off o1 (by simp)
    have kb := f11 (i := n) hE1 (by omega) (by omega) hn
    have et : (m - 2).toNat = e := by omega
    rw [et] at kb
    have hh : e / 2 ^ n = 2 * (e / 2 ^ (n + 1)) + e / 2 ^ n % 2 := by
      rw [Nat.pow_succ, ← Nat.div_div_eq_div_mul]
      omega
    have cx1 : cg m x1 (2 ^ 280 * (va * s) ^ (2 * (e / 2 ^ (n + 1)))) := by
      refine cg_tr (mont_s hs c1) (cg_tr (cg_ml (cg_ml cx cx) cg_rf) ?_)
      have h1 : cg m ((2 ^ 280 * (va * s) ^ (e / 2 ^ (n + 1))) * (va * s) ^ (e / 2 ^ (n + 1)) * (s * 2 ^ 280)) ((2 ^ 280 * (va * s) ^ (e / 2 ^ (n + 1))) * (va * s) ^ (e / 2 ^ (n + 1)) * 1) := cg_ml cg_rf hs
      rw [show 2 * (e / 2 ^ (n + 1)) = e / 2 ^ (n + 1) + e / 2 ^ (n + 1) by omega, Int.pow_add]
      generalize (va * s) ^ (e / 2 ^ (n + 1)) = Y at *
      generalize (2 : Int) ^ 280 = R at *
      rw [show R * Y * (R * Y) * s = R * Y * Y * (s * R) by grind, show R * (Y * Y) = R * Y * Y * 1 by grind]
      exact h1
    have h01 : ¬ (0 : Int32) = 1 := by decide
    by_cases q : e / 2 ^ n % 2 = 1
    · rw [q, show nI 1 = 1 from rfl] at kb
      obtain ⟨M2, x2, k2, n2, c2, s2, o2⟩ := f16c hF1 n1 (hA.off o1 (by simpa using ha5)) n1.jar (by omega) (sml_b s1) a1
      refine ⟨M2, x2, (e17_15 _ _ _).trans (by simp only [cl_17, e17_0, e17_1, e17_4, e17_5, e17_8, e17_11, e17_14, e17_16, e17_19, e17_20, e17_21, e17_24, e17_25, e17_28, e17_29, e17_32, e17_35, e17_36, e17_39, e17_40, e17_43, e17_44, e17_47, e17_48, e17_49, e17_52, e17_53, e17_56, e17_57, e17_60, e17_63, e17_66, e17_67, e17_68, e17_71, e17_74, ow_17, Int32.reduceOfInt, Int32.reduceOfNat, Int32.reduceToNatClampNeg, Int32.reduceLT, Int32.reduceLE, Int32.reduceAdd, Int32.reduceSub, Int32.reduceMul, Int64.reduceOfNat, Int64.reduceOfInt, Nat.reduceLeDiff, Nat.reduceLT, Nat.reduceEqDiff, Nat.reduceSub, cs_0, cs_1, cs_2, cs_3, cs_4, cs_5, cs_6, cs_7, cs_8, or_false, false_or, not_false_eq_true, and_true, true_and, if_true, if_false, List.length_cons, List.length_nil, List.getElem?_cons_succ, List.getElem?_cons_zero, List.set_cons_succ, List.set_cons_zero, reduceIte, d_G, d_R, s_aload, s_aload_n, s_iload, s_iload_n, s_lload, s_lload_n, s_istore, s_istore_n, s_astore, s_astoreN, s_astore_n, s_astore_nN, s_lstore, s_lstore_n, s_iinc, s_iconst, s_bipush, s_sipush, s_lconst, s_ldc2_w, s_aconst_null, s_dupA, s_dupI, s_dup2, s_iadd, s_isub, s_imul, s_iand, s_ior, s_ixor, s_ishl, s_ishr, s_iushr, s_ineg, s_idiv, s_irem, s_ladd, s_lsub, s_lmul, s_land, s_lor, s_lxor, s_ldiv, s_lshl, s_lshr, s_lushr, s_i2l, s_l2i, s_lcmp, s_goto, s_ieq, s_ine, s_ilt, s_ige, s_igt, s_ile, s_zeq, s_zne, s_zlt, s_zge, s_zgt, s_zle, s_ifnull, s_ifnullN, s_ifnonnull, s_ifnonnullN, s_tableswitch, s_lookupswitch, s_getfield, s_putfield, s_getstatic, s_iaload, s_laload, s_baload, s_aaload, s_iastore, s_lastore, s_bastore, s_aastore, s_arraylength, s_newI, s_newJ, s_newZ, s_anewarray, s_new, s_copy, s_max, s_min, s_invokestatic, s_objinit, s_invokespecial, kf_isr_r, s_invokevirtual, s_ireturn, s_lreturn, s_areturn, s_areturnN, s_return, lI_0, lI_s, lJ_0, lJ_s, lA_0, lA_0N, lA_s, lS1_0, lS1_1, lS1_2, lS2_0, lS2_1, lS2_2, lK_n, lK_i, lK_j, lK_a, lK_N, d_C', kf_w_0, kf_w_i, kf_w_a, kf_w_n, kf_w_j, c_0, c_1, c_2, c_3, c_4, c_5, c_6, tl_0, tl_1, Option.bind_some, Option.bind_none, Option.map_some, Nat.reduceAdd, Nat.reduceMul, Nat.reduceDiv, Nat.reduceMod, Int.reduceToNat, Fin.val_zero, Fin.isValue, Fin.val_one, Fin.val_two, fv_0, fv_1, fv_2, fv_3, fw_0, fw_1, d_ite, true_or, or_true, and_false, false_and, or_self, and_self, ow_16, rc, rc1, g, g1, p0, k1, kb, k2]), n2, s2, ?_, o1.tr o2⟩
      refine cg_tr (mont_s hs c2) (cg_tr (cg_ml (cg_ml cx1 cg_rf) cg_rf) ?_)
      rw [hh, q, Int.pow_add, Int.pow_succ (va * s) 0, Int.pow_zero, Int.one_mul]
      generalize (va * s) ^ (2 * (e / 2 ^ (n + 1))) = Y at *
      rw [show (2 : Int) ^ 280 * Y * va * s = 2 ^ 280 * (Y * (va * s)) by generalize (2 : Int) ^ 280 = R; grind]
      exact cg_rf
    · have q0 : e / 2 ^ n % 2 = 0 := by omega
      rw [q0, nI_0] at kb
      refine ⟨M1, x1, (e17_15 _ _ _).trans (by simp only [cl_17, e17_0, e17_1, e17_4, e17_5, e17_8, e17_11, e17_14, e17_16, e17_19, e17_20, e17_21, e17_24, e17_25, e17_28, e17_29, e17_32, e17_35, e17_36, e17_39, e17_40, e17_43, e17_44, e17_47, e17_48, e17_49, e17_52, e17_53, e17_56, e17_57, e17_60, e17_63, e17_66, e17_67, e17_68, e17_71, e17_74, ow_17, Int32.reduceOfInt, Int32.reduceOfNat, Int32.reduceToNatClampNeg, Int32.reduceLT, Int32.reduceLE, Int32.reduceAdd, Int32.reduceSub, Int32.reduceMul, Int64.reduceOfNat, Int64.reduceOfInt, Nat.reduceLeDiff, Nat.reduceLT, Nat.reduceEqDiff, Nat.reduceSub, cs_0, cs_1, cs_2, cs_3, cs_4, cs_5, cs_6, cs_7, cs_8, or_false, false_or, not_false_eq_true, and_true, true_and, if_true, if_false, List.length_cons, List.length_nil, List.getElem?_cons_succ, List.getElem?_cons_zero, List.set_cons_succ, List.set_cons_zero, reduceIte, d_G, d_R, s_aload, s_aload_n, s_iload, s_iload_n, s_lload, s_lload_n, s_istore, s_istore_n, s_astore, s_astoreN, s_astore_n, s_astore_nN, s_lstore, s_lstore_n, s_iinc, s_iconst, s_bipush, s_sipush, s_lconst, s_ldc2_w, s_aconst_null, s_dupA, s_dupI, s_dup2, s_iadd, s_isub, s_imul, s_iand, s_ior, s_ixor, s_ishl, s_ishr, s_iushr, s_ineg, s_idiv, s_irem, s_ladd, s_lsub, s_lmul, s_land, s_lor, s_lxor, s_ldiv, s_lshl, s_lshr, s_lushr, s_i2l, s_l2i, s_lcmp, s_goto, s_ieq, s_ine, s_ilt, s_ige, s_igt, s_ile, s_zeq, s_zne, s_zlt, s_zge, s_zgt, s_zle, s_ifnull, s_ifnullN, s_ifnonnull, s_ifnonnullN, s_tableswitch, s_lookupswitch, s_getfield, s_putfield, s_getstatic, s_iaload, s_laload, s_baload, s_aaload, s_iastore, s_lastore, s_bastore, s_aastore, s_arraylength, s_newI, s_newJ, s_newZ, s_anewarray, s_new, s_copy, s_max, s_min, s_invokestatic, s_objinit, s_invokespecial, kf_isr_r, s_invokevirtual, s_ireturn, s_lreturn, s_areturn, s_areturnN, s_return, lI_0, lI_s, lJ_0, lJ_s, lA_0, lA_0N, lA_s, lS1_0, lS1_1, lS1_2, lS2_0, lS2_1, lS2_2, lK_n, lK_i, lK_j, lK_a, lK_N, d_C', kf_w_0, kf_w_i, kf_w_a, kf_w_n, kf_w_j, c_0, c_1, c_2, c_3, c_4, c_5, c_6, tl_0, tl_1, Option.bind_some, Option.bind_none, Option.map_some, Nat.reduceAdd, Nat.reduceMul, Nat.reduceDiv, Nat.reduceMod, Int.reduceToNat, Fin.val_zero, Fin.isValue, Fin.val_one, Fin.val_two, fv_0, fv_1, fv_2, fv_3, fw_0, fw_1, d_ite, true_or, or_true, and_false, false_and, or_self, and_self, ow_16, rc, g, g1, p0, k1, kb, h01]), n1, s1, ?_, o1⟩
      rw [hh, q0, Nat.add_zero]
      exact cx1
  intro n
  induction n with
  | zero =>
    intro hn M x hF hE hA hX sx cx
    obtain ⟨M1, x1, k1, n1, s1, c1, o1⟩ := step 0 hn M x hF hE hA hX sx cx
    rw [show nI 0 + -1 = -1 from by decide] at k1
    have hd : kf_ev 17 15 [some (.ref f), some (.ref to), some (.ref a), some (.int (-1))] [] M1 = kf_ev 17 66 [some (.ref f), some (.ref to), some (.ref a), some (.int (-1))] [] M1 := by
      have m2 : (-1 : Int32) < 0 := by decide
      refine (e17_15 _ _ _).trans ?_
      simp only [cl_17, e17_0, e17_1, e17_4, e17_5, e17_8, e17_11, e17_14, e17_16, e17_19, e17_20, e17_21, e17_24, e17_25, e17_28, e17_29, e17_32, e17_35, e17_36, e17_39, e17_40, e17_43, e17_44, e17_47, e17_48, e17_49, e17_52, e17_53, e17_56, e17_57, e17_60, e17_63, e17_67, e17_68, e17_71, e17_74, ow_17, Int32.reduceOfInt, Int32.reduceOfNat, Int32.reduceToNatClampNeg, Int32.reduceLT, Int32.reduceLE, Int32.reduceAdd, Int32.reduceSub, Int32.reduceMul, Int64.reduceOfNat, Int64.reduceOfInt, Nat.reduceLeDiff, Nat.reduceLT, Nat.reduceEqDiff, Nat.reduceSub, cs_0, cs_1, cs_2, cs_3, cs_4, cs_5, cs_6, cs_7, cs_8, or_false, false_or, not_false_eq_true, and_true, true_and, if_true, if_false, List.length_cons, List.length_nil, List.getElem?_cons_succ, List.getElem?_cons_zero, List.set_cons_succ, List.set_cons_zero, reduceIte, d_G, d_R, s_aload, s_aload_n, s_iload, s_iload_n, s_lload, s_lload_n, s_istore, s_istore_n, s_astore, s_astoreN, s_astore_n, s_astore_nN, s_lstore, s_lstore_n, s_iinc, s_iconst, s_bipush, s_sipush, s_lconst, s_ldc2_w, s_aconst_null, s_dupA, s_dupI, s_dup2, s_iadd, s_isub, s_imul, s_iand, s_ior, s_ixor, s_ishl, s_ishr, s_iushr, s_ineg, s_idiv, s_irem, s_ladd, s_lsub, s_lmul, s_land, s_lor, s_lxor, s_ldiv, s_lshl, s_lshr, s_lushr, s_i2l, s_l2i, s_lcmp, s_goto, s_ieq, s_ine, s_ilt, s_ige, s_igt, s_ile, s_zeq, s_zne, s_zlt, s_zge, s_zgt, s_zle, s_ifnull, s_ifnullN, s_ifnonnull, s_ifnonnullN, s_tableswitch, s_lookupswitch, s_getfield, s_putfield, s_getstatic, s_iaload, s_laload, s_baload, s_aaload, s_iastore, s_lastore, s_bastore, s_aastore, s_arraylength, s_newI, s_newJ, s_newZ, s_anewarray, s_new, s_copy, s_max, s_min, s_invokestatic, s_objinit, s_invokespecial, kf_isr_r, s_invokevirtual, s_ireturn, s_lreturn, s_areturn, s_areturnN, s_return, lI_0, lI_s, lJ_0, lJ_s, lA_0, lA_0N, lA_s, lS1_0, lS1_1, lS1_2, lS2_0, lS2_1, lS2_2, lK_n, lK_i, lK_j, lK_a, lK_N, d_C', kf_w_0, kf_w_i, kf_w_a, kf_w_n, kf_w_j, c_0, c_1, c_2, c_3, c_4, c_5, c_6, tl_0, tl_1, Option.bind_some, Option.bind_none, Option.map_some, Nat.reduceAdd, Nat.reduceMul, Nat.reduceDiv, Nat.reduceMod, Int.reduceToNat, Fin.val_zero, Fin.isValue, Fin.val_one, Fin.val_two, fv_0, fv_1, fv_2, fv_3, fw_0, fw_1, d_ite, true_or, or_true, and_false, false_and, or_self, and_self, m2]
    rw [Nat.pow_zero, Nat.div_one] at c1
    exact ⟨M1, x1, k1.trans hd, n1, s1, c1, o1⟩
  | succ n ih =>
    intro hn M x hF hE hA hX sx cx
    obtain ⟨M1, x1, k1, n1, s1, c1, o1⟩ := step (n + 1) hn M x hF hE hA hX sx cx
    rw [nI_dec] at k1
    obtain ⟨M2, x2, k2, n2, s2, c2, o2⟩ := ih (by omega) M1 x1 (hF.off o1 (by simp) (by simp)) (hE.off o1 (by simp)) (hA.off o1 (by simpa using ha5)) n1 s1 c1
    exact ⟨M2, x2, k1.trans k2, n2, s2, c2, o1.tr o2⟩
theorem f17 {M : kf_M} {f to a : Nat} {m va s : Int} {e : Nat} (hF : FldIs M f m) (ha : Num M a va) (ht : Jar M to) (hf : 19 ≤ f) (hto : 19 ≤ to) (ha5 : a ≠ f + 5) (hto5 : to ≠ f + 5) (a1 : bgi va) (hs : cg m (s * 2 ^ 280) 1) (he : (e : Int) = m - 2) : ∃ M' x, kf_cl 17 [.ref f, .ref to, .ref a] M = some (none, M') ∧ Num M' to x ∧ sml x ∧ cg m x (2 ^ 280 * (va * s) ^ e) ∧ Jar M' (f + 5) ∧ Off [f + 5, to] M M' := by
  obtain ⟨hM, hE, -, ⟨on, n4, c4, s4⟩, j5⟩ := hF
  have he2 : e < 2 ^ 256 := by
    obtain ⟨-, -, -, -, -, h2⟩ := hM
    omega
  obtain ⟨inv, g⟩ := hM.gO
  obtain ⟨M1, k1, n1, o1⟩ := f14 n4 j5 (by omega)
  have e0 : e / 2 ^ (255 + 1) = 0 := Nat.div_eq_of_lt he2
  obtain ⟨M2, x, k2, n2, s2, c2, o2⟩ := f17l (to := to) hs hf ha5 a1 he he2 255 (by omega) M1 on (hM.off o1 (by simp) (by simp)) (hE.off o1 (by simp)) (ha.off o1 (by simpa using ha5)) n1 s4 (by rw [e0, Int.pow_zero, Int.mul_one]; exact c4)
  have o12 := o1.tr o2
  have hM2 := hM.off o12 (by simp) (by simp)
  obtain ⟨inv2, g2⟩ := hM2.gO
  obtain ⟨inv1, g1⟩ := (hM.off o1 (by simp) (by simp)).gO
  obtain ⟨M3, k3, n3, o3⟩ := f14 n2 (ht.off o12 (by simpa using hto5)) hto
  rw [show nI 255 = 255 from rfl] at k2
  exact ⟨M3, x, by simp only [cl_17, e17_0, e17_1, e17_4, e17_5, e17_8, e17_11, e17_14, e17_16, e17_19, e17_20, e17_21, e17_24, e17_25, e17_28, e17_29, e17_32, e17_35, e17_36, e17_39, e17_40, e17_43, e17_44, e17_47, e17_48, e17_49, e17_52, e17_53, e17_56, e17_57, e17_60, e17_63, e17_66, e17_67, e17_68, e17_71, e17_74, ow_17, Int32.reduceOfInt, Int32.reduceOfNat, Int32.reduceToNatClampNeg, Int32.reduceLT, Int32.reduceLE, Int32.reduceAdd, Int32.reduceSub, Int32.reduceMul, Int64.reduceOfNat, Int64.reduceOfInt, Nat.reduceLeDiff, Nat.reduceLT, Nat.reduceEqDiff, Nat.reduceSub, cs_0, cs_1, cs_2, cs_3, cs_4, cs_5, cs_6, cs_7, cs_8, or_false, false_or, not_false_eq_true, and_true, true_and, if_true, if_false, List.length_cons, List.length_nil, List.getElem?_cons_succ, List.getElem?_cons_zero, List.set_cons_succ, List.set_cons_zero, reduceIte, d_G, d_R, s_aload, s_aload_n, s_iload, s_iload_n, s_lload, s_lload_n, s_istore, s_istore_n, s_astore, s_astoreN, s_astore_n, s_astore_nN, s_lstore, s_lstore_n, s_iinc, s_iconst, s_bipush, s_sipush, s_lconst, s_ldc2_w, s_aconst_null, s_dupA, s_dupI, s_dup2, s_iadd, s_isub, s_imul, s_iand, s_ior, s_ixor, s_ishl, s_ishr, s_iushr, s_ineg, s_idiv, s_irem, s_ladd, s_lsub, s_lmul, s_land, s_lor, s_lxor, s_ldiv, s_lshl, s_lshr, s_lushr, s_i2l, s_l2i, s_lcmp, s_goto, s_ieq, s_ine, s_ilt, s_ige, s_igt, s_ile, s_zeq, s_zne, s_zlt, s_zge, s_zgt, s_zle, s_ifnull, s_ifnullN, s_ifnonnull, s_ifnonnullN, s_tableswitch, s_lookupswitch, s_getfield, s_putfield, s_getstatic, s_iaload, s_laload, s_baload, s_aaload, s_iastore, s_lastore, s_bastore, s_aastore, s_arraylength, s_newI, s_newJ, s_newZ, s_anewarray, s_new, s_copy, s_max, s_min, s_invokestatic, s_objinit, s_invokespecial, kf_isr_r, s_invokevirtual, s_ireturn, s_lreturn, s_areturn, s_areturnN, s_return, lI_0, lI_s, lJ_0, lJ_s, lA_0, lA_0N, lA_s, lS1_0, lS1_1, lS1_2, lS2_0, lS2_1, lS2_2, lK_n, lK_i, lK_j, lK_a, lK_N, d_C', kf_w_0, kf_w_i, kf_w_a, kf_w_n, kf_w_j, c_0, c_1, c_2, c_3, c_4, c_5, c_6, tl_0, tl_1, Option.bind_some, Option.bind_none, Option.map_some, Nat.reduceAdd, Nat.reduceMul, Nat.reduceDiv, Nat.reduceMod, Int.reduceToNat, Fin.val_zero, Fin.isValue, Fin.val_one, Fin.val_two, fv_0, fv_1, fv_2, fv_3, fw_0, fw_1, d_ite, true_or, or_true, and_false, false_and, or_self, and_self, g, g1, g2, k1, k2, k3], n3, s2, c2, (n2.off o3 (by simpa using Ne.symm hto5)).jar, (o12.wk (by simp)).tr (o3.wk (by simp))⟩
