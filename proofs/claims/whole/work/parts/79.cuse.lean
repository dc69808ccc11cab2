/-! lists, copyValue -/
section CUSE
variable {M : kf_M} {cs K S Z I J : List Int32} {it pl nm : Nat} {m : PM}
def lstV (cs : List Int32) (id : List Int32) : Option PV → Bool
  | none => false
  | some v => decide (v.1 = 4) && v.2.2.2.any (fun e => decide ((cs.drop e.1).take 16 = id))
theorem seg_eq {bs cs : List Int32} {f n : Nat} (h : bs.take cs.length = cs) (hf : f + n ≤ cs.length) : (bs.drop f).take n = (cs.drop f).take n := by
  have e : (cs.drop f).take n = ((bs.take cs.length).drop f).take n := by rw [h]
  rw [e, List.drop_take, List.take_take, Nat.min_eq_left (by omega)]
theorem t74l {f a : Nat} {id : List Int32} {its : List (Nat × Nat)} (h : TT M cs K S Z I J it pl) (hR : ItR I J f its) (hf : f + its.length ≤ 225) (hz : ∀ e ∈ its, e.1 + e.2 ≤ cs.length ∧ e.2 = 16) (gi : M[a]? = some (oI id)) (li : id.length = 16) : ∀ (n i : Nat), i + n = its.length → kf_ev 74 37 [some (.ref 20), some (.int (nI nm)), some (.ref a), some (.int (nI (f + its.length))), some (.int (nI (f + i)))] [] M = some (some (.int (if (its.drop i).any (fun e => decide ((cs.drop e.1).take 16 = id)) then 1 else 0)), M) := by
  intro n
  have g := gO_of h.1.1
  have gI1 := gI_of h.1.2.2.2.2.1
  have i225 := h.1.2.2.2.2.2.2.2.2.2.1
  have hle := h.2.1.le
  obtain ⟨bs, b1, b2, b3, b4⟩ := h.2.1
  have gr := gO_of b1
  have z1 : ¬ (1 : Int32) = 0 := by decide
  induction n with
  | zero =>
    intro i hi
    have hi : i = its.length := by omega
    subst hi
    have e : nI (f + its.length) ≤ nI (f + its.length) := nI_le (Nat.le_refl _) (by omega)
    refine (e74_37 _ _ _).trans ?_
    rw [List.drop_length]
    simp only [cl_74, e74_0, e74_1, e74_2, e74_5, e74_6, e74_9, e74_10, e74_11, e74_12, e74_13, e74_16, e74_17, e74_18, e74_21, e74_22, e74_23, e74_26, e74_29, e74_30, e74_31, e74_32, e74_35, e74_39, e74_40, e74_43, e74_44, e74_45, e74_48, e74_51, e74_52, e74_55, e74_57, e74_58, e74_60, e74_63, e74_66, e74_67, e74_68, e74_71, e74_74, e74_75, ow_74, Int32.reduceOfInt, Int32.reduceOfNat, Int32.reduceToNatClampNeg, Int32.reduceLT, Int32.reduceLE, Int32.reduceAdd, Int32.reduceSub, Int32.reduceMul, Int64.reduceOfNat, Int64.reduceOfInt, Nat.reduceLeDiff, Nat.reduceLT, Nat.reduceEqDiff, Nat.reduceSub, cs_0, cs_1, cs_2, cs_3, cs_4, cs_5, cs_6, cs_7, cs_8, or_false, false_or, not_false_eq_true, and_true, true_and, if_true, if_false, List.length_cons, List.length_nil, List.getElem?_cons_succ, List.getElem?_cons_zero, List.set_cons_succ, List.set_cons_zero, reduceIte, d_G, d_R, s_aload, s_aload_n, s_iload, s_iload_n, s_lload, s_lload_n, s_istore, s_istore_n, s_astore, s_astoreN, s_astore_n, s_astore_nN, s_lstore, s_lstore_n, s_iinc, s_iconst, s_bipush, s_sipush, s_lconst, s_ldc2_w, s_aconst_null, s_dupA, s_dupI, s_dup2, s_iadd, s_isub, s_imul, s_iand, s_ior, s_ixor, s_ishl, s_ishr, s_iushr, s_ineg, s_idiv, s_irem, s_ladd, s_lsub, s_lmul, s_land, s_lor, s_lxor, s_ldiv, s_lshl, s_lshr, s_lushr, s_i2l, s_l2i, s_lcmp, s_goto, s_ieq, s_ine, s_ilt, s_ige, s_igt, s_ile, s_zeq, s_zne, s_zlt, s_zge, s_zgt, s_zle, s_ifnull, s_ifnullN, s_ifnonnull, s_ifnonnullN, s_tableswitch, s_lookupswitch, s_getfield, s_putfield, s_getstatic, s_iaload, s_laload, s_baload, s_aaload, s_iastore, s_lastore, s_bastore, s_aastore, s_arraylength, s_newI, s_newJ, s_newZ, s_anewarray, s_new, s_copy, s_max, s_min, s_invokestatic, s_objinit, s_invokespecial, kf_isr_r, s_invokevirtual, s_ireturn, s_lreturn, s_areturn, s_areturnN, s_return, lI_0, lI_s, lJ_0, lJ_s, lA_0, lA_0N, lA_s, lS1_0, lS1_1, lS1_2, lS2_0, lS2_1, lS2_2, lK_n, lK_i, lK_j, lK_a, lK_N, d_C', kf_w_0, kf_w_i, kf_w_a, kf_w_n, kf_w_j, c_0, c_1, c_2, c_3, c_4, c_5, c_6, tl_0, tl_1, Option.bind_some, Option.bind_none, Option.map_some, Nat.reduceAdd, Nat.reduceMul, Nat.reduceDiv, Nat.reduceMod, Int.reduceToNat, Fin.val_zero, Fin.isValue, Fin.val_one, Fin.val_two, fv_0, fv_1, fv_2, fv_3, fw_0, fw_1, d_ite, true_or, or_true, and_false, false_and, or_self, and_self, e]
    rfl
  | succ n ih =>
    intro i hi
    have hil : i < its.length := by omega
    have e : ¬ nI (f + its.length) ≤ nI (f + i) := nI_ge (by omega) (by omega)
    have p0 : ¬ nI (f + i) < 0 := nI_pos (by omega)
    have p1 : (nI (f + i)).toNatClampNeg = f + i := nI_clamp (by omega)
    have w0 := getD_of (xs := I) (i := f + i) (by omega)
    have hr := hR i its[i] (List.getElem?_eq_getElem hil)
    rw [hr.1] at w0
    obtain ⟨y1, y2⟩ := hz its[i] (List.getElem_mem hil)
    have ks := c119 (f := its[i].1) (n := 16) gi b2 (by omega) (by omega) (by omega) (by omega)
    rw [seg_eq b4 (by omega), show nI 16 = 16 from rfl, List.take_of_length_le (by omega)] at ks
    have ih' := ih (i + 1) (by omega)
    rw [List.drop_eq_getElem_cons hil, List.any_cons]
    refine (e74_37 _ _ _).trans ?_
    by_cases c : (cs.drop its[i].1).take 16 = id
    · rw [decide_eq_true c, Bool.true_or]
      rw [if_pos c.symm] at ks
      simp only [cl_74, e74_0, e74_1, e74_2, e74_5, e74_6, e74_9, e74_10, e74_11, e74_12, e74_13, e74_16, e74_17, e74_18, e74_21, e74_22, e74_23, e74_26, e74_29, e74_30, e74_31, e74_32, e74_35, e74_39, e74_40, e74_43, e74_44, e74_45, e74_48, e74_51, e74_52, e74_55, e74_57, e74_58, e74_60, e74_63, e74_66, e74_67, e74_68, e74_71, e74_74, e74_75, ow_74, Int32.reduceOfInt, Int32.reduceOfNat, Int32.reduceToNatClampNeg, Int32.reduceLT, Int32.reduceLE, Int32.reduceAdd, Int32.reduceSub, Int32.reduceMul, Int64.reduceOfNat, Int64.reduceOfInt, Nat.reduceLeDiff, Nat.reduceLT, Nat.reduceEqDiff, Nat.reduceSub, cs_0, cs_1, cs_2, cs_3, cs_4, cs_5, cs_6, cs_7, cs_8, or_false, false_or, not_false_eq_true, and_true, true_and, if_true, if_false, List.length_cons, List.length_nil, List.getElem?_cons_succ, List.getElem?_cons_zero, List.set_cons_succ, List.set_cons_zero, reduceIte, d_G, d_R, s_aload, s_aload_n, s_iload, s_iload_n, s_lload, s_lload_n, s_istore, s_istore_n, s_astore, s_astoreN, s_astore_n, s_astore_nN, s_lstore, s_lstore_n, s_iinc, s_iconst, s_bipush, s_sipush, s_lconst, s_ldc2_w, s_aconst_null, s_dupA, s_dupI, s_dup2, s_iadd, s_isub, s_imul, s_iand, s_ior, s_ixor, s_ishl, s_ishr, s_iushr, s_ineg, s_idiv, s_irem, s_ladd, s_lsub, s_lmul, s_land, s_lor, s_lxor, s_ldiv, s_lshl, s_lshr, s_lushr, s_i2l, s_l2i, s_lcmp, s_goto, s_ieq, s_ine, s_ilt, s_ige, s_igt, s_ile, s_zeq, s_zne, s_zlt, s_zge, s_zgt, s_zle, s_ifnull, s_ifnullN, s_ifnonnull, s_ifnonnullN, s_tableswitch, s_lookupswitch, s_getfield, s_putfield, s_getstatic, s_iaload, s_laload, s_baload, s_aaload, s_iastore, s_lastore, s_bastore, s_aastore, s_arraylength, s_newI, s_newJ, s_newZ, s_anewarray, s_new, s_copy, s_max, s_min, s_invokestatic, s_objinit, s_invokespecial, kf_isr_r, s_invokevirtual, s_ireturn, s_lreturn, s_areturn, s_areturnN, s_return, lI_0, lI_s, lJ_0, lJ_s, lA_0, lA_0N, lA_s, lS1_0, lS1_1, lS1_2, lS2_0, lS2_1, lS2_2, lK_n, lK_i, lK_j, lK_a, lK_N, d_C', kf_w_0, kf_w_i, kf_w_a, kf_w_n, kf_w_j, c_0, c_1, c_2, c_3, c_4, c_5, c_6, tl_0, tl_1, Option.bind_some, Option.bind_none, Option.map_some, Nat.reduceAdd, Nat.reduceMul, Nat.reduceDiv, Nat.reduceMod, Int.reduceToNat, Fin.val_zero, Fin.isValue, Fin.val_one, Fin.val_two, fv_0, fv_1, fv_2, fv_3, fw_0, fw_1, d_ite, true_or, or_true, and_false, false_and, or_self, and_self, e, g, gr, gI1, p0, p1, w0, ks, z1]
    · rw [decide_eq_false c, Bool.false_or]
      rw [if_neg (fun w => c w.symm)] at ks
      rw [← Nat.add_assoc] at ih'
      simp only [cl_74, e74_0, e74_1, e74_2, e74_5, e74_6, e74_9, e74_10, e74_11, e74_12, e74_13, e74_16, e74_17, e74_18, e74_21, e74_22, e74_23, e74_26, e74_29, e74_30, e74_31, e74_32, e74_35, e74_39, e74_40, e74_43, e74_44, e74_45, e74_48, e74_51, e74_52, e74_55, e74_57, e74_58, e74_60, e74_63, e74_66, e74_67, e74_68, e74_71, e74_74, e74_75, ow_74, Int32.reduceOfInt, Int32.reduceOfNat, Int32.reduceToNatClampNeg, Int32.reduceLT, Int32.reduceLE, Int32.reduceAdd, Int32.reduceSub, Int32.reduceMul, Int64.reduceOfNat, Int64.reduceOfInt, Nat.reduceLeDiff, Nat.reduceLT, Nat.reduceEqDiff, Nat.reduceSub, cs_0, cs_1, cs_2, cs_3, cs_4, cs_5, cs_6, cs_7, cs_8, or_false, false_or, not_false_eq_true, and_true, true_and, if_true, if_false, List.length_cons, List.length_nil, List.getElem?_cons_succ, List.getElem?_cons_zero, List.set_cons_succ, List.set_cons_zero, reduceIte, d_G, d_R, s_aload, s_aload_n, s_iload, s_iload_n, s_lload, s_lload_n, s_istore, s_istore_n, s_astore, s_astoreN, s_astore_n, s_astore_nN, s_lstore, s_lstore_n, s_iinc, s_iconst, s_bipush, s_sipush, s_lconst, s_ldc2_w, s_aconst_null, s_dupA, s_dupI, s_dup2, s_iadd, s_isub, s_imul, s_iand, s_ior, s_ixor, s_ishl, s_ishr, s_iushr, s_ineg, s_idiv, s_irem, s_ladd, s_lsub, s_lmul, s_land, s_lor, s_lxor, s_ldiv, s_lshl, s_lshr, s_lushr, s_i2l, s_l2i, s_lcmp, s_goto, s_ieq, s_ine, s_ilt, s_ige, s_igt, s_ile, s_zeq, s_zne, s_zlt, s_zge, s_zgt, s_zle, s_ifnull, s_ifnullN, s_ifnonnull, s_ifnonnullN, s_tableswitch, s_lookupswitch, s_getfield, s_putfield, s_getstatic, s_iaload, s_laload, s_baload, s_aaload, s_iastore, s_lastore, s_bastore, s_aastore, s_arraylength, s_newI, s_newJ, s_newZ, s_anewarray, s_new, s_copy, s_max, s_min, s_invokestatic, s_objinit, s_invokespecial, kf_isr_r, s_invokevirtual, s_ireturn, s_lreturn, s_areturn, s_areturnN, s_return, lI_0, lI_s, lJ_0, lJ_s, lA_0, lA_0N, lA_s, lS1_0, lS1_1, lS1_2, lS2_0, lS2_1, lS2_2, lK_n, lK_i, lK_j, lK_a, lK_N, d_C', kf_w_0, kf_w_i, kf_w_a, kf_w_n, kf_w_j, c_0, c_1, c_2, c_3, c_4, c_5, c_6, tl_0, tl_1, Option.bind_some, Option.bind_none, Option.map_some, Nat.reduceAdd, Nat.reduceMul, Nat.reduceDiv, Nat.reduceMod, Int.reduceToNat, Fin.val_zero, Fin.isValue, Fin.val_one, Fin.val_two, fv_0, fv_1, fv_2, fv_3, fw_0, fw_1, d_ite, true_or, or_true, and_false, false_and, or_self, and_self, e, g, gr, gI1, p0, p1, w0, ks, nI_1, ih']
theorem t74 {a : Nat} {id : List Int32} (h : TT M cs K S Z I J it pl) (hR : TR K S Z I J it m) (ho : okM cs m) (hn : nm < 24) (hs : ∀ v, m.getD nm none = some v → v.1 = 4 → ∀ e ∈ v.2.2.2, e.2 = 16) (gi : M[a]? = some (oI id)) (li : id.length = 16) : kf_cl 74 [.ref 20, .int (nI nm), .ref a] M = some (some (.int (if lstV cs id (m.getD nm none) then 1 else 0)), M) := by
  have k75 := c75 h.1 hn
  have k71 := c71 h.1 hn
  have k70 := c70 h.1 hn
  have rc := h.1.rc
  have g := gO_of h.1.1
  have hr := hR.2 nm hn
  have hit := h.1.2.2.2.2.2.2.2.2.2.2.2.1
  cases hm : m.getD nm none with
  | none =>
    rw [hm] at hr
    have hk : K.getD nm 0 = 0 := hr
    rw [hk] at k75
    have a3 : ¬ (0 : Int32) = 4 := by decide
    simp only [cl_74, e74_0, e74_1, e74_2, e74_5, e74_6, e74_9, e74_10, e74_11, e74_12, e74_13, e74_16, e74_17, e74_18, e74_21, e74_22, e74_23, e74_26, e74_29, e74_30, e74_31, e74_32, e74_35, e74_37, e74_39, e74_40, e74_43, e74_44, e74_45, e74_48, e74_51, e74_52, e74_55, e74_57, e74_58, e74_60, e74_63, e74_66, e74_67, e74_68, e74_71, e74_74, e74_75, ow_74, Int32.reduceOfInt, Int32.reduceOfNat, Int32.reduceToNatClampNeg, Int32.reduceLT, Int32.reduceLE, Int32.reduceAdd, Int32.reduceSub, Int32.reduceMul, Int64.reduceOfNat, Int64.reduceOfInt, Nat.reduceLeDiff, Nat.reduceLT, Nat.reduceEqDiff, Nat.reduceSub, cs_0, cs_1, cs_2, cs_3, cs_4, cs_5, cs_6, cs_7, cs_8, or_false, false_or, not_false_eq_true, and_true, true_and, if_true, if_false, List.length_cons, List.length_nil, List.getElem?_cons_succ, List.getElem?_cons_zero, List.set_cons_succ, List.set_cons_zero, reduceIte, d_G, d_R, s_aload, s_aload_n, s_iload, s_iload_n, s_lload, s_lload_n, s_istore, s_istore_n, s_astore, s_astoreN, s_astore_n, s_astore_nN, s_lstore, s_lstore_n, s_iinc, s_iconst, s_bipush, s_sipush, s_lconst, s_ldc2_w, s_aconst_null, s_dupA, s_dupI, s_dup2, s_iadd, s_isub, s_imul, s_iand, s_ior, s_ixor, s_ishl, s_ishr, s_iushr, s_ineg, s_idiv, s_irem, s_ladd, s_lsub, s_lmul, s_land, s_lor, s_lxor, s_ldiv, s_lshl, s_lshr, s_lushr, s_i2l, s_l2i, s_lcmp, s_goto, s_ieq, s_ine, s_ilt, s_ige, s_igt, s_ile, s_zeq, s_zne, s_zlt, s_zge, s_zgt, s_zle, s_ifnull, s_ifnullN, s_ifnonnull, s_ifnonnullN, s_tableswitch, s_lookupswitch, s_getfield, s_putfield, s_getstatic, s_iaload, s_laload, s_baload, s_aaload, s_iastore, s_lastore, s_bastore, s_aastore, s_arraylength, s_newI, s_newJ, s_newZ, s_anewarray, s_new, s_copy, s_max, s_min, s_invokestatic, s_objinit, s_invokespecial, kf_isr_r, s_invokevirtual, s_ireturn, s_lreturn, s_areturn, s_areturnN, s_return, lI_0, lI_s, lJ_0, lJ_s, lA_0, lA_0N, lA_s, lS1_0, lS1_1, lS1_2, lS2_0, lS2_1, lS2_2, lK_n, lK_i, lK_j, lK_a, lK_N, d_C', kf_w_0, kf_w_i, kf_w_a, kf_w_n, kf_w_j, c_0, c_1, c_2, c_3, c_4, c_5, c_6, tl_0, tl_1, Option.bind_some, Option.bind_none, Option.map_some, Nat.reduceAdd, Nat.reduceMul, Nat.reduceDiv, Nat.reduceMod, Int.reduceToNat, Fin.val_zero, Fin.isValue, Fin.val_one, Fin.val_two, fv_0, fv_1, fv_2, fv_3, fw_0, fw_1, d_ite, true_or, or_true, and_false, false_and, or_self, and_self, ow_75, rc, k75, a3, lstV]
    rfl
  | some v =>
    rw [hm] at hr
    obtain ⟨r1, r2, r3, r4⟩ := hr
    obtain ⟨v1, v2, v3, v4, v5⟩ := ho.2 nm v (mG_some hm)
    rw [r1] at k75
    rw [r2] at k71
    by_cases c4 : v.1 = 4
    · have a4 : (nI v.1 = 4) = True := by rw [c4]; exact eq_true rfl
      obtain ⟨f, f1, f2, f3, f4⟩ := r4 c4
      rw [f1] at k70
      obtain ⟨-, w2, -, w4⟩ := v4 c4
      obtain ⟨y9, w5⟩ := w4
      obtain ⟨-, -, y3⟩ := pit_ok _ _ _ _ w5 (v4 c4).1
      have ef : lstV cs id (some v) = v.2.2.2.any (fun e => decide ((cs.drop e.1).take 16 = id)) := by
        show (decide (v.1 = 4) && _) = _
        rw [decide_eq_true c4, Bool.true_and]
      rw [ef]
      have kl := t74l (nm := nm) h f4 (by omega) (fun e he => ⟨(y3 e he).1, hs v hm c4 e he⟩) gi li v.2.2.2.length 0 (by omega)
      rw [Nat.add_zero, List.drop_zero, f3] at kl
      have mn : ¬ nI it < nI (f + v.2.2.1) := nI_nlt (by omega) (by omega)
      simp only [cl_74, e74_0, e74_1, e74_2, e74_5, e74_6, e74_9, e74_10, e74_11, e74_12, e74_13, e74_16, e74_17, e74_18, e74_21, e74_22, e74_23, e74_26, e74_29, e74_30, e74_31, e74_32, e74_35, e74_39, e74_40, e74_43, e74_44, e74_45, e74_48, e74_51, e74_52, e74_55, e74_57, e74_58, e74_60, e74_63, e74_66, e74_67, e74_68, e74_71, e74_74, e74_75, ow_74, Int32.reduceOfInt, Int32.reduceOfNat, Int32.reduceToNatClampNeg, Int32.reduceLT, Int32.reduceLE, Int32.reduceAdd, Int32.reduceSub, Int32.reduceMul, Int64.reduceOfNat, Int64.reduceOfInt, Nat.reduceLeDiff, Nat.reduceLT, Nat.reduceEqDiff, Nat.reduceSub, cs_0, cs_1, cs_2, cs_3, cs_4, cs_5, cs_6, cs_7, cs_8, or_false, false_or, not_false_eq_true, and_true, true_and, if_true, if_false, List.length_cons, List.length_nil, List.getElem?_cons_succ, List.getElem?_cons_zero, List.set_cons_succ, List.set_cons_zero, reduceIte, d_G, d_R, s_aload, s_aload_n, s_iload, s_iload_n, s_lload, s_lload_n, s_istore, s_istore_n, s_astore, s_astoreN, s_astore_n, s_astore_nN, s_lstore, s_lstore_n, s_iinc, s_iconst, s_bipush, s_sipush, s_lconst, s_ldc2_w, s_aconst_null, s_dupA, s_dupI, s_dup2, s_iadd, s_isub, s_imul, s_iand, s_ior, s_ixor, s_ishl, s_ishr, s_iushr, s_ineg, s_idiv, s_irem, s_ladd, s_lsub, s_lmul, s_land, s_lor, s_lxor, s_ldiv, s_lshl, s_lshr, s_lushr, s_i2l, s_l2i, s_lcmp, s_goto, s_ieq, s_ine, s_ilt, s_ige, s_igt, s_ile, s_zeq, s_zne, s_zlt, s_zge, s_zgt, s_zle, s_ifnull, s_ifnullN, s_ifnonnull, s_ifnonnullN, s_tableswitch, s_lookupswitch, s_getfield, s_putfield, s_getstatic, s_iaload, s_laload, s_baload, s_aaload, s_iastore, s_lastore, s_bastore, s_aastore, s_arraylength, s_newI, s_newJ, s_newZ, s_anewarray, s_new, s_copy, s_max, s_min, s_invokestatic, s_objinit, s_invokespecial, kf_isr_r, s_invokevirtual, s_ireturn, s_lreturn, s_areturn, s_areturnN, s_return, lI_0, lI_s, lJ_0, lJ_s, lA_0, lA_0N, lA_s, lS1_0, lS1_1, lS1_2, lS2_0, lS2_1, lS2_2, lK_n, lK_i, lK_j, lK_a, lK_N, d_C', kf_w_0, kf_w_i, kf_w_a, kf_w_n, kf_w_j, c_0, c_1, c_2, c_3, c_4, c_5, c_6, tl_0, tl_1, Option.bind_some, Option.bind_none, Option.map_some, Nat.reduceAdd, Nat.reduceMul, Nat.reduceDiv, Nat.reduceMod, Int.reduceToNat, Fin.val_zero, Fin.isValue, Fin.val_one, Fin.val_two, fv_0, fv_1, fv_2, fv_3, fw_0, fw_1, d_ite, true_or, or_true, and_false, false_and, or_self, and_self, ow_75, ow_71, ow_70, rc, k75, k71, k70, a4, g, nI_add, mn, kl]
    · have a4 : ¬ nI v.1 = 4 := fun z => c4 ((nI_eq (b := 4) (by omega) (by omega)).mp z)
      have ef : lstV cs id (some v) = false := by
        show (decide (v.1 = 4) && _) = _
        rw [decide_eq_false c4, Bool.false_and]
      rw [ef]
      simp only [cl_74, e74_0, e74_1, e74_2, e74_5, e74_6, e74_9, e74_10, e74_11, e74_12, e74_13, e74_16, e74_17, e74_18, e74_21, e74_22, e74_23, e74_26, e74_29, e74_30, e74_31, e74_32, e74_35, e74_37, e74_39, e74_40, e74_43, e74_44, e74_45, e74_48, e74_51, e74_52, e74_55, e74_57, e74_58, e74_60, e74_63, e74_66, e74_67, e74_68, e74_71, e74_74, e74_75, ow_74, Int32.reduceOfInt, Int32.reduceOfNat, Int32.reduceToNatClampNeg, Int32.reduceLT, Int32.reduceLE, Int32.reduceAdd, Int32.reduceSub, Int32.reduceMul, Int64.reduceOfNat, Int64.reduceOfInt, Nat.reduceLeDiff, Nat.reduceLT, Nat.reduceEqDiff, Nat.reduceSub, cs_0, cs_1, cs_2, cs_3, cs_4, cs_5, cs_6, cs_7, cs_8, or_false, false_or, not_false_eq_true, and_true, true_and, if_true, if_false, List.length_cons, List.length_nil, List.getElem?_cons_succ, List.getElem?_cons_zero, List.set_cons_succ, List.set_cons_zero, reduceIte, d_G, d_R, s_aload, s_aload_n, s_iload, s_iload_n, s_lload, s_lload_n, s_istore, s_istore_n, s_astore, s_astoreN, s_astore_n, s_astore_nN, s_lstore, s_lstore_n, s_iinc, s_iconst, s_bipush, s_sipush, s_lconst, s_ldc2_w, s_aconst_null, s_dupA, s_dupI, s_dup2, s_iadd, s_isub, s_imul, s_iand, s_ior, s_ixor, s_ishl, s_ishr, s_iushr, s_ineg, s_idiv, s_irem, s_ladd, s_lsub, s_lmul, s_land, s_lor, s_lxor, s_ldiv, s_lshl, s_lshr, s_lushr, s_i2l, s_l2i, s_lcmp, s_goto, s_ieq, s_ine, s_ilt, s_ige, s_igt, s_ile, s_zeq, s_zne, s_zlt, s_zge, s_zgt, s_zle, s_ifnull, s_ifnullN, s_ifnonnull, s_ifnonnullN, s_tableswitch, s_lookupswitch, s_getfield, s_putfield, s_getstatic, s_iaload, s_laload, s_baload, s_aaload, s_iastore, s_lastore, s_bastore, s_aastore, s_arraylength, s_newI, s_newJ, s_newZ, s_anewarray, s_new, s_copy, s_max, s_min, s_invokestatic, s_objinit, s_invokespecial, kf_isr_r, s_invokevirtual, s_ireturn, s_lreturn, s_areturn, s_areturnN, s_return, lI_0, lI_s, lJ_0, lJ_s, lA_0, lA_0N, lA_s, lS1_0, lS1_1, lS1_2, lS2_0, lS2_1, lS2_2, lK_n, lK_i, lK_j, lK_a, lK_N, d_C', kf_w_0, kf_w_i, kf_w_a, kf_w_n, kf_w_j, c_0, c_1, c_2, c_3, c_4, c_5, c_6, tl_0, tl_1, Option.bind_some, Option.bind_none, Option.map_some, Nat.reduceAdd, Nat.reduceMul, Nat.reduceDiv, Nat.reduceMod, Int.reduceToNat, Fin.val_zero, Fin.isValue, Fin.val_one, Fin.val_two, fv_0, fv_1, fv_2, fv_3, fw_0, fw_1, d_ite, true_or, or_true, and_false, false_and, or_self, and_self, ow_75, rc, k75, a4]
      rfl
theorem t73l {b s n : Nat} {ys : List Int32} (h : TT M cs K S Z I J it pl) (hs : S.getD nm 0 = nI s) (hn : nm < 24) (hb : b < M.length) (hb2 : 27 < b) (h1 : s + n ≤ cs.length) (h2 : n ≤ ys.length) (h3 : ys.length < 2 ^ 20) : ∀ (k i : Nat), i + k = n → kf_ev 73 14 [some (.ref 20), some (.int (nI nm)), some (.ref b), some (.int (nI n)), some (.int (nI i))] [] (M.set b (oI (kf_cp cs ys s 0 i))) = some (none, M.set b (oI (kf_cp cs ys s 0 n))) := by
  intro k
  have hle := h.2.1.le
  induction k with
  | zero =>
    intro i hi
    have hi : i = n := by omega
    subst hi
    have e : nI i ≤ nI i := nI_le (Nat.le_refl _) (by omega)
    exact (e73_14 _ _ _).trans (by simp only [cl_73, e73_0, e73_1, e73_2, e73_5, e73_6, e73_7, e73_10, e73_11, e73_12, e73_16, e73_17, e73_20, e73_21, e73_23, e73_24, e73_27, e73_28, e73_29, e73_32, e73_34, e73_35, e73_38, e73_39, e73_42, e73_45, ow_73, Int32.reduceOfInt, Int32.reduceOfNat, Int32.reduceToNatClampNeg, Int32.reduceLT, Int32.reduceLE, Int32.reduceAdd, Int32.reduceSub, Int32.reduceMul, Int64.reduceOfNat, Int64.reduceOfInt, Nat.reduceLeDiff, Nat.reduceLT, Nat.reduceEqDiff, Nat.reduceSub, cs_0, cs_1, cs_2, cs_3, cs_4, cs_5, cs_6, cs_7, cs_8, or_false, false_or, not_false_eq_true, and_true, true_and, if_true, if_false, List.length_cons, List.length_nil, List.getElem?_cons_succ, List.getElem?_cons_zero, List.set_cons_succ, List.set_cons_zero, reduceIte, d_G, d_R, s_aload, s_aload_n, s_iload, s_iload_n, s_lload, s_lload_n, s_istore, s_istore_n, s_astore, s_astoreN, s_astore_n, s_astore_nN, s_lstore, s_lstore_n, s_iinc, s_iconst, s_bipush, s_sipush, s_lconst, s_ldc2_w, s_aconst_null, s_dupA, s_dupI, s_dup2, s_iadd, s_isub, s_imul, s_iand, s_ior, s_ixor, s_ishl, s_ishr, s_iushr, s_ineg, s_idiv, s_irem, s_ladd, s_lsub, s_lmul, s_land, s_lor, s_lxor, s_ldiv, s_lshl, s_lshr, s_lushr, s_i2l, s_l2i, s_lcmp, s_goto, s_ieq, s_ine, s_ilt, s_ige, s_igt, s_ile, s_zeq, s_zne, s_zlt, s_zge, s_zgt, s_zle, s_ifnull, s_ifnullN, s_ifnonnull, s_ifnonnullN, s_tableswitch, s_lookupswitch, s_getfield, s_putfield, s_getstatic, s_iaload, s_laload, s_baload, s_aaload, s_iastore, s_lastore, s_bastore, s_aastore, s_arraylength, s_newI, s_newJ, s_newZ, s_anewarray, s_new, s_copy, s_max, s_min, s_invokestatic, s_objinit, s_invokespecial, kf_isr_r, s_invokevirtual, s_ireturn, s_lreturn, s_areturn, s_areturnN, s_return, lI_0, lI_s, lJ_0, lJ_s, lA_0, lA_0N, lA_s, lS1_0, lS1_1, lS1_2, lS2_0, lS2_1, lS2_2, lK_n, lK_i, lK_j, lK_a, lK_N, d_C', kf_w_0, kf_w_i, kf_w_a, kf_w_n, kf_w_j, c_0, c_1, c_2, c_3, c_4, c_5, c_6, tl_0, tl_1, Option.bind_some, Option.bind_none, Option.map_some, Nat.reduceAdd, Nat.reduceMul, Nat.reduceDiv, Nat.reduceMod, Int.reduceToNat, Fin.val_zero, Fin.isValue, Fin.val_one, Fin.val_two, fv_0, fv_1, fv_2, fv_3, fw_0, fw_1, d_ite, true_or, or_true, and_false, false_and, or_self, and_self, e])
  | succ k ih =>
    intro i hi
    have e : ¬ nI n ≤ nI i := nI_ge (by omega) (by omega)
    have hT := h.off (A := [b]) (M' := M.set b (oI (kf_cp cs ys s 0 i))) (Off.set (by simp)) (by intro x hx; simp at hx; omega)
    have g := gO_of hT.1.1
    have rc := hT.1.rc
    have rr := hT.2.1.rc
    have k70 := c70 hT.1 hn
    rw [hs] at k70
    have k49 := c49 (x := nI (s + i)) hT.2.1 (by omega)
    rw [if_neg (nI_pos (by omega)), nI_clamp (by omega), List.getElem?_eq_getElem (show s + i < cs.length by omega)] at k49
    have hg : cs.getD (s + i) 0 = cs[s + i]'(by omega) := by rw [List.getD_eq_getElem?_getD, List.getElem?_eq_getElem (show s + i < cs.length by omega)]; rfl
    rw [show (some (cs[s + i]'(by omega))).getD (-1) = cs.getD (s + i) 0 from hg.symm] at k49
    have es := kf_cp_s (xs := cs) (ys := ys) (a := s) (b := 0) (k := i) (by omega) (by omega)
    rw [Nat.zero_add] at es
    have g5 : gI (M.set b (oI (kf_cp cs ys s 0 i))) b = some (kf_cp cs ys s 0 i) := gI_self hb
    have p0 : ¬ nI i < 0 := nI_pos (by omega)
    have p1 : (nI i).toNatClampNeg = i := nI_clamp (by omega)
    have n1 : ¬ b < 19 := by omega
    have n2 : ¬ (kf_cp cs ys s 0 i).length ≤ i := by rw [kf_cp_len (by omega) (by omega)]; omega
    refine (e73_14 _ _ _).trans (Eq.trans ?_ (ih (i + 1) (by omega)))
    simp only [cl_73, e73_0, e73_1, e73_2, e73_5, e73_6, e73_7, e73_10, e73_11, e73_12, e73_16, e73_17, e73_20, e73_21, e73_23, e73_24, e73_27, e73_28, e73_29, e73_32, e73_34, e73_35, e73_38, e73_39, e73_42, e73_45, ow_73, Int32.reduceOfInt, Int32.reduceOfNat, Int32.reduceToNatClampNeg, Int32.reduceLT, Int32.reduceLE, Int32.reduceAdd, Int32.reduceSub, Int32.reduceMul, Int64.reduceOfNat, Int64.reduceOfInt, Nat.reduceLeDiff, Nat.reduceLT, Nat.reduceEqDiff, Nat.reduceSub, cs_0, cs_1, cs_2, cs_3, cs_4, cs_5, cs_6, cs_7, cs_8, or_false, false_or, not_false_eq_true, and_true, true_and, if_true, if_false, List.length_cons, List.length_nil, List.getElem?_cons_succ, List.getElem?_cons_zero, List.set_cons_succ, List.set_cons_zero, reduceIte, d_G, d_R, s_aload, s_aload_n, s_iload, s_iload_n, s_lload, s_lload_n, s_istore, s_istore_n, s_astore, s_astoreN, s_astore_n, s_astore_nN, s_lstore, s_lstore_n, s_iinc, s_iconst, s_bipush, s_sipush, s_lconst, s_ldc2_w, s_aconst_null, s_dupA, s_dupI, s_dup2, s_iadd, s_isub, s_imul, s_iand, s_ior, s_ixor, s_ishl, s_ishr, s_iushr, s_ineg, s_idiv, s_irem, s_ladd, s_lsub, s_lmul, s_land, s_lor, s_lxor, s_ldiv, s_lshl, s_lshr, s_lushr, s_i2l, s_l2i, s_lcmp, s_goto, s_ieq, s_ine, s_ilt, s_ige, s_igt, s_ile, s_zeq, s_zne, s_zlt, s_zge, s_zgt, s_zle, s_ifnull, s_ifnullN, s_ifnonnull, s_ifnonnullN, s_tableswitch, s_lookupswitch, s_getfield, s_putfield, s_getstatic, s_iaload, s_laload, s_baload, s_aaload, s_iastore, s_lastore, s_bastore, s_aastore, s_arraylength, s_newI, s_newJ, s_newZ, s_anewarray, s_new, s_copy, s_max, s_min, s_invokestatic, s_objinit, s_invokespecial, kf_isr_r, s_invokevirtual, s_ireturn, s_lreturn, s_areturn, s_areturnN, s_return, lI_0, lI_s, lJ_0, lJ_s, lA_0, lA_0N, lA_s, lS1_0, lS1_1, lS1_2, lS2_0, lS2_1, lS2_2, lK_n, lK_i, lK_j, lK_a, lK_N, d_C', kf_w_0, kf_w_i, kf_w_a, kf_w_n, kf_w_j, c_0, c_1, c_2, c_3, c_4, c_5, c_6, tl_0, tl_1, Option.bind_some, Option.bind_none, Option.map_some, Nat.reduceAdd, Nat.reduceMul, Nat.reduceDiv, Nat.reduceMod, Int.reduceToNat, Fin.val_zero, Fin.isValue, Fin.val_one, Fin.val_two, fv_0, fv_1, fv_2, fv_3, fw_0, fw_1, d_ite, true_or, or_true, and_false, false_and, or_self, and_self, ow_70, ow_49, e, g, rc, rr, k70, nI_add, k49, g5, p0, p1, n1, n2, kf_NS, nI_1, List.set_set, es]
theorem t73 {b n : Nat} {ys : List Int32} {v : PV} (h : TT M cs K S Z I J it pl) (hR : TR K S Z I J it m) (ho : okM cs m) (hn : nm < 24) (hm : m.getD nm none = some v) (hk : v.1 = 2 ∨ v.1 = 3) (gb : M[b]? = some (oI ys)) (hb2 : 27 < b) (h3 : ys.length < 2 ^ 20) (hn2 : n = min v.2.2.1 ys.length) : kf_cl 73 [.ref 20, .int (nI nm), .ref b] M = some (none, M.set b (oI (kf_cp cs ys v.2.1 0 n))) := by
  have hr := hR.2 nm hn
  rw [hm] at hr
  obtain ⟨r1, r2, r3, r4⟩ := hr
  obtain ⟨v1, v2, v3, v4, v5⟩ := ho.2 nm v (mG_some hm)
  have k71 := c71 h.1 hn
  rw [r2] at k71
  have rc := h.1.rc
  have hv := v3 hk
  clear r4 v4 v5
  have kl := t73l (nm := nm) (n := n) h (r3 hk) hn (m_lt gb) hb2 (by omega) (by omega) h3 n 0 (by omega)
  rw [kf_cp_0, set_id gb, nI_0] at kl
  have emin : (if nI ys.length < nI v.2.2.1 then nI ys.length else nI v.2.2.1) = nI n := by
    by_cases c : ys.length < v.2.2.1
    · rw [if_pos (nI_lt c (by omega)), hn2]
      congr 1
      omega
    · rw [if_neg (nI_nlt (by omega) (by omega)), hn2]
      congr 1
      omega
  simp only [cl_73, e73_0, e73_1, e73_2, e73_5, e73_6, e73_7, e73_10, e73_11, e73_12, e73_16, e73_17, e73_20, e73_21, e73_23, e73_24, e73_27, e73_28, e73_29, e73_32, e73_34, e73_35, e73_38, e73_39, e73_42, e73_45, ow_73, Int32.reduceOfInt, Int32.reduceOfNat, Int32.reduceToNatClampNeg, Int32.reduceLT, Int32.reduceLE, Int32.reduceAdd, Int32.reduceSub, Int32.reduceMul, Int64.reduceOfNat, Int64.reduceOfInt, Nat.reduceLeDiff, Nat.reduceLT, Nat.reduceEqDiff, Nat.reduceSub, cs_0, cs_1, cs_2, cs_3, cs_4, cs_5, cs_6, cs_7, cs_8, or_false, false_or, not_false_eq_true, and_true, true_and, if_true, if_false, List.length_cons, List.length_nil, List.getElem?_cons_succ, List.getElem?_cons_zero, List.set_cons_succ, List.set_cons_zero, reduceIte, d_G, d_R, s_aload, s_aload_n, s_iload, s_iload_n, s_lload, s_lload_n, s_istore, s_istore_n, s_astore, s_astoreN, s_astore_n, s_astore_nN, s_lstore, s_lstore_n, s_iinc, s_iconst, s_bipush, s_sipush, s_lconst, s_ldc2_w, s_aconst_null, s_dupA, s_dupI, s_dup2, s_iadd, s_isub, s_imul, s_iand, s_ior, s_ixor, s_ishl, s_ishr, s_iushr, s_ineg, s_idiv, s_irem, s_ladd, s_lsub, s_lmul, s_land, s_lor, s_lxor, s_ldiv, s_lshl, s_lshr, s_lushr, s_i2l, s_l2i, s_lcmp, s_goto, s_ieq, s_ine, s_ilt, s_ige, s_igt, s_ile, s_zeq, s_zne, s_zlt, s_zge, s_zgt, s_zle, s_ifnull, s_ifnullN, s_ifnonnull, s_ifnonnullN, s_tableswitch, s_lookupswitch, s_getfield, s_putfield, s_getstatic, s_iaload, s_laload, s_baload, s_aaload, s_iastore, s_lastore, s_bastore, s_aastore, s_arraylength, s_newI, s_newJ, s_newZ, s_anewarray, s_new, s_copy, s_max, s_min, s_invokestatic, s_objinit, s_invokespecial, kf_isr_r, s_invokevirtual, s_ireturn, s_lreturn, s_areturn, s_areturnN, s_return, lI_0, lI_s, lJ_0, lJ_s, lA_0, lA_0N, lA_s, lS1_0, lS1_1, lS1_2, lS2_0, lS2_1, lS2_2, lK_n, lK_i, lK_j, lK_a, lK_N, d_C', kf_w_0, kf_w_i, kf_w_a, kf_w_n, kf_w_j, c_0, c_1, c_2, c_3, c_4, c_5, c_6, tl_0, tl_1, Option.bind_some, Option.bind_none, Option.map_some, Nat.reduceAdd, Nat.reduceMul, Nat.reduceDiv, Nat.reduceMod, Int.reduceToNat, Fin.val_zero, Fin.isValue, Fin.val_one, Fin.val_two, fv_0, fv_1, fv_2, fv_3, fw_0, fw_1, d_ite, true_or, or_true, and_false, false_and, or_self, and_self, ow_71, rc, k71, gb, oLen_I, toI, emin, kl]
end CUSE
