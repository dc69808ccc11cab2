/-! The class: a field's constructor -/
section FCON
variable {M : kf_M} {f : Nat}
theorem f18w {to a : Nat} {m va sq : Int} (hM : Mod M f m) (hs : Num M (f + 3) sq) (hc : cg m sq (2 ^ 560)) (hb : bgi sq) (ha : Num M a va) (ht : Jar M to) (hto : 19 ≤ to) (a1 : bgi va) : ∃ M' v, kf_cl 18 [.ref f, .ref to, .ref a] M = some (none, M') ∧ Num M' to v ∧ cg m (v * 2 ^ 280) (va * 2 ^ 560) ∧ sml v ∧ Off [to] M M' := by
  obtain ⟨M', v, k1, n1, c1, s1, o1⟩ := f16c hM ha hs ht hto a1 hb
  obtain ⟨inv, g⟩ := hM.gO
  have rc := hM.rc
  exact ⟨M', v, by simp only [cl_18, e18_0, e18_1, e18_2, e18_3, e18_4, e18_7, e18_10, ow_18, Int32.reduceOfInt, Int32.reduceOfNat, Int32.reduceToNatClampNeg, Int32.reduceLT, Int32.reduceLE, Int32.reduceAdd, Int32.reduceSub, Int32.reduceMul, Int64.reduceOfNat, Int64.reduceOfInt, Nat.reduceLeDiff, Nat.reduceLT, Nat.reduceEqDiff, Nat.reduceSub, cs_0, cs_1, cs_2, cs_3, cs_4, cs_5, cs_6, cs_7, cs_8, or_false, false_or, not_false_eq_true, and_true, true_and, if_true, if_false, List.length_cons, List.length_nil, List.getElem?_cons_succ, List.getElem?_cons_zero, List.set_cons_succ, List.set_cons_zero, reduceIte, d_G, d_R, s_aload, s_aload_n, s_iload, s_iload_n, s_lload, s_lload_n, s_istore, s_istore_n, s_astore, s_astoreN, s_astore_n, s_astore_nN, s_lstore, s_lstore_n, s_iinc, s_iconst, s_bipush, s_sipush, s_lconst, s_ldc2_w, s_aconst_null, s_dupA, s_dupI, s_dup2, s_iadd, s_isub, s_imul, s_iand, s_ior, s_ixor, s_ishl, s_ishr, s_iushr, s_ineg, s_idiv, s_irem, s_ladd, s_lsub, s_lmul, s_land, s_lor, s_lxor, s_ldiv, s_lshl, s_lshr, s_lushr, s_i2l, s_l2i, s_lcmp, s_goto, s_ieq, s_ine, s_ilt, s_ige, s_igt, s_ile, s_zeq, s_zne, s_zlt, s_zge, s_zgt, s_zle, s_ifnull, s_ifnullN, s_ifnonnull, s_ifnonnullN, s_tableswitch, s_lookupswitch, s_getfield, s_putfield, s_getstatic, s_iaload, s_laload, s_baload, s_aaload, s_iastore, s_lastore, s_bastore, s_aastore, s_arraylength, s_newI, s_newJ, s_newZ, s_anewarray, s_new, s_copy, s_max, s_min, s_invokestatic, s_objinit, s_invokespecial, kf_isr_r, s_invokevirtual, s_ireturn, s_lreturn, s_areturn, s_areturnN, s_return, lI_0, lI_s, lJ_0, lJ_s, lA_0, lA_0N, lA_s, lS1_0, lS1_1, lS1_2, lS2_0, lS2_1, lS2_2, lK_n, lK_i, lK_j, lK_a, lK_N, d_C', kf_w_0, kf_w_i, kf_w_a, kf_w_n, kf_w_j, c_0, c_1, c_2, c_3, c_4, c_5, c_6, tl_0, tl_1, Option.bind_some, Option.bind_none, Option.map_some, Nat.reduceAdd, Nat.reduceMul, Nat.reduceDiv, Nat.reduceMod, Int.reduceToNat, Fin.val_zero, Fin.isValue, Fin.val_one, Fin.val_two, fv_0, fv_1, fv_2, fv_3, fw_0, fw_1, d_ite, true_or, or_true, and_false, false_and, or_self, and_self, ow_16, g, rc, k1], n1, cg_tr c1 (cg_ml cg_rf hc), s1, o1⟩
theorem cg_can {m w a b : Int} (hw : cg m (w * 2 ^ 280) 1) (h : cg m (a * 2 ^ 280) (b * 2 ^ 280)) : cg m a b := by
  have h1 : cg m (a * (w * 2 ^ 280)) (a * 1) := cg_ml cg_rf hw
  have h2 : cg m (b * (w * 2 ^ 280)) (b * 1) := cg_ml cg_rf hw
  have h3 : cg m (w * (a * 2 ^ 280)) (w * (b * 2 ^ 280)) := cg_ml cg_rf h
  rw [Int.mul_one] at h1 h2
  have e1 : a * (w * 2 ^ 280) = w * (a * 2 ^ 280) := by rw [← Int.mul_assoc, Int.mul_comm a w, Int.mul_assoc]
  have e2 : b * (w * 2 ^ 280) = w * (b * 2 ^ 280) := by rw [← Int.mul_assoc, Int.mul_comm b w, Int.mul_assoc]
  rw [e1] at h1
  rw [e2] at h2
  exact cg_tr (cg_sy h1) (cg_tr h3 h2)
theorem lmb_m2 {l : List Int64} {v : Int} (h : lmb l v) (h2 : 2 ≤ v % 268435456) : lmb (l.set 0 (l.getD 0 0 - 2)) (v - 2) := by
  obtain ⟨l0, l1, l2, l3, l4, l5, l6, l7, l8, l9, rfl, b0, b1, b2, b3, b4, b5, b6, b7, b8, hv⟩ := h
  have e0 : l0.toInt = v % 268435456 := by omega
  have e : (l0 - 2).toInt = l0.toInt - 2 := (i64_sb (v := l0.toInt) (B := 268435456) (w := 2) (C := 2) ⟨rfl, by omega, by omega⟩ ⟨rfl, by decide, by decide⟩ (by decide)).1
  exact ⟨l0 - 2, l1, l2, l3, l4, l5, l6, l7, l8, l9, rfl, by omega, b1, b2, b3, b4, b5, b6, b7, b8, by omega⟩
theorem l7 {fs : List Value} {l : List Int64} {s2 s3 s4 : Option Value} (e0 : fs[0]? = some (.ref (f + 1))) (e1 : fs[1]? = some (.ref (f + 2))) (ll : l.length = 10) (h19 : 19 ≤ f) : ∀ (q i : Nat) (M : kf_M) (e : List Int64), i + q = 10 → M[f]? = some (oO 1 fs) → M[f + 1]? = some (oJ l) → M[f + 2]? = some (oJ e) → e.length = 10 → e.take i = l.take i → ∃ M', kf_ev 7 70 [some (.ref f), s2, s3, s4, none, some (.int (nI i))] [] M = kf_ev 7 97 [some (.ref f), s2, s3, s4, none, some (.int (nI 10))] [] M' ∧ M'[f + 2]? = some (oJ l) ∧ Off [f + 2] M M' := by
  intro q
  induction q with
  | zero =>
    intro i M e hi h0 h1 h2 le ht
    have hi : i = 10 := by omega
    subst hi
    rw [List.take_of_length_le (by omega), List.take_of_length_le (by omega)] at ht
    have c : ((10 : Int32) ≤ nI 10) = True := eq_true (by decide)
    refine ⟨M, (e7_70 _ _ _).trans ?_, by rw [h2, ht], Off.rf⟩
    simp only [cl_7, e7_0, e7_1, e7_4, e7_5, e7_7, e7_9, e7_12, e7_13, e7_15, e7_17, e7_20, e7_21, e7_23, e7_25, e7_28, e7_29, e7_31, e7_33, e7_36, e7_37, e7_39, e7_41, e7_44, e7_45, e7_48, e7_49, e7_50, e7_53, e7_54, e7_57, e7_58, e7_59, e7_62, e7_63, e7_64, e7_67, e7_68, e7_72, e7_74, e7_77, e7_78, e7_81, e7_83, e7_84, e7_87, e7_89, e7_90, e7_91, e7_94, e7_98, e7_101, e7_102, e7_103, e7_104, e7_107, e7_108, e7_109, e7_110, e7_111, e7_114, e7_117, e7_120, ow_7, Int32.reduceOfInt, Int32.reduceOfNat, Int32.reduceToNatClampNeg, Int32.reduceLT, Int32.reduceLE, Int32.reduceAdd, Int32.reduceSub, Int32.reduceMul, Int64.reduceOfNat, Int64.reduceOfInt, Nat.reduceLeDiff, Nat.reduceLT, Nat.reduceEqDiff, Nat.reduceSub, cs_0, cs_1, cs_2, cs_3, cs_4, cs_5, cs_6, cs_7, cs_8, or_false, false_or, not_false_eq_true, and_true, true_and, if_true, if_false, List.length_cons, List.length_nil, List.getElem?_cons_succ, List.getElem?_cons_zero, List.set_cons_succ, List.set_cons_zero, reduceIte, d_G, d_R, s_aload, s_aload_n, s_iload, s_iload_n, s_lload, s_lload_n, s_istore, s_istore_n, s_astore, s_astoreN, s_astore_n, s_astore_nN, s_lstore, s_lstore_n, s_iinc, s_iconst, s_bipush, s_sipush, s_lconst, s_ldc2_w, s_aconst_null, s_dupA, s_dupI, s_dup2, s_iadd, s_isub, s_imul, s_iand, s_ior, s_ixor, s_ishl, s_ishr, s_iushr, s_ineg, s_idiv, s_irem, s_ladd, s_lsub, s_lmul, s_land, s_lor, s_lxor, s_ldiv, s_lshl, s_lshr, s_lushr, s_i2l, s_l2i, s_lcmp, s_goto, s_ieq, s_ine, s_ilt, s_ige, s_igt, s_ile, s_zeq, s_zne, s_zlt, s_zge, s_zgt, s_zle, s_ifnull, s_ifnullN, s_ifnonnull, s_ifnonnullN, s_tableswitch, s_lookupswitch, s_getfield, s_putfield, s_getstatic, s_iaload, s_laload, s_baload, s_aaload, s_iastore, s_lastore, s_bastore, s_aastore, s_arraylength, s_newI, s_newJ, s_newZ, s_anewarray, s_new, s_copy, s_max, s_min, s_invokestatic, s_objinit, s_invokespecial, kf_isr_r, s_invokevirtual, s_ireturn, s_lreturn, s_areturn, s_areturnN, s_return, lI_0, lI_s, lJ_0, lJ_s, lA_0, lA_0N, lA_s, lS1_0, lS1_1, lS1_2, lS2_0, lS2_1, lS2_2, lK_n, lK_i, lK_j, lK_a, lK_N, d_C', kf_w_0, kf_w_i, kf_w_a, kf_w_n, kf_w_j, c_0, c_1, c_2, c_3, c_4, c_5, c_6, tl_0, tl_1, Option.bind_some, Option.bind_none, Option.map_some, Nat.reduceAdd, Nat.reduceMul, Nat.reduceDiv, Nat.reduceMod, Int.reduceToNat, Fin.val_zero, Fin.isValue, Fin.val_one, Fin.val_two, fv_0, fv_1, fv_2, fv_3, fw_0, fw_1, d_ite, true_or, or_true, and_false, false_and, or_self, and_self, c]
  | succ q ih =>
    intro i M e hi h0 h1 h2 le ht
    have c : ((10 : Int32) ≤ nI i) = False := eq_false (nI_ge (a := i) (b := 10) (by omega) (by omega))
    have g0 := gO_of h0
    have g1 := gJ_of h1
    have g2 := gJ_of h2
    have p0 : ¬ nI i < 0 := nI_pos (by omega)
    have p1 : (nI i).toNatClampNeg = i := nI_clamp (by omega)
    have hx := List.getElem?_eq_getElem (l := l) (i := i) (by omega)
    have b1 : ¬ e.length ≤ i := by omega
    have b2 : ¬ f + 2 < 19 := by omega
    obtain ⟨M1, eM⟩ : ∃ X, X = M.set (f + 2) (oJ (e.set i l[i])) := ⟨_, rfl⟩
    have o1 : Off [f + 2] M M1 := by rw [eM]; exact Off.set (by simp)
    obtain ⟨M', k', r', o'⟩ := ih (i + 1) M1 (e.set i l[i]) (by omega) (o1.at (by simp) h0) (o1.at (by simp) h1) (by rw [eM]; exact m_self (m_lt h2)) (by rw [List.length_set]; exact le) (by
      apply List.ext_getElem?
      intro j
      by_cases hj : j < i + 1
      · rw [List.getElem?_take_of_lt hj, List.getElem?_take_of_lt hj]
        by_cases hji : j = i
        · subst hji
          rw [List.getElem?_set_self (by omega), hx]
        · rw [List.getElem?_set_ne (by omega)]
          have this : (e.take i)[j]? = (l.take i)[j]? := by rw [ht]
          rw [List.getElem?_take_of_lt (by omega), List.getElem?_take_of_lt (by omega)] at this
          exact this
      · rw [List.getElem?_eq_none (by rw [List.length_take]; omega), List.getElem?_eq_none (by rw [List.length_take]; omega)])
    refine ⟨M', (e7_70 _ _ _).trans (Eq.trans ?_ k'), r', o1.tr o'⟩
    simp only [cl_7, e7_0, e7_1, e7_4, e7_5, e7_7, e7_9, e7_12, e7_13, e7_15, e7_17, e7_20, e7_21, e7_23, e7_25, e7_28, e7_29, e7_31, e7_33, e7_36, e7_37, e7_39, e7_41, e7_44, e7_45, e7_48, e7_49, e7_50, e7_53, e7_54, e7_57, e7_58, e7_59, e7_62, e7_63, e7_64, e7_67, e7_68, e7_72, e7_74, e7_77, e7_78, e7_81, e7_83, e7_84, e7_87, e7_89, e7_90, e7_91, e7_94, e7_98, e7_101, e7_102, e7_103, e7_104, e7_107, e7_108, e7_109, e7_110, e7_111, e7_114, e7_117, e7_120, ow_7, Int32.reduceOfInt, Int32.reduceOfNat, Int32.reduceToNatClampNeg, Int32.reduceLT, Int32.reduceLE, Int32.reduceAdd, Int32.reduceSub, Int32.reduceMul, Int64.reduceOfNat, Int64.reduceOfInt, Nat.reduceLeDiff, Nat.reduceLT, Nat.reduceEqDiff, Nat.reduceSub, cs_0, cs_1, cs_2, cs_3, cs_4, cs_5, cs_6, cs_7, cs_8, or_false, false_or, not_false_eq_true, and_true, true_and, if_true, if_false, List.length_cons, List.length_nil, List.getElem?_cons_succ, List.getElem?_cons_zero, List.set_cons_succ, List.set_cons_zero, reduceIte, d_G, d_R, s_aload, s_aload_n, s_iload, s_iload_n, s_lload, s_lload_n, s_istore, s_istore_n, s_astore, s_astoreN, s_astore_n, s_astore_nN, s_lstore, s_lstore_n, s_iinc, s_iconst, s_bipush, s_sipush, s_lconst, s_ldc2_w, s_aconst_null, s_dupA, s_dupI, s_dup2, s_iadd, s_isub, s_imul, s_iand, s_ior, s_ixor, s_ishl, s_ishr, s_iushr, s_ineg, s_idiv, s_irem, s_ladd, s_lsub, s_lmul, s_land, s_lor, s_lxor, s_ldiv, s_lshl, s_lshr, s_lushr, s_i2l, s_l2i, s_lcmp, s_goto, s_ieq, s_ine, s_ilt, s_ige, s_igt, s_ile, s_zeq, s_zne, s_zlt, s_zge, s_zgt, s_zle, s_ifnull, s_ifnullN, s_ifnonnull, s_ifnonnullN, s_tableswitch, s_lookupswitch, s_getfield, s_putfield, s_getstatic, s_iaload, s_laload, s_baload, s_aaload, s_iastore, s_lastore, s_bastore, s_aastore, s_arraylength, s_newI, s_newJ, s_newZ, s_anewarray, s_new, s_copy, s_max, s_min, s_invokestatic, s_objinit, s_invokespecial, kf_isr_r, s_invokevirtual, s_ireturn, s_lreturn, s_areturn, s_areturnN, s_return, lI_0, lI_s, lJ_0, lJ_s, lA_0, lA_0N, lA_s, lS1_0, lS1_1, lS1_2, lS2_0, lS2_1, lS2_2, lK_n, lK_i, lK_j, lK_a, lK_N, d_C', kf_w_0, kf_w_i, kf_w_a, kf_w_n, kf_w_j, c_0, c_1, c_2, c_3, c_4, c_5, c_6, tl_0, tl_1, Option.bind_some, Option.bind_none, Option.map_some, Nat.reduceAdd, Nat.reduceMul, Nat.reduceDiv, Nat.reduceMod, Int.reduceToNat, Fin.val_zero, Fin.isValue, Fin.val_one, Fin.val_two, fv_0, fv_1, fv_2, fv_3, fw_0, fw_1, d_ite, true_or, or_true, and_false, false_and, or_self, and_self, c, g0, e0, e1, g1, g2, p0, p1, hx, b1, b2, kf_NS, ← eM, nI_1]
set_option maxHeartbeats 4000000 in
theorem f7 {sa sb N R : Nat} {ws rs : List Int32} {inv : Int64} {w : Int} (hl : M.length = f) (h19 : 19 ≤ f) (ga : M[sa]? = some (oI ws)) (gb : M[sb]? = some (oI rs)) (lw : ws.length = 8) (lr : rs.length = 8) (hwn : ∀ j, j < 64 → (ws.getD (0 + 7 - j / 8) 0 >>> (((4 : Int32) * nI (j % 8)) &&& 31)) &&& 15 = nI (N / 16 ^ j % 16)) (hrn : ∀ j, j < 64 → (rs.getD (0 + 7 - j / 8) 0 >>> (((4 : Int32) * nI (j % 8)) &&& 31)) &&& 15 = nI (R / 16 ^ j % 16)) (hN : N < 2 ^ 256) (hR : R < 2 ^ 256) (hinv : (inv.toInt * ((N : Int) % 268435456) + 1) % 268435456 = 0) (hN0 : 2 ≤ N % 268435456) (hR2 : cg N R (2 ^ 560)) (hw : cg N (w * 2 ^ 280) 1) (g4 : M[4]? = some (oJ sx_4)) : ∃ M', kf_cl 7 [.ref f, .ref sa, .ref sb, .long inv] (M ++ [oO 1 [.null, .null, .null, .null, .null, .long 0]]) = some (none, M') ∧ FldIs M' f N ∧ M'.length = f + 6 ∧ Gr [] M M' := by
  have s1 : ∀ (c : Nat) (fs : List Value) (L : kf_M), gO (M ++ (oO c fs :: L)) f = some (c, fs) := fun c fs L => al_self hl
  have s2 : ∀ (x y : kf_Ob) (L : kf_M), (M ++ (x :: L)).set f y = M ++ (y :: L) := fun x y L => al_sets hl
  obtain ⟨M1, e1⟩ : ∃ X, X = M ++ [oO 1 [.ref (f + 1), .ref (f + 2), .ref (f + 3), .ref (f + 4), .ref (f + 5), .long 0], oJ (List.replicate 10 0), oJ (List.replicate 10 0), oJ (List.replicate 10 0), oJ (List.replicate 10 0), oJ (List.replicate 10 0)] := ⟨_, rfl⟩
  have pre : kf_cl 7 [.ref f, .ref sa, .ref sb, .long inv] (M ++ [oO 1 [.null, .null, .null, .null, .null, .long 0]]) = kf_ev 7 44 [some (.ref f), some (.ref sa), some (.ref sb), some (.long inv), none, none] [] M1 := by
    simp only [cl_7, e7_0, e7_1, e7_4, e7_5, e7_7, e7_9, e7_12, e7_13, e7_15, e7_17, e7_20, e7_21, e7_23, e7_25, e7_28, e7_29, e7_31, e7_33, e7_36, e7_37, e7_39, e7_41, e7_45, e7_48, e7_49, e7_50, e7_53, e7_54, e7_57, e7_58, e7_59, e7_62, e7_63, e7_64, e7_67, e7_68, e7_72, e7_74, e7_77, e7_78, e7_81, e7_83, e7_84, e7_87, e7_89, e7_90, e7_91, e7_94, e7_98, e7_101, e7_102, e7_103, e7_104, e7_107, e7_108, e7_109, e7_110, e7_111, e7_114, e7_117, e7_120, ow_7, Int32.reduceOfInt, Int32.reduceOfNat, Int32.reduceToNatClampNeg, Int32.reduceLT, Int32.reduceLE, Int32.reduceAdd, Int32.reduceSub, Int32.reduceMul, Int64.reduceOfNat, Int64.reduceOfInt, Nat.reduceLeDiff, Nat.reduceLT, Nat.reduceEqDiff, Nat.reduceSub, cs_0, cs_1, cs_2, cs_3, cs_4, cs_5, cs_6, cs_7, cs_8, or_false, false_or, not_false_eq_true, and_true, true_and, if_true, if_false, List.length_cons, List.length_nil, List.getElem?_cons_succ, List.getElem?_cons_zero, List.set_cons_succ, List.set_cons_zero, reduceIte, d_G, d_R, s_aload, s_aload_n, s_iload, s_iload_n, s_lload, s_lload_n, s_istore, s_istore_n, s_astore, s_astoreN, s_astore_n, s_astore_nN, s_lstore, s_lstore_n, s_iinc, s_iconst, s_bipush, s_sipush, s_lconst, s_ldc2_w, s_aconst_null, s_dupA, s_dupI, s_dup2, s_iadd, s_isub, s_imul, s_iand, s_ior, s_ixor, s_ishl, s_ishr, s_iushr, s_ineg, s_idiv, s_irem, s_ladd, s_lsub, s_lmul, s_land, s_lor, s_lxor, s_ldiv, s_lshl, s_lshr, s_lushr, s_i2l, s_l2i, s_lcmp, s_goto, s_ieq, s_ine, s_ilt, s_ige, s_igt, s_ile, s_zeq, s_zne, s_zlt, s_zge, s_zgt, s_zle, s_ifnull, s_ifnullN, s_ifnonnull, s_ifnonnullN, s_tableswitch, s_lookupswitch, s_getfield, s_putfield, s_getstatic, s_iaload, s_laload, s_baload, s_aaload, s_iastore, s_lastore, s_bastore, s_aastore, s_arraylength, s_newI, s_newJ, s_newZ, s_anewarray, s_new, s_copy, s_max, s_min, s_invokestatic, s_objinit, s_invokespecial, kf_isr_r, s_invokevirtual, s_ireturn, s_lreturn, s_areturn, s_areturnN, s_return, lI_0, lI_s, lJ_0, lJ_s, lA_0, lA_0N, lA_s, lS1_0, lS1_1, lS1_2, lS2_0, lS2_1, lS2_2, lK_n, lK_i, lK_j, lK_a, lK_N, d_C', kf_w_0, kf_w_i, kf_w_a, kf_w_n, kf_w_j, c_0, c_1, c_2, c_3, c_4, c_5, c_6, tl_0, tl_1, Option.bind_some, Option.bind_none, Option.map_some, Nat.reduceAdd, Nat.reduceMul, Nat.reduceDiv, Nat.reduceMod, Int.reduceToNat, Fin.val_zero, Fin.isValue, Fin.val_one, Fin.val_two, fv_0, fv_1, fv_2, fv_3, fw_0, fw_1, d_ite, true_or, or_true, and_false, false_and, or_self, and_self, kf_fit, List.append_assoc, List.cons_append, List.nil_append, List.length_append, hl, s1, s2, e1]
  have G1 : Gr [] M M1 := by rw [e1]; exact Gr.app
  have l1 : M1.length = f + 6 := by rw [e1, List.length_append, hl]; rfl
  have at1 : ∀ k, M1[f + k]? = [oO 1 [.ref (f + 1), .ref (f + 2), .ref (f + 3), .ref (f + 4), .ref (f + 5), .long 0], oJ (List.replicate 10 0), oJ (List.replicate 10 0), oJ (List.replicate 10 0), oJ (List.replicate 10 0), oJ (List.replicate 10 0)][k]? := fun k => by rw [e1, List.getElem?_append_right (by omega), hl, Nat.add_sub_cancel_left]
  have sa_lt : sa < f := by rw [← hl]; exact (List.getElem?_eq_some_iff.mp ga).1
  have sb_lt : sb < f := by rw [← hl]; exact (List.getElem?_eq_some_iff.mp gb).1
  have a0 : M1[f]? = some (oO 1 [.ref (f + 1), .ref (f + 2), .ref (f + 3), .ref (f + 4), .ref (f + 5), .long 0]) := at1 0
  have a1 : Jar M1 (f + 1) := ⟨_, at1 1, List.length_replicate⟩
  have a2 : M1[f + 2]? = some (oJ (List.replicate 10 0)) := at1 2
  have a3 : Jar M1 (f + 3) := ⟨_, at1 3, List.length_replicate⟩
  have a4 : Jar M1 (f + 4) := ⟨_, at1 4, List.length_replicate⟩
  have a5 : Jar M1 (f + 5) := ⟨_, at1 5, List.length_replicate⟩
  have g1 := gO_of a0
  obtain ⟨M2, k2, n2, o2⟩ := f8 (f := 0) (N := N) a1 (by omega) (by omega) (G1.at (by simp) ga) (by omega) (by rw [lw]; decide) hwn hN
  have g2 := gO_of (o2.at (by simp) a0)
  obtain ⟨M3, k3, n3, o3⟩ := f8 (f := 0) (N := R) (a3.off o2 (by simp)) (by omega) (by omega) (o2.at (by simp; omega) (G1.at (by simp) gb)) (by omega) (by rw [lr]; decide) hrn hR
  rw [nI_0] at k2 k3
  have o13 : Off [f + 1, f + 3] M1 M3 := (o2.wk (by simp)).tr (o3.wk (by simp))
  have g3 := gO_of (o13.at (by simp) a0)
  obtain ⟨M4, e4⟩ : ∃ X, X = M3.set f (oO 1 [.ref (f + 1), .ref (f + 2), .ref (f + 3), .ref (f + 4), .ref (f + 5), .long inv]) := ⟨_, rfl⟩
  have o4 : Off [f] M3 M4 := by rw [e4]; exact Off.set (by simp)
  have o14 : Off [f + 1, f + 3, f] M1 M4 := (o13.wk (by simp)).tr (o4.wk (by simp))
  have b0 : M4[f]? = some (oO 1 [.ref (f + 1), .ref (f + 2), .ref (f + 3), .ref (f + 4), .ref (f + 5), .long inv]) := by rw [e4]; exact m_self (m_lt (o13.at (by simp) a0))
  have n24 := (n2.off o3 (by simp)).off o4 (by simp)
  obtain ⟨l, hl1, hlm⟩ := id n24
  have s44 : kf_ev 7 44 [some (.ref f), some (.ref sa), some (.ref sb), some (.long inv), none, none] [] M1 = kf_ev 7 70 [some (.ref f), some (.ref sa), some (.ref sb), some (.long inv), none, some (.int 0)] [] M4 := by
    refine (e7_44 _ _ _).trans ?_
    simp only [cl_7, e7_0, e7_1, e7_4, e7_5, e7_7, e7_9, e7_12, e7_13, e7_15, e7_17, e7_20, e7_21, e7_23, e7_25, e7_28, e7_29, e7_31, e7_33, e7_36, e7_37, e7_39, e7_41, e7_45, e7_48, e7_49, e7_50, e7_53, e7_54, e7_57, e7_58, e7_59, e7_62, e7_63, e7_64, e7_67, e7_68, e7_72, e7_74, e7_77, e7_78, e7_81, e7_83, e7_84, e7_87, e7_89, e7_90, e7_91, e7_94, e7_98, e7_101, e7_102, e7_103, e7_104, e7_107, e7_108, e7_109, e7_110, e7_111, e7_114, e7_117, e7_120, ow_7, Int32.reduceOfInt, Int32.reduceOfNat, Int32.reduceToNatClampNeg, Int32.reduceLT, Int32.reduceLE, Int32.reduceAdd, Int32.reduceSub, Int32.reduceMul, Int64.reduceOfNat, Int64.reduceOfInt, Nat.reduceLeDiff, Nat.reduceLT, Nat.reduceEqDiff, Nat.reduceSub, cs_0, cs_1, cs_2, cs_3, cs_4, cs_5, cs_6, cs_7, cs_8, or_false, false_or, not_false_eq_true, and_true, true_and, if_true, if_false, List.length_cons, List.length_nil, List.getElem?_cons_succ, List.getElem?_cons_zero, List.set_cons_succ, List.set_cons_zero, reduceIte, d_G, d_R, s_aload, s_aload_n, s_iload, s_iload_n, s_lload, s_lload_n, s_istore, s_istore_n, s_astore, s_astoreN, s_astore_n, s_astore_nN, s_lstore, s_lstore_n, s_iinc, s_iconst, s_bipush, s_sipush, s_lconst, s_ldc2_w, s_aconst_null, s_dupA, s_dupI, s_dup2, s_iadd, s_isub, s_imul, s_iand, s_ior, s_ixor, s_ishl, s_ishr, s_iushr, s_ineg, s_idiv, s_irem, s_ladd, s_lsub, s_lmul, s_land, s_lor, s_lxor, s_ldiv, s_lshl, s_lshr, s_lushr, s_i2l, s_l2i, s_lcmp, s_goto, s_ieq, s_ine, s_ilt, s_ige, s_igt, s_ile, s_zeq, s_zne, s_zlt, s_zge, s_zgt, s_zle, s_ifnull, s_ifnullN, s_ifnonnull, s_ifnonnullN, s_tableswitch, s_lookupswitch, s_getfield, s_putfield, s_getstatic, s_iaload, s_laload, s_baload, s_aaload, s_iastore, s_lastore, s_bastore, s_aastore, s_arraylength, s_newI, s_newJ, s_newZ, s_anewarray, s_new, s_copy, s_max, s_min, s_invokestatic, s_objinit, s_invokespecial, kf_isr_r, s_invokevirtual, s_ireturn, s_lreturn, s_areturn, s_areturnN, s_return, lI_0, lI_s, lJ_0, lJ_s, lA_0, lA_0N, lA_s, lS1_0, lS1_1, lS1_2, lS2_0, lS2_1, lS2_2, lK_n, lK_i, lK_j, lK_a, lK_N, d_C', kf_w_0, kf_w_i, kf_w_a, kf_w_n, kf_w_j, c_0, c_1, c_2, c_3, c_4, c_5, c_6, tl_0, tl_1, Option.bind_some, Option.bind_none, Option.map_some, Nat.reduceAdd, Nat.reduceMul, Nat.reduceDiv, Nat.reduceMod, Int.reduceToNat, Fin.val_zero, Fin.isValue, Fin.val_one, Fin.val_two, fv_0, fv_1, fv_2, fv_3, fw_0, fw_1, d_ite, true_or, or_true, and_false, false_and, or_self, and_self, kf_fit, g1, k2, g2, k3, g3, ← e4]
  obtain ⟨M5, k5, r5, o5⟩ := l7 (s2 := some (.ref sa)) (s3 := some (.ref sb)) (s4 := some (.long inv)) rfl rfl (lmb_len hlm) h19 10 0 M4 (List.replicate 10 0) (by omega) b0 hl1 (o14.at (by simp) a2) List.length_replicate rfl
  rw [nI_0] at k5
  have o15 : Off [f + 1, f + 3, f, f + 2] M1 M5 := (o14.wk (by simp)).tr (o5.wk (by simp))
  have b5 := o5.at (by simp) b0
  have g5 := gO_of b5
  have gj5 := gJ_of r5
  have hx0 : l[0]? = some (l.getD 0 0) := by
    have := lmb_len hlm
    rw [List.getElem?_eq_getElem (by omega), List.getD_eq_getElem?_getD, List.getElem?_eq_getElem (by omega)]
    rfl
  have bl : ¬ l.length ≤ 0 := by rw [lmb_len hlm]; decide
  have bf : ¬ f + 2 < 19 := by omega
  have z0 : ¬ (0 : Int32) < 0 := by decide
  have z1 : (0 : Int32).toNatClampNeg = 0 := by decide
  obtain ⟨M6, e6⟩ : ∃ X, X = M5.set (f + 2) (oJ (l.set 0 (l.getD 0 0 - 2))) := ⟨_, rfl⟩
  have o6 : Off [f + 2] M5 M6 := by rw [e6]; exact Off.set (by simp)
  have n6 : Num M6 (f + 2) ((N : Int) - 2) := ⟨_, by rw [e6]; exact m_self (m_lt r5), lmb_m2 hlm (by omega)⟩
  have o16 : Off [f + 1, f + 3, f, f + 2] M1 M6 := o15.tr (o6.wk (by simp))
  have o46 : Off [f + 2] M4 M6 := o5.tr o6
  have F6 : Mod M6 f N := ⟨inv, o6.at (by simp) b5, n24.off o46 (by simp), hinv, by omega, by omega⟩
  have g6 := gO_of (o6.at (by simp) b5)
  have rc := F6.rc
  have N4 : Num M6 4 1 := ⟨sx_4, o16.at (by simp; omega) (G1.at (by simp) g4), lmb_1⟩
  have n36 := ((n3.off o4 (by simp)).off o46 (by simp))
  obtain ⟨M7, v, k7, n7, c7, s7, o7⟩ := f18w F6 n36 hR2 (by unfold bgi; omega) N4 (a4.off o16 (by simp)) (by omega) (by unfold bgi; omega)
  have s97 : kf_ev 7 97 [some (.ref f), some (.ref sa), some (.ref sb), some (.long inv), none, some (.int (nI 10))] [] M5 = some (none, M7) := by
    refine (e7_97 _ _ _).trans ?_
    simp only [cl_7, e7_0, e7_1, e7_4, e7_5, e7_7, e7_9, e7_12, e7_13, e7_15, e7_17, e7_20, e7_21, e7_23, e7_25, e7_28, e7_29, e7_31, e7_33, e7_36, e7_37, e7_39, e7_41, e7_45, e7_48, e7_49, e7_50, e7_53, e7_54, e7_57, e7_58, e7_59, e7_62, e7_63, e7_64, e7_67, e7_68, e7_72, e7_74, e7_77, e7_78, e7_81, e7_83, e7_84, e7_87, e7_89, e7_90, e7_91, e7_94, e7_98, e7_101, e7_102, e7_103, e7_104, e7_107, e7_108, e7_109, e7_110, e7_111, e7_114, e7_117, e7_120, ow_7, Int32.reduceOfInt, Int32.reduceOfNat, Int32.reduceToNatClampNeg, Int32.reduceLT, Int32.reduceLE, Int32.reduceAdd, Int32.reduceSub, Int32.reduceMul, Int64.reduceOfNat, Int64.reduceOfInt, Nat.reduceLeDiff, Nat.reduceLT, Nat.reduceEqDiff, Nat.reduceSub, cs_0, cs_1, cs_2, cs_3, cs_4, cs_5, cs_6, cs_7, cs_8, or_false, false_or, not_false_eq_true, and_true, true_and, if_true, if_false, List.length_cons, List.length_nil, List.getElem?_cons_succ, List.getElem?_cons_zero, List.set_cons_succ, List.set_cons_zero, reduceIte, d_G, d_R, s_aload, s_aload_n, s_iload, s_iload_n, s_lload, s_lload_n, s_istore, s_istore_n, s_astore, s_astoreN, s_astore_n, s_astore_nN, s_lstore, s_lstore_n, s_iinc, s_iconst, s_bipush, s_sipush, s_lconst, s_ldc2_w, s_aconst_null, s_dupA, s_dupI, s_dup2, s_iadd, s_isub, s_imul, s_iand, s_ior, s_ixor, s_ishl, s_ishr, s_iushr, s_ineg, s_idiv, s_irem, s_ladd, s_lsub, s_lmul, s_land, s_lor, s_lxor, s_ldiv, s_lshl, s_lshr, s_lushr, s_i2l, s_l2i, s_lcmp, s_goto, s_ieq, s_ine, s_ilt, s_ige, s_igt, s_ile, s_zeq, s_zne, s_zlt, s_zge, s_zgt, s_zle, s_ifnull, s_ifnullN, s_ifnonnull, s_ifnonnullN, s_tableswitch, s_lookupswitch, s_getfield, s_putfield, s_getstatic, s_iaload, s_laload, s_baload, s_aaload, s_iastore, s_lastore, s_bastore, s_aastore, s_arraylength, s_newI, s_newJ, s_newZ, s_anewarray, s_new, s_copy, s_max, s_min, s_invokestatic, s_objinit, s_invokespecial, kf_isr_r, s_invokevirtual, s_ireturn, s_lreturn, s_areturn, s_areturnN, s_return, lI_0, lI_s, lJ_0, lJ_s, lA_0, lA_0N, lA_s, lS1_0, lS1_1, lS1_2, lS2_0, lS2_1, lS2_2, lK_n, lK_i, lK_j, lK_a, lK_N, d_C', kf_w_0, kf_w_i, kf_w_a, kf_w_n, kf_w_j, c_0, c_1, c_2, c_3, c_4, c_5, c_6, tl_0, tl_1, Option.bind_some, Option.bind_none, Option.map_some, Nat.reduceAdd, Nat.reduceMul, Nat.reduceDiv, Nat.reduceMod, Int.reduceToNat, Fin.val_zero, Fin.isValue, Fin.val_one, Fin.val_two, fv_0, fv_1, fv_2, fv_3, fw_0, fw_1, d_ite, true_or, or_true, and_false, false_and, or_self, and_self, ow_18, g5, gj5, hx0, z0, z1, bl, bf, kf_NS, ← e6, g6, rc, k7]
  have o17 : Off [f + 1, f + 3, f, f + 2, f + 4] M1 M7 := (o16.wk (by simp)).tr (o7.wk (by simp))
  refine ⟨M7, pre.trans (s44.trans (k5.trans s97)), ⟨F6.off o7 (by simp) (by simp), n6.off o7 (by simp), ⟨_, n36.off o7 (by simp), hR2, by unfold bgi; omega⟩, ⟨v, n7, cg_can hw ?_, s7⟩, a5.off o17 (by simp)⟩, by rw [o17.1, l1], G1.new o17 (fun x hx => by simp at hx; omega)⟩
  rw [Int.one_mul] at c7
  rw [← Int.pow_add]
  exact c7
end FCON
