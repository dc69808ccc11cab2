/-! The reference: forget, know, listRow, areLengths, refuse -/
def KN (M : kf_M) (kn mu le mo : List Int32) : Prop := ArI M 335 24 kn ∧ (M[336]? = some (oZ mu) ∧ mu.length = 24) ∧ ArI M 337 24 le ∧ ArI M 338 24 mo
theorem KN.off {M M' : kf_M} {A : List Nat} {kn mu le mo : List Int32} (h : KN M kn mu le mo) (ho : Off A M M') (hA : ∀ a ∈ A, a ∉ [335, 336, 337, 338]) : KN M' kn mu le mo := ⟨h.1.off ho (fun w => hA _ w (by decide)), ⟨ho.at (fun w => hA _ w (by decide)) h.2.1.1, h.2.1.2⟩, h.2.2.1.off ho (fun w => hA _ w (by decide)), h.2.2.2.off ho (fun w => hA _ w (by decide))⟩
def A175 : List Nat := [335, 336, 337, 338]
theorem n335 : ¬ 335 < 19 := by decide
theorem n336 : ¬ 336 < 19 := by decide
theorem n337 : ¬ 337 < 19 := by decide
theorem n338 : ¬ 338 < 19 := by decide
theorem KN.w {M : kf_M} {kn mu le mo : List Int32} {i : Nat} {a b c d : Int32} (h : KN M kn mu le mo) : KN ((((M.set 335 (oI (kn.set i a))).set 336 (oZ (mu.set i b))).set 337 (oI (le.set i c))).set 338 (oI (mo.set i d))) (kn.set i a) (mu.set i b) (le.set i c) (mo.set i d) := by
  obtain ⟨⟨a1, a2⟩, ⟨b1, b2⟩, ⟨c1, c2⟩, ⟨d1, d2⟩⟩ := h
  refine ⟨⟨?_, by rw [List.length_set]; exact a2⟩, ⟨?_, by rw [List.length_set]; exact b2⟩, ⟨?_, by rw [List.length_set]; exact c2⟩, ⟨?_, by rw [List.length_set]; exact d2⟩⟩
  · rw [m_ne (by decide), m_ne (by decide), m_ne (by decide), m_self (m_lt a1)]
  · rw [m_ne (by decide), m_ne (by decide), m_self (by rw [List.length_set]; exact m_lt b1)]
  · rw [m_ne (by decide), m_self (by rw [List.length_set, List.length_set]; exact m_lt c1)]
  · rw [m_self (by rw [List.length_set, List.length_set, List.length_set]; exact m_lt d1)]
theorem oW4 {M : kf_M} {a b c d : kf_Ob} : Off A175 M ((((M.set 335 a).set 336 b).set 337 c).set 338 d) := (((Off.set (by decide)).tr (Off.set (by decide))).tr (Off.set (by decide))).tr (Off.set (by decide))
theorem KN.gs {M : kf_M} {fs : List Value} {kn mu le mo : List Int32} {i : Nat} (hM : MdIs M fs) (h : KN M kn mu le mo) (hi : i < 24) : gO M 284 = some (12, fs) ∧ (∀ a, gO (M.set 335 a) 284 = some (12, fs)) ∧ (∀ a b, gO ((M.set 335 a).set 336 b) 284 = some (12, fs)) ∧ (∀ a b c, gO (((M.set 335 a).set 336 b).set 337 c) 284 = some (12, fs)) ∧ gI M 335 = some kn ∧ (∀ a, gZ (M.set 335 a) 336 = some mu) ∧ (∀ a b, gI ((M.set 335 a).set 336 b) 337 = some le) ∧ (∀ a b c, gI (((M.set 335 a).set 336 b).set 337 c) 338 = some mo) ∧ ¬ nI i < 0 ∧ (nI i).toNatClampNeg = i ∧ ¬ kn.length ≤ i ∧ ¬ mu.length ≤ i ∧ ¬ le.length ≤ i ∧ ¬ mo.length ≤ i := by
  obtain ⟨⟨a1, a2⟩, ⟨b1, b2⟩, ⟨c1, c2⟩, ⟨d1, d2⟩⟩ := h
  have g := gO_of hM.1
  refine ⟨g, fun a => by rw [gO_ne (by decide)]; exact g, fun a b => by rw [gO_ne (by decide), gO_ne (by decide)]; exact g, fun a b c => by rw [gO_ne (by decide), gO_ne (by decide), gO_ne (by decide)]; exact g, gI_of a1, fun a => by rw [gZ_ne (by decide)]; exact gZ_of b1, fun a b => by rw [gI_ne (by decide), gI_ne (by decide)]; exact gI_of c1, fun a b c => by rw [gI_ne (by decide), gI_ne (by decide), gI_ne (by decide)]; exact gI_of d1, nI_pos (by omega), nI_clamp (by omega), by omega, by omega, by omega, by omega⟩
theorem r175l {fs : List Value} : ∀ (n i : Nat) (M : kf_M) (kn mu le mo : List Int32), i + n = 24 → MdIs M fs → KN M kn mu le mo → (∀ j, j < i → kn.getD j 0 = 0 ∧ mu.getD j 0 = 0 ∧ le.getD j 0 = 0 ∧ mo.getD j 0 = 0) → ∃ (M' : kf_M), kf_ev 175 2 [some (.ref 284), some (.int (nI i))] [] M = some (none, M') ∧ KN M' (List.replicate 24 0) (List.replicate 24 0) (List.replicate 24 0) (List.replicate 24 0) ∧ Off A175 M M' := by
  intro n
  have zz : (((0 : Int32) = 0) ∨ ((0 : Int32) = 1)) = True := eq_true (Or.inl rfl)
  have n5 := n335
  have n6 := n336
  have n7 := n337
  have n8 := n338
  induction n with
  | zero =>
    intro i M kn mu le mo hi hM h hz
    have hi : i = 24 := by omega
    subst hi
    have e : (24 : Int32) ≤ nI 24 := by decide
    have ext : ∀ xs : List Int32, xs.length = 24 → (∀ j, j < 24 → xs.getD j 0 = 0) → xs = List.replicate 24 0 := fun xs l1 l2 => gD_ext (by simp [l1]) (fun j hj => by
      rw [l2 j (by omega), List.getD_eq_getElem?_getD, List.getElem?_replicate, if_pos (by omega)]
      rfl)
    rw [ext kn h.1.2 (fun j hj => (hz j hj).1), ext mu h.2.1.2 (fun j hj => (hz j hj).2.1), ext le h.2.2.1.2 (fun j hj => (hz j hj).2.2.1), ext mo h.2.2.2.2 (fun j hj => (hz j hj).2.2.2)] at h
    exact ⟨M, (e175_2 _ _ _).trans (by simp only [cl_175, e175_0, e175_1, e175_3, e175_5, e175_8, e175_9, e175_12, e175_13, e175_14, e175_15, e175_16, e175_19, e175_20, e175_21, e175_22, e175_23, e175_26, e175_27, e175_28, e175_29, e175_30, e175_33, e175_34, e175_35, e175_36, e175_39, e175_42, ow_175, Int32.reduceOfInt, Int32.reduceOfNat, Int32.reduceToNatClampNeg, Int32.reduceLT, Int32.reduceLE, Int32.reduceAdd, Int32.reduceSub, Int32.reduceMul, Int64.reduceOfNat, Int64.reduceOfInt, Nat.reduceLeDiff, Nat.reduceLT, Nat.reduceEqDiff, Nat.reduceSub, cs_0, cs_1, cs_2, cs_3, cs_4, cs_5, cs_6, cs_7, cs_8, or_false, false_or, not_false_eq_true, and_true, true_and, if_true, if_false, List.length_cons, List.length_nil, List.getElem?_cons_succ, List.getElem?_cons_zero, List.set_cons_succ, List.set_cons_zero, reduceIte, d_G, d_R, s_aload, s_aload_n, s_iload, s_iload_n, s_lload, s_lload_n, s_istore, s_istore_n, s_astore, s_astoreN, s_astore_n, s_astore_nN, s_lstore, s_lstore_n, s_iinc, s_iconst, s_bipush, s_sipush, s_lconst, s_ldc2_w, s_aconst_null, s_dupA, s_dupI, s_dup2, s_iadd, s_isub, s_imul, s_iand, s_ior, s_ixor, s_ishl, s_ishr, s_iushr, s_ineg, s_idiv, s_irem, s_ladd, s_lsub, s_lmul, s_land, s_lor, s_lxor, s_ldiv, s_lshl, s_lshr, s_lushr, s_i2l, s_l2i, s_lcmp, s_goto, s_ieq, s_ine, s_ilt, s_ige, s_igt, s_ile, s_zeq, s_zne, s_zlt, s_zge, s_zgt, s_zle, s_ifnull, s_ifnullN, s_ifnonnull, s_ifnonnullN, s_tableswitch, s_lookupswitch, s_getfield, s_putfield, s_getstatic, s_iaload, s_laload, s_baload, s_aaload, s_iastore, s_lastore, s_bastore, s_aastore, s_arraylength, s_newI, s_newJ, s_newZ, s_anewarray, s_new, s_copy, s_max, s_min, s_invokestatic, s_objinit, s_invokespecial, kf_isr_r, s_invokevirtual, s_ireturn, s_lreturn, s_areturn, s_areturnN, s_return, lI_0, lI_s, lJ_0, lJ_s, lA_0, lA_0N, lA_s, lS1_0, lS1_1, lS1_2, lS2_0, lS2_1, lS2_2, lK_n, lK_i, lK_j, lK_a, lK_N, d_C', kf_w_0, kf_w_i, kf_w_a, kf_w_n, kf_w_j, c_0, c_1, c_2, c_3, c_4, c_5, c_6, tl_0, tl_1, Option.bind_some, Option.bind_none, Option.map_some, Nat.reduceAdd, Nat.reduceMul, Nat.reduceDiv, Nat.reduceMod, Int.reduceToNat, Fin.val_zero, Fin.isValue, Fin.val_one, Fin.val_two, fv_0, fv_1, fv_2, fv_3, fw_0, fw_1, d_ite, true_or, or_true, and_false, false_and, or_self, and_self, e]), h, Off.rf⟩
  | succ n ih =>
    intro i M kn mu le mo hi hM h hz
    have e : ¬ (24 : Int32) ≤ nI i := nI_ge (a := i) (b := 24) (by omega) (by omega)
    obtain ⟨g, ga, gb, gc, gi, gz, gj, gk, p0, p1, l1, l2, l3, l4⟩ := KN.gs (i := i) hM h (by omega)
    have r66 := hM.rf 66 335 (by decide)
    have r67 := hM.rf 67 336 (by decide)
    have r68 := hM.rf 68 337 (by decide)
    have r69 := hM.rf 69 338 (by decide)
    have oo := oW4 (M := M) (a := oI (kn.set i 0)) (b := oZ (mu.set i 0)) (c := oI (le.set i 0)) (d := oI (mo.set i 0))
    obtain ⟨M', k, h', o'⟩ := ih (i + 1) _ _ _ _ _ (by omega) (hM.off oo (by decide)) (h.w (i := i) (a := 0) (b := 0) (c := 0) (d := 0)) (fun j hj => by
      by_cases c : i = j
      · subst c
        rw [gD_self (by omega), gD_self (by omega), gD_self (by omega), gD_self (by omega)]
        exact ⟨rfl, rfl, rfl, rfl⟩
      · rw [gD_ne c, gD_ne c, gD_ne c, gD_ne c]
        exact hz j (by omega))
    refine ⟨M', (e175_2 _ _ _).trans (Eq.trans ?_ k), h', oo.tr o'⟩
    simp only [cl_175, e175_0, e175_1, e175_3, e175_5, e175_8, e175_9, e175_12, e175_13, e175_14, e175_15, e175_16, e175_19, e175_20, e175_21, e175_22, e175_23, e175_26, e175_27, e175_28, e175_29, e175_30, e175_33, e175_34, e175_35, e175_36, e175_39, e175_42, ow_175, Int32.reduceOfInt, Int32.reduceOfNat, Int32.reduceToNatClampNeg, Int32.reduceLT, Int32.reduceLE, Int32.reduceAdd, Int32.reduceSub, Int32.reduceMul, Int64.reduceOfNat, Int64.reduceOfInt, Nat.reduceLeDiff, Nat.reduceLT, Nat.reduceEqDiff, Nat.reduceSub, cs_0, cs_1, cs_2, cs_3, cs_4, cs_5, cs_6, cs_7, cs_8, or_false, false_or, not_false_eq_true, and_true, true_and, if_true, if_false, List.length_cons, List.length_nil, List.getElem?_cons_succ, List.getElem?_cons_zero, List.set_cons_succ, List.set_cons_zero, reduceIte, d_G, d_R, s_aload, s_aload_n, s_iload, s_iload_n, s_lload, s_lload_n, s_istore, s_istore_n, s_astore, s_astoreN, s_astore_n, s_astore_nN, s_lstore, s_lstore_n, s_iinc, s_iconst, s_bipush, s_sipush, s_lconst, s_ldc2_w, s_aconst_null, s_dupA, s_dupI, s_dup2, s_iadd, s_isub, s_imul, s_iand, s_ior, s_ixor, s_ishl, s_ishr, s_iushr, s_ineg, s_idiv, s_irem, s_ladd, s_lsub, s_lmul, s_land, s_lor, s_lxor, s_ldiv, s_lshl, s_lshr, s_lushr, s_i2l, s_l2i, s_lcmp, s_goto, s_ieq, s_ine, s_ilt, s_ige, s_igt, s_ile, s_zeq, s_zne, s_zlt, s_zge, s_zgt, s_zle, s_ifnull, s_ifnullN, s_ifnonnull, s_ifnonnullN, s_tableswitch, s_lookupswitch, s_getfield, s_putfield, s_getstatic, s_iaload, s_laload, s_baload, s_aaload, s_iastore, s_lastore, s_bastore, s_aastore, s_arraylength, s_newI, s_newJ, s_newZ, s_anewarray, s_new, s_copy, s_max, s_min, s_invokestatic, s_objinit, s_invokespecial, kf_isr_r, s_invokevirtual, s_ireturn, s_lreturn, s_areturn, s_areturnN, s_return, lI_0, lI_s, lJ_0, lJ_s, lA_0, lA_0N, lA_s, lS1_0, lS1_1, lS1_2, lS2_0, lS2_1, lS2_2, lK_n, lK_i, lK_j, lK_a, lK_N, d_C', kf_w_0, kf_w_i, kf_w_a, kf_w_n, kf_w_j, c_0, c_1, c_2, c_3, c_4, c_5, c_6, tl_0, tl_1, Option.bind_some, Option.bind_none, Option.map_some, Nat.reduceAdd, Nat.reduceMul, Nat.reduceDiv, Nat.reduceMod, Int.reduceToNat, Fin.val_zero, Fin.isValue, Fin.val_one, Fin.val_two, fv_0, fv_1, fv_2, fv_3, fw_0, fw_1, d_ite, true_or, or_true, and_false, false_and, or_self, and_self, e, g, ga, gb, gc, gi, gz, gj, gk, p0, p1, l1, l2, l3, l4, r66, r67, r68, r69, n5, n6, n7, n8, kf_NS, nI_1, zz, not_true_eq_false]
theorem r175 {M : kf_M} {fs : List Value} {kn mu le mo : List Int32} (hM : MdIs M fs) (h : KN M kn mu le mo) : ∃ (M' : kf_M), kf_cl 175 [.ref 284] M = some (none, M') ∧ KN M' (List.replicate 24 0) (List.replicate 24 0) (List.replicate 24 0) (List.replicate 24 0) ∧ Off A175 M M' := by
  obtain ⟨M', k, h', o⟩ := r175l 24 0 M kn mu le mo (by omega) hM h (fun j hj => by omega)
  rw [nI_0] at k
  exact ⟨M', by simp only [cl_175, e175_0, e175_1, e175_3, e175_5, e175_8, e175_9, e175_12, e175_13, e175_14, e175_15, e175_16, e175_19, e175_20, e175_21, e175_22, e175_23, e175_26, e175_27, e175_28, e175_29, e175_30, e175_33, e175_34, e175_35, e175_36, e175_39, e175_42, ow_175, Int32.reduceOfInt, Int32.reduceOfNat, Int32.reduceToNatClampNeg, Int32.reduceLT, Int32.reduceLE, Int32.reduceAdd, Int32.reduceSub, Int32.reduceMul, Int64.reduceOfNat, Int64.reduceOfInt, Nat.reduceLeDiff, Nat.reduceLT, Nat.reduceEqDiff, Nat.reduceSub, cs_0, cs_1, cs_2, cs_3, cs_4, cs_5, cs_6, cs_7, cs_8, or_false, false_or, not_false_eq_true, and_true, true_and, if_true, if_false, List.length_cons, List.length_nil, List.getElem?_cons_succ, List.getElem?_cons_zero, List.set_cons_succ, List.set_cons_zero, reduceIte, d_G, d_R, s_aload, s_aload_n, s_iload, s_iload_n, s_lload, s_lload_n, s_istore, s_istore_n, s_astore, s_astoreN, s_astore_n, s_astore_nN, s_lstore, s_lstore_n, s_iinc, s_iconst, s_bipush, s_sipush, s_lconst, s_ldc2_w, s_aconst_null, s_dupA, s_dupI, s_dup2, s_iadd, s_isub, s_imul, s_iand, s_ior, s_ixor, s_ishl, s_ishr, s_iushr, s_ineg, s_idiv, s_irem, s_ladd, s_lsub, s_lmul, s_land, s_lor, s_lxor, s_ldiv, s_lshl, s_lshr, s_lushr, s_i2l, s_l2i, s_lcmp, s_goto, s_ieq, s_ine, s_ilt, s_ige, s_igt, s_ile, s_zeq, s_zne, s_zlt, s_zge, s_zgt, s_zle, s_ifnull, s_ifnullN, s_ifnonnull, s_ifnonnullN, s_tableswitch, s_lookupswitch, s_getfield, s_putfield, s_getstatic, s_iaload, s_laload, s_baload, s_aaload, s_iastore, s_lastore, s_bastore, s_aastore, s_arraylength, s_newI, s_newJ, s_newZ, s_anewarray, s_new, s_copy, s_max, s_min, s_invokestatic, s_objinit, s_invokespecial, kf_isr_r, s_invokevirtual, s_ireturn, s_lreturn, s_areturn, s_areturnN, s_return, lI_0, lI_s, lJ_0, lJ_s, lA_0, lA_0N, lA_s, lS1_0, lS1_1, lS1_2, lS2_0, lS2_1, lS2_2, lK_n, lK_i, lK_j, lK_a, lK_N, d_C', kf_w_0, kf_w_i, kf_w_a, kf_w_n, kf_w_j, c_0, c_1, c_2, c_3, c_4, c_5, c_6, tl_0, tl_1, Option.bind_some, Option.bind_none, Option.map_some, Nat.reduceAdd, Nat.reduceMul, Nat.reduceDiv, Nat.reduceMod, Int.reduceToNat, Fin.val_zero, Fin.isValue, Fin.val_one, Fin.val_two, fv_0, fv_1, fv_2, fv_3, fw_0, fw_1, d_ite, true_or, or_true, and_false, false_and, or_self, and_self, k], h', o⟩
theorem r176 {M : kf_M} {fs : List Value} {kn mu le mo : List Int32} {i : Nat} {a b c d : Int32} (hM : MdIs M fs) (h : KN M kn mu le mo) (hi : i < 24) (hb : b = 0 ∨ b = 1) : ∃ (M' : kf_M), kf_cl 176 [.ref 284, .int (nI i), .int a, .int b, .int c, .int d] M = some (none, M') ∧ KN M' (kn.set i a) (mu.set i b) (le.set i c) (mo.set i d) ∧ Off A175 M M' := by
  have zz : (b = 0 ∨ b = 1) = True := eq_true hb
  have n5 := n335
  have n6 := n336
  have n7 := n337
  have n8 := n338
  obtain ⟨g, ga, gb, gc, gi, gz, gj, gk, p0, p1, l1, l2, l3, l4⟩ := KN.gs (i := i) hM h hi
  have r66 := hM.rf 66 335 (by decide)
  have r67 := hM.rf 67 336 (by decide)
  have r68 := hM.rf 68 337 (by decide)
  have r69 := hM.rf 69 338 (by decide)
  refine ⟨_, ?_, h.w (i := i) (a := a) (b := b) (c := c) (d := d), oW4⟩
  simp only [cl_176, e176_0, e176_1, e176_4, e176_5, e176_6, e176_7, e176_8, e176_11, e176_12, e176_13, e176_14, e176_15, e176_18, e176_19, e176_21, e176_22, e176_23, e176_26, e176_27, e176_29, e176_30, ow_176, Int32.reduceOfInt, Int32.reduceOfNat, Int32.reduceToNatClampNeg, Int32.reduceLT, Int32.reduceLE, Int32.reduceAdd, Int32.reduceSub, Int32.reduceMul, Int64.reduceOfNat, Int64.reduceOfInt, Nat.reduceLeDiff, Nat.reduceLT, Nat.reduceEqDiff, Nat.reduceSub, cs_0, cs_1, cs_2, cs_3, cs_4, cs_5, cs_6, cs_7, cs_8, or_false, false_or, not_false_eq_true, and_true, true_and, if_true, if_false, List.length_cons, List.length_nil, List.getElem?_cons_succ, List.getElem?_cons_zero, List.set_cons_succ, List.set_cons_zero, reduceIte, d_G, d_R, s_aload, s_aload_n, s_iload, s_iload_n, s_lload, s_lload_n, s_istore, s_istore_n, s_astore, s_astoreN, s_astore_n, s_astore_nN, s_lstore, s_lstore_n, s_iinc, s_iconst, s_bipush, s_sipush, s_lconst, s_ldc2_w, s_aconst_null, s_dupA, s_dupI, s_dup2, s_iadd, s_isub, s_imul, s_iand, s_ior, s_ixor, s_ishl, s_ishr, s_iushr, s_ineg, s_idiv, s_irem, s_ladd, s_lsub, s_lmul, s_land, s_lor, s_lxor, s_ldiv, s_lshl, s_lshr, s_lushr, s_i2l, s_l2i, s_lcmp, s_goto, s_ieq, s_ine, s_ilt, s_ige, s_igt, s_ile, s_zeq, s_zne, s_zlt, s_zge, s_zgt, s_zle, s_ifnull, s_ifnullN, s_ifnonnull, s_ifnonnullN, s_tableswitch, s_lookupswitch, s_getfield, s_putfield, s_getstatic, s_iaload, s_laload, s_baload, s_aaload, s_iastore, s_lastore, s_bastore, s_aastore, s_arraylength, s_newI, s_newJ, s_newZ, s_anewarray, s_new, s_copy, s_max, s_min, s_invokestatic, s_objinit, s_invokespecial, kf_isr_r, s_invokevirtual, s_ireturn, s_lreturn, s_areturn, s_areturnN, s_return, lI_0, lI_s, lJ_0, lJ_s, lA_0, lA_0N, lA_s, lS1_0, lS1_1, lS1_2, lS2_0, lS2_1, lS2_2, lK_n, lK_i, lK_j, lK_a, lK_N, d_C', kf_w_0, kf_w_i, kf_w_a, kf_w_n, kf_w_j, c_0, c_1, c_2, c_3, c_4, c_5, c_6, tl_0, tl_1, Option.bind_some, Option.bind_none, Option.map_some, Nat.reduceAdd, Nat.reduceMul, Nat.reduceDiv, Nat.reduceMod, Int.reduceToNat, Fin.val_zero, Fin.isValue, Fin.val_one, Fin.val_two, fv_0, fv_1, fv_2, fv_3, fw_0, fw_1, d_ite, true_or, or_true, and_false, false_and, or_self, and_self, g, ga, gb, gc, gi, gz, gj, gk, p0, p1, l1, l2, l3, l4, r66, r67, r68, r69, n5, n6, n7, n8, kf_NS, zz, not_true_eq_false]
/-! the tables, as numbers -/
def KT4 (M : kf_M) (tk tm tl th : List Nat) : Prop := KN M (tk.map nI) (tm.map nI) (tl.map nI) (th.map nI) ∧ tk.length = 24 ∧ tm.length = 24 ∧ tl.length = 24 ∧ th.length = 24 ∧ (∀ x ∈ tk, x < 10) ∧ (∀ x ∈ tm, x < 2) ∧ (∀ x ∈ tl, x < 100) ∧ (∀ x ∈ th, x < 100)
theorem KT4.off {M M' : kf_M} {A : List Nat} {tk tm tl th : List Nat} (h : KT4 M tk tm tl th) (ho : Off A M M') (hA : ∀ a ∈ A, a ∉ [335, 336, 337, 338]) : KT4 M' tk tm tl th := ⟨h.1.off ho hA, h.2⟩
theorem nD_get {xs : List Nat} {i : Nat} (h : i < xs.length) : (xs.map nI)[i]? = some (nI (xs.getD i 0)) := by
  rw [List.getElem?_map, List.getElem?_eq_getElem h, List.getD_eq_getElem?_getD, List.getElem?_eq_getElem h]
  rfl
theorem nD_mem {xs : List Nat} {i : Nat} {P : Nat → Prop} (h : i < xs.length) (hP : ∀ x ∈ xs, P x) : P (xs.getD i 0) := by
  rw [List.getD_eq_getElem?_getD, List.getElem?_eq_getElem h]
  exact hP _ (List.getElem_mem h)
section MREF
variable {M : kf_M} {fs : List Value} {cs kk fr sz : List Int32} {p nm : Nat} {tk tm tl th : List Nat} {m : PM}
theorem r177 {n : Nat} (hM : MdIs M fs) (h : KT4 M tk tm tl th) (hn : nm < 24) (h2 : n < 2 ^ 20) : kf_cl 177 [.ref 284, .int (nI nm), .int (nI n)] M = some (some (.int (if tl.getD nm 0 ≤ n ∧ n ≤ th.getD nm 0 then 1 else 0)), M) := by
  obtain ⟨⟨-, -, c1, d1⟩, -, -, l3, l4, -, -, b3, b4⟩ := h
  have g := gO_of hM.1
  have r68 := hM.rf 68 337 (by decide)
  have r69 := hM.rf 69 338 (by decide)
  have gl := gI_of c1.1
  have gh := gI_of d1.1
  have w1 := nD_get (xs := tl) (i := nm) (by omega)
  have w2 := nD_get (xs := th) (i := nm) (by omega)
  have q1 := nD_mem (xs := tl) (i := nm) (by omega) b3
  have q2 := nD_mem (xs := th) (i := nm) (by omega) b4
  have p0 : ¬ nI nm < 0 := nI_pos (by omega)
  have p1 : (nI nm).toNatClampNeg = nm := nI_clamp (by omega)
  by_cases c : n < tl.getD nm 0
  · have e : nI n < nI (tl.getD nm 0) := nI_lt c (by omega)
    rw [if_neg (by omega)]
    simp only [cl_177, e177_0, e177_1, e177_2, e177_5, e177_6, e177_7, e177_10, e177_11, e177_12, e177_15, e177_16, e177_17, e177_20, e177_21, e177_24, e177_25, ow_177, Int32.reduceOfInt, Int32.reduceOfNat, Int32.reduceToNatClampNeg, Int32.reduceLT, Int32.reduceLE, Int32.reduceAdd, Int32.reduceSub, Int32.reduceMul, Int64.reduceOfNat, Int64.reduceOfInt, Nat.reduceLeDiff, Nat.reduceLT, Nat.reduceEqDiff, Nat.reduceSub, cs_0, cs_1, cs_2, cs_3, cs_4, cs_5, cs_6, cs_7, cs_8, or_false, false_or, not_false_eq_true, and_true, true_and, if_true, if_false, List.length_cons, List.length_nil, List.getElem?_cons_succ, List.getElem?_cons_zero, List.set_cons_succ, List.set_cons_zero, reduceIte, d_G, d_R, s_aload, s_aload_n, s_iload, s_iload_n, s_lload, s_lload_n, s_istore, s_istore_n, s_astore, s_astoreN, s_astore_n, s_astore_nN, s_lstore, s_lstore_n, s_iinc, s_iconst, s_bipush, s_sipush, s_lconst, s_ldc2_w, s_aconst_null, s_dupA, s_dupI, s_dup2, s_iadd, s_isub, s_imul, s_iand, s_ior, s_ixor, s_ishl, s_ishr, s_iushr, s_ineg, s_idiv, s_irem, s_ladd, s_lsub, s_lmul, s_land, s_lor, s_lxor, s_ldiv, s_lshl, s_lshr, s_lushr, s_i2l, s_l2i, s_lcmp, s_goto, s_ieq, s_ine, s_ilt, s_ige, s_igt, s_ile, s_zeq, s_zne, s_zlt, s_zge, s_zgt, s_zle, s_ifnull, s_ifnullN, s_ifnonnull, s_ifnonnullN, s_tableswitch, s_lookupswitch, s_getfield, s_putfield, s_getstatic, s_iaload, s_laload, s_baload, s_aaload, s_iastore, s_lastore, s_bastore, s_aastore, s_arraylength, s_newI, s_newJ, s_newZ, s_anewarray, s_new, s_copy, s_max, s_min, s_invokestatic, s_objinit, s_invokespecial, kf_isr_r, s_invokevirtual, s_ireturn, s_lreturn, s_areturn, s_areturnN, s_return, lI_0, lI_s, lJ_0, lJ_s, lA_0, lA_0N, lA_s, lS1_0, lS1_1, lS1_2, lS2_0, lS2_1, lS2_2, lK_n, lK_i, lK_j, lK_a, lK_N, d_C', kf_w_0, kf_w_i, kf_w_a, kf_w_n, kf_w_j, c_0, c_1, c_2, c_3, c_4, c_5, c_6, tl_0, tl_1, Option.bind_some, Option.bind_none, Option.map_some, Nat.reduceAdd, Nat.reduceMul, Nat.reduceDiv, Nat.reduceMod, Int.reduceToNat, Fin.val_zero, Fin.isValue, Fin.val_one, Fin.val_two, fv_0, fv_1, fv_2, fv_3, fw_0, fw_1, d_ite, true_or, or_true, and_false, false_and, or_self, and_self, g, r68, gl, p0, p1, w1, e]
  · have e : ¬ nI n < nI (tl.getD nm 0) := nI_nlt (by omega) (by omega)
    by_cases d : n ≤ th.getD nm 0
    · have e2 : ¬ nI (th.getD nm 0) < nI n := nI_nlt (by omega) (by omega)
      rw [if_pos (by omega)]
      simp only [cl_177, e177_0, e177_1, e177_2, e177_5, e177_6, e177_7, e177_10, e177_11, e177_12, e177_15, e177_16, e177_17, e177_20, e177_21, e177_24, e177_25, ow_177, Int32.reduceOfInt, Int32.reduceOfNat, Int32.reduceToNatClampNeg, Int32.reduceLT, Int32.reduceLE, Int32.reduceAdd, Int32.reduceSub, Int32.reduceMul, Int64.reduceOfNat, Int64.reduceOfInt, Nat.reduceLeDiff, Nat.reduceLT, Nat.reduceEqDiff, Nat.reduceSub, cs_0, cs_1, cs_2, cs_3, cs_4, cs_5, cs_6, cs_7, cs_8, or_false, false_or, not_false_eq_true, and_true, true_and, if_true, if_false, List.length_cons, List.length_nil, List.getElem?_cons_succ, List.getElem?_cons_zero, List.set_cons_succ, List.set_cons_zero, reduceIte, d_G, d_R, s_aload, s_aload_n, s_iload, s_iload_n, s_lload, s_lload_n, s_istore, s_istore_n, s_astore, s_astoreN, s_astore_n, s_astore_nN, s_lstore, s_lstore_n, s_iinc, s_iconst, s_bipush, s_sipush, s_lconst, s_ldc2_w, s_aconst_null, s_dupA, s_dupI, s_dup2, s_iadd, s_isub, s_imul, s_iand, s_ior, s_ixor, s_ishl, s_ishr, s_iushr, s_ineg, s_idiv, s_irem, s_ladd, s_lsub, s_lmul, s_land, s_lor, s_lxor, s_ldiv, s_lshl, s_lshr, s_lushr, s_i2l, s_l2i, s_lcmp, s_goto, s_ieq, s_ine, s_ilt, s_ige, s_igt, s_ile, s_zeq, s_zne, s_zlt, s_zge, s_zgt, s_zle, s_ifnull, s_ifnullN, s_ifnonnull, s_ifnonnullN, s_tableswitch, s_lookupswitch, s_getfield, s_putfield, s_getstatic, s_iaload, s_laload, s_baload, s_aaload, s_iastore, s_lastore, s_bastore, s_aastore, s_arraylength, s_newI, s_newJ, s_newZ, s_anewarray, s_new, s_copy, s_max, s_min, s_invokestatic, s_objinit, s_invokespecial, kf_isr_r, s_invokevirtual, s_ireturn, s_lreturn, s_areturn, s_areturnN, s_return, lI_0, lI_s, lJ_0, lJ_s, lA_0, lA_0N, lA_s, lS1_0, lS1_1, lS1_2, lS2_0, lS2_1, lS2_2, lK_n, lK_i, lK_j, lK_a, lK_N, d_C', kf_w_0, kf_w_i, kf_w_a, kf_w_n, kf_w_j, c_0, c_1, c_2, c_3, c_4, c_5, c_6, tl_0, tl_1, Option.bind_some, Option.bind_none, Option.map_some, Nat.reduceAdd, Nat.reduceMul, Nat.reduceDiv, Nat.reduceMod, Int.reduceToNat, Fin.val_zero, Fin.isValue, Fin.val_one, Fin.val_two, fv_0, fv_1, fv_2, fv_3, fw_0, fw_1, d_ite, true_or, or_true, and_false, false_and, or_self, and_self, g, r68, r69, gl, gh, p0, p1, w1, w2, e, e2]
    · have e2 : nI (th.getD nm 0) < nI n := nI_lt (by omega) (by omega)
      rw [if_neg (by omega)]
      simp only [cl_177, e177_0, e177_1, e177_2, e177_5, e177_6, e177_7, e177_10, e177_11, e177_12, e177_15, e177_16, e177_17, e177_20, e177_21, e177_24, e177_25, ow_177, Int32.reduceOfInt, Int32.reduceOfNat, Int32.reduceToNatClampNeg, Int32.reduceLT, Int32.reduceLE, Int32.reduceAdd, Int32.reduceSub, Int32.reduceMul, Int64.reduceOfNat, Int64.reduceOfInt, Nat.reduceLeDiff, Nat.reduceLT, Nat.reduceEqDiff, Nat.reduceSub, cs_0, cs_1, cs_2, cs_3, cs_4, cs_5, cs_6, cs_7, cs_8, or_false, false_or, not_false_eq_true, and_true, true_and, if_true, if_false, List.length_cons, List.length_nil, List.getElem?_cons_succ, List.getElem?_cons_zero, List.set_cons_succ, List.set_cons_zero, reduceIte, d_G, d_R, s_aload, s_aload_n, s_iload, s_iload_n, s_lload, s_lload_n, s_istore, s_istore_n, s_astore, s_astoreN, s_astore_n, s_astore_nN, s_lstore, s_lstore_n, s_iinc, s_iconst, s_bipush, s_sipush, s_lconst, s_ldc2_w, s_aconst_null, s_dupA, s_dupI, s_dup2, s_iadd, s_isub, s_imul, s_iand, s_ior, s_ixor, s_ishl, s_ishr, s_iushr, s_ineg, s_idiv, s_irem, s_ladd, s_lsub, s_lmul, s_land, s_lor, s_lxor, s_ldiv, s_lshl, s_lshr, s_lushr, s_i2l, s_l2i, s_lcmp, s_goto, s_ieq, s_ine, s_ilt, s_ige, s_igt, s_ile, s_zeq, s_zne, s_zlt, s_zge, s_zgt, s_zle, s_ifnull, s_ifnullN, s_ifnonnull, s_ifnonnullN, s_tableswitch, s_lookupswitch, s_getfield, s_putfield, s_getstatic, s_iaload, s_laload, s_baload, s_aaload, s_iastore, s_lastore, s_bastore, s_aastore, s_arraylength, s_newI, s_newJ, s_newZ, s_anewarray, s_new, s_copy, s_max, s_min, s_invokestatic, s_objinit, s_invokespecial, kf_isr_r, s_invokevirtual, s_ireturn, s_lreturn, s_areturn, s_areturnN, s_return, lI_0, lI_s, lJ_0, lJ_s, lA_0, lA_0N, lA_s, lS1_0, lS1_1, lS1_2, lS2_0, lS2_1, lS2_2, lK_n, lK_i, lK_j, lK_a, lK_N, d_C', kf_w_0, kf_w_i, kf_w_a, kf_w_n, kf_w_j, c_0, c_1, c_2, c_3, c_4, c_5, c_6, tl_0, tl_1, Option.bind_some, Option.bind_none, Option.map_some, Nat.reduceAdd, Nat.reduceMul, Nat.reduceDiv, Nat.reduceMod, Int.reduceToNat, Fin.val_zero, Fin.isValue, Fin.val_one, Fin.val_two, fv_0, fv_1, fv_2, fv_3, fw_0, fw_1, d_ite, true_or, or_true, and_false, false_and, or_self, and_self, g, r68, r69, gl, gh, p0, p1, w1, w2, e, e2]
end MREF
theorem r178l {cs kk fr sz : List Int32} {nm k : Nat} (hb : isB cs) (hk : k < 2 ^ 20) : ∀ (j i : Nat) (M : kf_M) (fs : List Value) (p n : Nat) (its : List (Nat × Nat)) (q_ : Nat) (x : Int32) (e9 : Nat × Nat), i + j = k → MT M fs cs kk fr sz p → p ≤ cs.length → pit cs n p = some (its, q_) → its[j]? = some e9 → ∃ (M' : kf_M) (fs' : List Value), kf_ev 178 15 [some (.ref 284), some (.int (nI nm)), some (.int (nI k)), some (.int x), some (.int (nI i))] [] M = kf_ev 178 39 [some (.ref 284), some (.int (nI nm)), some (.int (nI k)), some (.int (nI e9.2)), some (.int (nI (k + 1)))] [] M' ∧ MT M' fs' cs kk fr sz (e9.1 + e9.2) ∧ Fo [65] fs fs' ∧ Off [284] M M' := by
  intro j
  induction j with
  | zero =>
    intro i M fs p n its q_ x e9 hi h hp hq he
    have hi : i = k := by omega
    subst hi
    cases n with
    | zero => cases hq; cases he
    | succ n =>
      unfold pit at hq
      by_cases c3 : 64 ≤ byn cs p ∧ byn cs p < 96
      case neg => rw [if_neg c3] at hq; cases hq
      rw [if_pos c3] at hq
      have hpl := byn_lt (cs := cs) (p := p) (by omega)
      cases hl : pln cs (byn cs p - 64) (p + 1) with
      | none => rw [hl] at hq; cases hq
      | some r =>
        obtain ⟨z, s⟩ := r
        rw [hl, Option.bind_some] at hq
        have hkk := pln_ok hl (by omega)
        by_cases c5 : s + z ≤ cs.length
        case neg => rw [if_neg c5] at hq; cases hq
        rw [if_pos c5] at hq
        have ee : e9 = (s, z) := by
          cases hq2 : pit cs n (s + z) with
          | none => rw [hq2] at hq; cases hq
          | some t =>
            rw [hq2] at hq
            cases hq
            cases he
            rfl
        subst ee
        obtain ⟨M1, f1, k1, h1, F1, o1⟩ := r169y hb h (by omega)
        obtain ⟨M2, f2, k2, h2, F2, o2⟩ := r171y hb h1 (by omega) hl c5
        have rc := h.1.rc
        have rc1 := h1.1.rc
        have e0 : ¬ nI i < nI i := nI_nlt (Nat.le_refl _) (by omega)
        have e1 : nI i < nI (i + 1) := nI_lt (by omega) (by omega)
        have e64 : nI (byn cs p) - 64 = nI (byn cs p - 64) := pk_sub (b := 64) (by omega)
        refine ⟨M2, f2, (e178_15 _ _ _).trans ?_, h2, F1.tr F2, o1.tr o2⟩
        have hd : kf_ev 178 15 [some (.ref 284), some (.int (nI nm)), some (.int (nI i)), some (.int (nI z)), some (.int (nI (i + 1)))] [] M2 = kf_ev 178 39 [some (.ref 284), some (.int (nI nm)), some (.int (nI i)), some (.int (nI z)), some (.int (nI (i + 1)))] [] M2 := by
          refine (e178_15 _ _ _).trans ?_
          simp only [cl_178, e178_0, e178_1, e178_2, e178_5, e178_6, e178_7, e178_10, e178_11, e178_12, e178_13, e178_17, e178_18, e178_21, e178_22, e178_23, e178_26, e178_28, e178_29, e178_32, e178_33, e178_36, e178_40, e178_41, e178_44, e178_45, e178_46, e178_49, e178_50, ow_178, Int32.reduceOfInt, Int32.reduceOfNat, Int32.reduceToNatClampNeg, Int32.reduceLT, Int32.reduceLE, Int32.reduceAdd, Int32.reduceSub, Int32.reduceMul, Int64.reduceOfNat, Int64.reduceOfInt, Nat.reduceLeDiff, Nat.reduceLT, Nat.reduceEqDiff, Nat.reduceSub, cs_0, cs_1, cs_2, cs_3, cs_4, cs_5, cs_6, cs_7, cs_8, or_false, false_or, not_false_eq_true, and_true, true_and, if_true, if_false, List.length_cons, List.length_nil, List.getElem?_cons_succ, List.getElem?_cons_zero, List.set_cons_succ, List.set_cons_zero, reduceIte, d_G, d_R, s_aload, s_aload_n, s_iload, s_iload_n, s_lload, s_lload_n, s_istore, s_istore_n, s_astore, s_astoreN, s_astore_n, s_astore_nN, s_lstore, s_lstore_n, s_iinc, s_iconst, s_bipush, s_sipush, s_lconst, s_ldc2_w, s_aconst_null, s_dupA, s_dupI, s_dup2, s_iadd, s_isub, s_imul, s_iand, s_ior, s_ixor, s_ishl, s_ishr, s_iushr, s_ineg, s_idiv, s_irem, s_ladd, s_lsub, s_lmul, s_land, s_lor, s_lxor, s_ldiv, s_lshl, s_lshr, s_lushr, s_i2l, s_l2i, s_lcmp, s_goto, s_ieq, s_ine, s_ilt, s_ige, s_igt, s_ile, s_zeq, s_zne, s_zlt, s_zge, s_zgt, s_zle, s_ifnull, s_ifnullN, s_ifnonnull, s_ifnonnullN, s_tableswitch, s_lookupswitch, s_getfield, s_putfield, s_getstatic, s_iaload, s_laload, s_baload, s_aaload, s_iastore, s_lastore, s_bastore, s_aastore, s_arraylength, s_newI, s_newJ, s_newZ, s_anewarray, s_new, s_copy, s_max, s_min, s_invokestatic, s_objinit, s_invokespecial, kf_isr_r, s_invokevirtual, s_ireturn, s_lreturn, s_areturn, s_areturnN, s_return, lI_0, lI_s, lJ_0, lJ_s, lA_0, lA_0N, lA_s, lS1_0, lS1_1, lS1_2, lS2_0, lS2_1, lS2_2, lK_n, lK_i, lK_j, lK_a, lK_N, d_C', kf_w_0, kf_w_i, kf_w_a, kf_w_n, kf_w_j, c_0, c_1, c_2, c_3, c_4, c_5, c_6, tl_0, tl_1, Option.bind_some, Option.bind_none, Option.map_some, Nat.reduceAdd, Nat.reduceMul, Nat.reduceDiv, Nat.reduceMod, Int.reduceToNat, Fin.val_zero, Fin.isValue, Fin.val_one, Fin.val_two, fv_0, fv_1, fv_2, fv_3, fw_0, fw_1, d_ite, true_or, or_true, and_false, false_and, or_self, and_self, e1]
        simp only [cl_178, e178_0, e178_1, e178_2, e178_5, e178_6, e178_7, e178_10, e178_11, e178_12, e178_13, e178_17, e178_18, e178_21, e178_22, e178_23, e178_26, e178_28, e178_29, e178_32, e178_33, e178_36, e178_40, e178_41, e178_44, e178_45, e178_46, e178_49, e178_50, ow_178, Int32.reduceOfInt, Int32.reduceOfNat, Int32.reduceToNatClampNeg, Int32.reduceLT, Int32.reduceLE, Int32.reduceAdd, Int32.reduceSub, Int32.reduceMul, Int64.reduceOfNat, Int64.reduceOfInt, Nat.reduceLeDiff, Nat.reduceLT, Nat.reduceEqDiff, Nat.reduceSub, cs_0, cs_1, cs_2, cs_3, cs_4, cs_5, cs_6, cs_7, cs_8, or_false, false_or, not_false_eq_true, and_true, true_and, if_true, if_false, List.length_cons, List.length_nil, List.getElem?_cons_succ, List.getElem?_cons_zero, List.set_cons_succ, List.set_cons_zero, reduceIte, d_G, d_R, s_aload, s_aload_n, s_iload, s_iload_n, s_lload, s_lload_n, s_istore, s_istore_n, s_astore, s_astoreN, s_astore_n, s_astore_nN, s_lstore, s_lstore_n, s_iinc, s_iconst, s_bipush, s_sipush, s_lconst, s_ldc2_w, s_aconst_null, s_dupA, s_dupI, s_dup2, s_iadd, s_isub, s_imul, s_iand, s_ior, s_ixor, s_ishl, s_ishr, s_iushr, s_ineg, s_idiv, s_irem, s_ladd, s_lsub, s_lmul, s_land, s_lor, s_lxor, s_ldiv, s_lshl, s_lshr, s_lushr, s_i2l, s_l2i, s_lcmp, s_goto, s_ieq, s_ine, s_ilt, s_ige, s_igt, s_ile, s_zeq, s_zne, s_zlt, s_zge, s_zgt, s_zle, s_ifnull, s_ifnullN, s_ifnonnull, s_ifnonnullN, s_tableswitch, s_lookupswitch, s_getfield, s_putfield, s_getstatic, s_iaload, s_laload, s_baload, s_aaload, s_iastore, s_lastore, s_bastore, s_aastore, s_arraylength, s_newI, s_newJ, s_newZ, s_anewarray, s_new, s_copy, s_max, s_min, s_invokestatic, s_objinit, s_invokespecial, kf_isr_r, s_invokevirtual, s_ireturn, s_lreturn, s_areturn, s_areturnN, s_return, lI_0, lI_s, lJ_0, lJ_s, lA_0, lA_0N, lA_s, lS1_0, lS1_1, lS1_2, lS2_0, lS2_1, lS2_2, lK_n, lK_i, lK_j, lK_a, lK_N, d_C', kf_w_0, kf_w_i, kf_w_a, kf_w_n, kf_w_j, c_0, c_1, c_2, c_3, c_4, c_5, c_6, tl_0, tl_1, Option.bind_some, Option.bind_none, Option.map_some, Nat.reduceAdd, Nat.reduceMul, Nat.reduceDiv, Nat.reduceMod, Int.reduceToNat, Fin.val_zero, Fin.isValue, Fin.val_one, Fin.val_two, fv_0, fv_1, fv_2, fv_3, fw_0, fw_1, d_ite, true_or, or_true, and_false, false_and, or_self, and_self, ow_169, ow_171, e0, rc, rc1, k1, e64, k2, nI_1, hd]
  | succ j ih =>
    intro i M fs p n its q_ x e9 hi h hp hq he
    cases n with
    | zero => cases hq; cases he
    | succ n =>
      unfold pit at hq
      by_cases c3 : 64 ≤ byn cs p ∧ byn cs p < 96
      case neg => rw [if_neg c3] at hq; cases hq
      rw [if_pos c3] at hq
      have hpl := byn_lt (cs := cs) (p := p) (by omega)
      cases hl : pln cs (byn cs p - 64) (p + 1) with
      | none => rw [hl] at hq; cases hq
      | some r =>
        obtain ⟨z, s⟩ := r
        rw [hl, Option.bind_some] at hq
        have hkk := pln_ok hl (by omega)
        by_cases c5 : s + z ≤ cs.length
        case neg => rw [if_neg c5] at hq; cases hq
        rw [if_pos c5] at hq
        cases hq2 : pit cs n (s + z) with
        | none => rw [hq2] at hq; cases hq
        | some t =>
          obtain ⟨ts, q2_⟩ := t
          rw [hq2] at hq
          cases hq
          have he2 : ts[j]? = some e9 := he
          obtain ⟨M1, f1, k1, h1, F1, o1⟩ := r169y hb h (by omega)
          obtain ⟨M2, f2, k2, h2, F2, o2⟩ := r171y hb h1 (by omega) hl c5
          obtain ⟨M3, f3, k3, h3, F3, o3⟩ := ih (i + 1) M2 f2 (s + z) n ts _ (nI z) e9 (by omega) h2 c5 hq2 he2
          have rc := h.1.rc
          have rc1 := h1.1.rc
          have e0 : ¬ nI k < nI i := nI_nlt (by omega) (by omega)
          have e64 : nI (byn cs p) - 64 = nI (byn cs p - 64) := pk_sub (b := 64) (by omega)
          refine ⟨M3, f3, (e178_15 _ _ _).trans (Eq.trans ?_ k3), h3, (F1.tr F2).tr F3, (o1.tr o2).tr o3⟩
          simp only [cl_178, e178_0, e178_1, e178_2, e178_5, e178_6, e178_7, e178_10, e178_11, e178_12, e178_13, e178_17, e178_18, e178_21, e178_22, e178_23, e178_26, e178_28, e178_29, e178_32, e178_33, e178_36, e178_40, e178_41, e178_44, e178_45, e178_46, e178_49, e178_50, ow_178, Int32.reduceOfInt, Int32.reduceOfNat, Int32.reduceToNatClampNeg, Int32.reduceLT, Int32.reduceLE, Int32.reduceAdd, Int32.reduceSub, Int32.reduceMul, Int64.reduceOfNat, Int64.reduceOfInt, Nat.reduceLeDiff, Nat.reduceLT, Nat.reduceEqDiff, Nat.reduceSub, cs_0, cs_1, cs_2, cs_3, cs_4, cs_5, cs_6, cs_7, cs_8, or_false, false_or, not_false_eq_true, and_true, true_and, if_true, if_false, List.length_cons, List.length_nil, List.getElem?_cons_succ, List.getElem?_cons_zero, List.set_cons_succ, List.set_cons_zero, reduceIte, d_G, d_R, s_aload, s_aload_n, s_iload, s_iload_n, s_lload, s_lload_n, s_istore, s_istore_n, s_astore, s_astoreN, s_astore_n, s_astore_nN, s_lstore, s_lstore_n, s_iinc, s_iconst, s_bipush, s_sipush, s_lconst, s_ldc2_w, s_aconst_null, s_dupA, s_dupI, s_dup2, s_iadd, s_isub, s_imul, s_iand, s_ior, s_ixor, s_ishl, s_ishr, s_iushr, s_ineg, s_idiv, s_irem, s_ladd, s_lsub, s_lmul, s_land, s_lor, s_lxor, s_ldiv, s_lshl, s_lshr, s_lushr, s_i2l, s_l2i, s_lcmp, s_goto, s_ieq, s_ine, s_ilt, s_ige, s_igt, s_ile, s_zeq, s_zne, s_zlt, s_zge, s_zgt, s_zle, s_ifnull, s_ifnullN, s_ifnonnull, s_ifnonnullN, s_tableswitch, s_lookupswitch, s_getfield, s_putfield, s_getstatic, s_iaload, s_laload, s_baload, s_aaload, s_iastore, s_lastore, s_bastore, s_aastore, s_arraylength, s_newI, s_newJ, s_newZ, s_anewarray, s_new, s_copy, s_max, s_min, s_invokestatic, s_objinit, s_invokespecial, kf_isr_r, s_invokevirtual, s_ireturn, s_lreturn, s_areturn, s_areturnN, s_return, lI_0, lI_s, lJ_0, lJ_s, lA_0, lA_0N, lA_s, lS1_0, lS1_1, lS1_2, lS2_0, lS2_1, lS2_2, lK_n, lK_i, lK_j, lK_a, lK_N, d_C', kf_w_0, kf_w_i, kf_w_a, kf_w_n, kf_w_j, c_0, c_1, c_2, c_3, c_4, c_5, c_6, tl_0, tl_1, Option.bind_some, Option.bind_none, Option.map_some, Nat.reduceAdd, Nat.reduceMul, Nat.reduceDiv, Nat.reduceMod, Int.reduceToNat, Fin.val_zero, Fin.isValue, Fin.val_one, Fin.val_two, fv_0, fv_1, fv_2, fv_3, fw_0, fw_1, d_ite, true_or, or_true, and_false, false_and, or_self, and_self, ow_169, ow_171, e0, rc, rc1, k1, e64, k2, nI_1]
theorem r178 {M : kf_M} {fs : List Value} {cs kk fr sz : List Int32} {p nm k : Nat} {m : PM} {v : PV} {e9 : Nat × Nat} (hb : isB cs) (h : MT M fs cs kk fr sz p) (hR : MR kk fr sz m) (ho : okM cs m) (hn : nm < 24) (hm : m.getD nm none = some v) (h4 : v.1 = 4) (hk : v.2.2.2[k]? = some e9) : ∃ (M' : kf_M) (fs' : List Value), kf_cl 178 [.ref 284, .int (nI nm), .int (nI k)] M = some (some (.int (nI e9.2)), M') ∧ MT M' fs' cs kk fr sz (e9.1 + e9.2) ∧ fs'[70]? = some (.int (nI e9.1)) ∧ Fo [65, 70] fs fs' ∧ Off [284] M M' := by
  have hr := hR.2 nm hn
  rw [hm] at hr
  obtain ⟨-, -, r3⟩ := hr
  have r3 := r3 (Or.inr (Or.inr h4))
  obtain ⟨-, -, -, v4, -⟩ := ho.2 nm v (mG_some hm)
  obtain ⟨w1, w2, w3, q9_, w5⟩ := v4 h4
  have hkl : k < v.2.2.2.length := (List.getElem?_eq_some_iff.mp hk).1
  have b9 := h.2.2.2.2.2.2.2.1
  obtain ⟨-, -, i3⟩ := pit_ok _ _ _ _ w5 w1
  have i3 := i3 e9 (List.mem_of_getElem? hk)
  have ha := h.at (p2 := v.2.1) (by omega)
  obtain ⟨M2, f2, k2, h2, F2, o2⟩ := r178l (nm := nm) (k := k) hb (by omega) k 0 _ _ v.2.1 v.2.2.1 v.2.2.2 q9_ 0 e9 (by omega) ha w1 w5 hk
  rw [nI_0] at k2
  have g := gO_of h.1.1
  have r62 := h.1.rf 62 333 (by decide)
  have gf := gI_of h.2.2.2.2.1.1
  have lf := h.2.2.2.2.1.2
  have l65 : 65 < fs.length := by rw [h.1.2.1]; decide
  have p0 : ¬ nI nm < 0 := nI_pos (by omega)
  have p1 : (nI nm).toNatClampNeg = nm := nI_clamp (by omega)
  have wf := getD_of (xs := fr) (i := nm) (by omega)
  rw [r3] at wf
  have g2 := gO_of h2.1.1
  have s65 := h2.2.2.1
  have l70 : 70 < f2.length := by rw [h2.1.2.1]; decide
  have es : nI (e9.1 + e9.2) - nI e9.2 = nI e9.1 := by rw [pk_sub (by omega)]; congr 1; omega
  have o3 : Off [284] M2 (M2.set 284 (oO 12 (f2.set 70 (.int (nI e9.1))))) := Off.set (by simp)
  have h3 : MT (M2.set 284 (oO 12 (f2.set 70 (.int (nI e9.1))))) (f2.set 70 (.int (nI e9.1))) cs kk fr sz (e9.1 + e9.2) := by
    obtain ⟨b1, b2, b3, b4, b5, b6, ⟨tp, b7, b8⟩, b9, b10⟩ := h2
    exact ⟨b1.set (by decide), by rw [List.getElem?_set_ne (by decide)]; exact b2, by rw [List.getElem?_set_ne (by decide)]; exact b3, b4.off o3 (by decide), b5.off o3 (by decide), b6.off o3 (by decide), ⟨tp, b7.off o3 (by decide), b8⟩, b9, b10⟩
  refine ⟨_, _, ?_, h3, List.getElem?_set_self l70, ((Fo.set.wk (by simp)).tr (F2.wk (by simp))).tr (Fo.set.wk (by simp)), ((Off.set (by simp)).tr o2).tr o3⟩
  simp only [cl_178, e178_0, e178_1, e178_2, e178_5, e178_6, e178_7, e178_10, e178_11, e178_12, e178_13, e178_17, e178_18, e178_21, e178_22, e178_23, e178_26, e178_28, e178_29, e178_32, e178_33, e178_36, e178_40, e178_41, e178_44, e178_45, e178_46, e178_49, e178_50, ow_178, Int32.reduceOfInt, Int32.reduceOfNat, Int32.reduceToNatClampNeg, Int32.reduceLT, Int32.reduceLE, Int32.reduceAdd, Int32.reduceSub, Int32.reduceMul, Int64.reduceOfNat, Int64.reduceOfInt, Nat.reduceLeDiff, Nat.reduceLT, Nat.reduceEqDiff, Nat.reduceSub, cs_0, cs_1, cs_2, cs_3, cs_4, cs_5, cs_6, cs_7, cs_8, or_false, false_or, not_false_eq_true, and_true, true_and, if_true, if_false, List.length_cons, List.length_nil, List.getElem?_cons_succ, List.getElem?_cons_zero, List.set_cons_succ, List.set_cons_zero, reduceIte, d_G, d_R, s_aload, s_aload_n, s_iload, s_iload_n, s_lload, s_lload_n, s_istore, s_istore_n, s_astore, s_astoreN, s_astore_n, s_astore_nN, s_lstore, s_lstore_n, s_iinc, s_iconst, s_bipush, s_sipush, s_lconst, s_ldc2_w, s_aconst_null, s_dupA, s_dupI, s_dup2, s_iadd, s_isub, s_imul, s_iand, s_ior, s_ixor, s_ishl, s_ishr, s_iushr, s_ineg, s_idiv, s_irem, s_ladd, s_lsub, s_lmul, s_land, s_lor, s_lxor, s_ldiv, s_lshl, s_lshr, s_lushr, s_i2l, s_l2i, s_lcmp, s_goto, s_ieq, s_ine, s_ilt, s_ige, s_igt, s_ile, s_zeq, s_zne, s_zlt, s_zge, s_zgt, s_zle, s_ifnull, s_ifnullN, s_ifnonnull, s_ifnonnullN, s_tableswitch, s_lookupswitch, s_getfield, s_putfield, s_getstatic, s_iaload, s_laload, s_baload, s_aaload, s_iastore, s_lastore, s_bastore, s_aastore, s_arraylength, s_newI, s_newJ, s_newZ, s_anewarray, s_new, s_copy, s_max, s_min, s_invokestatic, s_objinit, s_invokespecial, kf_isr_r, s_invokevirtual, s_ireturn, s_lreturn, s_areturn, s_areturnN, s_return, lI_0, lI_s, lJ_0, lJ_s, lA_0, lA_0N, lA_s, lS1_0, lS1_1, lS1_2, lS2_0, lS2_1, lS2_2, lK_n, lK_i, lK_j, lK_a, lK_N, d_C', kf_w_0, kf_w_i, kf_w_a, kf_w_n, kf_w_j, c_0, c_1, c_2, c_3, c_4, c_5, c_6, tl_0, tl_1, Option.bind_some, Option.bind_none, Option.map_some, Nat.reduceAdd, Nat.reduceMul, Nat.reduceDiv, Nat.reduceMod, Int.reduceToNat, Fin.val_zero, Fin.isValue, Fin.val_one, Fin.val_two, fv_0, fv_1, fv_2, fv_3, fw_0, fw_1, d_ite, true_or, or_true, and_false, false_and, or_self, and_self, g, r62, gf, p0, p1, wf, l65, kf_fit, k2]
  refine (e178_39 _ _ _).trans ?_
  simp only [cl_178, e178_0, e178_1, e178_2, e178_5, e178_6, e178_7, e178_10, e178_11, e178_12, e178_13, e178_17, e178_18, e178_21, e178_22, e178_23, e178_26, e178_28, e178_29, e178_32, e178_33, e178_36, e178_40, e178_41, e178_44, e178_45, e178_46, e178_49, e178_50, ow_178, Int32.reduceOfInt, Int32.reduceOfNat, Int32.reduceToNatClampNeg, Int32.reduceLT, Int32.reduceLE, Int32.reduceAdd, Int32.reduceSub, Int32.reduceMul, Int64.reduceOfNat, Int64.reduceOfInt, Nat.reduceLeDiff, Nat.reduceLT, Nat.reduceEqDiff, Nat.reduceSub, cs_0, cs_1, cs_2, cs_3, cs_4, cs_5, cs_6, cs_7, cs_8, or_false, false_or, not_false_eq_true, and_true, true_and, if_true, if_false, List.length_cons, List.length_nil, List.getElem?_cons_succ, List.getElem?_cons_zero, List.set_cons_succ, List.set_cons_zero, reduceIte, d_G, d_R, s_aload, s_aload_n, s_iload, s_iload_n, s_lload, s_lload_n, s_istore, s_istore_n, s_astore, s_astoreN, s_astore_n, s_astore_nN, s_lstore, s_lstore_n, s_iinc, s_iconst, s_bipush, s_sipush, s_lconst, s_ldc2_w, s_aconst_null, s_dupA, s_dupI, s_dup2, s_iadd, s_isub, s_imul, s_iand, s_ior, s_ixor, s_ishl, s_ishr, s_iushr, s_ineg, s_idiv, s_irem, s_ladd, s_lsub, s_lmul, s_land, s_lor, s_lxor, s_ldiv, s_lshl, s_lshr, s_lushr, s_i2l, s_l2i, s_lcmp, s_goto, s_ieq, s_ine, s_ilt, s_ige, s_igt, s_ile, s_zeq, s_zne, s_zlt, s_zge, s_zgt, s_zle, s_ifnull, s_ifnullN, s_ifnonnull, s_ifnonnullN, s_tableswitch, s_lookupswitch, s_getfield, s_putfield, s_getstatic, s_iaload, s_laload, s_baload, s_aaload, s_iastore, s_lastore, s_bastore, s_aastore, s_arraylength, s_newI, s_newJ, s_newZ, s_anewarray, s_new, s_copy, s_max, s_min, s_invokestatic, s_objinit, s_invokespecial, kf_isr_r, s_invokevirtual, s_ireturn, s_lreturn, s_areturn, s_areturnN, s_return, lI_0, lI_s, lJ_0, lJ_s, lA_0, lA_0N, lA_s, lS1_0, lS1_1, lS1_2, lS2_0, lS2_1, lS2_2, lK_n, lK_i, lK_j, lK_a, lK_N, d_C', kf_w_0, kf_w_i, kf_w_a, kf_w_n, kf_w_j, c_0, c_1, c_2, c_3, c_4, c_5, c_6, tl_0, tl_1, Option.bind_some, Option.bind_none, Option.map_some, Nat.reduceAdd, Nat.reduceMul, Nat.reduceDiv, Nat.reduceMod, Int.reduceToNat, Fin.val_zero, Fin.isValue, Fin.val_one, Fin.val_two, fv_0, fv_1, fv_2, fv_3, fw_0, fw_1, d_ite, true_or, or_true, and_false, false_and, or_self, and_self, g2, s65, es, l70, kf_fit]
