/-! Curve.times, enter, flatten -/
theorem CvIs.off {M M' : kf_M} {A : List Nat} (h : CvIs M) (ho : Off A M M') (hA : ∀ x ∈ A, ¬ (105 ≤ x ∧ x ≤ 112) ∧ ¬ (178 ≤ x ∧ x ≤ 186)) : CvIs M' := by
  obtain ⟨c0, cm, ⟨b, nb, cb, sb⟩, j1, j2, j3, j4, j5, j6, j7, j8, j9⟩ := h
  have n1 : ∀ y, 105 ≤ y → y ≤ 112 → y ∉ A := fun y h1 h2 q => (hA y q).1 ⟨h1, h2⟩
  have n2 : ∀ y, 178 ≤ y → y ≤ 186 → y ∉ A := fun y h1 h2 q => (hA y q).2 ⟨h1, h2⟩
  exact ⟨ho.at (n1 _ (by decide) (by decide)) c0, cm.off ho (n1 _ (by decide) (by decide)) (n1 _ (by decide) (by decide)), ⟨b, nb.off ho (n1 _ (by decide) (by decide)), cb, sb⟩, j1.off ho (n2 _ (by decide) (by decide)), j2.off ho (n2 _ (by decide) (by decide)), j3.off ho (n2 _ (by decide) (by decide)), j4.off ho (n2 _ (by decide) (by decide)), j5.off ho (n2 _ (by decide) (by decide)), j6.off ho (n2 _ (by decide) (by decide)), j7.off ho (n2 _ (by decide) (by decide)), j8.off ho (n2 _ (by decide) (by decide)), j9.off ho (n2 _ (by decide) (by decide))⟩
theorem f1l {to c a n : Nat} {P : Pt} (hP : vP P) (hn : n < 2 ^ 256) (ot : okp to) (hc : c = 113 ∨ 187 ≤ c) (htc : to + 3 < c ∨ c + 64 < to) (ha : a ∉ cvs ++ [to + 1, to + 2, to + 3]) : ∀ i, i < 64 → ∀ (M : kf_M) (u5 : Option Value), CvIs M → Comb M c P → Num M a (n : Int) → RepM M to (pmul (enn n (i + 1)) P) → ∃ M', kf_ev 1 32 [some (.ref 105), some (.ref to), some (.ref c), some (.ref a), some (.int (nI i)), u5] [] M = some (none, M') ∧ CvIs M' ∧ RepM M' to (pmul (enn n 0) P) ∧ Off (cvs ++ [to + 1, to + 2, to + 3]) M M' := by
  have hA : ∀ x ∈ cvs ++ [to + 1, to + 2, to + 3], x < c ∨ c + 64 < x := by
    intro x hx
    unfold okp at ot
    simp [cvs] at hx
    omega
  intro i
  induction i with
  | zero =>
    intro hi M u5 hC hcb hna ht
    obtain ⟨M1, u, k1, c1, r1, o1⟩ := f1s (u5 := u5) hP hn hi ot hc htc ha hC hcb hna ht
    have hd : kf_ev 1 32 [some (.ref 105), some (.ref to), some (.ref c), some (.ref a), some (.int (-1)), u] [] M1 = some (none, M1) := by
      have m2 : (-1 : Int32) < 0 := by decide
      refine (e1_32 _ _ _).trans ?_
      simp only [cl_1, e1_0, e1_1, e1_4, e1_7, e1_8, e1_11, e1_12, e1_15, e1_18, e1_21, e1_22, e1_25, e1_28, e1_30, e1_34, e1_37, e1_38, e1_39, e1_40, e1_41, e1_44, e1_45, e1_47, e1_50, e1_51, e1_52, e1_54, e1_56, e1_57, e1_60, e1_61, e1_62, e1_63, e1_64, e1_66, e1_69, e1_70, e1_73, e1_74, e1_75, e1_77, e1_78, e1_80, e1_83, e1_84, e1_87, e1_88, e1_89, e1_91, e1_93, e1_96, e1_98, e1_99, e1_100, e1_103, e1_104, e1_105, e1_106, e1_107, e1_109, e1_110, e1_113, e1_116, e1_119, ow_1, Int32.reduceOfInt, Int32.reduceOfNat, Int32.reduceToNatClampNeg, Int32.reduceLT, Int32.reduceLE, Int32.reduceAdd, Int32.reduceSub, Int32.reduceMul, Int64.reduceOfNat, Int64.reduceOfInt, Nat.reduceLeDiff, Nat.reduceLT, Nat.reduceEqDiff, Nat.reduceSub, cs_0, cs_1, cs_2, cs_3, cs_4, cs_5, cs_6, cs_7, cs_8, or_false, false_or, not_false_eq_true, and_true, true_and, if_true, if_false, List.length_cons, List.length_nil, List.getElem?_cons_succ, List.getElem?_cons_zero, List.set_cons_succ, List.set_cons_zero, reduceIte, d_G, d_R, s_aload, s_aload_n, s_iload, s_iload_n, s_lload, s_lload_n, s_istore, s_istore_n, s_astore, s_astoreN, s_astore_n, s_astore_nN, s_lstore, s_lstore_n, s_iinc, s_iconst, s_bipush, s_sipush, s_lconst, s_ldc2_w, s_aconst_null, s_dupA, s_dupI, s_dup2, s_iadd, s_isub, s_imul, s_iand, s_ior, s_ixor, s_ishl, s_ishr, s_iushr, s_ineg, s_idiv, s_irem, s_ladd, s_lsub, s_lmul, s_land, s_lor, s_lxor, s_ldiv, s_lshl, s_lshr, s_lushr, s_i2l, s_l2i, s_lcmp, s_goto, s_ieq, s_ine, s_ilt, s_ige, s_igt, s_ile, s_zeq, s_zne, s_zlt, s_zge, s_zgt, s_zle, s_ifnull, s_ifnullN, s_ifnonnull, s_ifnonnullN, s_tableswitch, s_lookupswitch, s_getfield, s_putfield, s_getstatic, s_iaload, s_laload, s_baload, s_aaload, s_iastore, s_lastore, s_bastore, s_aastore, s_arraylength, s_newI, s_newJ, s_newZ, s_anewarray, s_new, s_copy, s_max, s_min, s_invokestatic, s_objinit, s_invokespecial, kf_isr_r, s_invokevirtual, s_ireturn, s_lreturn, s_areturn, s_areturnN, s_return, lI_0, lI_s, lJ_0, lJ_s, lA_0, lA_0N, lA_s, lS1_0, lS1_1, lS1_2, lS2_0, lS2_1, lS2_2, lK_n, lK_i, lK_j, lK_a, lK_N, d_C', kf_w_0, kf_w_i, kf_w_a, kf_w_n, kf_w_j, c_0, c_1, c_2, c_3, c_4, c_5, c_6, tl_0, tl_1, Option.bind_some, Option.bind_none, Option.map_some, Nat.reduceAdd, Nat.reduceMul, Nat.reduceDiv, Nat.reduceMod, Int.reduceToNat, Fin.val_zero, Fin.isValue, Fin.val_one, Fin.val_two, fv_0, fv_1, fv_2, fv_3, fw_0, fw_1, d_ite, true_or, or_true, and_false, false_and, or_self, and_self, m2]
    rw [show nI 0 + -1 = -1 from by decide] at k1
    exact ⟨M1, k1.trans hd, c1, r1, o1⟩
  | succ i ih =>
    intro hi M u5 hC hcb hna ht
    obtain ⟨M1, u, k1, c1, r1, o1⟩ := f1s (u5 := u5) hP hn hi ot hc htc ha hC hcb hna ht
    rw [nI_dec] at k1
    obtain ⟨M2, k2, c2, r2, o2⟩ := ih (by omega) M1 u c1 (hcb.off o1 hA) (hna.off o1 ha) r1
    exact ⟨M2, k1.trans k2, c2, r2, o1.tr o2⟩
theorem f1 {M : kf_M} {to c a n : Nat} {P : Pt} (hC : CvIs M) (hF : FldIs M 106 pP) (hcb : Comb M c P) (hna : Num M a (n : Int)) (hT : PtJ M to) (hP : vP P) (hn : n < 2 ^ 256) (ot : okp to) (hc : c = 113 ∨ 187 ≤ c) (htc : to + 3 < c ∨ c + 64 < to) (ha : a ∉ cvs ++ [to + 1, to + 2, to + 3]) : ∃ M', kf_cl 1 [.ref 105, .ref to, .ref c, .ref a] M = some (none, M') ∧ CvIs M' ∧ RepM M' to (pmul n P) ∧ Off (cvs ++ [to + 1, to + 2, to + 3]) M M' := by
  obtain ⟨tt, t1, t2, t3⟩ := hT
  have g := gO_of tt
  have gc := gO_of hC.1
  have ot2 := ot
  unfold okp at ot2
  obtain ⟨hM, -, -, ⟨on, n4, c4, s4⟩, -⟩ := hF
  obtain ⟨M1, k1, n1, o1⟩ := f13 t1 (by omega)
  have tt1 := o1.at (by simp) tt
  have g1 := gO_of tt1
  have gc1 := gO_of (o1.at (by simp; omega) hC.1)
  have hM1 := hM.off o1 (by simp; omega) (by simp; omega)
  obtain ⟨inv1, gf1⟩ := hM1.gO
  obtain ⟨M2, k2, n2, o2⟩ := f14 (n4.off o1 (by simp; omega)) (t2.off o1 (by simp)) (by omega)
  have tt2 := o2.at (by simp) tt1
  have g2 := gO_of tt2
  obtain ⟨M3, k3, n3, o3⟩ := f13 ((t3.off o1 (by simp)).off o2 (by simp)) (by omega)
  have tt3 := o3.at (by simp) tt2
  have o13 : Off [to + 1, to + 2, to + 3] M M3 := (o1.wk (by simp)).tr ((o2.wk (by simp)).tr (o3.wk (by simp)))
  have hC3 := hC.off o13 (by intro x hx; simp at hx; omega)
  have hA : ∀ x ∈ [to + 1, to + 2, to + 3], x < c ∨ c + 64 < x := by
    intro x hx
    simp at hx
    omega
  have hcb3 := hcb.off o13 hA
  have ha3 : a ∉ [to + 1, to + 2, to + 3] := fun h => ha (List.mem_append_right _ h)
  have hna3 := hna.off o13 ha3
  have on0 : ¬ zp on := by
    intro q
    have h1 : zp (on - 2 ^ 280) := c4
    exact R_nz (zp2 (u := 1) (v := -1) q h1 (by generalize (2 : Int) ^ 280 = R; grind))
  have r3 : RepM M3 to (pmul (enn n (63 + 1)) P) := by
    rw [show 63 + 1 = 64 from rfl, enn_64]
    exact ⟨0, on, 0, ⟨tt3, (n1.off o2 (by simp)).off o3 (by simp), n2.off o3 (by simp), n3⟩, ⟨by decide, by decide⟩, by unfold sml at s4; unfold bco; omega, ⟨by decide, by decide⟩, zp_0, zp_0, on0⟩
  obtain ⟨M4, k4, c4', r4, o4⟩ := f1l hP hn ot hc htc ha 63 (by omega) M3 none hC3 hcb3 hna3 r3
  rw [enn_0 hn] at r4
  rw [show nI 63 = 63 from rfl] at k4
  exact ⟨M4, by simp only [cl_1, e1_0, e1_1, e1_4, e1_7, e1_8, e1_11, e1_12, e1_15, e1_18, e1_21, e1_22, e1_25, e1_28, e1_30, e1_34, e1_37, e1_38, e1_39, e1_40, e1_41, e1_44, e1_45, e1_47, e1_50, e1_51, e1_52, e1_54, e1_56, e1_57, e1_60, e1_61, e1_62, e1_63, e1_64, e1_66, e1_69, e1_70, e1_73, e1_74, e1_75, e1_77, e1_78, e1_80, e1_83, e1_84, e1_87, e1_88, e1_89, e1_91, e1_93, e1_96, e1_98, e1_99, e1_100, e1_103, e1_104, e1_105, e1_106, e1_107, e1_109, e1_110, e1_113, e1_116, e1_119, ow_1, Int32.reduceOfInt, Int32.reduceOfNat, Int32.reduceToNatClampNeg, Int32.reduceLT, Int32.reduceLE, Int32.reduceAdd, Int32.reduceSub, Int32.reduceMul, Int64.reduceOfNat, Int64.reduceOfInt, Nat.reduceLeDiff, Nat.reduceLT, Nat.reduceEqDiff, Nat.reduceSub, cs_0, cs_1, cs_2, cs_3, cs_4, cs_5, cs_6, cs_7, cs_8, or_false, false_or, not_false_eq_true, and_true, true_and, if_true, if_false, List.length_cons, List.length_nil, List.getElem?_cons_succ, List.getElem?_cons_zero, List.set_cons_succ, List.set_cons_zero, reduceIte, d_G, d_R, s_aload, s_aload_n, s_iload, s_iload_n, s_lload, s_lload_n, s_istore, s_istore_n, s_astore, s_astoreN, s_astore_n, s_astore_nN, s_lstore, s_lstore_n, s_iinc, s_iconst, s_bipush, s_sipush, s_lconst, s_ldc2_w, s_aconst_null, s_dupA, s_dupI, s_dup2, s_iadd, s_isub, s_imul, s_iand, s_ior, s_ixor, s_ishl, s_ishr, s_iushr, s_ineg, s_idiv, s_irem, s_ladd, s_lsub, s_lmul, s_land, s_lor, s_lxor, s_ldiv, s_lshl, s_lshr, s_lushr, s_i2l, s_l2i, s_lcmp, s_goto, s_ieq, s_ine, s_ilt, s_ige, s_igt, s_ile, s_zeq, s_zne, s_zlt, s_zge, s_zgt, s_zle, s_ifnull, s_ifnullN, s_ifnonnull, s_ifnonnullN, s_tableswitch, s_lookupswitch, s_getfield, s_putfield, s_getstatic, s_iaload, s_laload, s_baload, s_aaload, s_iastore, s_lastore, s_bastore, s_aastore, s_arraylength, s_newI, s_newJ, s_newZ, s_anewarray, s_new, s_copy, s_max, s_min, s_invokestatic, s_objinit, s_invokespecial, kf_isr_r, s_invokevirtual, s_ireturn, s_lreturn, s_areturn, s_areturnN, s_return, lI_0, lI_s, lJ_0, lJ_s, lA_0, lA_0N, lA_s, lS1_0, lS1_1, lS1_2, lS2_0, lS2_1, lS2_2, lK_n, lK_i, lK_j, lK_a, lK_N, d_C', kf_w_0, kf_w_i, kf_w_a, kf_w_n, kf_w_j, c_0, c_1, c_2, c_3, c_4, c_5, c_6, tl_0, tl_1, Option.bind_some, Option.bind_none, Option.map_some, Nat.reduceAdd, Nat.reduceMul, Nat.reduceDiv, Nat.reduceMod, Int.reduceToNat, Fin.val_zero, Fin.isValue, Fin.val_one, Fin.val_two, fv_0, fv_1, fv_2, fv_3, fw_0, fw_1, d_ite, true_or, or_true, and_false, false_and, or_self, and_self, g, g1, g2, gc1, gf1, k1, k2, k3, k4], c4', r4, (o13.wk (by simp)).tr o4⟩
theorem cg_canR {a b : Int} (h : cg pP (a * 2 ^ 280) (b * 2 ^ 280)) : zp (a - b) := by
  have h1 : zp (a * 2 ^ 280 - b * 2 ^ 280) := h
  exact zp_cancel R_nz (zp1 (u := 1) h1 (by generalize (2 : Int) ^ 280 = R; grind))
/-- enter: a plain point -/
theorem f5 {M : kf_M} {a : Nat} {x y : Int} (hC : CvIs M) (hF : FldIs M 106 pP) (hO : PtO M a) (hx : Num M (a + 1) x) (hy : Num M (a + 2) y) (hz : Jar M (a + 3)) (oa : okp a) (bx : 0 ≤ x ∧ x < pP) (byy : 0 ≤ y ∧ y < pP) : ∃ M', kf_cl 5 [.ref 105, .ref a] M = some (none, M') ∧ RepM M' a (some (x, y)) ∧ Off [a + 1, a + 2, a + 3] M M' := by
  unfold okp at oa
  have hp := pP_lt
  have g := gO_of hO
  have gc := gO_of hC.1
  obtain ⟨M1, X, k1, n1, c1, s1, o1⟩ := f18 hF hx hx.jar (by omega) (by unfold bgi; omega)
  have hF1 := hF.off o1 (by simp; omega) (by simp; omega) (by simp; omega) (by simp; omega) (by simp; omega) (by simp; omega)
  have hO1 := o1.at (by simp) hO
  have g1 := gO_of hO1
  have gc1 := gO_of (o1.at (by simp; omega) hC.1)
  have hy1 := hy.off o1 (by simp)
  obtain ⟨M2, Y, k2, n2, c2, s2, o2⟩ := f18 hF1 hy1 hy1.jar (by omega) (by unfold bgi; omega)
  have hF2 := hF1.off o2 (by simp; omega) (by simp; omega) (by simp; omega) (by simp; omega) (by simp; omega) (by simp; omega)
  have hO2 := o2.at (by simp) hO1
  have g2 := gO_of hO2
  have gc2 := gO_of (o2.at (by simp; omega) (o1.at (by simp; omega) hC.1))
  have rc0 := hF.1.rc
  have rc1 := hF1.1.rc
  obtain ⟨inv2, gf2⟩ := hF2.1.gO
  obtain ⟨-, -, -, ⟨on, n4, c4, s4⟩, -⟩ := hF2
  obtain ⟨M3, k3, n3, o3⟩ := f14 n4 ((hz.off o1 (by simp)).off o2 (by simp)) (by omega)
  have on1 : zp (on - 2 ^ 280) := c4
  have on0 : ¬ zp on := by
    intro q
    exact R_nz (zp2 (u := 1) (v := -1) q on1 (by generalize (2 : Int) ^ 280 = R; grind))
  have eX : zp (X - x * 2 ^ 280) := cg_canR (by rw [Int.mul_assoc, ← Int.pow_add]; exact c1)
  have eY : zp (Y - y * 2 ^ 280) := cg_canR (by rw [Int.mul_assoc, ← Int.pow_add]; exact c2)
  unfold sml at s1 s2 s4
  refine ⟨M3, by simp only [cl_5, e5_0, e5_1, e5_4, e5_5, e5_8, e5_9, e5_12, e5_15, e5_16, e5_19, e5_20, e5_23, e5_24, e5_27, e5_30, e5_31, e5_34, e5_35, e5_38, e5_41, e5_44, ow_5, Int32.reduceOfInt, Int32.reduceOfNat, Int32.reduceToNatClampNeg, Int32.reduceLT, Int32.reduceLE, Int32.reduceAdd, Int32.reduceSub, Int32.reduceMul, Int64.reduceOfNat, Int64.reduceOfInt, Nat.reduceLeDiff, Nat.reduceLT, Nat.reduceEqDiff, Nat.reduceSub, cs_0, cs_1, cs_2, cs_3, cs_4, cs_5, cs_6, cs_7, cs_8, or_false, false_or, not_false_eq_true, and_true, true_and, if_true, if_false, List.length_cons, List.length_nil, List.getElem?_cons_succ, List.getElem?_cons_zero, List.set_cons_succ, List.set_cons_zero, reduceIte, d_G, d_R, s_aload, s_aload_n, s_iload, s_iload_n, s_lload, s_lload_n, s_istore, s_istore_n, s_astore, s_astoreN, s_astore_n, s_astore_nN, s_lstore, s_lstore_n, s_iinc, s_iconst, s_bipush, s_sipush, s_lconst, s_ldc2_w, s_aconst_null, s_dupA, s_dupI, s_dup2, s_iadd, s_isub, s_imul, s_iand, s_ior, s_ixor, s_ishl, s_ishr, s_iushr, s_ineg, s_idiv, s_irem, s_ladd, s_lsub, s_lmul, s_land, s_lor, s_lxor, s_ldiv, s_lshl, s_lshr, s_lushr, s_i2l, s_l2i, s_lcmp, s_goto, s_ieq, s_ine, s_ilt, s_ige, s_igt, s_ile, s_zeq, s_zne, s_zlt, s_zge, s_zgt, s_zle, s_ifnull, s_ifnullN, s_ifnonnull, s_ifnonnullN, s_tableswitch, s_lookupswitch, s_getfield, s_putfield, s_getstatic, s_iaload, s_laload, s_baload, s_aaload, s_iastore, s_lastore, s_bastore, s_aastore, s_arraylength, s_newI, s_newJ, s_newZ, s_anewarray, s_new, s_copy, s_max, s_min, s_invokestatic, s_objinit, s_invokespecial, kf_isr_r, s_invokevirtual, s_ireturn, s_lreturn, s_areturn, s_areturnN, s_return, lI_0, lI_s, lJ_0, lJ_s, lA_0, lA_0N, lA_s, lS1_0, lS1_1, lS1_2, lS2_0, lS2_1, lS2_2, lK_n, lK_i, lK_j, lK_a, lK_N, d_C', kf_w_0, kf_w_i, kf_w_a, kf_w_n, kf_w_j, c_0, c_1, c_2, c_3, c_4, c_5, c_6, tl_0, tl_1, Option.bind_some, Option.bind_none, Option.map_some, Nat.reduceAdd, Nat.reduceMul, Nat.reduceDiv, Nat.reduceMod, Int.reduceToNat, Fin.val_zero, Fin.isValue, Fin.val_one, Fin.val_two, fv_0, fv_1, fv_2, fv_3, fw_0, fw_1, d_ite, true_or, or_true, and_false, false_and, or_self, and_self, ow_18, g, g1, g2, gc, gc1, gc2, gf2, rc0, rc1, k1, k2, k3], ⟨X, Y, on, ⟨o3.at (by simp) hO2, (n1.off o2 (by simp)).off o3 (by simp), n2.off o3 (by simp), n3⟩, by unfold bco; omega, by unfold bco; omega, by unfold bco; omega, on0, ?_, ?_⟩, (o1.wk (by simp)).tr ((o2.wk (by simp)).tr (o3.wk (by simp)))⟩
  · exact zp2 (u := 1) (v := - x) eX on1 (by generalize (2 : Int) ^ 280 = R; simp only; grind)
  · exact zp2 (u := 1) (v := - y) eY on1 (by generalize (2 : Int) ^ 280 = R; simp only; grind)
/-- Fermat, for integers -/
theorem zp_pw {w : Int} (h : ¬ zp w) : zp (w * w ^ (pP - 2) - 1) := by
  have h0 := pP_pos
  have hn0 : 0 ≤ w % pP := Int.emod_nonneg _ (by omega)
  obtain ⟨n, hn⟩ := Int.eq_ofNat_of_zero_le hn0
  have hm := zp_md w
  rw [hn] at hm
  have e1 : cg pP ((n : Int) ^ pP) (w ^ pP) := cg_pw (show cg pP (n : Int) w from hm) pP
  have e1' : zp ((n : Int) ^ pP - w ^ pP) := e1
  have e2 := zp_flt n
  have e3 : w ^ pP = w * (w * w ^ (pP - 2)) := by
    have a1 := Int.pow_succ' w (pP - 1)
    have a2 := Int.pow_succ' w (pP - 2)
    rw [show pP - 1 + 1 = pP by omega] at a1
    rw [show pP - 2 + 1 = pP - 1 by omega] at a2
    rw [a1, a2]
  rw [e3] at e1'
  generalize w ^ (pP - 2) = W at *
  generalize (n : Int) ^ pP = T at *
  exact zp_cancel h (zp3 (u := -1) (v := 1) (w := 1) e1' e2 hm (by grind))
def fpx : Pt → Int
  | none => 0
  | some (x, _) => x
def fpy : Pt → Int
  | none => 0
  | some (_, y) => y
theorem flat_v {X Z x zi X2 xx W s R : Int} (h1 : zp (zi - R * W)) (h2 : zp (X2 * R - X * zi)) (h3 : zp (xx * R - X2)) (h4 : zp (X - x * Z)) (h5 : zp (Z * s * W - 1)) (h6 : zp (s * R - 1)) : zp (R * R * (xx - x)) := by
  have a1 := zp3 (u := R) (v := 1) (w := X) (E := R * (R * xx) - X * (R * W)) h3 h2 h1 (by grind)
  have a2 := zp2 (u := 1) (v := R * W) (E := R * (R * xx) - x * Z * (R * W)) a1 h4 (by grind)
  exact zp3 (u := 1) (v := x * R * R) (w := - (x * R * Z * W)) a2 h5 h6 (by grind)
theorem flat_0 {X zi X2 xx W R : Int} (h1 : zp (zi - R * W)) (h2 : zp (X2 * R - X * zi)) (h3 : zp (xx * R - X2)) (h5 : zp W) : zp (R * R * (xx - 0)) := by
  have a1 := zp3 (u := R) (v := 1) (w := X) (E := R * (R * xx) - X * (R * W)) h3 h2 h1 (by grind)
  exact zp2 (u := 1) (v := X * R) a1 h5 (by grind)
theorem zp_pw0 {w : Int} (h : zp w) : zp (w ^ (pP - 2)) := by
  have h3 : 3 ≤ pP := by decide +kernel
  have a2 := Int.pow_succ w (pP - 3)
  rw [show (pP - 3).succ = pP - 2 by omega] at a2
  rw [a2]
  exact zp1 (u := w ^ (pP - 3)) h (Int.mul_comm _ _)
/-- flatten -/
theorem f3 {M : kf_M} {a : Nat} {P : Pt} (hC : CvIs M) (hF : FldIs M 106 pP) (g4 : M[4]? = some (oJ sx_4)) (hR : RepM M a P) (hP : vP P) (oa : okp a) : ∃ M', kf_cl 3 [.ref 105, .ref a] M = some (none, M') ∧ Num M' (a + 1) (fpx P) ∧ Num M' (a + 2) (fpy P) ∧ PtJ M' a ∧ FldIs M' 106 pP ∧ Off [111, a + 1, a + 2, a + 3] M M' := by
  unfold okp at oa
  have hp := pP_lt
  have hpp := pP_pos
  obtain ⟨X, Y, Z, ⟨hO, hx, hy, hz⟩, bX, bY, bZ, rp⟩ := hR
  unfold bco at bX bY bZ
  have g := gO_of hO
  have gc := gO_of hC.1
  have he : ((pP - 2 : Nat) : Int) = (pP : Int) - 2 := by omega
  have rc0 := hF.1.rc
  obtain ⟨M1, zi, k1, n1, s1, c1, j1, o1⟩ := f17 (a := a + 3) (to := a + 3) hF hz hz.jar (by omega) (by omega) (by omega) (by omega) (by unfold bgi; omega) sP_ok he
  have hF1 : FldIs M1 106 pP := by
    obtain ⟨q1, q2, ⟨sq, q3, q4⟩, ⟨on, q5, q6⟩, q7⟩ := hF
    exact ⟨q1.off o1 (by simp; omega) (by simp; omega), q2.off o1 (by simp; omega), ⟨sq, q3.off o1 (by simp; omega), q4⟩, ⟨on, q5.off o1 (by simp; omega), q6⟩, j1⟩
  have hO1 := o1.at (by simp; omega) hO
  have g1 := gO_of hO1
  have hC1 := o1.at (by simp; omega) hC.1
  have gc1 := gO_of hC1
  have hx1 := hx.off o1 (by simp; omega)
  have hy1 := hy.off o1 (by simp; omega)
  have rc1 := hF1.1.rc
  obtain ⟨M2, X2, k2, n2, c2, s2, o2⟩ := f16c hF1.1 hx1 n1 hx1.jar (by omega) (by unfold bgi; omega) (sml_b s1)
  have hF2 := hF1.off o2 (by simp; omega) (by simp; omega) (by simp; omega) (by simp; omega) (by simp; omega) (by simp; omega)
  have hO2 := o2.at (by simp) hO1
  have g2 := gO_of hO2
  have hC2 := o2.at (by simp; omega) hC1
  have gc2 := gO_of hC2
  have hy2 := hy1.off o2 (by simp)
  have n12 := n1.off o2 (by simp)
  have rc2 := hF2.1.rc
  obtain ⟨M3, Y2, k3, n3, c3, s3, o3⟩ := f16c hF2.1 hy2 n12 hy2.jar (by omega) (by unfold bgi; omega) (sml_b s1)
  have hF3 := hF2.off o3 (by simp; omega) (by simp; omega) (by simp; omega) (by simp; omega) (by simp; omega) (by simp; omega)
  have hO3 := o3.at (by simp) hO2
  have g3 := gO_of hO3
  have hC3 := o3.at (by simp; omega) hC2
  have gc3 := gO_of hC3
  have rc3 := hF3.1.rc
  have n23 := n2.off o3 (by simp)
  have g43 : M3[4]? = some (oJ sx_4) := o3.at (by simp; omega) (o2.at (by simp; omega) (o1.at (by simp; omega) g4))
  obtain ⟨M4, xx, k4, n4, c4, x0, x1, o4⟩ := f19 hF3.1 g43 n23 n23.jar (by omega) (by omega) (by omega) (sml_b s2)
  have hF4 := hF3.off o4 (by simp; omega) (by simp; omega) (by simp; omega) (by simp; omega) (by simp; omega) (by simp; omega)
  have hO4 := o4.at (by simp) hO3
  have g4' := gO_of hO4
  have hC4 := o4.at (by simp; omega) hC3
  have gc4 := gO_of hC4
  have rc4 := hF4.1.rc
  have n34 := n3.off o4 (by simp)
  have g44 : M4[4]? = some (oJ sx_4) := o4.at (by simp; omega) g43
  obtain ⟨M5, yy, k5, n5, c5, y0, y1, o5⟩ := f19 hF4.1 g44 n34 n34.jar (by omega) (by omega) (by omega) (sml_b s3)
  have hF5 := hF4.off o5 (by simp; omega) (by simp; omega) (by simp; omega) (by simp; omega) (by simp; omega) (by simp; omega)
  have n45 := n4.off o5 (by simp)
  have nz5 : Num M5 (a + 3) zi := ((n12.off o3 (by simp)).off o4 (by simp)).off o5 (by simp)
  have oo : Off [111, a + 1, a + 2, a + 3] M M5 := (o1.wk (by simp)).tr ((o2.wk (by simp)).tr ((o3.wk (by simp)).tr ((o4.wk (by simp)).tr (o5.wk (by simp)))))
  have e1 : zp (zi - 2 ^ 280 * (Z * sP) ^ (pP - 2)) := c1
  have e2 : zp (X2 * 2 ^ 280 - X * zi) := c2
  have e3 : zp (Y2 * 2 ^ 280 - Y * zi) := c3
  have e4 : zp (xx * 2 ^ 280 - X2) := c4
  have e5 : zp (yy * 2 ^ 280 - Y2) := c5
  have e6 : zp (sP * 2 ^ 280 - 1) := sP_ok
  have nRR := zp_nm R_nz R_nz
  have fin : xx = fpx P ∧ yy = fpy P := by
    cases P with
    | none =>
      have zw : zp ((Z * sP) ^ (pP - 2)) := zp_pw0 (zp1 (u := sP) rp.2.1 rfl)
      exact ⟨zp_eq x0 x1 (Int.le_refl 0) (show (0 : Int) < pP by omega) (zp_cancel nRR (flat_0 e1 e2 e4 zw)), zp_eq y0 y1 (Int.le_refl 0) (show (0 : Int) < pP by omega) (zp_cancel nRR (flat_0 e1 e3 e5 zw))⟩
    | some w =>
      obtain ⟨x, y⟩ := w
      have hw := zp_pw (zp_nm rp.1 sP_nz)
      exact ⟨zp_eq x0 x1 hP.1 hP.2.1 (zp_cancel nRR (flat_v e1 e2 e4 rp.2.1 hw e6)), zp_eq y0 y1 hP.2.2.1 hP.2.2.2.1 (zp_cancel nRR (flat_v e1 e3 e5 rp.2.2 hw e6))⟩
  rw [fin.1] at n45
  rw [fin.2] at n5
  exact ⟨M5, by simp only [cl_3, e3_0, e3_1, e3_4, e3_5, e3_8, e3_9, e3_12, e3_15, e3_16, e3_19, e3_20, e3_23, e3_24, e3_27, e3_28, e3_31, e3_34, e3_35, e3_38, e3_39, e3_42, e3_43, e3_46, e3_47, e3_50, e3_53, e3_54, e3_57, e3_58, e3_61, e3_62, e3_65, e3_68, e3_69, e3_72, e3_73, e3_76, e3_77, e3_80, e3_83, ow_3, Int32.reduceOfInt, Int32.reduceOfNat, Int32.reduceToNatClampNeg, Int32.reduceLT, Int32.reduceLE, Int32.reduceAdd, Int32.reduceSub, Int32.reduceMul, Int64.reduceOfNat, Int64.reduceOfInt, Nat.reduceLeDiff, Nat.reduceLT, Nat.reduceEqDiff, Nat.reduceSub, cs_0, cs_1, cs_2, cs_3, cs_4, cs_5, cs_6, cs_7, cs_8, or_false, false_or, not_false_eq_true, and_true, true_and, if_true, if_false, List.length_cons, List.length_nil, List.getElem?_cons_succ, List.getElem?_cons_zero, List.set_cons_succ, List.set_cons_zero, reduceIte, d_G, d_R, s_aload, s_aload_n, s_iload, s_iload_n, s_lload, s_lload_n, s_istore, s_istore_n, s_astore, s_astoreN, s_astore_n, s_astore_nN, s_lstore, s_lstore_n, s_iinc, s_iconst, s_bipush, s_sipush, s_lconst, s_ldc2_w, s_aconst_null, s_dupA, s_dupI, s_dup2, s_iadd, s_isub, s_imul, s_iand, s_ior, s_ixor, s_ishl, s_ishr, s_iushr, s_ineg, s_idiv, s_irem, s_ladd, s_lsub, s_lmul, s_land, s_lor, s_lxor, s_ldiv, s_lshl, s_lshr, s_lushr, s_i2l, s_l2i, s_lcmp, s_goto, s_ieq, s_ine, s_ilt, s_ige, s_igt, s_ile, s_zeq, s_zne, s_zlt, s_zge, s_zgt, s_zle, s_ifnull, s_ifnullN, s_ifnonnull, s_ifnonnullN, s_tableswitch, s_lookupswitch, s_getfield, s_putfield, s_getstatic, s_iaload, s_laload, s_baload, s_aaload, s_iastore, s_lastore, s_bastore, s_aastore, s_arraylength, s_newI, s_newJ, s_newZ, s_anewarray, s_new, s_copy, s_max, s_min, s_invokestatic, s_objinit, s_invokespecial, kf_isr_r, s_invokevirtual, s_ireturn, s_lreturn, s_areturn, s_areturnN, s_return, lI_0, lI_s, lJ_0, lJ_s, lA_0, lA_0N, lA_s, lS1_0, lS1_1, lS1_2, lS2_0, lS2_1, lS2_2, lK_n, lK_i, lK_j, lK_a, lK_N, d_C', kf_w_0, kf_w_i, kf_w_a, kf_w_n, kf_w_j, c_0, c_1, c_2, c_3, c_4, c_5, c_6, tl_0, tl_1, Option.bind_some, Option.bind_none, Option.map_some, Nat.reduceAdd, Nat.reduceMul, Nat.reduceDiv, Nat.reduceMod, Int.reduceToNat, Fin.val_zero, Fin.isValue, Fin.val_one, Fin.val_two, fv_0, fv_1, fv_2, fv_3, fw_0, fw_1, d_ite, true_or, or_true, and_false, false_and, or_self, and_self, ow_17, ow_16, ow_19, g, g1, g2, g3, g4', gc, gc1, gc2, gc3, gc4, rc0, rc1, rc2, rc3, rc4, k1, k2, k3, k4, k5], n45, n5, ⟨o5.at (by simp) hO4, n45.jar, n5.jar, nz5.jar⟩, hF5, oo⟩
