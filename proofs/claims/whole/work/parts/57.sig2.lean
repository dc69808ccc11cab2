/-! Signer.addMultiples -/
theorem CvIs.off3 {M M' : kf_M} {A : List Nat} (h : CvIs M) (ho : Off A M M') (hA : ∀ x ∈ A, x ≠ 105 ∧ x ≠ 106 ∧ x ≠ 107 ∧ x ≠ 112 ∧ ¬ (178 ≤ x ∧ x ≤ 186)) : CvIs M' := by
  obtain ⟨c0, cm, ⟨b, nb, cb, sb⟩, j1, j2, j3, j4, j5, j6, j7, j8, j9⟩ := h
  have n2 : ∀ y, 178 ≤ y → y ≤ 186 → y ∉ A := fun y h1 h2 q => (hA y q).2.2.2.2 ⟨h1, h2⟩
  exact ⟨ho.at (fun q => (hA _ q).1 rfl) c0, cm.off ho (fun q => (hA _ q).2.1 rfl) (fun q => (hA _ q).2.2.1 rfl), ⟨b, nb.off ho (fun q => (hA _ q).2.2.2.1 rfl), cb, sb⟩, j1.off ho (n2 _ (by decide) (by decide)), j2.off ho (n2 _ (by decide) (by decide)), j3.off ho (n2 _ (by decide) (by decide)), j4.off ho (n2 _ (by decide) (by decide)), j5.off ho (n2 _ (by decide) (by decide)), j6.off ho (n2 _ (by decide) (by decide)), j7.off ho (n2 _ (by decide) (by decide)), j8.off ho (n2 _ (by decide) (by decide)), j9.off ho (n2 _ (by decide) (by decide))⟩
theorem Comb.off2 {M M' : kf_M} {c : Nat} {P : Pt} {A : List Nat} (h : Comb M c P) (ho : Off A M M') (hA : ∀ x ∈ A, x < c ∨ c + 64 < x) : Comb M' c P := h.off ho hA
set_option maxHeartbeats 4000000 in
set_option maxRecDepth 100000 in
theorem f65 {M : kf_M} {H : Nat} {S Rr : Int} {G Q : Pt} {made cf : Int32} {dig : List Int32} (hO : SgO M made cf) (hC : CvIs M) (hF1 : FldIs M 106 pP) (hG : Comb M 113 G) (hQ : Comb M 199 Q) (vG : vP G) (vQ : vP Q) (hF : FldIs M 187 nN) (g4 : M[4]? = some (oJ sx_4)) (gd : M[197]? = some (oI dig)) (hd : dig = nBL 32 H) (hH : H < 2 ^ 256) (p265 : PtJ M 265) (p269 : PtJ M 269) (hS : Num M 277 S) (c0 : 0 < S) (c1 : S < nN) (hR : Num M 276 Rr) (r0 : 0 ≤ Rr) (r1 : Rr < nN) (j273 : Jar M 273) (j274 : Jar M 274) (j275 : Jar M 275) : ∃ (M' : kf_M) (u1 u2 : Nat), kf_cl 65 [.ref 104] M = some (none, M') ∧ u1 < nN ∧ cg nN (u1 * S) H ∧ u2 < nN ∧ cg nN (u2 * S) Rr ∧ Num M' 266 (fpx (padd (pmul u1 G) (pmul u2 Q))) ∧ PtJ M' 265 ∧ PtJ M' 269 ∧ CvIs M' ∧ FldIs M' 106 pP ∧ FldIs M' 187 nN ∧ Jar M' 273 ∧ Jar M' 274 ∧ Jar M' 275 ∧ Off [111, 192, 178, 179, 180, 181, 182, 183, 184, 185, 186, 266, 267, 268, 270, 271, 272, 273, 274, 275] M M' := by
  have hnl := nN_lt
  have hn2 := nN_pos
  have ld : dig.length = 32 := by rw [hd, nBL_len]
  have td : (dig.drop 0).take 32 = nBL 32 H := by rw [List.drop_zero, List.take_of_length_le (by omega), hd]
  have he : ((nN - 2 : Nat) : Int) = (nN : Int) - 2 := by omega
  have gO0 := gO_of hO
  have rf0 := hF.1.rc
  obtain ⟨M1, v1, k1, n1, d1, s1, o1⟩ := f18 (to := 275) hF hS j275 (by decide) (bN_ (by omega) (by omega))
  have e277_1 := hS.off o1 (by decide)
  have e276_1 := hR.off o1 (by decide)
  have j273_1 := j273.off o1 (by decide)
  have j274_1 := j274.off o1 (by decide)
  have F1 := hF.off2 o1 (by decide)
  have O1 := o1.at (by decide) hO
  have g4_1 := o1.at (by decide) g4
  have gO1 := gO_of O1
  have rf1 := F1.1.rc
  have gd1 := o1.at (by decide) gd
  obtain ⟨M2, v2, k2, n2, s2, d2, jr2, o2⟩ := f17 (to := 275) F1 n1 n1.jar (by decide) (by decide) (by decide) (by decide) (sml_b s1) sN_ok he
  have e277_2 := e277_1.off o2 (by decide)
  have e276_2 := e276_1.off o2 (by decide)
  have j273_2 := j273_1.off o2 (by decide)
  have j274_2 := j274_1.off o2 (by decide)
  have F2 := F1.off1 o2 jr2 (by decide)
  have O2 := o2.at (by decide) O1
  have g4_2 := o2.at (by decide) g4_1
  have gO2 := gO_of O2
  have rf2 := F2.1.rc
  have gd2 := o2.at (by decide) gd1
  obtain ⟨M3, k3, n3, o3⟩ := f9b (to := 274) (f := 0) (n := H) j274_2 (by decide) (by decide) gd2 (by omega) (by omega) td hH
  rw [nI_0] at k3
  have e277_3 := e277_2.off o3 (by decide)
  have e276_3 := e276_2.off o3 (by decide)
  have e275_3 := n2.off o3 (by decide)
  have j273_3 := j273_2.off o3 (by decide)
  have F3 := F2.off2 o3 (by decide)
  have O3 := o3.at (by decide) O2
  have g4_3 := o3.at (by decide) g4_2
  have gO3 := gO_of O3
  have rf3 := F3.1.rc
  obtain ⟨M4, v4, k4, n4, d4, s4, o4⟩ := f18 (to := 274) F3 n3 n3.jar (by decide) (bN_ (by omega) (by omega))
  have e277_4 := e277_3.off o4 (by decide)
  have e276_4 := e276_3.off o4 (by decide)
  have e275_4 := e275_3.off o4 (by decide)
  have j273_4 := j273_3.off o4 (by decide)
  have F4 := F3.off2 o4 (by decide)
  have O4 := o4.at (by decide) O3
  have g4_4 := o4.at (by decide) g4_3
  have gO4 := gO_of O4
  have rf4 := F4.1.rc
  obtain ⟨M5, v5, k5, n5, d5, s5, o5⟩ := f16c (to := 274) F4.1 n4 e275_4 n4.jar (by decide) (sml_b s4) (sml_b s2)
  have e277_5 := e277_4.off o5 (by decide)
  have e276_5 := e276_4.off o5 (by decide)
  have e275_5 := e275_4.off o5 (by decide)
  have j273_5 := j273_4.off o5 (by decide)
  have F5 := F4.off2 o5 (by decide)
  have O5 := o5.at (by decide) O4
  have g4_5 := o5.at (by decide) g4_4
  have gO5 := gO_of O5
  have rf5 := F5.1.rc
  obtain ⟨M6, v6, k6, n6, d6, p6, q6, o6⟩ := f19 (to := 274) F5.1 g4_5 n5 n5.jar (by decide) (by decide) (by decide) (sml_b s5)
  have e277_6 := e277_5.off o6 (by decide)
  have e276_6 := e276_5.off o6 (by decide)
  have e275_6 := e275_5.off o6 (by decide)
  have j273_6 := j273_5.off o6 (by decide)
  have F6 := F5.off2 o6 (by decide)
  have O6 := o6.at (by decide) O5
  have g4_6 := o6.at (by decide) g4_5
  have gO6 := gO_of O6
  have rf6 := F6.1.rc
  obtain ⟨M7, v7, k7, n7, d7, s7, o7⟩ := f18 (to := 273) F6 e276_6 j273_6 (by decide) (bN_ r0 (by omega))
  have e277_7 := e277_6.off o7 (by decide)
  have e276_7 := e276_6.off o7 (by decide)
  have e275_7 := e275_6.off o7 (by decide)
  have e274_7 := n6.off o7 (by decide)
  have F7 := F6.off2 o7 (by decide)
  have O7 := o7.at (by decide) O6
  have g4_7 := o7.at (by decide) g4_6
  have gO7 := gO_of O7
  have rf7 := F7.1.rc
  obtain ⟨M8, v8, k8, n8, d8, s8, o8⟩ := f16c (to := 273) F7.1 n7 e275_7 n7.jar (by decide) (sml_b s7) (sml_b s2)
  have e277_8 := e277_7.off o8 (by decide)
  have e276_8 := e276_7.off o8 (by decide)
  have e275_8 := e275_7.off o8 (by decide)
  have e274_8 := e274_7.off o8 (by decide)
  have F8 := F7.off2 o8 (by decide)
  have O8 := o8.at (by decide) O7
  have g4_8 := o8.at (by decide) g4_7
  have gO8 := gO_of O8
  have rf8 := F8.1.rc
  obtain ⟨M9, v9, k9, n9, d9, p9, q9, o9⟩ := f19 (to := 273) F8.1 g4_8 n8 n8.jar (by decide) (by decide) (by decide) (sml_b s8)
  have e277_9 := e277_8.off o9 (by decide)
  have e276_9 := e276_8.off o9 (by decide)
  have e275_9 := e275_8.off o9 (by decide)
  have e274_9 := e274_8.off o9 (by decide)
  have F9 := F8.off2 o9 (by decide)
  have O9 := o9.at (by decide) O8
  have g4_9 := o9.at (by decide) g4_8
  have gO9 := gO_of O9
  have rf9 := F9.1.rc
  have u1 := stq_e sN_ok d1
  have u2 := stq_i sN_ok u1 d2
  have u4 := stq_e sN_ok d4
  have u5 := stq_m sN_ok u4 u2 d5
  have u6 := stq_l sN_ok u5 d6
  have u7 := stq_e sN_ok d7
  have u8 := stq_m sN_ok u7 u2 d8
  have u9 := stq_l sN_ok u8 d9
  have o09 : Off [192, 273, 274, 275] M M9 := Off.tr (o1.wk (by decide)) (Off.tr (o2.wk (by decide)) (Off.tr (o3.wk (by decide)) (Off.tr (o4.wk (by decide)) (Off.tr (o5.wk (by decide)) (Off.tr (o6.wk (by decide)) (Off.tr (o7.wk (by decide)) (Off.tr (o8.wk (by decide)) (o9.wk (by decide)))))))))
  have C9 := hC.off o09 (by decide)
  have f9_ := hF1.off2 o09 (by decide)
  have G9 := hG.off o09 (by decide)
  have Q9 := hQ.off o09 (by decide)
  have P9 := p265.off o09 (by decide) (by decide) (by decide) (by decide)
  have T9_ := p269.off o09 (by decide) (by decide) (by decide) (by decide)
  obtain ⟨w1, hw1⟩ := Int.eq_ofNat_of_zero_le p6
  obtain ⟨w2, hw2⟩ := Int.eq_ofNat_of_zero_le p9
  subst hw1
  subst hw2
  obtain ⟨MA, kA, CA, rA, oA⟩ := f1 C9 f9_ G9 e274_9 P9 vG (by omega) (Or.inr (by decide)) (Or.inl rfl) (Or.inr (by decide)) (by decide)
  have fA := f9_.off2 oA (by decide)
  have QA := Q9.off oA (by decide)
  have TA := T9_.off oA (by decide) (by decide) (by decide) (by decide)
  have n273A := n9.off oA (by decide)
  have n274A := e274_9.off oA (by decide)
  have n275A := e275_9.off oA (by decide)
  have OA := oA.at (by decide) O9
  obtain ⟨MB, kB, CB, rB, oB⟩ := f1 CA fA QA n273A TA vQ (by omega) (Or.inr (by decide)) (Or.inr (by decide)) (Or.inr (by decide)) (by decide)
  have fB := fA.off2 oB (by decide)
  have rA2 := rA.off oB (by decide) (by decide) (by decide) (by decide)
  have OB := oB.at (by decide) OA
  obtain ⟨MD, kD, CD, rD, oD⟩ := f4 CB rA2 rB rA2.j (pmul_v vG _) (pmul_v vQ _) (Or.inr (by decide)) (Or.inr (by decide)) (Or.inr (by decide))
  have fD := fB.off2 oD (by decide)
  have OD := oD.at (by decide) OB
  have g4D : MD[4]? = some (oJ sx_4) := oD.at (by decide) (oB.at (by decide) (oA.at (by decide) g4_9))
  obtain ⟨ME, kE, xE, yE, pE, fE, oE⟩ := f3 CD fD g4D rD (padd_v (pmul_v vG _) (pmul_v vQ _)) (Or.inr (by decide))
  have CE := CD
  have o9E : Off [111, 178, 179, 180, 181, 182, 183, 184, 185, 186, 266, 267, 268, 270, 271, 272, 273, 274, 275] M9 ME := (oA.wk (by decide)).tr ((oB.wk (by decide)).tr ((oD.wk (by decide)).tr (oE.wk (by decide))))
  have oo : Off [111, 192, 178, 179, 180, 181, 182, 183, 184, 185, 186, 266, 267, 268, 270, 271, 272, 273, 274, 275] M ME := (o09.wk (by decide)).tr (o9E.wk (by decide))
  have gOA := gO_of OA
  have gOB := gO_of OB
  have gOD := gO_of OD
  have gc9 := gO_of C9.1
  have gcA := gO_of CA.1
  have rc9 := C9.rc
  have rcA := CA.rc
  have rcB := CB.rc
  have rcD := CD.rc
  have hnd : ¬ (nN : Int) ∣ S := by
    intro q
    have := Int.le_of_dvd c0 q
    omega
  have h1 := pw_inv nN_prm hnd
  have mk : ∀ (w : Nat) (t : Int), cg nN (w : Int) (t * S ^ (nN - 2)) → cg nN ((w : Int) * S) t := by
    intro w t hh
    have h2 : cg nN ((w : Int) * S) (t * S ^ (nN - 2) * S) := cg_ml hh cg_rf
    refine cg_tr h2 ?_
    have h3 : cg nN (t * (S * S ^ (nN - 2))) (t * 1) := cg_ml cg_rf h1
    rw [Int.mul_one] at h3
    generalize S ^ (nN - 2) = W at *
    rw [show t * W * S = t * (S * W) by grind]
    exact h3
  have CvE : CvIs ME := CD.off3 oE (by decide)
  refine ⟨ME, w1, w2, by simp only [cl_65, e65_0, e65_1, e65_4, e65_5, e65_8, e65_9, e65_12, e65_15, e65_16, e65_19, e65_20, e65_23, e65_24, e65_27, e65_30, e65_31, e65_34, e65_35, e65_38, e65_39, e65_42, e65_43, e65_46, e65_47, e65_50, e65_51, e65_54, e65_57, e65_58, e65_61, e65_62, e65_65, e65_66, e65_69, e65_70, e65_73, e65_76, e65_77, e65_80, e65_81, e65_84, e65_85, e65_88, e65_91, e65_92, e65_95, e65_96, e65_99, e65_100, e65_103, e65_106, e65_107, e65_110, e65_111, e65_114, e65_115, e65_118, e65_119, e65_122, e65_125, e65_126, e65_129, e65_130, e65_133, e65_134, e65_137, e65_140, e65_141, e65_144, e65_145, e65_148, e65_149, e65_152, e65_155, e65_156, e65_159, e65_162, e65_163, e65_166, e65_167, e65_170, e65_171, e65_174, e65_175, e65_178, e65_181, e65_182, e65_185, e65_186, e65_189, e65_190, e65_193, e65_194, e65_197, e65_200, e65_201, e65_204, e65_205, e65_208, e65_211, ow_65, Int32.reduceOfInt, Int32.reduceOfNat, Int32.reduceToNatClampNeg, Int32.reduceLT, Int32.reduceLE, Int32.reduceAdd, Int32.reduceSub, Int32.reduceMul, Int64.reduceOfNat, Int64.reduceOfInt, Nat.reduceLeDiff, Nat.reduceLT, Nat.reduceEqDiff, Nat.reduceSub, cs_0, cs_1, cs_2, cs_3, cs_4, cs_5, cs_6, cs_7, cs_8, or_false, false_or, not_false_eq_true, and_true, true_and, if_true, if_false, List.length_cons, List.length_nil, List.getElem?_cons_succ, List.getElem?_cons_zero, List.set_cons_succ, List.set_cons_zero, reduceIte, d_G, d_R, s_aload, s_aload_n, s_iload, s_iload_n, s_lload, s_lload_n, s_istore, s_istore_n, s_astore, s_astoreN, s_astore_n, s_astore_nN, s_lstore, s_lstore_n, s_iinc, s_iconst, s_bipush, s_sipush, s_lconst, s_ldc2_w, s_aconst_null, s_dupA, s_dupI, s_dup2, s_iadd, s_isub, s_imul, s_iand, s_ior, s_ixor, s_ishl, s_ishr, s_iushr, s_ineg, s_idiv, s_irem, s_ladd, s_lsub, s_lmul, s_land, s_lor, s_lxor, s_ldiv, s_lshl, s_lshr, s_lushr, s_i2l, s_l2i, s_lcmp, s_goto, s_ieq, s_ine, s_ilt, s_ige, s_igt, s_ile, s_zeq, s_zne, s_zlt, s_zge, s_zgt, s_zle, s_ifnull, s_ifnullN, s_ifnonnull, s_ifnonnullN, s_tableswitch, s_lookupswitch, s_getfield, s_putfield, s_getstatic, s_iaload, s_laload, s_baload, s_aaload, s_iastore, s_lastore, s_bastore, s_aastore, s_arraylength, s_newI, s_newJ, s_newZ, s_anewarray, s_new, s_copy, s_max, s_min, s_invokestatic, s_objinit, s_invokespecial, kf_isr_r, s_invokevirtual, s_ireturn, s_lreturn, s_areturn, s_areturnN, s_return, lI_0, lI_s, lJ_0, lJ_s, lA_0, lA_0N, lA_s, lS1_0, lS1_1, lS1_2, lS2_0, lS2_1, lS2_2, lK_n, lK_i, lK_j, lK_a, lK_N, d_C', kf_w_0, kf_w_i, kf_w_a, kf_w_n, kf_w_j, c_0, c_1, c_2, c_3, c_4, c_5, c_6, tl_0, tl_1, Option.bind_some, Option.bind_none, Option.map_some, Nat.reduceAdd, Nat.reduceMul, Nat.reduceDiv, Nat.reduceMod, Int.reduceToNat, Fin.val_zero, Fin.isValue, Fin.val_one, Fin.val_two, fv_0, fv_1, fv_2, fv_3, fw_0, fw_1, d_ite, true_or, or_true, and_false, false_and, or_self, and_self, ow_1, ow_3, ow_4, ow_16, ow_17, ow_18, ow_19, sgF, gc9, gcA, gOA, gOB, gOD, rc9, rcA, rcB, rcD, kA, kB, kD, kE, gO0, rf0, gO1, rf1, gO2, rf2, gO3, rf3, gO4, rf4, gO5, rf5, gO6, rf6, gO7, rf7, gO8, rf8, gO9, rf9, k1, k2, k3, k4, k5, k6, k7, k8, k9], by omega, mk w1 _ u6, by omega, mk w2 _ u9, xE, pE, (rB.j.off oD (by decide) (by decide) (by decide) (by decide)).off oE (by decide) (by decide) (by decide) (by decide), CvE, fE, F9.off2 o9E (by decide), (n273A.off oB (by decide)).jar.off oD (by decide) |>.off oE (by decide), (n274A.off oB (by decide)).jar.off oD (by decide) |>.off oE (by decide), (n275A.off oB (by decide)).jar.off oD (by decide) |>.off oE (by decide), oo⟩
