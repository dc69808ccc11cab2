/-! Curve.fill -/
theorem f2l {c t w row : Nat} {P : Pt} {S : List Nat} {r1 rb : Nat} {i : Int32} (hP : vP P) (ht : t < 16) (hS : t ∉ S) : ∀ (m j : Nat) (M : kf_M), j + m = 64 → Kn M c P S → CvIs M → RepM M (c + 1 + 4 * t) (pmul (2 ^ j * w) P) → ∃ M', kf_ev 2 76 [some (.ref 105), some (.ref c), some (.ref row), some (.ref r1), some (.int i), some (.ref (c + 1 + 4 * t)), some (.ref rb), some (.int (nI j))] [] M = kf_ev 2 99 [some (.ref 105), some (.ref c), some (.ref row), some (.ref r1), some (.int i), some (.ref (c + 1 + 4 * t)), some (.ref rb), some (.int 64)] [] M' ∧ Kn M' c P S ∧ RepM M' (c + 1 + 4 * t) (pmul (2 ^ 64 * w) P) ∧ CvIs M' ∧ Off (cvs ++ List.range' (c + 1) 64) M M' := by
  intro m
  induction m with
  | zero =>
    intro j M hj hK hC hr
    have hj : j = 64 := by omega
    subst hj
    have e : (64 : Int32) ≤ nI 64 := by decide
    refine ⟨M, (e2_76 _ _ _).trans ?_, hK, hr, hC, Off.rf⟩
    simp only [cl_2, e2_0, e2_1, e2_2, e2_4, e2_7, e2_8, e2_9, e2_10, e2_11, e2_12, e2_13, e2_16, e2_17, e2_18, e2_21, e2_22, e2_25, e2_26, e2_28, e2_31, e2_32, e2_33, e2_36, e2_37, e2_41, e2_42, e2_45, e2_46, e2_47, e2_49, e2_50, e2_51, e2_53, e2_54, e2_55, e2_57, e2_58, e2_59, e2_60, e2_61, e2_63, e2_64, e2_66, e2_68, e2_70, e2_73, e2_74, e2_78, e2_80, e2_83, e2_84, e2_86, e2_88, e2_90, e2_93, e2_96, e2_102, e2_105, e2_106, e2_107, e2_110, ow_2, Int32.reduceOfInt, Int32.reduceOfNat, Int32.reduceToNatClampNeg, Int32.reduceLT, Int32.reduceLE, Int32.reduceAdd, Int32.reduceSub, Int32.reduceMul, Int64.reduceOfNat, Int64.reduceOfInt, Nat.reduceLeDiff, Nat.reduceLT, Nat.reduceEqDiff, Nat.reduceSub, cs_0, cs_1, cs_2, cs_3, cs_4, cs_5, cs_6, cs_7, cs_8, or_false, false_or, not_false_eq_true, and_true, true_and, if_true, if_false, List.length_cons, List.length_nil, List.getElem?_cons_succ, List.getElem?_cons_zero, List.set_cons_succ, List.set_cons_zero, reduceIte, d_G, d_R, s_aload, s_aload_n, s_iload, s_iload_n, s_lload, s_lload_n, s_istore, s_istore_n, s_astore, s_astoreN, s_astore_n, s_astore_nN, s_lstore, s_lstore_n, s_iinc, s_iconst, s_bipush, s_sipush, s_lconst, s_ldc2_w, s_aconst_null, s_dupA, s_dupI, s_dup2, s_iadd, s_isub, s_imul, s_iand, s_ior, s_ixor, s_ishl, s_ishr, s_iushr, s_ineg, s_idiv, s_irem, s_ladd, s_lsub, s_lmul, s_land, s_lor, s_lxor, s_ldiv, s_lshl, s_lshr, s_lushr, s_i2l, s_l2i, s_lcmp, s_goto, s_ieq, s_ine, s_ilt, s_ige, s_igt, s_ile, s_zeq, s_zne, s_zlt, s_zge, s_zgt, s_zle, s_ifnull, s_ifnullN, s_ifnonnull, s_ifnonnullN, s_tableswitch, s_lookupswitch, s_getfield, s_putfield, s_getstatic, s_iaload, s_laload, s_baload, s_aaload, s_iastore, s_lastore, s_bastore, s_aastore, s_arraylength, s_newI, s_newJ, s_newZ, s_anewarray, s_new, s_copy, s_max, s_min, s_invokestatic, s_objinit, s_invokespecial, kf_isr_r, s_invokevirtual, s_ireturn, s_lreturn, s_areturn, s_areturnN, s_return, lI_0, lI_s, lJ_0, lJ_s, lA_0, lA_0N, lA_s, lS1_0, lS1_1, lS1_2, lS2_0, lS2_1, lS2_2, lK_n, lK_i, lK_j, lK_a, lK_N, d_C', kf_w_0, kf_w_i, kf_w_a, kf_w_n, kf_w_j, c_0, c_1, c_2, c_3, c_4, c_5, c_6, tl_0, tl_1, Option.bind_some, Option.bind_none, Option.map_some, Nat.reduceAdd, Nat.reduceMul, Nat.reduceDiv, Nat.reduceMod, Int.reduceToNat, Fin.val_zero, Fin.isValue, Fin.val_one, Fin.val_two, fv_0, fv_1, fv_2, fv_3, fw_0, fw_1, d_ite, true_or, or_true, and_false, false_and, or_self, and_self, e]
    rfl
  | succ m ih =>
    intro j M hj hK hC hr
    have hc := hK.2.2.2
    have e : ¬ (64 : Int32) ≤ nI j := nI_ge (a := j) (b := 64) (by omega) (by omega)
    obtain ⟨M1, k1, K1, q1, c1, o1⟩ := kst hK hC ht hS hr hr (pmul_v hP _) (pmul_v hP _) (by unfold okp; omega) (by unfold okp; omega)
    rw [← pmul_add hP, show 2 ^ j * w + 2 ^ j * w = 2 ^ (j + 1) * w by rw [Nat.pow_succ, Nat.mul_right_comm]; omega] at q1
    obtain ⟨M2, k2, K2, q2, c2, o2⟩ := ih (j + 1) M1 (by omega) K1 c1 q1
    have rc := hC.rc
    refine ⟨M2, (e2_76 _ _ _).trans ?_, K2, q2, c2, Off.tr (o1.wk ?_) o2⟩
    · simp only [cl_2, e2_0, e2_1, e2_2, e2_4, e2_7, e2_8, e2_9, e2_10, e2_11, e2_12, e2_13, e2_16, e2_17, e2_18, e2_21, e2_22, e2_25, e2_26, e2_28, e2_31, e2_32, e2_33, e2_36, e2_37, e2_41, e2_42, e2_45, e2_46, e2_47, e2_49, e2_50, e2_51, e2_53, e2_54, e2_55, e2_57, e2_58, e2_59, e2_60, e2_61, e2_63, e2_64, e2_66, e2_68, e2_70, e2_73, e2_74, e2_78, e2_80, e2_83, e2_84, e2_86, e2_88, e2_90, e2_93, e2_96, e2_102, e2_105, e2_106, e2_107, e2_110, ow_2, Int32.reduceOfInt, Int32.reduceOfNat, Int32.reduceToNatClampNeg, Int32.reduceLT, Int32.reduceLE, Int32.reduceAdd, Int32.reduceSub, Int32.reduceMul, Int64.reduceOfNat, Int64.reduceOfInt, Nat.reduceLeDiff, Nat.reduceLT, Nat.reduceEqDiff, Nat.reduceSub, cs_0, cs_1, cs_2, cs_3, cs_4, cs_5, cs_6, cs_7, cs_8, or_false, false_or, not_false_eq_true, and_true, true_and, if_true, if_false, List.length_cons, List.length_nil, List.getElem?_cons_succ, List.getElem?_cons_zero, List.set_cons_succ, List.set_cons_zero, reduceIte, d_G, d_R, s_aload, s_aload_n, s_iload, s_iload_n, s_lload, s_lload_n, s_istore, s_istore_n, s_astore, s_astoreN, s_astore_n, s_astore_nN, s_lstore, s_lstore_n, s_iinc, s_iconst, s_bipush, s_sipush, s_lconst, s_ldc2_w, s_aconst_null, s_dupA, s_dupI, s_dup2, s_iadd, s_isub, s_imul, s_iand, s_ior, s_ixor, s_ishl, s_ishr, s_iushr, s_ineg, s_idiv, s_irem, s_ladd, s_lsub, s_lmul, s_land, s_lor, s_lxor, s_ldiv, s_lshl, s_lshr, s_lushr, s_i2l, s_l2i, s_lcmp, s_goto, s_ieq, s_ine, s_ilt, s_ige, s_igt, s_ile, s_zeq, s_zne, s_zlt, s_zge, s_zgt, s_zle, s_ifnull, s_ifnullN, s_ifnonnull, s_ifnonnullN, s_tableswitch, s_lookupswitch, s_getfield, s_putfield, s_getstatic, s_iaload, s_laload, s_baload, s_aaload, s_iastore, s_lastore, s_bastore, s_aastore, s_arraylength, s_newI, s_newJ, s_newZ, s_anewarray, s_new, s_copy, s_max, s_min, s_invokestatic, s_objinit, s_invokespecial, kf_isr_r, s_invokevirtual, s_ireturn, s_lreturn, s_areturn, s_areturnN, s_return, lI_0, lI_s, lJ_0, lJ_s, lA_0, lA_0N, lA_s, lS1_0, lS1_1, lS1_2, lS2_0, lS2_1, lS2_2, lK_n, lK_i, lK_j, lK_a, lK_N, d_C', kf_w_0, kf_w_i, kf_w_a, kf_w_n, kf_w_j, c_0, c_1, c_2, c_3, c_4, c_5, c_6, tl_0, tl_1, Option.bind_some, Option.bind_none, Option.map_some, Nat.reduceAdd, Nat.reduceMul, Nat.reduceDiv, Nat.reduceMod, Int.reduceToNat, Fin.val_zero, Fin.isValue, Fin.val_one, Fin.val_two, fv_0, fv_1, fv_2, fv_3, fw_0, fw_1, d_ite, true_or, or_true, and_false, false_and, or_self, and_self, ow_4, e, rc, k1, nI_1, k2]
    · intro x hx
      simp [cvs] at hx ⊢
      omega
/-- one tooth: from the place b to the place t -/
theorem f2t {c t b row : Nat} {P : Pt} {S : List Nat} {r1 : Nat} {i : Int32} {M : kf_M} (hP : vP P) (ht : t < 16) (hS : t ∉ S) (hb : b ∈ S) (hw : cw t = 2 ^ 64 * cw b) (hK : Kn M c P S) (hC : CvIs M) : ∃ M0 M', kf_cl 4 [.ref 105, .ref (c + 1 + 4 * t), .ref (c + 1 + 4 * b), .ref (c + 1 + 4 * b)] M = some (none, M0) ∧ kf_ev 2 76 [some (.ref 105), some (.ref c), some (.ref row), some (.ref r1), some (.int i), some (.ref (c + 1 + 4 * t)), some (.ref (c + 1 + 4 * b)), some (.int 1)] [] M0 = kf_ev 2 99 [some (.ref 105), some (.ref c), some (.ref row), some (.ref r1), some (.int i), some (.ref (c + 1 + 4 * t)), some (.ref (c + 1 + 4 * b)), some (.int 64)] [] M' ∧ Kn M' c P (t :: S) ∧ CvIs M' ∧ Off (cvs ++ List.range' (c + 1) 64) M M' := by
  obtain ⟨lb, hB⟩ := hK.2.2.1 b hb
  have hc := hK.2.2.2
  obtain ⟨M1, k1, K1, q1, c1, o1⟩ := kst hK hC ht hS hB hB (pmul_v hP _) (pmul_v hP _) (by unfold okp; omega) (by unfold okp; omega)
  rw [← pmul_add hP, show cw b + cw b = 2 ^ 1 * cw b by omega] at q1
  obtain ⟨M2, k2, K2, q2, c2, o2⟩ := f2l (row := row) (r1 := r1) (rb := c + 1 + 4 * b) (i := i) hP ht hS 63 1 M1 (by omega) K1 c1 q1
  rw [← hw] at q2
  rw [show nI 1 = 1 from rfl] at k2
  refine ⟨M1, M2, k1, k2, K2.add ht q2, c2, Off.tr (o1.wk ?_) o2⟩
  intro x hx
  simp [cvs] at hx ⊢
  omega
theorem f2 {M : kf_M} {c row : Nat} {x y : Nat} {rs : List Int32} (hP : vP (some ((x : Int), (y : Int)))) (hc : 187 ≤ c) (gc : M[c]? = some (oR 4 (cref c))) (hJ : ∀ j, j < 16 → PtJ M (c + 1 + 4 * j)) (hC : CvIs M) (hF : FldIs M 106 pP) (gr : M[row]? = some (oI rs)) (hrs : rs = nBL 32 x ++ nBL 32 y) (hrow : row < c ∨ c + 64 < row) (hrc : row ∉ cvs) : ∃ M', kf_cl 2 [.ref 105, .ref c, .ref row] M = some (none, M') ∧ Comb M' c (some ((x : Int), (y : Int))) ∧ (∀ j, j < 16 → PtJ M' (c + 1 + 4 * j)) ∧ CvIs M' ∧ Off (cvs ++ List.range' (c + 1) 64) M M' := by
  have hp := pP_lt
  have lrs : rs.length = 64 := by rw [hrs, List.length_append, nBL_len, nBL_len]
  obtain ⟨hO1, hx1, hy1, hz1⟩ := hJ 1 (by decide)
  obtain ⟨q1, q2, q3, q4, q5⟩ := hP
  have bx : x < 2 ^ 256 := by omega
  have by1 : y < 2 ^ 256 := by omega
  obtain ⟨r1, h1⟩ : ∃ r, r = c + 1 + 4 * 1 := ⟨_, rfl⟩
  rw [← h1] at hO1 hx1 hy1 hz1
  obtain ⟨M1, k1, n1, o1⟩ := f9b (f := 0) (n := x) hx1 (by omega) (by omega) gr (by omega) (by omega) (by rw [hrs, List.drop_zero, List.take_left' nBL_len]) bx
  have gr1 := o1.at (by simp; omega) gr
  have hO1' := o1.at (by simp) hO1
  obtain ⟨M2, k2, n2, o2⟩ := f9b (f := 32) (n := y) (hy1.off o1 (by simp)) (by omega) (by omega) gr1 (by omega) (by omega) (by rw [hrs, List.drop_left' nBL_len, List.take_of_length_le (by rw [nBL_len]; omega)]) by1
  have o12 : Off [r1 + 1, r1 + 2] M M2 := (o1.wk (by simp)).tr (o2.wk (by simp))
  have hO2 := o12.at (by simp) hO1
  have hC2 := hC.off o12 (by intro z hz; simp at hz; omega)
  have hF2 := hF.off o12 (by simp; omega) (by simp; omega) (by simp; omega) (by simp; omega) (by simp; omega) (by simp; omega)
  obtain ⟨M3, k3, r3, o3⟩ := f5 hC2 hF2 hO2 (n1.off o2 (by simp)) n2 (hz1.off o12 (by simp)) (by unfold okp; omega) ⟨by omega, q2⟩ ⟨by omega, q4⟩
  have o13 : Off [r1 + 1, r1 + 2, r1 + 3] M M3 := (o12.wk (by simp)).tr o3
  have hC3 := hC.off o13 (by intro z hz; simp at hz; omega)
  have vQ : vP (some ((x : Int), (y : Int))) := ⟨q1, q2, q3, q4, q5⟩
  have r3' : RepM M3 (c + 1 + 4 * 1) (pmul (cw 1) (some ((x : Int), (y : Int)))) := by
    rw [← h1, show cw 1 = 1 from by decide, pmul_1 vQ]
    exact r3
  have K3 : Kn M3 c (some ((x : Int), (y : Int))) [1] := by
    refine ⟨o13.at (by simp; omega) gc, ?_, ?_, Or.inr hc⟩
    · intro j hj
      by_cases e : j = 1
      · subst e
        exact r3'.j
      · exact (hJ j hj).off o13 (by simp; omega) (by simp; omega) (by simp; omega) (by simp; omega)
    · intro j hj
      rw [List.mem_singleton] at hj
      subst hj
      exact ⟨by decide, r3'⟩
  obtain ⟨M4, M5, k4, k5, K5, C5, o5⟩ := f2t (row := row) (r1 := r1) (i := 1) (t := 2) (b := 1) vQ (by decide) (by decide) (by decide) (by decide) K3 hC3
  obtain ⟨M6, M7, k6, k7, K7, C7, o7⟩ := f2t (row := row) (r1 := r1) (i := 2) (t := 4) (b := 2) vQ (by decide) (by decide) (by decide) (by decide) K5 C5
  obtain ⟨M8, M9, k8, k9, K9, C9, o9⟩ := f2t (row := row) (r1 := r1) (i := 3) (t := 8) (b := 4) vQ (by decide) (by decide) (by decide) (by decide) K7 C7
  obtain ⟨MA, kA, cA, jA, CA, oA⟩ := f6 vQ K9 C9
  obtain ⟨r2, h2⟩ : ∃ r, r = c + 1 + 4 * 2 := ⟨_, rfl⟩
  obtain ⟨r4, h4⟩ : ∃ r, r = c + 1 + 4 * 4 := ⟨_, rfl⟩
  obtain ⟨r8, h8⟩ : ∃ r, r = c + 1 + 4 * 8 := ⟨_, rfl⟩
  rw [← h1, ← h2] at k4 k5
  rw [← h2, ← h4] at k6 k7
  rw [← h4, ← h8] at k8 k9
  have x1 := cref_get (c := c) (j := 1) (by decide)
  have x2 := cref_get (c := c) (j := 2) (by decide)
  have x4 := cref_get (c := c) (j := 4) (by decide)
  have x8 := cref_get (c := c) (j := 8) (by decide)
  rw [← h1] at x1
  rw [← h2] at x2
  rw [← h4] at x4
  rw [← h8] at x8
  have g0 := gR_of gc
  have g1 := gO_of hO1
  have g1' := gO_of hO1'
  have g3 := K3.gR
  have g5 := K5.gR
  have g7 := K7.gR
  have rc2 := hC2.rc
  have rc3 := hC3.rc
  have rc5 := C5.rc
  have rc7 := C7.rc
  have rc9 := C9.rc
  have n16 : nI 16 = 16 := rfl
  have s1 : (1 : Int32) <<< ((1 : Int32) &&& 31) = 2 := by decide
  have s2 : (1 : Int32) <<< ((2 : Int32) &&& 31) = 4 := by decide
  have s3 : (1 : Int32) <<< ((3 : Int32) &&& 31) = 8 := by decide
  have s0 : (1 : Int32) <<< ((0 : Int32) &&& 31) = 1 := by decide
  have w1 : vR (some r1) = .ref r1 := rfl
  have w2 : vR (some r2) = .ref r2 := rfl
  have w4 : vR (some r4) = .ref r4 := rfl
  have w8 : vR (some r8) = .ref r8 := rfl
  rw [nI_0] at k1
  rw [show nI 32 = 32 from rfl] at k2
  refine ⟨MA, by simp only [cl_2, e2_0, e2_1, e2_2, e2_4, e2_7, e2_8, e2_9, e2_10, e2_11, e2_12, e2_13, e2_16, e2_17, e2_18, e2_21, e2_22, e2_25, e2_26, e2_28, e2_31, e2_32, e2_33, e2_36, e2_37, e2_39, e2_41, e2_42, e2_45, e2_46, e2_47, e2_49, e2_50, e2_51, e2_53, e2_54, e2_55, e2_57, e2_58, e2_59, e2_60, e2_61, e2_63, e2_64, e2_66, e2_68, e2_70, e2_73, e2_74, e2_78, e2_80, e2_83, e2_84, e2_86, e2_88, e2_90, e2_93, e2_96, e2_99, e2_102, e2_105, e2_106, e2_107, e2_110, ow_2, Int32.reduceOfInt, Int32.reduceOfNat, Int32.reduceToNatClampNeg, Int32.reduceLT, Int32.reduceLE, Int32.reduceAdd, Int32.reduceSub, Int32.reduceMul, Int64.reduceOfNat, Int64.reduceOfInt, Nat.reduceLeDiff, Nat.reduceLT, Nat.reduceEqDiff, Nat.reduceSub, cs_0, cs_1, cs_2, cs_3, cs_4, cs_5, cs_6, cs_7, cs_8, or_false, false_or, not_false_eq_true, and_true, true_and, if_true, if_false, List.length_cons, List.length_nil, List.getElem?_cons_succ, List.getElem?_cons_zero, List.set_cons_succ, List.set_cons_zero, reduceIte, d_G, d_R, s_aload, s_aload_n, s_iload, s_iload_n, s_lload, s_lload_n, s_istore, s_istore_n, s_astore, s_astoreN, s_astore_n, s_astore_nN, s_lstore, s_lstore_n, s_iinc, s_iconst, s_bipush, s_sipush, s_lconst, s_ldc2_w, s_aconst_null, s_dupA, s_dupI, s_dup2, s_iadd, s_isub, s_imul, s_iand, s_ior, s_ixor, s_ishl, s_ishr, s_iushr, s_ineg, s_idiv, s_irem, s_ladd, s_lsub, s_lmul, s_land, s_lor, s_lxor, s_ldiv, s_lshl, s_lshr, s_lushr, s_i2l, s_l2i, s_lcmp, s_goto, s_ieq, s_ine, s_ilt, s_ige, s_igt, s_ile, s_zeq, s_zne, s_zlt, s_zge, s_zgt, s_zle, s_ifnull, s_ifnullN, s_ifnonnull, s_ifnonnullN, s_tableswitch, s_lookupswitch, s_getfield, s_putfield, s_getstatic, s_iaload, s_laload, s_baload, s_aaload, s_iastore, s_lastore, s_bastore, s_aastore, s_arraylength, s_newI, s_newJ, s_newZ, s_anewarray, s_new, s_copy, s_max, s_min, s_invokestatic, s_objinit, s_invokespecial, kf_isr_r, s_invokevirtual, s_ireturn, s_lreturn, s_areturn, s_areturnN, s_return, lI_0, lI_s, lJ_0, lJ_s, lA_0, lA_0N, lA_s, lS1_0, lS1_1, lS1_2, lS2_0, lS2_1, lS2_2, lK_n, lK_i, lK_j, lK_a, lK_N, d_C', kf_w_0, kf_w_i, kf_w_a, kf_w_n, kf_w_j, c_0, c_1, c_2, c_3, c_4, c_5, c_6, tl_0, tl_1, Option.bind_some, Option.bind_none, Option.map_some, Nat.reduceAdd, Nat.reduceMul, Nat.reduceDiv, Nat.reduceMod, Int.reduceToNat, Fin.val_zero, Fin.isValue, Fin.val_one, Fin.val_two, fv_0, fv_1, fv_2, fv_3, fw_0, fw_1, d_ite, true_or, or_true, and_false, false_and, or_self, and_self, ow_4, ow_5, ow_6, oLen_R, cref_len, toI, n16, gc, g0, g1, g1', g3, g5, g7, rc2, rc3, rc5, rc7, rc9, s0, s1, s2, s3, w1, w2, w4, w8, x1, x2, x4, x8, k1, k2, k3, k4, k5, k6, k7, k8, k9, kA], cA, jA, CA, Off.tr (o13.wk ?_) (o5.tr (o7.tr (o9.tr oA)))⟩
  intro z hz
  simp [cvs] at hz ⊢
  omega
