/-! The reference: setPin; copying down inside one array -/
section MSET
variable {M : kf_M} {fs : List Value} {tp ou : List Int32} {tl ol n w : Nat} {V : Vs} {tc fl g : Int32} {ks : List Ky} {wt : List Nat} {wd : List Int32} {W : Ws} {G : Gs} {cs kk fr sz : List Int32} {p : Nat} {m : PM}
def A195 : List Nat := [289, 284, 302, 303, 304, 305, 307, 288]
theorem R195 {v : PV} (hT : MT M fs cs kk fr sz p) (hR : MR kk fr sz m) (ho : okM cs m) (m2 : MF fs tl ol V tc n w fl g) (m3 : MAr M tp ou V ks wt wd G) (hm : m.getD 3 none = some v) (hk : v.1 = 2) (hz : v.2.2.1 = 16) : ∃ M' fs', kf_cl 195 [.ref 284] M = some (some (.int 0), M') ∧ MdIs M' fs' ∧ MF fs' tl ol (V.1, rowOf cs m 3, frs V.1 V.2.2.2.1, V.2.2.2.1 + 1, V.2.2.2.2.1, V.2.2.2.2.2.1, 1) tc n w fl g ∧ MAr M' tp ou (V.1, rowOf cs m 3, frs V.1 V.2.2.2.1, V.2.2.2.1 + 1, V.2.2.2.2.1, V.2.2.2.2.2.1, 1) ks wt wd G ∧ Off A195 M M' := by
  obtain ⟨-, -, y3⟩ := mTR hT hR (nm := 3) (by decide) hm
  have y3 := y3 (Or.inl hk)
  have hv := (ho.2 3 v (mG_some hm)).2.2.1 (Or.inl hk)
  have g0 := gO_of hT.1.1
  have r1 := hT.1.rf 1 285 (by decide)
  have r8 := hT.1.rf 8 289 (by decide)
  have r62 := hT.1.rf 62 333 (by decide)
  have gf := gI_of hT.2.2.2.2.1.1
  obtain ⟨t, t7, t8⟩ := hT.2.2.2.2.2.2.1
  have hcl := hT.2.2.2.2.2.2.2.1
  have p5 := m3.2.2.2.2.1
  have p0 : ¬ (3 : Int32) < 0 := by decide
  have p1 : (3 : Int32).toNatClampNeg = 3 := by decide
  have kc := c130 (a := v.2.1) (b := 0) (n := 16) t7.1 p5.1 (by decide) (by decide) (by rw [t7.2]; omega) (by rw [p5.2]; decide) (by rw [t7.2]; decide) (by rw [p5.2]; decide)
  have er : rowOf cs m 3 = (cs.drop v.2.1).take 16 := by rw [rowOf_eq hm, hz]
  rw [cp_full p5.2, seg_eq t8 (by omega), ← er, nI_0, show nI 16 = 16 from rfl] at kc
  have lr : (rowOf cs m 3).length = 16 := by rw [er, List.length_take, List.length_drop]; omega
  obtain ⟨M1, e1⟩ : ∃ X, X = M.set 289 (oI (rowOf cs m 3)) := ⟨_, rfl⟩
  rw [← e1] at kc
  have o1 : Off [289] M M1 := by rw [e1]; exact Off.set (by simp)
  have n1 := hT.1.off o1 (by decide)
  have c5 : ArI M1 289 16 (rowOf cs m 3) := ⟨by rw [e1]; exact m_self (m_lt p5.1), lr⟩
  have q1 : MAr M1 tp ou (V.1, rowOf cs m 3, V.2.2) ks wt wd G := by
    obtain ⟨a1, a2, a3, a4, a5, a6, a7, a8, a9, a10, a11, a12, a13, a14, a15, a16, a17, a18, a19, a20, a21, a22⟩ := m3
    exact ⟨a1.off o1 (by decide), a2.off o1 (by decide), a3.off o1 (by decide), a4.off o1 (by decide), c5, a6.off o1 (by decide), a7.off o1 (by decide), a8.off o1 (by decide), a9.off o1 (by decide), a10.of5 o1 (by decide), a11.off o1 (by decide), a12.off' o1 (by decide), a13.off o1 (by decide), a14.off o1 (by decide), a15.off o1 (by decide), a16.off o1 (by decide), a17.off o1 (by decide), a18.off o1 (by decide), a19.off o1 (by decide), a20.off o1 (by decide), a21.off o1 (by decide), a22.off o1 (by decide)⟩
  have f1 : MF fs tl ol (V.1, rowOf cs m 3, V.2.2) tc n w fl g := m2
  have gOa0 := gO_of n1.1
  have lfa0 : 9 < (fs).length := by rw [n1.2.1]; decide
  obtain ⟨Ma0, eMa0⟩ : ∃ X, X = M1.set 284 (oO 12 ((fs).set 9 (.int 1))) := ⟨_, rfl⟩
  have oMa0 : Off [284] M1 Ma0 := by rw [eMa0]; exact Off.set (by simp)
  have nMa0 : MdIs Ma0 ((fs).set 9 (.int 1)) := by rw [eMa0]; exact n1.set (by decide)
  have f2 := f1.s9 (a := 1) n1.2.1
  have q2 := q1.o oMa0
  have rca := nMa0.rc
  obtain ⟨M3, fs3, k3, n3, f3, q3, F3, o3⟩ := R135 nMa0 f2 q2
  have bb : (((1 : Int32) == 0) || ((1 : Int32) == 1)) = true := by decide
  refine ⟨M3, fs3, ?_, n3, f3, q3, ((o1.wk (by decide)).tr (oMa0.wk (by decide))).tr (o3.wk (by decide))⟩
  simp only [cl_195, e195_0, e195_1, e195_4, e195_5, e195_8, e195_9, e195_10, e195_11, e195_14, e195_15, e195_17, e195_20, e195_21, e195_22, e195_25, e195_26, e195_29, e195_30, ow_195, Int32.reduceOfInt, Int32.reduceOfNat, Int32.reduceToNatClampNeg, Int32.reduceLT, Int32.reduceLE, Int32.reduceAdd, Int32.reduceSub, Int32.reduceMul, Int64.reduceOfNat, Int64.reduceOfInt, Nat.reduceLeDiff, Nat.reduceLT, Nat.reduceEqDiff, Nat.reduceSub, cs_0, cs_1, cs_2, cs_3, cs_4, cs_5, cs_6, cs_7, cs_8, or_false, false_or, not_false_eq_true, and_true, true_and, if_true, if_false, List.length_cons, List.length_nil, List.getElem?_cons_succ, List.getElem?_cons_zero, List.set_cons_succ, List.set_cons_zero, reduceIte, d_G, d_R, s_aload, s_aload_n, s_iload, s_iload_n, s_lload, s_lload_n, s_istore, s_istore_n, s_astore, s_astoreN, s_astore_n, s_astore_nN, s_lstore, s_lstore_n, s_iinc, s_iconst, s_bipush, s_sipush, s_lconst, s_ldc2_w, s_aconst_null, s_dupA, s_dupI, s_dup2, s_iadd, s_isub, s_imul, s_iand, s_ior, s_ixor, s_ishl, s_ishr, s_iushr, s_ineg, s_idiv, s_irem, s_ladd, s_lsub, s_lmul, s_land, s_lor, s_lxor, s_ldiv, s_lshl, s_lshr, s_lushr, s_i2l, s_l2i, s_lcmp, s_goto, s_ieq, s_ine, s_ilt, s_ige, s_igt, s_ile, s_zeq, s_zne, s_zlt, s_zge, s_zgt, s_zle, s_ifnull, s_ifnullN, s_ifnonnull, s_ifnonnullN, s_tableswitch, s_lookupswitch, s_getfield, s_putfield, s_getstatic, s_iaload, s_laload, s_baload, s_aaload, s_iastore, s_lastore, s_bastore, s_aastore, s_arraylength, s_newI, s_newJ, s_newZ, s_anewarray, s_new, s_copy, s_max, s_min, s_invokestatic, s_objinit, s_invokespecial, kf_isr_r, s_invokevirtual, s_ireturn, s_lreturn, s_areturn, s_areturnN, s_return, lI_0, lI_s, lJ_0, lJ_s, lA_0, lA_0N, lA_s, lS1_0, lS1_1, lS1_2, lS2_0, lS2_1, lS2_2, lK_n, lK_i, lK_j, lK_a, lK_N, d_C', kf_w_0, kf_w_i, kf_w_a, kf_w_n, kf_w_j, c_0, c_1, c_2, c_3, c_4, c_5, c_6, tl_0, tl_1, Option.bind_some, Option.bind_none, Option.map_some, Nat.reduceAdd, Nat.reduceMul, Nat.reduceDiv, Nat.reduceMod, Int.reduceToNat, Fin.val_zero, Fin.isValue, Fin.val_one, Fin.val_two, fv_0, fv_1, fv_2, fv_3, fw_0, fw_1, d_ite, true_or, or_true, and_false, false_and, or_self, and_self, ow_135, g0, r1, r8, r62, gf, p0, p1, y3, kc, kf_fit, bb, gOa0, lfa0, ← eMa0, rca, k3]
/-- a copy inside one array, from behind the place it goes to -/
theorem c130sl {q a b n : Nat} {xs : List Int32} (hq : 19 ≤ q) (h1 : a + n ≤ xs.length) (hab : b + n ≤ a) (h3 : xs.length < 2 ^ 20) {M : kf_M} (gq : q < M.length) : ∀ (m k : Nat), k + m = n → kf_ev 130 3 [some (.ref q), some (.int (nI a)), some (.ref q), some (.int (nI b)), some (.int (nI n)), some (.int (nI k))] [] (M.set q (oI (kf_cp xs xs a b k))) = some (none, M.set q (oI (kf_cp xs xs a b n))) := by
  intro m
  induction m with
  | zero =>
    intro k hk
    have hk : k = n := by omega
    subst hk
    have e : nI k ≤ nI k := nI_le (Nat.le_refl _) (by omega)
    exact (e130_3 _ _ _).trans (by simp only [cl_130, e130_0, e130_1, e130_5, e130_7, e130_10, e130_11, e130_12, e130_14, e130_15, e130_16, e130_17, e130_19, e130_20, e130_21, e130_22, e130_25, e130_28, ow_130, Int32.reduceOfInt, Int32.reduceOfNat, Int32.reduceToNatClampNeg, Int32.reduceLT, Int32.reduceLE, Int32.reduceAdd, Int32.reduceSub, Int32.reduceMul, Int64.reduceOfNat, Int64.reduceOfInt, Nat.reduceLeDiff, Nat.reduceLT, Nat.reduceEqDiff, Nat.reduceSub, cs_0, cs_1, cs_2, cs_3, cs_4, cs_5, cs_6, cs_7, cs_8, or_false, false_or, not_false_eq_true, and_true, true_and, if_true, if_false, List.length_cons, List.length_nil, List.getElem?_cons_succ, List.getElem?_cons_zero, List.set_cons_succ, List.set_cons_zero, reduceIte, d_G, d_R, s_aload, s_aload_n, s_iload, s_iload_n, s_lload, s_lload_n, s_istore, s_istore_n, s_astore, s_astoreN, s_astore_n, s_astore_nN, s_lstore, s_lstore_n, s_iinc, s_iconst, s_bipush, s_sipush, s_lconst, s_ldc2_w, s_aconst_null, s_dupA, s_dupI, s_dup2, s_iadd, s_isub, s_imul, s_iand, s_ior, s_ixor, s_ishl, s_ishr, s_iushr, s_ineg, s_idiv, s_irem, s_ladd, s_lsub, s_lmul, s_land, s_lor, s_lxor, s_ldiv, s_lshl, s_lshr, s_lushr, s_i2l, s_l2i, s_lcmp, s_goto, s_ieq, s_ine, s_ilt, s_ige, s_igt, s_ile, s_zeq, s_zne, s_zlt, s_zge, s_zgt, s_zle, s_ifnull, s_ifnullN, s_ifnonnull, s_ifnonnullN, s_tableswitch, s_lookupswitch, s_getfield, s_putfield, s_getstatic, s_iaload, s_laload, s_baload, s_aaload, s_iastore, s_lastore, s_bastore, s_aastore, s_arraylength, s_newI, s_newJ, s_newZ, s_anewarray, s_new, s_copy, s_max, s_min, s_invokestatic, s_objinit, s_invokespecial, kf_isr_r, s_invokevirtual, s_ireturn, s_lreturn, s_areturn, s_areturnN, s_return, lI_0, lI_s, lJ_0, lJ_s, lA_0, lA_0N, lA_s, lS1_0, lS1_1, lS1_2, lS2_0, lS2_1, lS2_2, lK_n, lK_i, lK_j, lK_a, lK_N, d_C', kf_w_0, kf_w_i, kf_w_a, kf_w_n, kf_w_j, c_0, c_1, c_2, c_3, c_4, c_5, c_6, tl_0, tl_1, Option.bind_some, Option.bind_none, Option.map_some, Nat.reduceAdd, Nat.reduceMul, Nat.reduceDiv, Nat.reduceMod, Int.reduceToNat, Fin.val_zero, Fin.isValue, Fin.val_one, Fin.val_two, fv_0, fv_1, fv_2, fv_3, fw_0, fw_1, d_ite, true_or, or_true, and_false, false_and, or_self, and_self, e])
  | succ m ih =>
    intro k hk
    have e : ¬ nI n ≤ nI k := nI_ge (by omega) (by omega)
    have lk : (kf_cp xs xs a b k).length = xs.length := kf_cp_len (by omega) (by omega)
    have gr : gI (M.set q (oI (kf_cp xs xs a b k))) q = some (kf_cp xs xs a b k) := gI_self gq
    have p0 : ¬ nI (a + k) < 0 := nI_pos (by omega)
    have p1 : (nI (a + k)).toNatClampNeg = a + k := nI_clamp (by omega)
    have p2 : ¬ nI (b + k) < 0 := nI_pos (by omega)
    have p3 : (nI (b + k)).toNatClampNeg = b + k := nI_clamp (by omega)
    have w0 : (kf_cp xs xs a b k)[a + k]? = some (xs.getD (a + k) 0) := by
      rw [kf_cp_get (by omega) (by omega), if_neg (by omega)]
      exact getD_of (by omega)
    have b1 : ¬ (kf_cp xs xs a b k).length ≤ b + k := by rw [lk]; omega
    have b2 : ¬ q < 19 := by omega
    have es := kf_cp_s (xs := xs) (ys := xs) (a := a) (b := b) (k := k) (by omega) (by omega)
    have ih' := ih (k + 1) (by omega)
    refine (e130_3 _ _ _).trans ?_
    simp only [cl_130, e130_0, e130_1, e130_5, e130_7, e130_10, e130_11, e130_12, e130_14, e130_15, e130_16, e130_17, e130_19, e130_20, e130_21, e130_22, e130_25, e130_28, ow_130, Int32.reduceOfInt, Int32.reduceOfNat, Int32.reduceToNatClampNeg, Int32.reduceLT, Int32.reduceLE, Int32.reduceAdd, Int32.reduceSub, Int32.reduceMul, Int64.reduceOfNat, Int64.reduceOfInt, Nat.reduceLeDiff, Nat.reduceLT, Nat.reduceEqDiff, Nat.reduceSub, cs_0, cs_1, cs_2, cs_3, cs_4, cs_5, cs_6, cs_7, cs_8, or_false, false_or, not_false_eq_true, and_true, true_and, if_true, if_false, List.length_cons, List.length_nil, List.getElem?_cons_succ, List.getElem?_cons_zero, List.set_cons_succ, List.set_cons_zero, reduceIte, d_G, d_R, s_aload, s_aload_n, s_iload, s_iload_n, s_lload, s_lload_n, s_istore, s_istore_n, s_astore, s_astoreN, s_astore_n, s_astore_nN, s_lstore, s_lstore_n, s_iinc, s_iconst, s_bipush, s_sipush, s_lconst, s_ldc2_w, s_aconst_null, s_dupA, s_dupI, s_dup2, s_iadd, s_isub, s_imul, s_iand, s_ior, s_ixor, s_ishl, s_ishr, s_iushr, s_ineg, s_idiv, s_irem, s_ladd, s_lsub, s_lmul, s_land, s_lor, s_lxor, s_ldiv, s_lshl, s_lshr, s_lushr, s_i2l, s_l2i, s_lcmp, s_goto, s_ieq, s_ine, s_ilt, s_ige, s_igt, s_ile, s_zeq, s_zne, s_zlt, s_zge, s_zgt, s_zle, s_ifnull, s_ifnullN, s_ifnonnull, s_ifnonnullN, s_tableswitch, s_lookupswitch, s_getfield, s_putfield, s_getstatic, s_iaload, s_laload, s_baload, s_aaload, s_iastore, s_lastore, s_bastore, s_aastore, s_arraylength, s_newI, s_newJ, s_newZ, s_anewarray, s_new, s_copy, s_max, s_min, s_invokestatic, s_objinit, s_invokespecial, kf_isr_r, s_invokevirtual, s_ireturn, s_lreturn, s_areturn, s_areturnN, s_return, lI_0, lI_s, lJ_0, lJ_s, lA_0, lA_0N, lA_s, lS1_0, lS1_1, lS1_2, lS2_0, lS2_1, lS2_2, lK_n, lK_i, lK_j, lK_a, lK_N, d_C', kf_w_0, kf_w_i, kf_w_a, kf_w_n, kf_w_j, c_0, c_1, c_2, c_3, c_4, c_5, c_6, tl_0, tl_1, Option.bind_some, Option.bind_none, Option.map_some, Nat.reduceAdd, Nat.reduceMul, Nat.reduceDiv, Nat.reduceMod, Int.reduceToNat, Fin.val_zero, Fin.isValue, Fin.val_one, Fin.val_two, fv_0, fv_1, fv_2, fv_3, fw_0, fw_1, d_ite, true_or, or_true, and_false, false_and, or_self, and_self, e, gr, nI_add, p0, p1, p2, p3, w0, b1, b2, kf_NS, List.set_set, es, nI_1, ih']
theorem c130s {q a b n : Nat} {xs : List Int32} {M : kf_M} (gq : M[q]? = some (oI xs)) (hq : 19 ≤ q) (h1 : a + n ≤ xs.length) (hab : b + n ≤ a) (h3 : xs.length < 2 ^ 20) : kf_cl 130 [.ref q, .int (nI a), .ref q, .int (nI b), .int (nI n)] M = some (none, M.set q (oI (kf_cp xs xs a b n))) := by
  have k := c130sl hq h1 hab h3 (m_lt gq) n 0 (by omega)
  rw [kf_cp_0, set_id gq, nI_0] at k
  simp only [cl_130, e130_0, e130_1, e130_5, e130_7, e130_10, e130_11, e130_12, e130_14, e130_15, e130_16, e130_17, e130_19, e130_20, e130_21, e130_22, e130_25, e130_28, ow_130, Int32.reduceOfInt, Int32.reduceOfNat, Int32.reduceToNatClampNeg, Int32.reduceLT, Int32.reduceLE, Int32.reduceAdd, Int32.reduceSub, Int32.reduceMul, Int64.reduceOfNat, Int64.reduceOfInt, Nat.reduceLeDiff, Nat.reduceLT, Nat.reduceEqDiff, Nat.reduceSub, cs_0, cs_1, cs_2, cs_3, cs_4, cs_5, cs_6, cs_7, cs_8, or_false, false_or, not_false_eq_true, and_true, true_and, if_true, if_false, List.length_cons, List.length_nil, List.getElem?_cons_succ, List.getElem?_cons_zero, List.set_cons_succ, List.set_cons_zero, reduceIte, d_G, d_R, s_aload, s_aload_n, s_iload, s_iload_n, s_lload, s_lload_n, s_istore, s_istore_n, s_astore, s_astoreN, s_astore_n, s_astore_nN, s_lstore, s_lstore_n, s_iinc, s_iconst, s_bipush, s_sipush, s_lconst, s_ldc2_w, s_aconst_null, s_dupA, s_dupI, s_dup2, s_iadd, s_isub, s_imul, s_iand, s_ior, s_ixor, s_ishl, s_ishr, s_iushr, s_ineg, s_idiv, s_irem, s_ladd, s_lsub, s_lmul, s_land, s_lor, s_lxor, s_ldiv, s_lshl, s_lshr, s_lushr, s_i2l, s_l2i, s_lcmp, s_goto, s_ieq, s_ine, s_ilt, s_ige, s_igt, s_ile, s_zeq, s_zne, s_zlt, s_zge, s_zgt, s_zle, s_ifnull, s_ifnullN, s_ifnonnull, s_ifnonnullN, s_tableswitch, s_lookupswitch, s_getfield, s_putfield, s_getstatic, s_iaload, s_laload, s_baload, s_aaload, s_iastore, s_lastore, s_bastore, s_aastore, s_arraylength, s_newI, s_newJ, s_newZ, s_anewarray, s_new, s_copy, s_max, s_min, s_invokestatic, s_objinit, s_invokespecial, kf_isr_r, s_invokevirtual, s_ireturn, s_lreturn, s_areturn, s_areturnN, s_return, lI_0, lI_s, lJ_0, lJ_s, lA_0, lA_0N, lA_s, lS1_0, lS1_1, lS1_2, lS2_0, lS2_1, lS2_2, lK_n, lK_i, lK_j, lK_a, lK_N, d_C', kf_w_0, kf_w_i, kf_w_a, kf_w_n, kf_w_j, c_0, c_1, c_2, c_3, c_4, c_5, c_6, tl_0, tl_1, Option.bind_some, Option.bind_none, Option.map_some, Nat.reduceAdd, Nat.reduceMul, Nat.reduceDiv, Nat.reduceMod, Int.reduceToNat, Fin.val_zero, Fin.isValue, Fin.val_one, Fin.val_two, fv_0, fv_1, fv_2, fv_3, fw_0, fw_1, d_ite, true_or, or_true, and_false, false_and, or_self, and_self, k]
end MSET
