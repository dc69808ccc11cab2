/-! Hash.end, whole -/
theorem dgF_eq {S : List Int32} : ∀ (m i : Nat) (xs : List Int32), i + m ≤ xs.length → dgF S xs i m = xs.take i ++ (List.range' i m).map (dgB S) ++ xs.drop (i + m)
  | 0, i, xs, h => by simp [dgF]
  | m + 1, i, xs, h => by
    rw [dgF, dgF_eq m (i + 1) (xs.set i (dgB S i)) (by simp; omega)]
    have e1 : (xs.set i (dgB S i)).take (i + 1) = xs.take i ++ [dgB S i] := by
      rw [List.take_succ, List.getElem?_set_self (by omega), List.take_set_of_le (Nat.le_refl _)]
      rfl
    have e2 : (xs.set i (dgB S i)).drop (i + 1 + m) = xs.drop (i + (m + 1)) := by
      rw [List.drop_set_of_lt (by omega), show i + 1 + m = i + (m + 1) by omega]
    rw [e1, e2, List.range'_succ]
    simp
def dg (S : List Int32) : List Int32 := (List.range' 0 32).map (dgB S)
theorem dg_len {S : List Int32} : (dg S).length = 32 := by simp [dg]
def hbits (n : Nat) : Int64 := (nI n).toInt64 * 8
def hend (s : HS) : HS := hputs (padz 64 (hput s 128)) [sh64 (hbits s.2.2) 56, sh64 (hbits s.2.2) 48, sh64 (hbits s.2.2) 40, sh64 (hbits s.2.2) 32, sh64 (hbits s.2.2) 24, sh64 (hbits s.2.2) 16, sh64 (hbits s.2.2) 8, sh64 (hbits s.2.2) 0]
theorem c28 {M : kf_M} {a b : Nat} {s : HS} {xs : List Int32} (h : HashV M a s) (ho : hok s) (hn : s.2.2 < 2 ^ 29) (gk : M[1]? = some (oI sx_1)) (gb : M[b]? = some (oI xs)) (hx : 32 ≤ xs.length) (hx2 : xs.length < 2 ^ 20) (ha : 19 ≤ a) (hb : b ∉ [a, a + 1, a + 2]) (hbN : 19 ≤ b) : ∃ M', kf_cl 28 [.ref a, .ref b] M = some (none, M') ∧ HashV M' a (hend s) ∧ M'[b]? = some (oI (dg (hend s).1 ++ xs.drop 32)) ∧ Off [a, a + 1, a + 2, b] M M' := by
  have k1m : (1 : Nat) ∉ [a, a + 1, a + 2] := by simp; omega
  have ga := gO_of h.1
  obtain ⟨M0, k0, r0, o0⟩ := c26v (v := 128) h ho (by omega) gk ha
  have u0 := hput_ok (v := 128) ho
  have n0 : (hput s 128).2.2 = s.2.2 + 1 := (hput_len ho.1 ho.2).2.2
  obtain ⟨MA, jA, kA, rA, oA⟩ := c28a (I := .ref b) (in1 := b) (bt := hbits s.2.2) rfl ha 64 0 M0 (hput s 128) (by omega) r0 u0 (by omega) (o0.at k1m gk)
  obtain ⟨uA, nA⟩ := padz_ok 64 (hput s 128) u0
  have gA := (o0.tr oA).at k1m gk
  obtain ⟨M1, k1, r1, o1⟩ := c26v (v := sh64 (hbits s.2.2) 56) rA uA (by omega) gA ha
  have n1 := (hput_len (v := sh64 (hbits s.2.2) 56) uA.1 uA.2).2.2
  have u1 := hput_ok (v := sh64 (hbits s.2.2) 56) uA
  have g1 := o1.at k1m gA
  obtain ⟨M2, k2, r2, o2⟩ := c26v (v := sh64 (hbits s.2.2) 48) r1 u1 (by omega) g1 ha
  have n2 := (hput_len (v := sh64 (hbits s.2.2) 48) u1.1 u1.2).2.2
  have u2 := hput_ok (v := sh64 (hbits s.2.2) 48) u1
  have g2 := o2.at k1m g1
  obtain ⟨M3, k3, r3, o3⟩ := c26v (v := sh64 (hbits s.2.2) 40) r2 u2 (by omega) g2 ha
  have n3 := (hput_len (v := sh64 (hbits s.2.2) 40) u2.1 u2.2).2.2
  have u3 := hput_ok (v := sh64 (hbits s.2.2) 40) u2
  have g3 := o3.at k1m g2
  obtain ⟨M4, k4, r4, o4⟩ := c26v (v := sh64 (hbits s.2.2) 32) r3 u3 (by omega) g3 ha
  have n4 := (hput_len (v := sh64 (hbits s.2.2) 32) u3.1 u3.2).2.2
  have u4 := hput_ok (v := sh64 (hbits s.2.2) 32) u3
  have g4 := o4.at k1m g3
  obtain ⟨M5, k5, r5, o5⟩ := c26v (v := sh64 (hbits s.2.2) 24) r4 u4 (by omega) g4 ha
  have n5 := (hput_len (v := sh64 (hbits s.2.2) 24) u4.1 u4.2).2.2
  have u5 := hput_ok (v := sh64 (hbits s.2.2) 24) u4
  have g5 := o5.at k1m g4
  obtain ⟨M6, k6, r6, o6⟩ := c26v (v := sh64 (hbits s.2.2) 16) r5 u5 (by omega) g5 ha
  have n6 := (hput_len (v := sh64 (hbits s.2.2) 16) u5.1 u5.2).2.2
  have u6 := hput_ok (v := sh64 (hbits s.2.2) 16) u5
  have g6 := o6.at k1m g5
  obtain ⟨M7, k7, r7, o7⟩ := c26v (v := sh64 (hbits s.2.2) 8) r6 u6 (by omega) g6 ha
  have n7 := (hput_len (v := sh64 (hbits s.2.2) 8) u6.1 u6.2).2.2
  have u7 := hput_ok (v := sh64 (hbits s.2.2) 8) u6
  have g7 := o7.at k1m g6
  obtain ⟨M8, k8, r8, o8⟩ := c26v (v := sh64 (hbits s.2.2) 0) r7 u7 (by omega) g7 ha
  have u8 := hput_ok (v := sh64 (hbits s.2.2) 0) u7
  have oall : Off [a, a + 1, a + 2] M M8 := o0.tr (oA.tr (o1.tr (o2.tr (o3.tr (o4.tr (o5.tr (o6.tr (o7.tr o8))))))))
  have r8' : HashV M8 a (hend s) := r8
  have kC := c28c (bt := hbits s.2.2) (show (hend s).1.length = 8 from u8.1) hb hbN 32 0 M8 xs (by omega) r8' (oall.at hb gb) hx hx2
  rw [nI_0] at kA kC
  unfold sh64 at k1 k2 k3 k4 k5 k6 k7 k8
  unfold hbits at kA kC k1 k2 k3 k4 k5 k6 k7 k8
  have rc := HashIs.rc h
  have rA' := HashIs.rc rA
  have rc1 := HashIs.rc r1
  have rc2 := HashIs.rc r2
  have rc3 := HashIs.rc r3
  have rc4 := HashIs.rc r4
  have rc5 := HashIs.rc r5
  have rc6 := HashIs.rc r6
  have rc7 := HashIs.rc r7
  have hb' := hb
  simp only [List.mem_cons, List.not_mem_nil, or_false, not_or] at hb'
  refine ⟨M8.set b (oI (dgF (hend s).1 xs 0 32)), ?_, ?_, ?_, ?_⟩
  · simp only [cl_28, e28_0, e28_1, e28_4, e28_5, e28_8, e28_9, e28_10, e28_11, e28_14, e28_17, e28_18, e28_22, e28_24, e28_27, e28_28, e28_31, e28_33, e28_34, e28_36, e28_39, e28_40, e28_41, e28_44, e28_47, e28_52, e28_56, e28_59, e28_60, e28_61, e28_63, e28_64, e28_65, e28_68, e28_71, e28_74, e28_75, e28_79, e28_81, e28_84, e28_86, e28_87, e28_88, e28_91, e28_92, e28_94, e28_95, e28_98, e28_100, e28_101, e28_102, e28_103, e28_105, e28_107, e28_109, e28_110, e28_111, e28_112, e28_113, e28_114, e28_117, e28_118, e28_119, e28_122, e28_125, ow_28, Int32.reduceOfInt, Int32.reduceOfNat, Int32.reduceToNatClampNeg, Int32.reduceLT, Int32.reduceLE, Int32.reduceAdd, Int32.reduceSub, Int32.reduceMul, Int64.reduceOfNat, Int64.reduceOfInt, Nat.reduceLeDiff, Nat.reduceLT, Nat.reduceEqDiff, Nat.reduceSub, cs_0, cs_1, cs_2, cs_3, cs_4, cs_5, cs_6, cs_7, cs_8, or_false, false_or, not_false_eq_true, and_true, true_and, if_true, if_false, List.length_cons, List.length_nil, List.getElem?_cons_succ, List.getElem?_cons_zero, List.set_cons_succ, List.set_cons_zero, reduceIte, d_G, d_R, s_aload, s_aload_n, s_iload, s_iload_n, s_lload, s_lload_n, s_istore, s_istore_n, s_astore, s_astoreN, s_astore_n, s_astore_nN, s_lstore, s_lstore_n, s_iinc, s_iconst, s_bipush, s_sipush, s_lconst, s_ldc2_w, s_aconst_null, s_dupA, s_dupI, s_dup2, s_iadd, s_isub, s_imul, s_iand, s_ior, s_ixor, s_ishl, s_ishr, s_iushr, s_ineg, s_idiv, s_irem, s_ladd, s_lsub, s_lmul, s_land, s_lor, s_lxor, s_ldiv, s_lshl, s_lshr, s_lushr, s_i2l, s_l2i, s_lcmp, s_goto, s_ieq, s_ine, s_ilt, s_ige, s_igt, s_ile, s_zeq, s_zne, s_zlt, s_zge, s_zgt, s_zle, s_ifnull, s_ifnullN, s_ifnonnull, s_ifnonnullN, s_tableswitch, s_lookupswitch, s_getfield, s_putfield, s_getstatic, s_iaload, s_laload, s_baload, s_aaload, s_iastore, s_lastore, s_bastore, s_aastore, s_arraylength, s_newI, s_newJ, s_newZ, s_anewarray, s_new, s_copy, s_max, s_min, s_invokestatic, s_objinit, s_invokespecial, kf_isr_r, s_invokevirtual, s_ireturn, s_lreturn, s_areturn, s_areturnN, s_return, lI_0, lI_s, lJ_0, lJ_s, lA_0, lA_0N, lA_s, lS1_0, lS1_1, lS1_2, lS2_0, lS2_1, lS2_2, lK_n, lK_i, lK_j, lK_a, lK_N, d_C', kf_w_0, kf_w_i, kf_w_a, kf_w_n, kf_w_j, c_0, c_1, c_2, c_3, c_4, c_5, c_6, tl_0, tl_1, Option.bind_some, Option.bind_none, Option.map_some, Nat.reduceAdd, Nat.reduceMul, Nat.reduceDiv, Nat.reduceMod, Int.reduceToNat, Fin.val_zero, Fin.isValue, Fin.val_one, Fin.val_two, fv_0, fv_1, fv_2, fv_3, fw_0, fw_1, d_ite, true_or, or_true, and_false, false_and, or_self, and_self, ow_26, ga, rc, k0]
    refine kA.trans ((e28_50 _ _ _).trans ?_)
    simp only [cl_28, e28_0, e28_1, e28_4, e28_5, e28_8, e28_9, e28_10, e28_11, e28_14, e28_17, e28_18, e28_22, e28_24, e28_27, e28_28, e28_31, e28_33, e28_34, e28_36, e28_39, e28_40, e28_41, e28_44, e28_47, e28_52, e28_54, e28_56, e28_59, e28_60, e28_61, e28_63, e28_64, e28_65, e28_68, e28_71, e28_74, e28_75, e28_79, e28_81, e28_84, e28_86, e28_87, e28_88, e28_91, e28_92, e28_94, e28_95, e28_98, e28_100, e28_101, e28_102, e28_103, e28_105, e28_107, e28_109, e28_110, e28_111, e28_112, e28_113, e28_114, e28_117, e28_118, e28_119, e28_122, e28_125, ow_28, Int32.reduceOfInt, Int32.reduceOfNat, Int32.reduceToNatClampNeg, Int32.reduceLT, Int32.reduceLE, Int32.reduceAdd, Int32.reduceSub, Int32.reduceMul, Int64.reduceOfNat, Int64.reduceOfInt, Nat.reduceLeDiff, Nat.reduceLT, Nat.reduceEqDiff, Nat.reduceSub, cs_0, cs_1, cs_2, cs_3, cs_4, cs_5, cs_6, cs_7, cs_8, or_false, false_or, not_false_eq_true, and_true, true_and, if_true, if_false, List.length_cons, List.length_nil, List.getElem?_cons_succ, List.getElem?_cons_zero, List.set_cons_succ, List.set_cons_zero, reduceIte, d_G, d_R, s_aload, s_aload_n, s_iload, s_iload_n, s_lload, s_lload_n, s_istore, s_istore_n, s_astore, s_astoreN, s_astore_n, s_astore_nN, s_lstore, s_lstore_n, s_iinc, s_iconst, s_bipush, s_sipush, s_lconst, s_ldc2_w, s_aconst_null, s_dupA, s_dupI, s_dup2, s_iadd, s_isub, s_imul, s_iand, s_ior, s_ixor, s_ishl, s_ishr, s_iushr, s_ineg, s_idiv, s_irem, s_ladd, s_lsub, s_lmul, s_land, s_lor, s_lxor, s_ldiv, s_lshl, s_lshr, s_lushr, s_i2l, s_l2i, s_lcmp, s_goto, s_ieq, s_ine, s_ilt, s_ige, s_igt, s_ile, s_zeq, s_zne, s_zlt, s_zge, s_zgt, s_zle, s_ifnull, s_ifnullN, s_ifnonnull, s_ifnonnullN, s_tableswitch, s_lookupswitch, s_getfield, s_putfield, s_getstatic, s_iaload, s_laload, s_baload, s_aaload, s_iastore, s_lastore, s_bastore, s_aastore, s_arraylength, s_newI, s_newJ, s_newZ, s_anewarray, s_new, s_copy, s_max, s_min, s_invokestatic, s_objinit, s_invokespecial, kf_isr_r, s_invokevirtual, s_ireturn, s_lreturn, s_areturn, s_areturnN, s_return, lI_0, lI_s, lJ_0, lJ_s, lA_0, lA_0N, lA_s, lS1_0, lS1_1, lS1_2, lS2_0, lS2_1, lS2_2, lK_n, lK_i, lK_j, lK_a, lK_N, d_C', kf_w_0, kf_w_i, kf_w_a, kf_w_n, kf_w_j, c_0, c_1, c_2, c_3, c_4, c_5, c_6, tl_0, tl_1, Option.bind_some, Option.bind_none, Option.map_some, Nat.reduceAdd, Nat.reduceMul, Nat.reduceDiv, Nat.reduceMod, Int.reduceToNat, Fin.val_zero, Fin.isValue, Fin.val_one, Fin.val_two, fv_0, fv_1, fv_2, fv_3, fw_0, fw_1, d_ite, true_or, or_true, and_false, false_and, or_self, and_self, ow_26, rA', rc1, rc2, rc3, rc4, rc5, rc6, rc7, k1, k2, k3, k4, k5, k6, k7, k8, kC]
  · exact ⟨by rw [m_ne (fun q => hb'.1 q)]; exact r8'.1, by rw [m_ne (fun q => hb'.2.1 q)]; exact r8'.2.1, by rw [m_ne (fun q => hb'.2.2 q)]; exact r8'.2.2⟩
  · rw [m_self (m_lt (oall.at hb gb)), dgF_eq 32 0 xs (by omega)]
    simp [dg]
  · exact (oall.wk (fun q hq => by simp at hq ⊢; omega)).tr (Off.set (by simp))
