/-! The reference's finish, whole: the digest of its message -/
def MH (M : kf_M) : Prop := M[12]? = some (oI sx_12) ∧ M[13]? = some (oI sx_13) ∧ (∃ S, M[303]? = some (oI S) ∧ S.length = 8) ∧ (∃ W, M[304]? = some (oI W) ∧ W.length = 64) ∧ (∃ D, M[305]? = some (oI D) ∧ D.length = 32)
theorem MH.off {M M' : kf_M} {A : List Nat} (h : MH M) (ho : Off A M M') (h1 : 12 ∉ A) (h2 : 13 ∉ A) (h3 : 303 ∉ A) (h4 : 304 ∉ A) (h5 : 305 ∉ A) : MH M' := by
  obtain ⟨a, b, ⟨S, s1, s2⟩, ⟨W, w1, w2⟩, ⟨D, d1, d2⟩⟩ := h
  exact ⟨ho.at h1 a, ho.at h2 b, ⟨S, ho.at h3 s1, s2⟩, ⟨W, ho.at h4 w1, w2⟩, ⟨D, ho.at h5 d1, d2⟩⟩
theorem dgF_all {S D : List Int32} (h : D.length = 32) : dgF S D 0 32 = dg S := by
  rw [dgF_eq 32 0 D (by omega), List.take_zero, List.nil_append, List.drop_of_length_le (by omega), List.append_nil]
  rfl
theorem MsgIs.off {M M' : kf_M} {A : List Nat} {fs : List Value} {bs : List Int32} (h : MsgIs M fs bs) (ho : Off A M M') (h1 : 284 ∉ A) (h2 : 302 ∉ A) : MsgIs M' fs bs := by
  obtain ⟨a, b, xs, x1, x2, x3⟩ := h
  exact ⟨a.off ho h1, b, xs, ho.at h2 x1, x2, x3⟩
theorem c128 {M : kf_M} {fs : List Value} {bs : List Int32} (h : MsgIs M fs bs) (hH : MH M) (hb : bs.length ≤ 440) : ∃ M' fs', kf_cl 128 [.ref 284] M = some (none, M') ∧ MsgIs M' fs' [] ∧ MH M' ∧ M'[305]? = some (oI (sha bs)) ∧ (∀ k, k ≠ 30 → fs'[k]? = fs[k]?) ∧ Off [284, 302, 303, 304, 305] M M' := by
  have g := gO_of h.1.1
  have h30 := h.2.1
  have rc := h.1.rc
  have e8 : (8 : Int32) * nI bs.length = nI (8 * bs.length) := pk_mul 8 bs.length
  obtain ⟨M1, k1, r1, o1⟩ := c122 (v := 128) h (by omega)
  rw [show (128 : Int32) &&& 255 = 128 from by decide] at r1
  have lp : pzn (bs ++ [(128 : Int32)]).length ≤ 64 := by unfold pzn; omega
  have ep := mpad_eq 64 (bs ++ [(128 : Int32)]) lp
  have lb : (bs ++ [(128 : Int32)]).length = bs.length + 1 := by simp
  have l2 : (mpad (bs ++ [(128 : Int32)]) 64).length = bs.length + 1 + pzn (bs.length + 1) := by rw [ep, List.length_append, List.length_replicate, lb]
  have pz1 : (bs.length + 1 + pzn (bs.length + 1)) % 64 = 56 := by unfold pzn; omega
  have pz2 : bs.length + 1 + pzn (bs.length + 1) ≤ 504 := by unfold pzn; omega
  obtain ⟨M2, fs2, k2, r2, f2, o2⟩ := c128a (bt := nI (8 * bs.length)) 64 M1 _ _ r1 (by rw [lb]; omega) (by rw [l2]; exact pz1)
  obtain ⟨M3, fs3, k3, r3, f3, o3⟩ := c124 (x := 0) r2 (by rw [l2]; omega)
  obtain ⟨M4, fs4, k4, r4, f4, o4⟩ := c124 (x := nI (8 * bs.length)) r3 (by rw [List.length_append, l2]; simp; omega)
  have eX : mpad (bs ++ [(128 : Int32)]) 64 ++ [sh32 0 24 &&& 255, sh32 0 16 &&& 255, sh32 0 8 &&& 255, sh32 0 0 &&& 255] ++ [sh32 (nI (8 * bs.length)) 24 &&& 255, sh32 (nI (8 * bs.length)) 16 &&& 255, sh32 (nI (8 * bs.length)) 8 &&& 255, sh32 (nI (8 * bs.length)) 0 &&& 255] = padd1 bs := by
    rw [ep, lb]
    unfold padd1 lnb
    rw [show sh32 0 24 &&& 255 = 0 from by decide, show sh32 0 16 &&& 255 = 0 from by decide, show sh32 0 8 &&& 255 = 0 from by decide, show sh32 0 0 &&& 255 = 0 from by decide]
    simp only [List.append_assoc, List.cons_append, List.nil_append]
  rw [eX] at r4
  have oo : Off [284, 302] M M4 := o1.tr (o2.tr (o3.tr o4))
  have hH4 := hH.off oo (by decide) (by decide) (by decide) (by decide) (by decide)
  obtain ⟨a12, a13, ⟨S, gS, lS⟩, ⟨W, gW, lW⟩, ⟨D, gD, lD⟩⟩ := hH4
  obtain ⟨x1, x2, x3, x4, x5, x6, x7, x8, rfl⟩ := len8 lS
  have k5 := c128b (bt := nI (8 * bs.length)) r4.1 gS a12
  obtain ⟨hM4, h304, X, gX, lX, tX⟩ := r4
  rw [padd1_len] at h304 tX
  have hM5 : MdIs (M4.set 303 (oI sx_12)) fs4 := ⟨by rw [m_ne (by decide)]; exact hM4.1, hM4.2⟩
  obtain ⟨M6, k6, gS6, gW6, lS6, lW6, o6⟩ := c128c (bt := nI (8 * bs.length)) (X := X) h304 lX (by omega) ((bs.length + 72) / 64) 0 (M4.set 303 (oI sx_12)) sx_12 W (by omega) hM5 (by rw [m_ne (by decide)]; exact gX) (m_self (m_lt gS)) (by rw [m_ne (by decide)]; exact gW) (by rw [m_ne (by decide)]; exact a13) (by decide) lW
  have hM6 := hM5.off o6 (by decide)
  have gD6 : M6[305]? = some (oI D) := o6.at (by decide) (by rw [m_ne (by decide)]; exact gD)
  have k7 := c128d (bt := nI (8 * bs.length)) lS6 32 0 M6 D rfl hM6 gS6 gD6 lD
  rw [dgF_all lD] at k7
  have eS : (mblk X (sx_12, W) 0 ((bs.length + 72) / 64)).1 = bfo (padd1 bs) sx_0 0 ((bs.length + 72) / 64) := by
    rw [mblk_bfo _ _ _ _ lW, sx_12_eq]
    refine bfo_congr _ _ _ _ ?_
    intro j hj
    rw [← tX, List.getD_eq_getElem?_getD, List.getD_eq_getElem?_getD, List.getElem?_take_of_lt (by omega)]
  rw [eS] at k7
  have hM7 : MdIs (M6.set 305 (oI (sha bs))) fs4 := ⟨by rw [m_ne (by decide)]; exact hM6.1, hM6.2⟩
  have gX7 : (M6.set 305 (oI (sha bs)))[302]? = some (oI X) := by
    rw [m_ne (by decide)]
    exact o6.at (by decide) (by rw [m_ne (by decide)]; exact gX)
  obtain ⟨M8, k8, r8, o8⟩ := c121 hM7 gX7 lX
  have rc7 := hM7.rc
  have w8 : Off [284, 302, 303, 304, 305] M M8 := (oo.wk (by decide)).tr ((Off.set (a := 303) (by decide)).tr ((o6.wk (by decide)).tr ((Off.set (a := 305) (by decide)).tr (o8.wk (by decide)))))
  rw [nI_0] at k6 k7
  refine ⟨M8, _, ?_, r8, ⟨w8.at (by decide) hH.1, w8.at (by decide) hH.2.1, ⟨_, o8.at (by decide) (by rw [m_ne (by decide)]; exact gS6), lS6⟩, ⟨_, o8.at (by decide) (by rw [m_ne (by decide)]; exact gW6), lW6⟩, ⟨sha bs, o8.at (by decide) (m_self (m_lt gD6)), sha_len⟩⟩, o8.at (by decide) (m_self (m_lt gD6)), ?_, w8⟩
  · have q7 : kf_ev 128 93 [some (.ref 284), some (.int (nI (8 * bs.length))), some (.int 0)] [] M6 = kf_ev 128 133 [some (.ref 284), some (.int (nI (8 * bs.length))), some (.int 32)] [] (M6.set 305 (oI (sha bs))) := k7
    have rc1 := r1.1.rc
    have rc2 := r2.1.rc
    have rc3 := r3.1.rc
    simp only [cl_128, e128_0, e128_2, e128_3, e128_6, e128_7, e128_8, e128_9, e128_12, e128_16, e128_19, e128_21, e128_22, e128_24, e128_27, e128_28, e128_29, e128_32, e128_35, e128_36, e128_37, e128_40, e128_41, e128_42, e128_45, e128_46, e128_48, e128_50, e128_53, e128_54, e128_57, e128_58, e128_61, e128_62, e128_63, e128_64, e128_67, e128_70, e128_71, e128_73, e128_74, e128_77, e128_80, e128_81, e128_82, e128_85, e128_88, e128_91, e128_92, e128_94, e128_96, e128_99, e128_100, e128_103, e128_104, e128_105, e128_108, e128_109, e128_110, e128_111, e128_112, e128_114, e128_116, e128_117, e128_118, e128_119, e128_120, e128_121, e128_122, e128_125, e128_126, e128_127, e128_130, e128_133, e128_134, e128_137, ow_128, Int32.reduceOfInt, Int32.reduceOfNat, Int32.reduceToNatClampNeg, Int32.reduceLT, Int32.reduceLE, Int32.reduceAdd, Int32.reduceSub, Int32.reduceMul, Int64.reduceOfNat, Int64.reduceOfInt, Nat.reduceLeDiff, Nat.reduceLT, Nat.reduceEqDiff, Nat.reduceSub, cs_0, cs_1, cs_2, cs_3, cs_4, cs_5, cs_6, cs_7, cs_8, or_false, false_or, not_false_eq_true, and_true, true_and, if_true, if_false, List.length_cons, List.length_nil, List.getElem?_cons_succ, List.getElem?_cons_zero, List.set_cons_succ, List.set_cons_zero, reduceIte, d_G, d_R, s_aload, s_aload_n, s_iload, s_iload_n, s_lload, s_lload_n, s_istore, s_istore_n, s_astore, s_astoreN, s_astore_n, s_astore_nN, s_lstore, s_lstore_n, s_iinc, s_iconst, s_bipush, s_sipush, s_lconst, s_ldc2_w, s_aconst_null, s_dupA, s_dupI, s_dup2, s_iadd, s_isub, s_imul, s_iand, s_ior, s_ixor, s_ishl, s_ishr, s_iushr, s_ineg, s_idiv, s_irem, s_ladd, s_lsub, s_lmul, s_land, s_lor, s_lxor, s_ldiv, s_lshl, s_lshr, s_lushr, s_i2l, s_l2i, s_lcmp, s_goto, s_ieq, s_ine, s_ilt, s_ige, s_igt, s_ile, s_zeq, s_zne, s_zlt, s_zge, s_zgt, s_zle, s_ifnull, s_ifnullN, s_ifnonnull, s_ifnonnullN, s_tableswitch, s_lookupswitch, s_getfield, s_putfield, s_getstatic, s_iaload, s_laload, s_baload, s_aaload, s_iastore, s_lastore, s_bastore, s_aastore, s_arraylength, s_newI, s_newJ, s_newZ, s_anewarray, s_new, s_copy, s_max, s_min, s_invokestatic, s_objinit, s_invokespecial, kf_isr_r, s_invokevirtual, s_ireturn, s_lreturn, s_areturn, s_areturnN, s_return, lI_0, lI_s, lJ_0, lJ_s, lA_0, lA_0N, lA_s, lS1_0, lS1_1, lS1_2, lS2_0, lS2_1, lS2_2, lK_n, lK_i, lK_j, lK_a, lK_N, d_C', kf_w_0, kf_w_i, kf_w_a, kf_w_n, kf_w_j, c_0, c_1, c_2, c_3, c_4, c_5, c_6, tl_0, tl_1, Option.bind_some, Option.bind_none, Option.map_some, Nat.reduceAdd, Nat.reduceMul, Nat.reduceDiv, Nat.reduceMod, Int.reduceToNat, Fin.val_zero, Fin.isValue, Fin.val_one, Fin.val_two, fv_0, fv_1, fv_2, fv_3, fw_0, fw_1, d_ite, true_or, or_true, and_false, false_and, or_self, and_self, ow_122, ow_124, ow_121, g, h30, rc, rc2, rc3, rc7, e8, k1, k2, k3, k4, k5, k6, q7, k8]
  · intro k hk
    rw [List.getElem?_set_ne (Ne.symm hk), f4 k hk, f3 k hk, f2 k hk, List.getElem?_set_ne (Ne.symm hk)]
def MX (M : kf_M) : Prop := ∃ X, M[302]? = some (oI X) ∧ X.length = 512
theorem MsgIs.mx {M : kf_M} {fs : List Value} {bs : List Int32} (h : MsgIs M fs bs) : MX M := by
  obtain ⟨-, -, X, x1, x2, -⟩ := h
  exact ⟨X, x1, x2⟩
theorem full32 {D is : List Int32} (hD : D.length = 32) (hi : is.length = 32) : is.take 0 ++ D.take 32 ++ is.drop (0 + 32) = D := by
  rw [List.take_zero, List.nil_append, List.take_of_length_le (by omega), List.drop_of_length_le (l := is) (by omega), List.append_nil]
theorem c129 {M : kf_M} {fs : List Value} {bs ys : List Int32} {n b at1 : Nat} (h : MsgIs M fs bs) (hH : MH M) (hb : bs.length ≤ 440) (gb : M[b]? = some (oI ys)) (hb1 : b ∉ [284, 302, 303, 304, 305]) (hbN : 19 ≤ b) (hn : n ≤ 32) (hy : at1 + n ≤ ys.length) (hy2 : ys.length < 2 ^ 20) : ∃ M' fs', kf_cl 129 [.ref 284, .int (nI n), .ref b, .int (nI at1)] M = some (none, M') ∧ MsgIs M' fs' [] ∧ MH M' ∧ M'[b]? = some (oI (ys.take at1 ++ (sha bs).take n ++ ys.drop (at1 + n))) ∧ (∀ k, k ≠ 30 → fs'[k]? = fs[k]?) ∧ Off [284, 302, 303, 304, 305, b] M M' := by
  obtain ⟨M1, fs1, k1, r1, hH1, g1, f1, o1⟩ := c128 h hH hb
  have rc := h.1.rc
  have g := gO_of r1.1.1
  have r33 := r1.1.rf 33 305 (by decide)
  have gb1 := o1.at hb1 gb
  have hb5 : 305 ≠ b := fun q => hb1 (by rw [← q]; decide)
  have kc := c130 (p := 305) (q := b) (a := 0) (b := at1) (n := n) g1 gb1 hb5 hbN (by rw [sha_len]; omega) hy (by rw [sha_len]; omega) hy2
  rw [nI_0] at kc
  have os : Off [b] M1 (M1.set b (oI (kf_cp (sha bs) ys 0 at1 n))) := Off.set (by simp)
  have nb : ∀ x, x ∈ [284, 302, 303, 304, 305] → x ∉ [b] := fun x hx q => hb1 (by rw [List.mem_singleton.mp q] at hx; exact hx)
  refine ⟨_, fs1, by simp only [cl_129, e129_0, e129_1, e129_4, e129_5, e129_8, e129_9, e129_10, e129_11, e129_12, e129_15, ow_129, Int32.reduceOfInt, Int32.reduceOfNat, Int32.reduceToNatClampNeg, Int32.reduceLT, Int32.reduceLE, Int32.reduceAdd, Int32.reduceSub, Int32.reduceMul, Int64.reduceOfNat, Int64.reduceOfInt, Nat.reduceLeDiff, Nat.reduceLT, Nat.reduceEqDiff, Nat.reduceSub, cs_0, cs_1, cs_2, cs_3, cs_4, cs_5, cs_6, cs_7, cs_8, or_false, false_or, not_false_eq_true, and_true, true_and, if_true, if_false, List.length_cons, List.length_nil, List.getElem?_cons_succ, List.getElem?_cons_zero, List.set_cons_succ, List.set_cons_zero, reduceIte, d_G, d_R, s_aload, s_aload_n, s_iload, s_iload_n, s_lload, s_lload_n, s_istore, s_istore_n, s_astore, s_astoreN, s_astore_n, s_astore_nN, s_lstore, s_lstore_n, s_iinc, s_iconst, s_bipush, s_sipush, s_lconst, s_ldc2_w, s_aconst_null, s_dupA, s_dupI, s_dup2, s_iadd, s_isub, s_imul, s_iand, s_ior, s_ixor, s_ishl, s_ishr, s_iushr, s_ineg, s_idiv, s_irem, s_ladd, s_lsub, s_lmul, s_land, s_lor, s_lxor, s_ldiv, s_lshl, s_lshr, s_lushr, s_i2l, s_l2i, s_lcmp, s_goto, s_ieq, s_ine, s_ilt, s_ige, s_igt, s_ile, s_zeq, s_zne, s_zlt, s_zge, s_zgt, s_zle, s_ifnull, s_ifnullN, s_ifnonnull, s_ifnonnullN, s_tableswitch, s_lookupswitch, s_getfield, s_putfield, s_getstatic, s_iaload, s_laload, s_baload, s_aaload, s_iastore, s_lastore, s_bastore, s_aastore, s_arraylength, s_newI, s_newJ, s_newZ, s_anewarray, s_new, s_copy, s_max, s_min, s_invokestatic, s_objinit, s_invokespecial, kf_isr_r, s_invokevirtual, s_ireturn, s_lreturn, s_areturn, s_areturnN, s_return, lI_0, lI_s, lJ_0, lJ_s, lA_0, lA_0N, lA_s, lS1_0, lS1_1, lS1_2, lS2_0, lS2_1, lS2_2, lK_n, lK_i, lK_j, lK_a, lK_N, d_C', kf_w_0, kf_w_i, kf_w_a, kf_w_n, kf_w_j, c_0, c_1, c_2, c_3, c_4, c_5, c_6, tl_0, tl_1, Option.bind_some, Option.bind_none, Option.map_some, Nat.reduceAdd, Nat.reduceMul, Nat.reduceDiv, Nat.reduceMod, Int.reduceToNat, Fin.val_zero, Fin.isValue, Fin.val_one, Fin.val_two, fv_0, fv_1, fv_2, fv_3, fw_0, fw_1, d_ite, true_or, or_true, and_false, false_and, or_self, and_self, ow_128, rc, k1, g, r33, kc], r1.off os (nb _ (by decide)) (nb _ (by decide)), ?_, ?_, f1, (o1.wk (by simp)).tr (os.wk (by simp))⟩
  · by_cases q12 : b = 12
    · omega
    · by_cases q13 : b = 13
      · omega
      · exact hH1.off os (by simp; omega) (by simp; omega) (nb _ (by decide)) (nb _ (by decide)) (nb _ (by decide))
  · rw [m_self (m_lt gb1)]
    unfold kf_cp
    rw [List.drop_zero]
/-- the key's bytes, widened, against one byte -/
def pdk (ks : List Int32) (y : Int32) (i m : Nat) : List Int32 := (List.range' i m).map (fun k => ((if k < 32 then ks.getD k 0 else 0) ^^^ y) &&& 255)
theorem c132l {b : Nat} {ks : List Int32} {y : Int32} (hk : ks.length = 32) (hb : b ∉ [284, 302]) : ∀ (m i : Nat) (M : kf_M) (fs : List Value) (bs : List Int32), i + m = 64 → MsgIs M fs bs → bs.length + m ≤ 512 → M[b]? = some (oI ks) → ∃ M' fs', kf_ev 132 2 [some (.ref 284), some (.ref b), some (.int y), some (.int (nI i))] [] M = some (none, M') ∧ MsgIs M' fs' (bs ++ pdk ks y i m) ∧ (∀ k, k ≠ 30 → fs'[k]? = fs[k]?) ∧ Off [284, 302] M M' := by
  intro m
  induction m with
  | zero =>
    intro i M fs bs hi hM hl gb
    have hi : i = 64 := by omega
    subst hi
    have e : (64 : Int32) ≤ nI 64 := by decide
    refine ⟨M, fs, (e132_2 _ _ _).trans (by simp only [cl_132, e132_0, e132_1, e132_3, e132_5, e132_8, e132_9, e132_10, e132_12, e132_15, e132_16, e132_17, e132_18, e132_21, e132_22, e132_23, e132_24, e132_27, e132_30, e132_33, ow_132, Int32.reduceOfInt, Int32.reduceOfNat, Int32.reduceToNatClampNeg, Int32.reduceLT, Int32.reduceLE, Int32.reduceAdd, Int32.reduceSub, Int32.reduceMul, Int64.reduceOfNat, Int64.reduceOfInt, Nat.reduceLeDiff, Nat.reduceLT, Nat.reduceEqDiff, Nat.reduceSub, cs_0, cs_1, cs_2, cs_3, cs_4, cs_5, cs_6, cs_7, cs_8, or_false, false_or, not_false_eq_true, and_true, true_and, if_true, if_false, List.length_cons, List.length_nil, List.getElem?_cons_succ, List.getElem?_cons_zero, List.set_cons_succ, List.set_cons_zero, reduceIte, d_G, d_R, s_aload, s_aload_n, s_iload, s_iload_n, s_lload, s_lload_n, s_istore, s_istore_n, s_astore, s_astoreN, s_astore_n, s_astore_nN, s_lstore, s_lstore_n, s_iinc, s_iconst, s_bipush, s_sipush, s_lconst, s_ldc2_w, s_aconst_null, s_dupA, s_dupI, s_dup2, s_iadd, s_isub, s_imul, s_iand, s_ior, s_ixor, s_ishl, s_ishr, s_iushr, s_ineg, s_idiv, s_irem, s_ladd, s_lsub, s_lmul, s_land, s_lor, s_lxor, s_ldiv, s_lshl, s_lshr, s_lushr, s_i2l, s_l2i, s_lcmp, s_goto, s_ieq, s_ine, s_ilt, s_ige, s_igt, s_ile, s_zeq, s_zne, s_zlt, s_zge, s_zgt, s_zle, s_ifnull, s_ifnullN, s_ifnonnull, s_ifnonnullN, s_tableswitch, s_lookupswitch, s_getfield, s_putfield, s_getstatic, s_iaload, s_laload, s_baload, s_aaload, s_iastore, s_lastore, s_bastore, s_aastore, s_arraylength, s_newI, s_newJ, s_newZ, s_anewarray, s_new, s_copy, s_max, s_min, s_invokestatic, s_objinit, s_invokespecial, kf_isr_r, s_invokevirtual, s_ireturn, s_lreturn, s_areturn, s_areturnN, s_return, lI_0, lI_s, lJ_0, lJ_s, lA_0, lA_0N, lA_s, lS1_0, lS1_1, lS1_2, lS2_0, lS2_1, lS2_2, lK_n, lK_i, lK_j, lK_a, lK_N, d_C', kf_w_0, kf_w_i, kf_w_a, kf_w_n, kf_w_j, c_0, c_1, c_2, c_3, c_4, c_5, c_6, tl_0, tl_1, Option.bind_some, Option.bind_none, Option.map_some, Nat.reduceAdd, Nat.reduceMul, Nat.reduceDiv, Nat.reduceMod, Int.reduceToNat, Fin.val_zero, Fin.isValue, Fin.val_one, Fin.val_two, fv_0, fv_1, fv_2, fv_3, fw_0, fw_1, d_ite, true_or, or_true, and_false, false_and, or_self, and_self, e]), by simpa [pdk] using hM, fun _ _ => rfl, Off.rf⟩
  | succ m ih =>
    intro i M fs bs hi hM hl gb
    have e : ¬ (64 : Int32) ≤ nI i := nI_ge (a := i) (b := 64) (by omega) (by omega)
    have p0 : ¬ nI i < 0 := nI_pos (by omega)
    have p1 : (nI i).toNatClampNeg = i := nI_clamp (by omega)
    have g2 := gI_of gb
    have rc := hM.1.rc
    have ep : pdk ks y i (m + 1) = [((if i < 32 then ks.getD i 0 else 0) ^^^ y) &&& 255] ++ pdk ks y (i + 1) m := by
      unfold pdk
      rw [List.range'_succ]
      rfl
    rw [ep, ← List.append_assoc]
    by_cases h32 : i < 32
    · have e2 : ¬ (32 : Int32) ≤ nI i := nI_ge (a := i) (b := 32) (by omega) (by omega)
      have x1 := getD_of (xs := ks) (i := i) (by omega)
      obtain ⟨M1, k1, r1, o1⟩ := c122 (v := ks.getD i 0 ^^^ y) hM (by omega)
      obtain ⟨M2, fs', k2, r2, f2, o2⟩ := ih (i + 1) M1 _ _ (by omega) r1 (by simp; omega) (o1.at hb gb)
      refine ⟨M2, fs', (e132_2 _ _ _).trans (by simp only [cl_132, e132_0, e132_1, e132_3, e132_5, e132_8, e132_9, e132_10, e132_12, e132_15, e132_16, e132_17, e132_18, e132_21, e132_22, e132_23, e132_24, e132_27, e132_30, e132_33, ow_132, Int32.reduceOfInt, Int32.reduceOfNat, Int32.reduceToNatClampNeg, Int32.reduceLT, Int32.reduceLE, Int32.reduceAdd, Int32.reduceSub, Int32.reduceMul, Int64.reduceOfNat, Int64.reduceOfInt, Nat.reduceLeDiff, Nat.reduceLT, Nat.reduceEqDiff, Nat.reduceSub, cs_0, cs_1, cs_2, cs_3, cs_4, cs_5, cs_6, cs_7, cs_8, or_false, false_or, not_false_eq_true, and_true, true_and, if_true, if_false, List.length_cons, List.length_nil, List.getElem?_cons_succ, List.getElem?_cons_zero, List.set_cons_succ, List.set_cons_zero, reduceIte, d_G, d_R, s_aload, s_aload_n, s_iload, s_iload_n, s_lload, s_lload_n, s_istore, s_istore_n, s_astore, s_astoreN, s_astore_n, s_astore_nN, s_lstore, s_lstore_n, s_iinc, s_iconst, s_bipush, s_sipush, s_lconst, s_ldc2_w, s_aconst_null, s_dupA, s_dupI, s_dup2, s_iadd, s_isub, s_imul, s_iand, s_ior, s_ixor, s_ishl, s_ishr, s_iushr, s_ineg, s_idiv, s_irem, s_ladd, s_lsub, s_lmul, s_land, s_lor, s_lxor, s_ldiv, s_lshl, s_lshr, s_lushr, s_i2l, s_l2i, s_lcmp, s_goto, s_ieq, s_ine, s_ilt, s_ige, s_igt, s_ile, s_zeq, s_zne, s_zlt, s_zge, s_zgt, s_zle, s_ifnull, s_ifnullN, s_ifnonnull, s_ifnonnullN, s_tableswitch, s_lookupswitch, s_getfield, s_putfield, s_getstatic, s_iaload, s_laload, s_baload, s_aaload, s_iastore, s_lastore, s_bastore, s_aastore, s_arraylength, s_newI, s_newJ, s_newZ, s_anewarray, s_new, s_copy, s_max, s_min, s_invokestatic, s_objinit, s_invokespecial, kf_isr_r, s_invokevirtual, s_ireturn, s_lreturn, s_areturn, s_areturnN, s_return, lI_0, lI_s, lJ_0, lJ_s, lA_0, lA_0N, lA_s, lS1_0, lS1_1, lS1_2, lS2_0, lS2_1, lS2_2, lK_n, lK_i, lK_j, lK_a, lK_N, d_C', kf_w_0, kf_w_i, kf_w_a, kf_w_n, kf_w_j, c_0, c_1, c_2, c_3, c_4, c_5, c_6, tl_0, tl_1, Option.bind_some, Option.bind_none, Option.map_some, Nat.reduceAdd, Nat.reduceMul, Nat.reduceDiv, Nat.reduceMod, Int.reduceToNat, Fin.val_zero, Fin.isValue, Fin.val_one, Fin.val_two, fv_0, fv_1, fv_2, fv_3, fw_0, fw_1, d_ite, true_or, or_true, and_false, false_and, or_self, and_self, ow_122, e, e2, p0, p1, x1, g2, nI_1, rc, k1, k2]), ?_, fun k hk => by rw [f2 k hk, List.getElem?_set_ne (Ne.symm hk)], o1.tr o2⟩
      rw [if_pos h32]
      exact r2
    · have e2 : (32 : Int32) ≤ nI i := nI_le (a := 32) (b := i) (by omega) (by omega)
      obtain ⟨M1, k1, r1, o1⟩ := c122 (v := 0 ^^^ y) hM (by omega)
      obtain ⟨M2, fs', k2, r2, f2, o2⟩ := ih (i + 1) M1 _ _ (by omega) r1 (by simp; omega) (o1.at hb gb)
      refine ⟨M2, fs', (e132_2 _ _ _).trans (by simp only [cl_132, e132_0, e132_1, e132_3, e132_5, e132_8, e132_9, e132_10, e132_12, e132_15, e132_16, e132_17, e132_18, e132_21, e132_22, e132_23, e132_24, e132_27, e132_30, e132_33, ow_132, Int32.reduceOfInt, Int32.reduceOfNat, Int32.reduceToNatClampNeg, Int32.reduceLT, Int32.reduceLE, Int32.reduceAdd, Int32.reduceSub, Int32.reduceMul, Int64.reduceOfNat, Int64.reduceOfInt, Nat.reduceLeDiff, Nat.reduceLT, Nat.reduceEqDiff, Nat.reduceSub, cs_0, cs_1, cs_2, cs_3, cs_4, cs_5, cs_6, cs_7, cs_8, or_false, false_or, not_false_eq_true, and_true, true_and, if_true, if_false, List.length_cons, List.length_nil, List.getElem?_cons_succ, List.getElem?_cons_zero, List.set_cons_succ, List.set_cons_zero, reduceIte, d_G, d_R, s_aload, s_aload_n, s_iload, s_iload_n, s_lload, s_lload_n, s_istore, s_istore_n, s_astore, s_astoreN, s_astore_n, s_astore_nN, s_lstore, s_lstore_n, s_iinc, s_iconst, s_bipush, s_sipush, s_lconst, s_ldc2_w, s_aconst_null, s_dupA, s_dupI, s_dup2, s_iadd, s_isub, s_imul, s_iand, s_ior, s_ixor, s_ishl, s_ishr, s_iushr, s_ineg, s_idiv, s_irem, s_ladd, s_lsub, s_lmul, s_land, s_lor, s_lxor, s_ldiv, s_lshl, s_lshr, s_lushr, s_i2l, s_l2i, s_lcmp, s_goto, s_ieq, s_ine, s_ilt, s_ige, s_igt, s_ile, s_zeq, s_zne, s_zlt, s_zge, s_zgt, s_zle, s_ifnull, s_ifnullN, s_ifnonnull, s_ifnonnullN, s_tableswitch, s_lookupswitch, s_getfield, s_putfield, s_getstatic, s_iaload, s_laload, s_baload, s_aaload, s_iastore, s_lastore, s_bastore, s_aastore, s_arraylength, s_newI, s_newJ, s_newZ, s_anewarray, s_new, s_copy, s_max, s_min, s_invokestatic, s_objinit, s_invokespecial, kf_isr_r, s_invokevirtual, s_ireturn, s_lreturn, s_areturn, s_areturnN, s_return, lI_0, lI_s, lJ_0, lJ_s, lA_0, lA_0N, lA_s, lS1_0, lS1_1, lS1_2, lS2_0, lS2_1, lS2_2, lK_n, lK_i, lK_j, lK_a, lK_N, d_C', kf_w_0, kf_w_i, kf_w_a, kf_w_n, kf_w_j, c_0, c_1, c_2, c_3, c_4, c_5, c_6, tl_0, tl_1, Option.bind_some, Option.bind_none, Option.map_some, Nat.reduceAdd, Nat.reduceMul, Nat.reduceDiv, Nat.reduceMod, Int.reduceToNat, Fin.val_zero, Fin.isValue, Fin.val_one, Fin.val_two, fv_0, fv_1, fv_2, fv_3, fw_0, fw_1, d_ite, true_or, or_true, and_false, false_and, or_self, and_self, ow_122, e, e2, nI_1, rc, k1, k2]), ?_, fun k hk => by rw [f2 k hk, List.getElem?_set_ne (Ne.symm hk)], o1.tr o2⟩
      rw [if_neg h32]
      exact r2
theorem pdk_len {ks : List Int32} {y : Int32} {i m : Nat} : (pdk ks y i m).length = m := by simp [pdk]
theorem c132 {M : kf_M} {fs : List Value} {b : Nat} {ks bs : List Int32} {y : Int32} (h : MsgIs M fs bs) (gb : M[b]? = some (oI ks)) (hk : ks.length = 32) (hb : b ∉ [284, 302]) (hl : bs.length + 64 ≤ 512) : ∃ M' fs', kf_cl 132 [.ref 284, .ref b, .int y] M = some (none, M') ∧ MsgIs M' fs' (bs ++ pdk ks y 0 64) ∧ (∀ k, k ≠ 30 → fs'[k]? = fs[k]?) ∧ Off [284, 302] M M' := by
  obtain ⟨M', fs', k1, r1, f1, o1⟩ := c132l (y := y) hk hb 64 0 M fs bs (by omega) h hl gb
  rw [nI_0] at k1
  exact ⟨M', fs', by simp only [cl_132, e132_0, e132_1, e132_3, e132_5, e132_8, e132_9, e132_10, e132_12, e132_15, e132_16, e132_17, e132_18, e132_21, e132_22, e132_23, e132_24, e132_27, e132_30, e132_33, ow_132, Int32.reduceOfInt, Int32.reduceOfNat, Int32.reduceToNatClampNeg, Int32.reduceLT, Int32.reduceLE, Int32.reduceAdd, Int32.reduceSub, Int32.reduceMul, Int64.reduceOfNat, Int64.reduceOfInt, Nat.reduceLeDiff, Nat.reduceLT, Nat.reduceEqDiff, Nat.reduceSub, cs_0, cs_1, cs_2, cs_3, cs_4, cs_5, cs_6, cs_7, cs_8, or_false, false_or, not_false_eq_true, and_true, true_and, if_true, if_false, List.length_cons, List.length_nil, List.getElem?_cons_succ, List.getElem?_cons_zero, List.set_cons_succ, List.set_cons_zero, reduceIte, d_G, d_R, s_aload, s_aload_n, s_iload, s_iload_n, s_lload, s_lload_n, s_istore, s_istore_n, s_astore, s_astoreN, s_astore_n, s_astore_nN, s_lstore, s_lstore_n, s_iinc, s_iconst, s_bipush, s_sipush, s_lconst, s_ldc2_w, s_aconst_null, s_dupA, s_dupI, s_dup2, s_iadd, s_isub, s_imul, s_iand, s_ior, s_ixor, s_ishl, s_ishr, s_iushr, s_ineg, s_idiv, s_irem, s_ladd, s_lsub, s_lmul, s_land, s_lor, s_lxor, s_ldiv, s_lshl, s_lshr, s_lushr, s_i2l, s_l2i, s_lcmp, s_goto, s_ieq, s_ine, s_ilt, s_ige, s_igt, s_ile, s_zeq, s_zne, s_zlt, s_zge, s_zgt, s_zle, s_ifnull, s_ifnullN, s_ifnonnull, s_ifnonnullN, s_tableswitch, s_lookupswitch, s_getfield, s_putfield, s_getstatic, s_iaload, s_laload, s_baload, s_aaload, s_iastore, s_lastore, s_bastore, s_aastore, s_arraylength, s_newI, s_newJ, s_newZ, s_anewarray, s_new, s_copy, s_max, s_min, s_invokestatic, s_objinit, s_invokespecial, kf_isr_r, s_invokevirtual, s_ireturn, s_lreturn, s_areturn, s_areturnN, s_return, lI_0, lI_s, lJ_0, lJ_s, lA_0, lA_0N, lA_s, lS1_0, lS1_1, lS1_2, lS2_0, lS2_1, lS2_2, lK_n, lK_i, lK_j, lK_a, lK_N, d_C', kf_w_0, kf_w_i, kf_w_a, kf_w_n, kf_w_j, c_0, c_1, c_2, c_3, c_4, c_5, c_6, tl_0, tl_1, Option.bind_some, Option.bind_none, Option.map_some, Nat.reduceAdd, Nat.reduceMul, Nat.reduceDiv, Nat.reduceMod, Int.reduceToNat, Fin.val_zero, Fin.isValue, Fin.val_one, Fin.val_two, fv_0, fv_1, fv_2, fv_3, fw_0, fw_1, d_ite, true_or, or_true, and_false, false_and, or_self, and_self, k1], r1, f1, o1⟩
/-- bytes stay what they are -/
def byt (bs : List Int32) : List Int32 := bs.map (· &&& 255)
theorem byt_len {bs : List Int32} : (byt bs).length = bs.length := by simp [byt]
/-- HMAC with SHA-256 -/
def hmac (ks bs : List Int32) : List Int32 := sha (pdk ks 92 0 64 ++ byt (sha (pdk ks 54 0 64 ++ byt bs)))
theorem c133 {M : kf_M} {fs : List Value} {b c at1 n : Nat} {ks rs is : List Int32} (hM : MdIs M fs) (hX : MX M) (hH : MH M) (gb : M[b]? = some (oI ks)) (lk : ks.length = 32) (hb : b ∉ [284, 302, 303, 304, 305, 306]) (gc : M[c]? = some (oI rs)) (hc : c ∉ [284, 302, 303, 304, 305, 306]) (hr : at1 + n ≤ rs.length) (hr2 : rs.length < 2 ^ 20) (hn : n ≤ 300) (gi : M[306]? = some (oI is)) (li : is.length = 32) : ∃ M' fs', kf_cl 133 [.ref 284, .ref b, .ref c, .int (nI at1), .int (nI n)] M = some (none, M') ∧ MsgIs M' fs' [] ∧ MH M' ∧ M'[305]? = some (oI (hmac ks ((rs.drop at1).take n))) ∧ (∃ is', M'[306]? = some (oI is') ∧ is'.length = 32) ∧ (∀ k, k ≠ 30 → fs'[k]? = fs[k]?) ∧ Off [284, 302, 303, 304, 305, 306] M M' := by
  obtain ⟨X, x1, x2⟩ := hX
  have rc0 := hM.rc
  simp only [List.mem_cons, List.not_mem_nil, or_false, not_or] at hb hc
  obtain ⟨M1, k1, r1, o1⟩ := c121 hM x1 x2
  obtain ⟨M2, fs2, k2, r2, f2, o2⟩ := c132 (y := 54) r1 (o1.at (by simp [hb]) gb) lk (by simp [hb]) (by simp)
  obtain ⟨M3, fs3, k3, r3, f3, o3⟩ := c123 r2 (o2.at (by simp [hc]) (o1.at (by simp [hc]) gc)) hr hr2 (by simp [hc]) (by simp [pdk_len]; omega)
  rw [List.nil_append] at r3
  have oo := o1.tr (o2.tr o3)
  have gi3 := oo.at (by decide) gi
  have lm : (pdk ks 54 0 64 ++ List.map (fun x => x &&& 255) (List.take n (List.drop at1 rs))).length ≤ 440 := by simp [pdk_len]; omega
  obtain ⟨M4, fs4, k4, r4, hH4, g4, f4, o4⟩ := c129 (n := 32) (at1 := 0) r3 (hH.off oo (by decide) (by decide) (by decide) (by decide) (by decide)) lm gi3 (by decide) (by decide) (by omega) (by omega) (by omega)
  have eg : is.take 0 ++ (sha (pdk ks 54 0 64 ++ List.map (fun x => x &&& 255) (List.take n (List.drop at1 rs)))).take 32 ++ is.drop (0 + 32) = sha (pdk ks 54 0 64 ++ byt ((rs.drop at1).take n)) := by
    rw [full32 sha_len li]
    rfl
  rw [eg] at g4
  have o04 : Off [284, 302, 303, 304, 305, 306] M M4 := (oo.wk (by decide)).tr o4
  obtain ⟨M5, fs5, k5, r5, f5, o5⟩ := c132 (y := 92) r4 (o04.at (by simp [hb]) gb) lk (by simp [hb]) (by simp)
  obtain ⟨M6, fs6, k6, r6, f6, o6⟩ := c123 (f := 0) (n := 32) r5 (o5.at (by decide) g4) (by rw [sha_len]; omega) (by rw [sha_len]; omega) (by decide) (by simp [pdk_len])
  rw [List.nil_append, List.drop_zero, List.take_of_length_le (by rw [sha_len]; omega)] at r6
  have o56 := o5.tr o6
  obtain ⟨M7, fs7, k7, r7, hH7, g7, f7, o7⟩ := c128 r6 (hH4.off o56 (by decide) (by decide) (by decide) (by decide) (by decide)) (by simp [pdk_len, sha_len])
  have g34 := gO_of r3.1.1
  have r34 := r3.1.rf 34 306 (by decide)
  have g5 := gO_of r5.1.1
  have r345 := r5.1.rf 34 306 (by decide)
  rw [nI_0, show nI 32 = 32 from rfl] at k4 k6
  refine ⟨M7, fs7, ?_, r7, hH7, g7, ⟨_, o7.at (by decide) (o56.at (by decide) g4), sha_len⟩, ?_, o04.tr ((o56.wk (by decide)).tr (o7.wk (by decide)))⟩
  · have c1 := r1.1.rc
    have c2 := r2.1.rc
    have c3 := r3.1.rc
    have c4 := r4.1.rc
    have c5 := r5.1.rc
    have c6 := r6.1.rc
    simp only [cl_133, e133_0, e133_1, e133_4, e133_5, e133_6, e133_8, e133_11, e133_12, e133_13, e133_14, e133_16, e133_19, e133_20, e133_22, e133_23, e133_26, e133_27, e133_30, e133_31, e133_32, e133_34, e133_37, e133_38, e133_39, e133_42, e133_43, e133_45, e133_48, e133_49, e133_52, ow_133, Int32.reduceOfInt, Int32.reduceOfNat, Int32.reduceToNatClampNeg, Int32.reduceLT, Int32.reduceLE, Int32.reduceAdd, Int32.reduceSub, Int32.reduceMul, Int64.reduceOfNat, Int64.reduceOfInt, Nat.reduceLeDiff, Nat.reduceLT, Nat.reduceEqDiff, Nat.reduceSub, cs_0, cs_1, cs_2, cs_3, cs_4, cs_5, cs_6, cs_7, cs_8, or_false, false_or, not_false_eq_true, and_true, true_and, if_true, if_false, List.length_cons, List.length_nil, List.getElem?_cons_succ, List.getElem?_cons_zero, List.set_cons_succ, List.set_cons_zero, reduceIte, d_G, d_R, s_aload, s_aload_n, s_iload, s_iload_n, s_lload, s_lload_n, s_istore, s_istore_n, s_astore, s_astoreN, s_astore_n, s_astore_nN, s_lstore, s_lstore_n, s_iinc, s_iconst, s_bipush, s_sipush, s_lconst, s_ldc2_w, s_aconst_null, s_dupA, s_dupI, s_dup2, s_iadd, s_isub, s_imul, s_iand, s_ior, s_ixor, s_ishl, s_ishr, s_iushr, s_ineg, s_idiv, s_irem, s_ladd, s_lsub, s_lmul, s_land, s_lor, s_lxor, s_ldiv, s_lshl, s_lshr, s_lushr, s_i2l, s_l2i, s_lcmp, s_goto, s_ieq, s_ine, s_ilt, s_ige, s_igt, s_ile, s_zeq, s_zne, s_zlt, s_zge, s_zgt, s_zle, s_ifnull, s_ifnullN, s_ifnonnull, s_ifnonnullN, s_tableswitch, s_lookupswitch, s_getfield, s_putfield, s_getstatic, s_iaload, s_laload, s_baload, s_aaload, s_iastore, s_lastore, s_bastore, s_aastore, s_arraylength, s_newI, s_newJ, s_newZ, s_anewarray, s_new, s_copy, s_max, s_min, s_invokestatic, s_objinit, s_invokespecial, kf_isr_r, s_invokevirtual, s_ireturn, s_lreturn, s_areturn, s_areturnN, s_return, lI_0, lI_s, lJ_0, lJ_s, lA_0, lA_0N, lA_s, lS1_0, lS1_1, lS1_2, lS2_0, lS2_1, lS2_2, lK_n, lK_i, lK_j, lK_a, lK_N, d_C', kf_w_0, kf_w_i, kf_w_a, kf_w_n, kf_w_j, c_0, c_1, c_2, c_3, c_4, c_5, c_6, tl_0, tl_1, Option.bind_some, Option.bind_none, Option.map_some, Nat.reduceAdd, Nat.reduceMul, Nat.reduceDiv, Nat.reduceMod, Int.reduceToNat, Fin.val_zero, Fin.isValue, Fin.val_one, Fin.val_two, fv_0, fv_1, fv_2, fv_3, fw_0, fw_1, d_ite, true_or, or_true, and_false, false_and, or_self, and_self, ow_121, ow_132, ow_123, ow_129, ow_128, rc0, c1, c2, c3, c4, c5, c6, k1, k2, k3, k4, k5, k6, k7, g34, r34, g5, r345]
  · intro k hk
    rw [f7 k hk, f6 k hk, f5 k hk, f4 k hk, f3 k hk, f2 k hk, List.getElem?_set_ne (Ne.symm hk)]
/-- what a turn draws out of the master -/
def frs (ms : List Int32) (t : Int32) : List Int32 := sha (byt ms ++ [sh32 t 24 &&& 255, sh32 t 16 &&& 255, sh32 t 8 &&& 255, sh32 t 0 &&& 255])
theorem c134 {M : kf_M} {fs : List Value} {ms fr : List Int32} {t : Int32} (hM : MdIs M fs) (hX : MX M) (hH : MH M) (gm : M[287]? = some (oI ms)) (lm : ms.length = 32) (gf : M[307]? = some (oI fr)) (lf : fr.length = 32) (ht : fs[6]? = some (.int t)) : ∃ M' fs', kf_cl 134 [.ref 284] M = some (none, M') ∧ MsgIs M' fs' [] ∧ MH M' ∧ M'[307]? = some (oI (frs ms t)) ∧ fs'[6]? = some (.int (t + 1)) ∧ (∀ k, k ≠ 30 → k ≠ 6 → fs'[k]? = fs[k]?) ∧ Off [284, 302, 303, 304, 305, 307] M M' := by
  obtain ⟨X, x1, x2⟩ := hX
  have rc0 := hM.rc
  obtain ⟨M1, k1, r1, o1⟩ := c121 hM x1 x2
  obtain ⟨M2, fs2, k2, r2, f2, o2⟩ := c123 (f := 0) (n := 32) r1 (o1.at (by decide) gm) (by omega) (by omega) (by decide) (by simp)
  rw [List.nil_append, List.drop_zero, List.take_of_length_le (by omega)] at r2
  have t1 : (fs.set 30 (.int 0))[6]? = some (.int t) := by rw [List.getElem?_set_ne (by decide)]; exact ht
  have t2 : fs2[6]? = some (.int t) := by rw [f2 6 (by decide)]; exact t1
  obtain ⟨M3, fs3, k3, r3, f3, o3⟩ := c124 (x := t) r2 (by simp; omega)
  have oo := o1.tr (o2.tr o3)
  obtain ⟨M4, fs4, k4, r4, hH4, g4, f4, o4⟩ := c129 (n := 32) (at1 := 0) r3 (hH.off oo (by decide) (by decide) (by decide) (by decide) (by decide)) (by simp; omega) (oo.at (by decide) gf) (by decide) (by decide) (by omega) (by omega) (by omega)
  rw [List.take_zero, List.nil_append, List.take_of_length_le (by rw [sha_len]; omega), List.drop_of_length_le (by omega), List.append_nil] at g4
  have t4 : fs4[6]? = some (.int t) := by rw [f4 6 (by decide), f3 6 (by decide)]; exact t2
  have g1 := gO_of r1.1.1
  have g2 := gO_of r2.1.1
  have g3 := gO_of r3.1.1
  have gg4 := gO_of r4.1.1
  have r5 := r1.1.rf 5 287 (by decide)
  have r35 := r3.1.rf 35 307 (by decide)
  have l6 : 6 < fs4.length := by rw [r4.1.2.1]; decide
  rw [nI_0, show nI 32 = 32 from rfl] at k2 k4
  have c1 := r1.1.rc
  have c2 := r2.1.rc
  have c3 := r3.1.rc
  obtain ⟨hM4, h304, X4, x41, x42, x43⟩ := r4
  refine ⟨_, fs4.set 6 (.int (t + 1)), by (simp only [cl_134, e134_0, e134_1, e134_4, e134_5, e134_6, e134_9, e134_10, e134_12, e134_15, e134_16, e134_17, e134_20, e134_23, e134_24, e134_26, e134_27, e134_30, e134_31, e134_34, e134_35, e134_36, e134_39, e134_40, e134_41, e134_44, ow_134, Int32.reduceOfInt, Int32.reduceOfNat, Int32.reduceToNatClampNeg, Int32.reduceLT, Int32.reduceLE, Int32.reduceAdd, Int32.reduceSub, Int32.reduceMul, Int64.reduceOfNat, Int64.reduceOfInt, Nat.reduceLeDiff, Nat.reduceLT, Nat.reduceEqDiff, Nat.reduceSub, cs_0, cs_1, cs_2, cs_3, cs_4, cs_5, cs_6, cs_7, cs_8, or_false, false_or, not_false_eq_true, and_true, true_and, if_true, if_false, List.length_cons, List.length_nil, List.getElem?_cons_succ, List.getElem?_cons_zero, List.set_cons_succ, List.set_cons_zero, reduceIte, d_G, d_R, s_aload, s_aload_n, s_iload, s_iload_n, s_lload, s_lload_n, s_istore, s_istore_n, s_astore, s_astoreN, s_astore_n, s_astore_nN, s_lstore, s_lstore_n, s_iinc, s_iconst, s_bipush, s_sipush, s_lconst, s_ldc2_w, s_aconst_null, s_dupA, s_dupI, s_dup2, s_iadd, s_isub, s_imul, s_iand, s_ior, s_ixor, s_ishl, s_ishr, s_iushr, s_ineg, s_idiv, s_irem, s_ladd, s_lsub, s_lmul, s_land, s_lor, s_lxor, s_ldiv, s_lshl, s_lshr, s_lushr, s_i2l, s_l2i, s_lcmp, s_goto, s_ieq, s_ine, s_ilt, s_ige, s_igt, s_ile, s_zeq, s_zne, s_zlt, s_zge, s_zgt, s_zle, s_ifnull, s_ifnullN, s_ifnonnull, s_ifnonnullN, s_tableswitch, s_lookupswitch, s_getfield, s_putfield, s_getstatic, s_iaload, s_laload, s_baload, s_aaload, s_iastore, s_lastore, s_bastore, s_aastore, s_arraylength, s_newI, s_newJ, s_newZ, s_anewarray, s_new, s_copy, s_max, s_min, s_invokestatic, s_objinit, s_invokespecial, kf_isr_r, s_invokevirtual, s_ireturn, s_lreturn, s_areturn, s_areturnN, s_return, lI_0, lI_s, lJ_0, lJ_s, lA_0, lA_0N, lA_s, lS1_0, lS1_1, lS1_2, lS2_0, lS2_1, lS2_2, lK_n, lK_i, lK_j, lK_a, lK_N, d_C', kf_w_0, kf_w_i, kf_w_a, kf_w_n, kf_w_j, c_0, c_1, c_2, c_3, c_4, c_5, c_6, tl_0, tl_1, Option.bind_some, Option.bind_none, Option.map_some, Nat.reduceAdd, Nat.reduceMul, Nat.reduceDiv, Nat.reduceMod, Int.reduceToNat, Fin.val_zero, Fin.isValue, Fin.val_one, Fin.val_two, fv_0, fv_1, fv_2, fv_3, fw_0, fw_1, d_ite, true_or, or_true, and_false, false_and, or_self, and_self, ow_121, ow_123, ow_124, ow_129, rc0, c1, c2, c3, k1, k2, k3, k4, g1, g2, g3, gg4, r5, r35, t2, t4, l6, kf_fit] <;> rfl), ⟨hM4.set (by decide), by rw [List.getElem?_set_ne (by decide)]; exact h304, X4, by rw [m_ne (by decide)]; exact x41, x42, x43⟩, hH4.off (A := [284]) (Off.set (by simp)) (by decide) (by decide) (by decide) (by decide) (by decide), by rw [m_ne (by decide)]; exact g4, by rw [List.getElem?_set_self l6], ?_, (oo.wk (by decide)).tr (o4.tr (Off.set (by simp)))⟩
  intro k hk h6
  rw [List.getElem?_set_ne (Ne.symm h6), f4 k hk, f3 k hk, f2 k hk, List.getElem?_set_ne (Ne.symm hk)]
theorem c135 {M : kf_M} {fs : List Value} {ms fr tk : List Int32} {t : Int32} (hM : MdIs M fs) (hX : MX M) (hH : MH M) (gm : M[287]? = some (oI ms)) (lm : ms.length = 32) (gf : M[307]? = some (oI fr)) (lf : fr.length = 32) (gt : M[288]? = some (oI tk)) (lt : tk.length = 32) (ht : fs[6]? = some (.int t)) : ∃ M' fs', kf_cl 135 [.ref 284] M = some (none, M') ∧ MsgIs M' fs' [] ∧ MH M' ∧ M'[307]? = some (oI (frs ms t)) ∧ M'[288]? = some (oI (frs ms t)) ∧ fs'[6]? = some (.int (t + 1)) ∧ (∀ k, k ≠ 30 → k ≠ 6 → fs'[k]? = fs[k]?) ∧ Off [284, 302, 303, 304, 305, 307, 288] M M' := by
  obtain ⟨M1, fs1, k1, r1, hH1, g1, t1, f1, o1⟩ := c134 hM hX hH gm lm gf lf ht
  have l1 : (frs ms t).length = 32 := sha_len
  have gt1 := o1.at (by decide) gt
  have kc := c130 (p := 307) (q := 288) (a := 0) (b := 0) (n := 32) g1 gt1 (by decide) (by decide) (by omega) (by omega) (by omega) (by omega)
  have ec : kf_cp (frs ms t) tk 0 0 32 = frs ms t := by
    unfold kf_cp
    rw [List.take_zero, List.nil_append, List.drop_zero, List.take_of_length_le (by omega), List.drop_of_length_le (by omega), List.append_nil]
  rw [ec, nI_0, show nI 32 = 32 from rfl] at kc
  have gg := gO_of r1.1.1
  have r35 := r1.1.rf 35 307 (by decide)
  have r7 := r1.1.rf 7 288 (by decide)
  have rc0 := hM.rc
  have os : Off [288] M1 (M1.set 288 (oI (frs ms t))) := Off.set (by simp)
  exact ⟨_, fs1, by simp only [cl_135, e135_0, e135_1, e135_4, e135_5, e135_8, e135_9, e135_10, e135_13, e135_14, e135_16, e135_19, ow_135, Int32.reduceOfInt, Int32.reduceOfNat, Int32.reduceToNatClampNeg, Int32.reduceLT, Int32.reduceLE, Int32.reduceAdd, Int32.reduceSub, Int32.reduceMul, Int64.reduceOfNat, Int64.reduceOfInt, Nat.reduceLeDiff, Nat.reduceLT, Nat.reduceEqDiff, Nat.reduceSub, cs_0, cs_1, cs_2, cs_3, cs_4, cs_5, cs_6, cs_7, cs_8, or_false, false_or, not_false_eq_true, and_true, true_and, if_true, if_false, List.length_cons, List.length_nil, List.getElem?_cons_succ, List.getElem?_cons_zero, List.set_cons_succ, List.set_cons_zero, reduceIte, d_G, d_R, s_aload, s_aload_n, s_iload, s_iload_n, s_lload, s_lload_n, s_istore, s_istore_n, s_astore, s_astoreN, s_astore_n, s_astore_nN, s_lstore, s_lstore_n, s_iinc, s_iconst, s_bipush, s_sipush, s_lconst, s_ldc2_w, s_aconst_null, s_dupA, s_dupI, s_dup2, s_iadd, s_isub, s_imul, s_iand, s_ior, s_ixor, s_ishl, s_ishr, s_iushr, s_ineg, s_idiv, s_irem, s_ladd, s_lsub, s_lmul, s_land, s_lor, s_lxor, s_ldiv, s_lshl, s_lshr, s_lushr, s_i2l, s_l2i, s_lcmp, s_goto, s_ieq, s_ine, s_ilt, s_ige, s_igt, s_ile, s_zeq, s_zne, s_zlt, s_zge, s_zgt, s_zle, s_ifnull, s_ifnullN, s_ifnonnull, s_ifnonnullN, s_tableswitch, s_lookupswitch, s_getfield, s_putfield, s_getstatic, s_iaload, s_laload, s_baload, s_aaload, s_iastore, s_lastore, s_bastore, s_aastore, s_arraylength, s_newI, s_newJ, s_newZ, s_anewarray, s_new, s_copy, s_max, s_min, s_invokestatic, s_objinit, s_invokespecial, kf_isr_r, s_invokevirtual, s_ireturn, s_lreturn, s_areturn, s_areturnN, s_return, lI_0, lI_s, lJ_0, lJ_s, lA_0, lA_0N, lA_s, lS1_0, lS1_1, lS1_2, lS2_0, lS2_1, lS2_2, lK_n, lK_i, lK_j, lK_a, lK_N, d_C', kf_w_0, kf_w_i, kf_w_a, kf_w_n, kf_w_j, c_0, c_1, c_2, c_3, c_4, c_5, c_6, tl_0, tl_1, Option.bind_some, Option.bind_none, Option.map_some, Nat.reduceAdd, Nat.reduceMul, Nat.reduceDiv, Nat.reduceMod, Int.reduceToNat, Fin.val_zero, Fin.isValue, Fin.val_one, Fin.val_two, fv_0, fv_1, fv_2, fv_3, fw_0, fw_1, d_ite, true_or, or_true, and_false, false_and, or_self, and_self, ow_134, rc0, k1, gg, r35, r7, kc], r1.off os (by decide) (by decide), hH1.off os (by decide) (by decide) (by decide) (by decide) (by decide), os.at (by decide) g1, m_self (m_lt gt1), t1, f1, (o1.wk (by decide)).tr (os.wk (by decide))⟩
