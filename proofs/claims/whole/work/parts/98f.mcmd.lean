/-! The reference: findHouse, isOfHouse, hasId, isProof, keyOf -/
section MCMD
variable {M : kf_M} {fs : List Value} {tp ou : List Int32} {tl ol n w : Nat} {V : Vs} {tc fl g : Int32} {ks : List Ky} {wt : List Nat} {wd : List Int32} {W : Ws} {G : Gs} {cs kk fr sz : List Int32} {p : Nat} {m : PM}
theorem MT.fo {M' : kf_M} {fs' : List Value} {S A : List Nat} (h : MT M fs cs kk fr sz p) (n1 : MdIs M' fs') (hf : Fo S fs fs') (hS : ∀ k ∈ S, k ∉ [64, 65]) (o : Off A M M') (hA : ∀ a ∈ A, a ∉ [285, 332, 333, 334]) : MT M' fs' cs kk fr sz p := by
  obtain ⟨h1, h2, h3, h4, h5, h6, ⟨t, h7, h8⟩, h9, h10⟩ := h
  exact ⟨n1, (hf 64 (fun q => hS _ q (by decide))).trans h2, (hf 65 (fun q => hS _ q (by decide))).trans h3, h4.off o (fun q => hA _ q (by decide)), h5.off o (fun q => hA _ q (by decide)), h6.off o (fun q => hA _ q (by decide)), ⟨t, h7.off o (fun q => hA _ q (by decide)), h8⟩, h9, h10⟩
/-- what stands at a name: kind, place, size -/
theorem mTR {nm : Nat} {v : PV} (h : MT M fs cs kk fr sz p) (hR : MR kk fr sz m) (hn : nm < 24) (hm : m.getD nm none = some v) : kk[nm]? = some (nI v.1) ∧ sz[nm]? = some (nI v.2.2.1) ∧ ((v.1 = 2 ∨ v.1 = 3 ∨ v.1 = 4) → fr[nm]? = some (nI v.2.1)) := by
  have hr := hR.2 nm hn
  rw [hm] at hr
  obtain ⟨a1, a2, a3⟩ := hr
  have l1 := h.2.2.2.1.2
  have l2 := h.2.2.2.2.1.2
  have l3 := h.2.2.2.2.2.1.2
  refine ⟨?_, ?_, fun q => ?_⟩
  · rw [getD_of (by omega), a1]
  · rw [getD_of (by omega), a2]
  · rw [getD_of (by omega), a3 q]
def A181 : List Nat := [284, 302, 303, 304, 305, 339]
theorem R181 {nm : Nat} {v : PV} (hT : MT M fs cs kk fr sz p) (hR : MR kk fr sz m) (ho : okM cs m) (bcs : isB cs) (m3 : MAr M tp ou V ks wt wd G) (hn : nm < 24) (hm : m.getD nm none = some v) (hk : v.1 = 2 ∨ v.1 = 3) : ∃ M' fs', kf_cl 181 [.ref 284, .int (nI nm)] M = some (none, M') ∧ MdIs M' fs' ∧ MAr M' tp ou V ks wt wd G ∧ ArI M' 339 32 (sha (rowOf cs m nm)) ∧ Fo [30] fs fs' ∧ Off A181 M M' := by
  obtain ⟨y1, y2, y3⟩ := mTR hT hR hn hm
  have y3 := y3 (by omega)
  have hv := (ho.2 nm v (mG_some hm)).2.2.1 hk
  obtain ⟨t1, t2, t3, t4, t5, t6, ⟨t, t7, t8⟩, t9, t10⟩ := hT
  obtain ⟨a1, a2, a3, a4, a5, a6, a7, a8, a9, a10, a11, a12, a13, a14, a15, a16, a17, a18, a19, a20, a21, a22⟩ := m3
  obtain ⟨X, hX, lX⟩ := a11
  obtain ⟨z, hz⟩ := a20
  have rc := t1.rc
  obtain ⟨M1, k1, s1, o1⟩ := c121 t1 hX lX
  have g1 := gO_of s1.1.1
  have rc1 := s1.1.rc
  have r1 := s1.1.rf 1 285 (by decide)
  have r62 := s1.1.rf 62 333 (by decide)
  have r63 := s1.1.rf 63 334 (by decide)
  have gf := gI_of (t5.off o1 (by decide)).1
  have gz := gI_of (t6.off o1 (by decide)).1
  have p0 : ¬ nI nm < 0 := nI_pos (by omega)
  have p1 : (nI nm).toNatClampNeg = nm := nI_clamp (by omega)
  obtain ⟨M2, fs2, k2, s2, q2, o2⟩ := c123 (b := 285) (f := v.2.1) (n := v.2.2.1) s1 (t7.off o1 (by decide)).1 (by rw [t7.2]; omega) (by rw [t7.2]; decide) (by decide) (by show 0 + _ ≤ _; omega)
  rw [List.nil_append, seg_eq t8 hv, ← rowOf_eq hm] at s2
  have eb : (rowOf cs m nm).map (· &&& 255) = rowOf cs m nm := byt_id (rowOf_b bcs)
  rw [eb] at s2
  have o12 := o1.tr o2
  have lr : (rowOf cs m nm).length ≤ 400 := by rw [rowOf_eq hm, List.length_take]; omega
  have H2 := a10.of5 o12 (by decide)
  obtain ⟨M3, fs3, k3, s3, H3, g3, q3, o3⟩ := c129 (n := 32) (b := 339) (at1 := 0) s2 H2 (by omega) (hz.off o12 (by decide)).1 (by decide) (by decide) (by decide) (by rw [hz.2]; decide) (by rw [hz.2]; decide)
  have g2 := gO_of s2.1.1
  have rc2 := s2.1.rc
  have r71 := s2.1.rf 71 339 (by decide)
  rw [nI_0, show nI 32 = 32 from rfl] at k3
  rw [List.take_zero, List.nil_append, List.take_of_length_le (by rw [sha_len]; decide), List.drop_of_length_le (by rw [hz.2]; decide), List.append_nil] at g3
  have oo : Off A181 M M3 := (o12.wk (by decide)).tr (o3.wk (by decide))
  have hh : ArI M3 339 32 (sha (rowOf cs m nm)) := ⟨g3, sha_len⟩
  refine ⟨M3, fs3, ?_, s3.1, ⟨a1.off oo (by decide), a2.off oo (by decide), a3.off oo (by decide), a4.off oo (by decide), a5.off oo (by decide), a6.off oo (by decide), a7.off oo (by decide), a8.off oo (by decide), a9.off oo (by decide), H3, s3.mx, a12.off' oo (by decide), a13.off oo (by decide), a14.off oo (by decide), a15.off oo (by decide), a16.off oo (by decide), a17.off oo (by decide), a18.off oo (by decide), a19.off oo (by decide), ⟨_, hh⟩, a21.off oo (by decide), a22.off oo (by decide)⟩, hh, fun k hk => ?_, oo⟩
  · simp only [cl_181, e181_0, e181_1, e181_4, e181_5, e181_6, e181_9, e181_10, e181_13, e181_14, e181_15, e181_16, e181_19, e181_20, e181_21, e181_24, e181_25, e181_27, e181_28, e181_31, e181_32, e181_35, ow_181, Int32.reduceOfInt, Int32.reduceOfNat, Int32.reduceToNatClampNeg, Int32.reduceLT, Int32.reduceLE, Int32.reduceAdd, Int32.reduceSub, Int32.reduceMul, Int64.reduceOfNat, Int64.reduceOfInt, Nat.reduceLeDiff, Nat.reduceLT, Nat.reduceEqDiff, Nat.reduceSub, cs_0, cs_1, cs_2, cs_3, cs_4, cs_5, cs_6, cs_7, cs_8, or_false, false_or, not_false_eq_true, and_true, true_and, if_true, if_false, List.length_cons, List.length_nil, List.getElem?_cons_succ, List.getElem?_cons_zero, List.set_cons_succ, List.set_cons_zero, reduceIte, d_G, d_R, s_aload, s_aload_n, s_iload, s_iload_n, s_lload, s_lload_n, s_istore, s_istore_n, s_astore, s_astoreN, s_astore_n, s_astore_nN, s_lstore, s_lstore_n, s_iinc, s_iconst, s_bipush, s_sipush, s_lconst, s_ldc2_w, s_aconst_null, s_dupA, s_dupI, s_dup2, s_iadd, s_isub, s_imul, s_iand, s_ior, s_ixor, s_ishl, s_ishr, s_iushr, s_ineg, s_idiv, s_irem, s_ladd, s_lsub, s_lmul, s_land, s_lor, s_lxor, s_ldiv, s_lshl, s_lshr, s_lushr, s_i2l, s_l2i, s_lcmp, s_goto, s_ieq, s_ine, s_ilt, s_ige, s_igt, s_ile, s_zeq, s_zne, s_zlt, s_zge, s_zgt, s_zle, s_ifnull, s_ifnullN, s_ifnonnull, s_ifnonnullN, s_tableswitch, s_lookupswitch, s_getfield, s_putfield, s_getstatic, s_iaload, s_laload, s_baload, s_aaload, s_iastore, s_lastore, s_bastore, s_aastore, s_arraylength, s_newI, s_newJ, s_newZ, s_anewarray, s_new, s_copy, s_max, s_min, s_invokestatic, s_objinit, s_invokespecial, kf_isr_r, s_invokevirtual, s_ireturn, s_lreturn, s_areturn, s_areturnN, s_return, lI_0, lI_s, lJ_0, lJ_s, lA_0, lA_0N, lA_s, lS1_0, lS1_1, lS1_2, lS2_0, lS2_1, lS2_2, lK_n, lK_i, lK_j, lK_a, lK_N, d_C', kf_w_0, kf_w_i, kf_w_a, kf_w_n, kf_w_j, c_0, c_1, c_2, c_3, c_4, c_5, c_6, tl_0, tl_1, Option.bind_some, Option.bind_none, Option.map_some, Nat.reduceAdd, Nat.reduceMul, Nat.reduceDiv, Nat.reduceMod, Int.reduceToNat, Fin.val_zero, Fin.isValue, Fin.val_one, Fin.val_two, fv_0, fv_1, fv_2, fv_3, fw_0, fw_1, d_ite, true_or, or_true, and_false, false_and, or_self, and_self, ow_121, ow_123, ow_129, rc, k1, g1, r1, r62, r63, gf, gz, p0, p1, y2, y3, rc1, k2, g2, r71, rc2, k3]
  · have hk : k ≠ 30 := by simpa using hk
    rw [q3 k hk, q2 k hk, List.getElem?_set_ne (Ne.symm hk)]
theorem R182 {j : Nat} {k : Ky} (m1 : MdIs M fs) (m6 : MK M ks) (hh : ArI M 339 32 wd) (hk : ks[j]? = some k) : kf_cl 182 [.ref 284, .int (nI j)] M = some (some (.int (if k.1 = wd then 1 else 0)), M) := by
  obtain ⟨ho, ul, us, se, ide, ct, po, h7, hr, hl⟩ := m6
  obtain ⟨ok, r1, -⟩ := hr j k hk
  have hj : j < ks.length := (List.getElem?_eq_some_iff.mp hk).1
  have g := gO_of m1.1
  have f14 := m1.rf 14 290 (by decide)
  have f71 := m1.rf 71 339 (by decide)
  have e32 : (32 : Int32) * nI j = nI (32 * j) := pk_mul 32 j
  have k1 := c131 (a := 32 * j) (b := 0) (n := 32) h7.1.1 hh.1 (by rw [h7.1.2]; omega) (by rw [hh.2]; decide) (by rw [h7.1.2]; decide) (by rw [hh.2]; decide)
  rw [r1, List.drop_zero, List.take_of_length_le (by rw [hh.2]; decide), nI_0, show nI 32 = 32 from rfl] at k1
  by_cases c : k.1 = wd
  · rw [if_pos c] at k1 ⊢
    simp only [cl_182, e182_0, e182_1, e182_4, e182_6, e182_7, e182_8, e182_9, e182_12, e182_13, e182_15, e182_18, ow_182, Int32.reduceOfInt, Int32.reduceOfNat, Int32.reduceToNatClampNeg, Int32.reduceLT, Int32.reduceLE, Int32.reduceAdd, Int32.reduceSub, Int32.reduceMul, Int64.reduceOfNat, Int64.reduceOfInt, Nat.reduceLeDiff, Nat.reduceLT, Nat.reduceEqDiff, Nat.reduceSub, cs_0, cs_1, cs_2, cs_3, cs_4, cs_5, cs_6, cs_7, cs_8, or_false, false_or, not_false_eq_true, and_true, true_and, if_true, if_false, List.length_cons, List.length_nil, List.getElem?_cons_succ, List.getElem?_cons_zero, List.set_cons_succ, List.set_cons_zero, reduceIte, d_G, d_R, s_aload, s_aload_n, s_iload, s_iload_n, s_lload, s_lload_n, s_istore, s_istore_n, s_astore, s_astoreN, s_astore_n, s_astore_nN, s_lstore, s_lstore_n, s_iinc, s_iconst, s_bipush, s_sipush, s_lconst, s_ldc2_w, s_aconst_null, s_dupA, s_dupI, s_dup2, s_iadd, s_isub, s_imul, s_iand, s_ior, s_ixor, s_ishl, s_ishr, s_iushr, s_ineg, s_idiv, s_irem, s_ladd, s_lsub, s_lmul, s_land, s_lor, s_lxor, s_ldiv, s_lshl, s_lshr, s_lushr, s_i2l, s_l2i, s_lcmp, s_goto, s_ieq, s_ine, s_ilt, s_ige, s_igt, s_ile, s_zeq, s_zne, s_zlt, s_zge, s_zgt, s_zle, s_ifnull, s_ifnullN, s_ifnonnull, s_ifnonnullN, s_tableswitch, s_lookupswitch, s_getfield, s_putfield, s_getstatic, s_iaload, s_laload, s_baload, s_aaload, s_iastore, s_lastore, s_bastore, s_aastore, s_arraylength, s_newI, s_newJ, s_newZ, s_anewarray, s_new, s_copy, s_max, s_min, s_invokestatic, s_objinit, s_invokespecial, kf_isr_r, s_invokevirtual, s_ireturn, s_lreturn, s_areturn, s_areturnN, s_return, lI_0, lI_s, lJ_0, lJ_s, lA_0, lA_0N, lA_s, lS1_0, lS1_1, lS1_2, lS2_0, lS2_1, lS2_2, lK_n, lK_i, lK_j, lK_a, lK_N, d_C', kf_w_0, kf_w_i, kf_w_a, kf_w_n, kf_w_j, c_0, c_1, c_2, c_3, c_4, c_5, c_6, tl_0, tl_1, Option.bind_some, Option.bind_none, Option.map_some, Nat.reduceAdd, Nat.reduceMul, Nat.reduceDiv, Nat.reduceMod, Int.reduceToNat, Fin.val_zero, Fin.isValue, Fin.val_one, Fin.val_two, fv_0, fv_1, fv_2, fv_3, fw_0, fw_1, d_ite, true_or, or_true, and_false, false_and, or_self, and_self, g, f14, f71, e32, k1]
  · rw [if_neg c] at k1 ⊢
    simp only [cl_182, e182_0, e182_1, e182_4, e182_6, e182_7, e182_8, e182_9, e182_12, e182_13, e182_15, e182_18, ow_182, Int32.reduceOfInt, Int32.reduceOfNat, Int32.reduceToNatClampNeg, Int32.reduceLT, Int32.reduceLE, Int32.reduceAdd, Int32.reduceSub, Int32.reduceMul, Int64.reduceOfNat, Int64.reduceOfInt, Nat.reduceLeDiff, Nat.reduceLT, Nat.reduceEqDiff, Nat.reduceSub, cs_0, cs_1, cs_2, cs_3, cs_4, cs_5, cs_6, cs_7, cs_8, or_false, false_or, not_false_eq_true, and_true, true_and, if_true, if_false, List.length_cons, List.length_nil, List.getElem?_cons_succ, List.getElem?_cons_zero, List.set_cons_succ, List.set_cons_zero, reduceIte, d_G, d_R, s_aload, s_aload_n, s_iload, s_iload_n, s_lload, s_lload_n, s_istore, s_istore_n, s_astore, s_astoreN, s_astore_n, s_astore_nN, s_lstore, s_lstore_n, s_iinc, s_iconst, s_bipush, s_sipush, s_lconst, s_ldc2_w, s_aconst_null, s_dupA, s_dupI, s_dup2, s_iadd, s_isub, s_imul, s_iand, s_ior, s_ixor, s_ishl, s_ishr, s_iushr, s_ineg, s_idiv, s_irem, s_ladd, s_lsub, s_lmul, s_land, s_lor, s_lxor, s_ldiv, s_lshl, s_lshr, s_lushr, s_i2l, s_l2i, s_lcmp, s_goto, s_ieq, s_ine, s_ilt, s_ige, s_igt, s_ile, s_zeq, s_zne, s_zlt, s_zge, s_zgt, s_zle, s_ifnull, s_ifnullN, s_ifnonnull, s_ifnonnullN, s_tableswitch, s_lookupswitch, s_getfield, s_putfield, s_getstatic, s_iaload, s_laload, s_baload, s_aaload, s_iastore, s_lastore, s_bastore, s_aastore, s_arraylength, s_newI, s_newJ, s_newZ, s_anewarray, s_new, s_copy, s_max, s_min, s_invokestatic, s_objinit, s_invokespecial, kf_isr_r, s_invokevirtual, s_ireturn, s_lreturn, s_areturn, s_areturnN, s_return, lI_0, lI_s, lJ_0, lJ_s, lA_0, lA_0N, lA_s, lS1_0, lS1_1, lS1_2, lS2_0, lS2_1, lS2_2, lK_n, lK_i, lK_j, lK_a, lK_N, d_C', kf_w_0, kf_w_i, kf_w_a, kf_w_n, kf_w_j, c_0, c_1, c_2, c_3, c_4, c_5, c_6, tl_0, tl_1, Option.bind_some, Option.bind_none, Option.map_some, Nat.reduceAdd, Nat.reduceMul, Nat.reduceDiv, Nat.reduceMod, Int.reduceToNat, Fin.val_zero, Fin.isValue, Fin.val_one, Fin.val_two, fv_0, fv_1, fv_2, fv_3, fw_0, fw_1, d_ite, true_or, or_true, and_false, false_and, or_self, and_self, g, f14, f71, e32, k1]
theorem l183 {nm j : Nat} {v : PV} {ide id : List Int32} (hb : isB cs) (hR : MR kk fr sz m) (ho : okM cs m) (hn : nm < 24) (hm : m.getD nm none = some v) (h4 : v.1 = 4) (h16 : ∀ e ∈ v.2.2.2, e.2 = 16) (hj : j < 10) (hid : (ide.drop (16 * j)).take 16 = id) (ln : v.2.2.2.length = v.2.2.1) : ∀ (q i : Nat) (M : kf_M) (fs : List Value) (p : Nat) (f : Bool) (u5 : Option Value), i + q = v.2.2.1 → MT M fs cs kk fr sz p → ArI M 294 160 ide → ∃ M' fs' p', kf_ev 183 5 [some (.ref 284), some (.int (nI nm)), some (.int (nI j)), some (.int (if f then 1 else 0)), some (.int (nI i)), u5] [] M = some (some (.int (if f || (v.2.2.2.drop i).any (fun e => decide ((cs.drop e.1).take 16 = id)) then 1 else 0)), M') ∧ MT M' fs' cs kk fr sz p' ∧ Fo [65, 70] fs fs' ∧ Off [284] M M' := by
  intro q
  have z1 : ¬ (1 : Int32) = 0 := by decide
  have hv4 := ho.2 nm v (mG_some hm)
  have hv1 := hv4.2.1
  have hv2 := hv4.2.2.2.1 h4
  obtain ⟨pq, hpq⟩ := hv2.2.2.2
  obtain ⟨-, -, hin⟩ := pit_ok _ _ _ _ hpq hv2.1
  induction q with
  | zero =>
    intro i M fs p f u5 hi hT hI
    obtain ⟨y1, y2, -⟩ := mTR hT hR hn hm
    have e : nI v.2.2.1 ≤ nI i := nI_le (by omega) (by omega)
    have g := gO_of hT.1.1
    have r63 := hT.1.rf 63 334 (by decide)
    have gz := gI_of hT.2.2.2.2.2.1.1
    have p0 : ¬ nI nm < 0 := nI_pos (by omega)
    have p1 : (nI nm).toNatClampNeg = nm := nI_clamp (by omega)
    rw [List.drop_of_length_le (by omega), List.any_nil, Bool.or_false]
    refine ⟨M, fs, p, (e183_5 _ _ _).trans ?_, hT, Fo.rf, Off.rf⟩
    cases f with
    | true => simp only [cl_183, e183_0, e183_1, e183_2, e183_3, e183_7, e183_8, e183_11, e183_12, e183_13, e183_16, e183_17, e183_18, e183_20, e183_23, e183_25, e183_26, e183_29, e183_30, e183_33, e183_34, e183_37, e183_38, e183_41, e183_43, e183_44, e183_45, e183_47, e183_50, e183_53, e183_54, e183_57, e183_58, e183_59, e183_62, e183_65, e183_66, ow_183, Int32.reduceOfInt, Int32.reduceOfNat, Int32.reduceToNatClampNeg, Int32.reduceLT, Int32.reduceLE, Int32.reduceAdd, Int32.reduceSub, Int32.reduceMul, Int64.reduceOfNat, Int64.reduceOfInt, Nat.reduceLeDiff, Nat.reduceLT, Nat.reduceEqDiff, Nat.reduceSub, cs_0, cs_1, cs_2, cs_3, cs_4, cs_5, cs_6, cs_7, cs_8, or_false, false_or, not_false_eq_true, and_true, true_and, if_true, if_false, List.length_cons, List.length_nil, List.getElem?_cons_succ, List.getElem?_cons_zero, List.set_cons_succ, List.set_cons_zero, reduceIte, d_G, d_R, s_aload, s_aload_n, s_iload, s_iload_n, s_lload, s_lload_n, s_istore, s_istore_n, s_astore, s_astoreN, s_astore_n, s_astore_nN, s_lstore, s_lstore_n, s_iinc, s_iconst, s_bipush, s_sipush, s_lconst, s_ldc2_w, s_aconst_null, s_dupA, s_dupI, s_dup2, s_iadd, s_isub, s_imul, s_iand, s_ior, s_ixor, s_ishl, s_ishr, s_iushr, s_ineg, s_idiv, s_irem, s_ladd, s_lsub, s_lmul, s_land, s_lor, s_lxor, s_ldiv, s_lshl, s_lshr, s_lushr, s_i2l, s_l2i, s_lcmp, s_goto, s_ieq, s_ine, s_ilt, s_ige, s_igt, s_ile, s_zeq, s_zne, s_zlt, s_zge, s_zgt, s_zle, s_ifnull, s_ifnullN, s_ifnonnull, s_ifnonnullN, s_tableswitch, s_lookupswitch, s_getfield, s_putfield, s_getstatic, s_iaload, s_laload, s_baload, s_aaload, s_iastore, s_lastore, s_bastore, s_aastore, s_arraylength, s_newI, s_newJ, s_newZ, s_anewarray, s_new, s_copy, s_max, s_min, s_invokestatic, s_objinit, s_invokespecial, kf_isr_r, s_invokevirtual, s_ireturn, s_lreturn, s_areturn, s_areturnN, s_return, lI_0, lI_s, lJ_0, lJ_s, lA_0, lA_0N, lA_s, lS1_0, lS1_1, lS1_2, lS2_0, lS2_1, lS2_2, lK_n, lK_i, lK_j, lK_a, lK_N, d_C', kf_w_0, kf_w_i, kf_w_a, kf_w_n, kf_w_j, c_0, c_1, c_2, c_3, c_4, c_5, c_6, tl_0, tl_1, Option.bind_some, Option.bind_none, Option.map_some, Nat.reduceAdd, Nat.reduceMul, Nat.reduceDiv, Nat.reduceMod, Int.reduceToNat, Fin.val_zero, Fin.isValue, Fin.val_one, Fin.val_two, fv_0, fv_1, fv_2, fv_3, fw_0, fw_1, d_ite, true_or, or_true, and_false, false_and, or_self, and_self, g, r63, gz, p0, p1, y2, e, if_true]
    | false => simp only [cl_183, e183_0, e183_1, e183_2, e183_3, e183_7, e183_8, e183_11, e183_12, e183_13, e183_16, e183_17, e183_18, e183_20, e183_23, e183_25, e183_26, e183_29, e183_30, e183_33, e183_34, e183_37, e183_38, e183_41, e183_43, e183_44, e183_45, e183_47, e183_50, e183_53, e183_54, e183_57, e183_58, e183_59, e183_62, e183_65, e183_66, ow_183, Int32.reduceOfInt, Int32.reduceOfNat, Int32.reduceToNatClampNeg, Int32.reduceLT, Int32.reduceLE, Int32.reduceAdd, Int32.reduceSub, Int32.reduceMul, Int64.reduceOfNat, Int64.reduceOfInt, Nat.reduceLeDiff, Nat.reduceLT, Nat.reduceEqDiff, Nat.reduceSub, cs_0, cs_1, cs_2, cs_3, cs_4, cs_5, cs_6, cs_7, cs_8, or_false, false_or, not_false_eq_true, and_true, true_and, if_true, if_false, List.length_cons, List.length_nil, List.getElem?_cons_succ, List.getElem?_cons_zero, List.set_cons_succ, List.set_cons_zero, reduceIte, d_G, d_R, s_aload, s_aload_n, s_iload, s_iload_n, s_lload, s_lload_n, s_istore, s_istore_n, s_astore, s_astoreN, s_astore_n, s_astore_nN, s_lstore, s_lstore_n, s_iinc, s_iconst, s_bipush, s_sipush, s_lconst, s_ldc2_w, s_aconst_null, s_dupA, s_dupI, s_dup2, s_iadd, s_isub, s_imul, s_iand, s_ior, s_ixor, s_ishl, s_ishr, s_iushr, s_ineg, s_idiv, s_irem, s_ladd, s_lsub, s_lmul, s_land, s_lor, s_lxor, s_ldiv, s_lshl, s_lshr, s_lushr, s_i2l, s_l2i, s_lcmp, s_goto, s_ieq, s_ine, s_ilt, s_ige, s_igt, s_ile, s_zeq, s_zne, s_zlt, s_zge, s_zgt, s_zle, s_ifnull, s_ifnullN, s_ifnonnull, s_ifnonnullN, s_tableswitch, s_lookupswitch, s_getfield, s_putfield, s_getstatic, s_iaload, s_laload, s_baload, s_aaload, s_iastore, s_lastore, s_bastore, s_aastore, s_arraylength, s_newI, s_newJ, s_newZ, s_anewarray, s_new, s_copy, s_max, s_min, s_invokestatic, s_objinit, s_invokespecial, kf_isr_r, s_invokevirtual, s_ireturn, s_lreturn, s_areturn, s_areturnN, s_return, lI_0, lI_s, lJ_0, lJ_s, lA_0, lA_0N, lA_s, lS1_0, lS1_1, lS1_2, lS2_0, lS2_1, lS2_2, lK_n, lK_i, lK_j, lK_a, lK_N, d_C', kf_w_0, kf_w_i, kf_w_a, kf_w_n, kf_w_j, c_0, c_1, c_2, c_3, c_4, c_5, c_6, tl_0, tl_1, Option.bind_some, Option.bind_none, Option.map_some, Nat.reduceAdd, Nat.reduceMul, Nat.reduceDiv, Nat.reduceMod, Int.reduceToNat, Fin.val_zero, Fin.isValue, Fin.val_one, Fin.val_two, fv_0, fv_1, fv_2, fv_3, fw_0, fw_1, d_ite, true_or, or_true, and_false, false_and, or_self, and_self, g, r63, gz, p0, p1, y2, e, Bool.false_eq_true, if_false]
  | succ q ih =>
    intro i M fs p f u5 hi hT hI
    obtain ⟨y1, y2, -⟩ := mTR hT hR hn hm
    have e : ¬ nI v.2.2.1 ≤ nI i := nI_ge (by omega) (by omega)
    have g := gO_of hT.1.1
    have r63 := hT.1.rf 63 334 (by decide)
    have gz := gI_of hT.2.2.2.2.2.1.1
    have p0 : ¬ nI nm < 0 := nI_pos (by omega)
    have p1 : (nI nm).toNatClampNeg = nm := nI_clamp (by omega)
    have hil : i < v.2.2.2.length := by omega
    have hx := List.getElem?_eq_getElem hil
    obtain ⟨M1, fs1, k1, T1, f70, q1, o1⟩ := r178 hb hT hR ho hn hm h4 hx
    have e16 : v.2.2.2[i].2 = 16 := h16 _ (List.getElem_mem _)
    have hz := hin _ (List.getElem_mem hil)
    have rc := hT.1.rc
    have g1 := gO_of T1.1.1
    have r1 := T1.1.rf 1 285 (by decide)
    have r18 := T1.1.rf 18 294 (by decide)
    have em : (16 : Int32) * nI j = nI (16 * j) := pk_mul 16 j
    obtain ⟨t, t7, t8⟩ := T1.2.2.2.2.2.2.1
    have I1 := hI.off o1 (by decide)
    have hcl := T1.2.2.2.2.2.2.2.1
    have kc := c131 (a := v.2.2.2[i].1) (b := 16 * j) (n := 16) t7.1 I1.1 (by rw [t7.2]; omega) (by rw [I1.2]; omega) (by rw [t7.2]; decide) (by rw [I1.2]; decide)
    rw [hid, seg_eq t8 (by omega), show nI 16 = 16 from rfl] at kc
    rw [List.drop_eq_getElem_cons hil, List.any_cons]
    obtain ⟨M', fs', p', k', t', q', o'⟩ := ih (i + 1) M1 fs1 _ (f || decide ((cs.drop v.2.2.2[i].1).take 16 = id)) (some (.int (nI v.2.2.2[i].2))) (by omega) T1 I1
    rw [Bool.or_assoc] at k'
    refine ⟨M', fs', p', (e183_5 _ _ _).trans (Eq.trans ?_ k'), t', q1.tr q', o1.tr o'⟩
    cases f with
    | true =>
      simp only [cl_183, e183_0, e183_1, e183_2, e183_3, e183_7, e183_8, e183_11, e183_12, e183_13, e183_16, e183_17, e183_18, e183_20, e183_23, e183_25, e183_26, e183_29, e183_30, e183_33, e183_34, e183_37, e183_38, e183_41, e183_43, e183_44, e183_45, e183_47, e183_50, e183_53, e183_54, e183_57, e183_58, e183_59, e183_62, e183_65, e183_66, ow_183, Int32.reduceOfInt, Int32.reduceOfNat, Int32.reduceToNatClampNeg, Int32.reduceLT, Int32.reduceLE, Int32.reduceAdd, Int32.reduceSub, Int32.reduceMul, Int64.reduceOfNat, Int64.reduceOfInt, Nat.reduceLeDiff, Nat.reduceLT, Nat.reduceEqDiff, Nat.reduceSub, cs_0, cs_1, cs_2, cs_3, cs_4, cs_5, cs_6, cs_7, cs_8, or_false, false_or, not_false_eq_true, and_true, true_and, if_true, if_false, List.length_cons, List.length_nil, List.getElem?_cons_succ, List.getElem?_cons_zero, List.set_cons_succ, List.set_cons_zero, reduceIte, d_G, d_R, s_aload, s_aload_n, s_iload, s_iload_n, s_lload, s_lload_n, s_istore, s_istore_n, s_astore, s_astoreN, s_astore_n, s_astore_nN, s_lstore, s_lstore_n, s_iinc, s_iconst, s_bipush, s_sipush, s_lconst, s_ldc2_w, s_aconst_null, s_dupA, s_dupI, s_dup2, s_iadd, s_isub, s_imul, s_iand, s_ior, s_ixor, s_ishl, s_ishr, s_iushr, s_ineg, s_idiv, s_irem, s_ladd, s_lsub, s_lmul, s_land, s_lor, s_lxor, s_ldiv, s_lshl, s_lshr, s_lushr, s_i2l, s_l2i, s_lcmp, s_goto, s_ieq, s_ine, s_ilt, s_ige, s_igt, s_ile, s_zeq, s_zne, s_zlt, s_zge, s_zgt, s_zle, s_ifnull, s_ifnullN, s_ifnonnull, s_ifnonnullN, s_tableswitch, s_lookupswitch, s_getfield, s_putfield, s_getstatic, s_iaload, s_laload, s_baload, s_aaload, s_iastore, s_lastore, s_bastore, s_aastore, s_arraylength, s_newI, s_newJ, s_newZ, s_anewarray, s_new, s_copy, s_max, s_min, s_invokestatic, s_objinit, s_invokespecial, kf_isr_r, s_invokevirtual, s_ireturn, s_lreturn, s_areturn, s_areturnN, s_return, lI_0, lI_s, lJ_0, lJ_s, lA_0, lA_0N, lA_s, lS1_0, lS1_1, lS1_2, lS2_0, lS2_1, lS2_2, lK_n, lK_i, lK_j, lK_a, lK_N, d_C', kf_w_0, kf_w_i, kf_w_a, kf_w_n, kf_w_j, c_0, c_1, c_2, c_3, c_4, c_5, c_6, tl_0, tl_1, Option.bind_some, Option.bind_none, Option.map_some, Nat.reduceAdd, Nat.reduceMul, Nat.reduceDiv, Nat.reduceMod, Int.reduceToNat, Fin.val_zero, Fin.isValue, Fin.val_one, Fin.val_two, fv_0, fv_1, fv_2, fv_3, fw_0, fw_1, d_ite, true_or, or_true, and_false, false_and, or_self, and_self, ow_178, g, r63, gz, p0, p1, y2, e, rc, k1, z1, nI_1, if_true, Bool.true_or]
    | false =>
      by_cases c : (cs.drop v.2.2.2[i].1).take 16 = id
      · rw [if_pos c] at kc
        have d : decide ((cs.drop v.2.2.2[i].1).take 16 = id) = true := decide_eq_true c
        rw [d]
        simp only [cl_183, e183_0, e183_1, e183_2, e183_3, e183_7, e183_8, e183_11, e183_12, e183_13, e183_16, e183_17, e183_18, e183_20, e183_23, e183_25, e183_26, e183_29, e183_30, e183_33, e183_34, e183_37, e183_38, e183_41, e183_43, e183_44, e183_45, e183_47, e183_50, e183_53, e183_54, e183_57, e183_58, e183_59, e183_62, e183_65, e183_66, ow_183, Int32.reduceOfInt, Int32.reduceOfNat, Int32.reduceToNatClampNeg, Int32.reduceLT, Int32.reduceLE, Int32.reduceAdd, Int32.reduceSub, Int32.reduceMul, Int64.reduceOfNat, Int64.reduceOfInt, Nat.reduceLeDiff, Nat.reduceLT, Nat.reduceEqDiff, Nat.reduceSub, cs_0, cs_1, cs_2, cs_3, cs_4, cs_5, cs_6, cs_7, cs_8, or_false, false_or, not_false_eq_true, and_true, true_and, if_true, if_false, List.length_cons, List.length_nil, List.getElem?_cons_succ, List.getElem?_cons_zero, List.set_cons_succ, List.set_cons_zero, reduceIte, d_G, d_R, s_aload, s_aload_n, s_iload, s_iload_n, s_lload, s_lload_n, s_istore, s_istore_n, s_astore, s_astoreN, s_astore_n, s_astore_nN, s_lstore, s_lstore_n, s_iinc, s_iconst, s_bipush, s_sipush, s_lconst, s_ldc2_w, s_aconst_null, s_dupA, s_dupI, s_dup2, s_iadd, s_isub, s_imul, s_iand, s_ior, s_ixor, s_ishl, s_ishr, s_iushr, s_ineg, s_idiv, s_irem, s_ladd, s_lsub, s_lmul, s_land, s_lor, s_lxor, s_ldiv, s_lshl, s_lshr, s_lushr, s_i2l, s_l2i, s_lcmp, s_goto, s_ieq, s_ine, s_ilt, s_ige, s_igt, s_ile, s_zeq, s_zne, s_zlt, s_zge, s_zgt, s_zle, s_ifnull, s_ifnullN, s_ifnonnull, s_ifnonnullN, s_tableswitch, s_lookupswitch, s_getfield, s_putfield, s_getstatic, s_iaload, s_laload, s_baload, s_aaload, s_iastore, s_lastore, s_bastore, s_aastore, s_arraylength, s_newI, s_newJ, s_newZ, s_anewarray, s_new, s_copy, s_max, s_min, s_invokestatic, s_objinit, s_invokespecial, kf_isr_r, s_invokevirtual, s_ireturn, s_lreturn, s_areturn, s_areturnN, s_return, lI_0, lI_s, lJ_0, lJ_s, lA_0, lA_0N, lA_s, lS1_0, lS1_1, lS1_2, lS2_0, lS2_1, lS2_2, lK_n, lK_i, lK_j, lK_a, lK_N, d_C', kf_w_0, kf_w_i, kf_w_a, kf_w_n, kf_w_j, c_0, c_1, c_2, c_3, c_4, c_5, c_6, tl_0, tl_1, Option.bind_some, Option.bind_none, Option.map_some, Nat.reduceAdd, Nat.reduceMul, Nat.reduceDiv, Nat.reduceMod, Int.reduceToNat, Fin.val_zero, Fin.isValue, Fin.val_one, Fin.val_two, fv_0, fv_1, fv_2, fv_3, fw_0, fw_1, d_ite, true_or, or_true, and_false, false_and, or_self, and_self, ow_178, g, r63, gz, p0, p1, y2, e, rc, k1, g1, r1, f70, r18, em, kc, z1, nI_1, if_true, Bool.false_or, Bool.false_eq_true, if_false]
      · rw [if_neg c] at kc
        have d : decide ((cs.drop v.2.2.2[i].1).take 16 = id) = false := decide_eq_false c
        rw [d]
        simp only [cl_183, e183_0, e183_1, e183_2, e183_3, e183_7, e183_8, e183_11, e183_12, e183_13, e183_16, e183_17, e183_18, e183_20, e183_23, e183_25, e183_26, e183_29, e183_30, e183_33, e183_34, e183_37, e183_38, e183_41, e183_43, e183_44, e183_45, e183_47, e183_50, e183_53, e183_54, e183_57, e183_58, e183_59, e183_62, e183_65, e183_66, ow_183, Int32.reduceOfInt, Int32.reduceOfNat, Int32.reduceToNatClampNeg, Int32.reduceLT, Int32.reduceLE, Int32.reduceAdd, Int32.reduceSub, Int32.reduceMul, Int64.reduceOfNat, Int64.reduceOfInt, Nat.reduceLeDiff, Nat.reduceLT, Nat.reduceEqDiff, Nat.reduceSub, cs_0, cs_1, cs_2, cs_3, cs_4, cs_5, cs_6, cs_7, cs_8, or_false, false_or, not_false_eq_true, and_true, true_and, if_true, if_false, List.length_cons, List.length_nil, List.getElem?_cons_succ, List.getElem?_cons_zero, List.set_cons_succ, List.set_cons_zero, reduceIte, d_G, d_R, s_aload, s_aload_n, s_iload, s_iload_n, s_lload, s_lload_n, s_istore, s_istore_n, s_astore, s_astoreN, s_astore_n, s_astore_nN, s_lstore, s_lstore_n, s_iinc, s_iconst, s_bipush, s_sipush, s_lconst, s_ldc2_w, s_aconst_null, s_dupA, s_dupI, s_dup2, s_iadd, s_isub, s_imul, s_iand, s_ior, s_ixor, s_ishl, s_ishr, s_iushr, s_ineg, s_idiv, s_irem, s_ladd, s_lsub, s_lmul, s_land, s_lor, s_lxor, s_ldiv, s_lshl, s_lshr, s_lushr, s_i2l, s_l2i, s_lcmp, s_goto, s_ieq, s_ine, s_ilt, s_ige, s_igt, s_ile, s_zeq, s_zne, s_zlt, s_zge, s_zgt, s_zle, s_ifnull, s_ifnullN, s_ifnonnull, s_ifnonnullN, s_tableswitch, s_lookupswitch, s_getfield, s_putfield, s_getstatic, s_iaload, s_laload, s_baload, s_aaload, s_iastore, s_lastore, s_bastore, s_aastore, s_arraylength, s_newI, s_newJ, s_newZ, s_anewarray, s_new, s_copy, s_max, s_min, s_invokestatic, s_objinit, s_invokespecial, kf_isr_r, s_invokevirtual, s_ireturn, s_lreturn, s_areturn, s_areturnN, s_return, lI_0, lI_s, lJ_0, lJ_s, lA_0, lA_0N, lA_s, lS1_0, lS1_1, lS1_2, lS2_0, lS2_1, lS2_2, lK_n, lK_i, lK_j, lK_a, lK_N, d_C', kf_w_0, kf_w_i, kf_w_a, kf_w_n, kf_w_j, c_0, c_1, c_2, c_3, c_4, c_5, c_6, tl_0, tl_1, Option.bind_some, Option.bind_none, Option.map_some, Nat.reduceAdd, Nat.reduceMul, Nat.reduceDiv, Nat.reduceMod, Int.reduceToNat, Fin.val_zero, Fin.isValue, Fin.val_one, Fin.val_two, fv_0, fv_1, fv_2, fv_3, fw_0, fw_1, d_ite, true_or, or_true, and_false, false_and, or_self, and_self, ow_178, g, r63, gz, p0, p1, y2, e, rc, k1, g1, r1, f70, r18, em, kc, nI_1, Bool.false_or, Bool.false_eq_true, if_false]
def A184 : List Nat := [284, 302, 303, 304, 305, 306]
theorem R184 {nm wn : Nat} {v x : PV} (hT : MT M fs cs kk fr sz p) (hR : MR kk fr sz m) (ho : okM cs m) (m3 : MAr M tp ou V ks wt wd G) (hn : nm < 24) (hm : m.getD nm none = some v) (hk : v.1 = 2) (hz : v.2.2.1 = 16) (hwn : wn < 24) (hx : m.getD wn none = some x) (hkx : x.1 = 2) (hzx : x.2.2.1 = 32) : ∃ M' fs', kf_cl 184 [.ref 284, .int (nI nm), .int (nI wn)] M = some (some (.int (if (hmac V.2.2.1 (rowOf cs m wn)).take 16 = rowOf cs m nm then 1 else 0)), M') ∧ MdIs M' fs' ∧ MAr M' tp ou V ks wt wd G ∧ Fo [30] fs fs' ∧ Off A184 M M' := by
  obtain ⟨-, -, y3⟩ := mTR hT hR hn hm
  have y3 := y3 (Or.inl hk)
  obtain ⟨-, -, x3⟩ := mTR hT hR hwn hx
  have x3 := x3 (Or.inl hkx)
  have hv := (ho.2 nm v (mG_some hm)).2.2.1 (Or.inl hk)
  have hvx := (ho.2 wn x (mG_some hx)).2.2.1 (Or.inl hkx)
  obtain ⟨t1, t2, t3, t4, t5, t6, ⟨t, t7, t8⟩, t9, t10⟩ := hT
  obtain ⟨a1, a2, a3, a4, a5, a6, a7, a8, a9, a10, a11, a12, a13, a14, a15, a16, a17, a18, a19, a20, a21, a22⟩ := m3
  obtain ⟨z, hzz⟩ := a13
  have g := gO_of t1.1
  have rc := t1.rc
  have r1 := t1.rf 1 285 (by decide)
  have r7 := t1.rf 7 288 (by decide)
  have r62 := t1.rf 62 333 (by decide)
  have gf := gI_of t5.1
  have p0 : ¬ nI nm < 0 := nI_pos (by omega)
  have p1 : (nI nm).toNatClampNeg = nm := nI_clamp (by omega)
  have p2 : ¬ nI wn < 0 := nI_pos (by omega)
  have p3 : (nI wn).toNatClampNeg = wn := nI_clamp (by omega)
  obtain ⟨M1, fs1, k1, s1, H1, g5, z1, q1, o1⟩ := c133 (b := 288) (c := 285) (at1 := x.2.1) (n := 32) t1 a11 a10 a4.1 a4.2 (by decide) t7.1 (by decide) (by rw [t7.2]; omega) (by rw [t7.2]; decide) (by decide) hzz.1 hzz.2
  have er : (t.drop x.2.1).take 32 = rowOf cs m wn := by rw [seg_eq t8 (by omega), rowOf_eq hx, hzx]
  rw [er] at g5
  rw [show nI 32 = 32 from rfl] at k1
  have g1 := gO_of s1.1.1
  have r1b := s1.1.rf 1 285 (by decide)
  have r33 := s1.1.rf 33 305 (by decide)
  have r62b := s1.1.rf 62 333 (by decide)
  have gfb := gI_of (t5.off o1 (by decide)).1
  have t7b := t7.off o1 (by decide)
  have lh : (hmac V.2.2.1 (rowOf cs m wn)).length = 32 := sha_len
  have kc := c131 (a := v.2.1) (b := 0) (n := 16) t7b.1 g5 (by rw [t7.2]; omega) (by rw [lh]; decide) (by rw [t7.2]; decide) (by rw [lh]; decide)
  have er2 : (t.drop v.2.1).take 16 = rowOf cs m nm := by rw [seg_eq t8 (by omega), rowOf_eq hm, hz]
  rw [er2, List.drop_zero, nI_0, show nI 16 = 16 from rfl] at kc
  have oo : Off A184 M M1 := o1.wk (by decide)
  have ec : (if rowOf cs m nm = (hmac V.2.2.1 (rowOf cs m wn)).take 16 then (1 : Int32) else 0) = if (hmac V.2.2.1 (rowOf cs m wn)).take 16 = rowOf cs m nm then 1 else 0 := by
    by_cases c : rowOf cs m nm = (hmac V.2.2.1 (rowOf cs m wn)).take 16
    · rw [if_pos c, if_pos c.symm]
    · rw [if_neg c, if_neg (fun q => c q.symm)]
  rw [ec] at kc
  refine ⟨M1, fs1, ?_, s1.1, ⟨a1.off oo (by decide), a2.off oo (by decide), a3.off oo (by decide), a4.off oo (by decide), a5.off oo (by decide), a6.off oo (by decide), a7.off oo (by decide), a8.off oo (by decide), a9.off oo (by decide), H1, s1.mx, a12.off' oo (by decide), z1, a14.off oo (by decide), a15.off oo (by decide), a16.off oo (by decide), a17.off oo (by decide), a18.off oo (by decide), a19.off oo (by decide), a20.off oo (by decide), a21.off oo (by decide), a22.off oo (by decide)⟩, Fo.of30 q1, oo⟩
  by_cases c : (hmac V.2.2.1 (rowOf cs m wn)).take 16 = rowOf cs m nm
  · rw [if_pos c] at kc ⊢
    simp only [cl_184, e184_0, e184_1, e184_2, e184_5, e184_6, e184_9, e184_10, e184_13, e184_14, e184_15, e184_17, e184_20, e184_21, e184_24, e184_25, e184_28, e184_29, e184_30, e184_31, e184_34, e184_35, e184_37, e184_40, ow_184, Int32.reduceOfInt, Int32.reduceOfNat, Int32.reduceToNatClampNeg, Int32.reduceLT, Int32.reduceLE, Int32.reduceAdd, Int32.reduceSub, Int32.reduceMul, Int64.reduceOfNat, Int64.reduceOfInt, Nat.reduceLeDiff, Nat.reduceLT, Nat.reduceEqDiff, Nat.reduceSub, cs_0, cs_1, cs_2, cs_3, cs_4, cs_5, cs_6, cs_7, cs_8, or_false, false_or, not_false_eq_true, and_true, true_and, if_true, if_false, List.length_cons, List.length_nil, List.getElem?_cons_succ, List.getElem?_cons_zero, List.set_cons_succ, List.set_cons_zero, reduceIte, d_G, d_R, s_aload, s_aload_n, s_iload, s_iload_n, s_lload, s_lload_n, s_istore, s_istore_n, s_astore, s_astoreN, s_astore_n, s_astore_nN, s_lstore, s_lstore_n, s_iinc, s_iconst, s_bipush, s_sipush, s_lconst, s_ldc2_w, s_aconst_null, s_dupA, s_dupI, s_dup2, s_iadd, s_isub, s_imul, s_iand, s_ior, s_ixor, s_ishl, s_ishr, s_iushr, s_ineg, s_idiv, s_irem, s_ladd, s_lsub, s_lmul, s_land, s_lor, s_lxor, s_ldiv, s_lshl, s_lshr, s_lushr, s_i2l, s_l2i, s_lcmp, s_goto, s_ieq, s_ine, s_ilt, s_ige, s_igt, s_ile, s_zeq, s_zne, s_zlt, s_zge, s_zgt, s_zle, s_ifnull, s_ifnullN, s_ifnonnull, s_ifnonnullN, s_tableswitch, s_lookupswitch, s_getfield, s_putfield, s_getstatic, s_iaload, s_laload, s_baload, s_aaload, s_iastore, s_lastore, s_bastore, s_aastore, s_arraylength, s_newI, s_newJ, s_newZ, s_anewarray, s_new, s_copy, s_max, s_min, s_invokestatic, s_objinit, s_invokespecial, kf_isr_r, s_invokevirtual, s_ireturn, s_lreturn, s_areturn, s_areturnN, s_return, lI_0, lI_s, lJ_0, lJ_s, lA_0, lA_0N, lA_s, lS1_0, lS1_1, lS1_2, lS2_0, lS2_1, lS2_2, lK_n, lK_i, lK_j, lK_a, lK_N, d_C', kf_w_0, kf_w_i, kf_w_a, kf_w_n, kf_w_j, c_0, c_1, c_2, c_3, c_4, c_5, c_6, tl_0, tl_1, Option.bind_some, Option.bind_none, Option.map_some, Nat.reduceAdd, Nat.reduceMul, Nat.reduceDiv, Nat.reduceMod, Int.reduceToNat, Fin.val_zero, Fin.isValue, Fin.val_one, Fin.val_two, fv_0, fv_1, fv_2, fv_3, fw_0, fw_1, d_ite, true_or, or_true, and_false, false_and, or_self, and_self, ow_133, g, rc, r1, r7, r62, gf, p2, p3, x3, k1, g1, r1b, r33, r62b, gfb, p0, p1, y3, kc]
  · rw [if_neg c] at kc ⊢
    simp only [cl_184, e184_0, e184_1, e184_2, e184_5, e184_6, e184_9, e184_10, e184_13, e184_14, e184_15, e184_17, e184_20, e184_21, e184_24, e184_25, e184_28, e184_29, e184_30, e184_31, e184_34, e184_35, e184_37, e184_40, ow_184, Int32.reduceOfInt, Int32.reduceOfNat, Int32.reduceToNatClampNeg, Int32.reduceLT, Int32.reduceLE, Int32.reduceAdd, Int32.reduceSub, Int32.reduceMul, Int64.reduceOfNat, Int64.reduceOfInt, Nat.reduceLeDiff, Nat.reduceLT, Nat.reduceEqDiff, Nat.reduceSub, cs_0, cs_1, cs_2, cs_3, cs_4, cs_5, cs_6, cs_7, cs_8, or_false, false_or, not_false_eq_true, and_true, true_and, if_true, if_false, List.length_cons, List.length_nil, List.getElem?_cons_succ, List.getElem?_cons_zero, List.set_cons_succ, List.set_cons_zero, reduceIte, d_G, d_R, s_aload, s_aload_n, s_iload, s_iload_n, s_lload, s_lload_n, s_istore, s_istore_n, s_astore, s_astoreN, s_astore_n, s_astore_nN, s_lstore, s_lstore_n, s_iinc, s_iconst, s_bipush, s_sipush, s_lconst, s_ldc2_w, s_aconst_null, s_dupA, s_dupI, s_dup2, s_iadd, s_isub, s_imul, s_iand, s_ior, s_ixor, s_ishl, s_ishr, s_iushr, s_ineg, s_idiv, s_irem, s_ladd, s_lsub, s_lmul, s_land, s_lor, s_lxor, s_ldiv, s_lshl, s_lshr, s_lushr, s_i2l, s_l2i, s_lcmp, s_goto, s_ieq, s_ine, s_ilt, s_ige, s_igt, s_ile, s_zeq, s_zne, s_zlt, s_zge, s_zgt, s_zle, s_ifnull, s_ifnullN, s_ifnonnull, s_ifnonnullN, s_tableswitch, s_lookupswitch, s_getfield, s_putfield, s_getstatic, s_iaload, s_laload, s_baload, s_aaload, s_iastore, s_lastore, s_bastore, s_aastore, s_arraylength, s_newI, s_newJ, s_newZ, s_anewarray, s_new, s_copy, s_max, s_min, s_invokestatic, s_objinit, s_invokespecial, kf_isr_r, s_invokevirtual, s_ireturn, s_lreturn, s_areturn, s_areturnN, s_return, lI_0, lI_s, lJ_0, lJ_s, lA_0, lA_0N, lA_s, lS1_0, lS1_1, lS1_2, lS2_0, lS2_1, lS2_2, lK_n, lK_i, lK_j, lK_a, lK_N, d_C', kf_w_0, kf_w_i, kf_w_a, kf_w_n, kf_w_j, c_0, c_1, c_2, c_3, c_4, c_5, c_6, tl_0, tl_1, Option.bind_some, Option.bind_none, Option.map_some, Nat.reduceAdd, Nat.reduceMul, Nat.reduceDiv, Nat.reduceMod, Int.reduceToNat, Fin.val_zero, Fin.isValue, Fin.val_one, Fin.val_two, fv_0, fv_1, fv_2, fv_3, fw_0, fw_1, d_ite, true_or, or_true, and_false, false_and, or_self, and_self, ow_133, g, rc, r1, r7, r62, gf, p2, p3, x3, k1, g1, r1b, r33, r62b, gfb, p0, p1, y3, kc]
end MCMD
