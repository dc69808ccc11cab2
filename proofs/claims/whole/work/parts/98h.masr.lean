/-! The reference: signData, asserts -/
section MASR
variable {M : kf_M} {fs : List Value} {tp ou : List Int32} {tl ol n w : Nat} {V : Vs} {tc fl g : Int32} {ks : List Ky} {wt : List Nat} {wd : List Int32} {W : Ws} {G : Gs} {cs kk fr sz : List Int32} {p : Nat} {m : PM}
def A187 : List Nat := 341 :: A159s
theorem DW.off {M' : kf_M} {fs' : List Value} {S A : List Nat} {da : List Int32} (h : DW M fs da) (n1 : MdIs M' fs') (hf : Fo S fs fs') (hS : 73 ∉ S) (o : Off A M M') (hA : 340 ∉ A) : DW M' fs' da := by
  obtain ⟨h1, h2, h3⟩ := h
  exact ⟨n1, (hf 73 hS).trans h2, h3.off o hA⟩
set_option maxHeartbeats 4000000 in
theorem R187 {j b at1 : Nat} {k : Ky} {ys da ww : List Int32} (hD : DW M fs da) (bda : isB da) (lda : da.length ≤ 160) (m3 : MAr M tp ou V ks wt wd G) (hg : fs[25]? = some (.int G.1)) (hk : ks[j]? = some k) (gb : M[b]? = some (oI ys)) (hb : b = 298 ∨ b = 285) (hy : at1 + 32 ≤ ys.length) (hy2 : ys.length < 2 ^ 20) (ew : (ys.drop at1).take 32 = ww) (bw : isB ww) : ∃ M' fs', kf_cl 187 [.ref 284, .int (nI j), .ref b, .int (nI at1)] M = some (none, M') ∧ MdIs M' fs' ∧ MAr M' tp ou V ks wt wd (G.1 + 1, some (sha (da ++ ww), k.2.2.1)) ∧ ArI M' 301 64 (sgB (nBL 32 k.2.2.1) (sha (da ++ ww))) ∧ DW M' fs' da ∧ fs'[25]? = some (.int (G.1 + 1)) ∧ Fo [25, 30, 43] fs fs' ∧ Off A187 M M' := by
  have nb2 : b ∉ [284, 302] := by rcases hb with rfl | rfl <;> decide
  have hD0 := hD
  obtain ⟨m1, f73, t, hx, ht⟩ := hD
  obtain ⟨a1, a2, a3, a4, a5, a6, a7, a8, a9, a10, a11, a12, a13, a14, a15, a16, a17, a18, a19, a20, a21, a22⟩ := m3
  obtain ⟨hos, ul, us, se, ide, ct, po, h7, hr, hl⟩ := id a6
  obtain ⟨ok, r1, r2, r3, r4, r5, r6, r7⟩ := hr j k hk
  have hj : j < ks.length := (List.getElem?_eq_some_iff.mp hk).1
  obtain ⟨X, hX, lX⟩ := a11
  obtain ⟨z, hz⟩ := a22
  have lw : ww.length = 32 := by rw [← ew, List.length_take, List.length_drop]; omega
  have rc := m1.rc
  obtain ⟨M1, k1, s1, o1⟩ := c121 m1 hX lX
  have g1 := gO_of s1.1.1
  have rc1 := s1.1.rc
  have r72 := s1.1.rf 72 340 (by decide)
  have f73b : (fs.set 30 (.int 0))[73]? = some (.int (nI da.length)) := (List.getElem?_set_ne (by decide)).trans f73
  obtain ⟨M2, fs2, k2, s2, q2, o2⟩ := c123 (b := 340) (f := 0) (n := da.length) s1 (hx.off o1 (by decide)).1 (by rw [hx.2]; omega) (by rw [hx.2]; decide) (by decide) (by show 0 + _ ≤ _; omega)
  have eb : da.map (· &&& 255) = da := byt_id bda
  rw [List.nil_append, List.drop_zero, ht, eb] at s2
  rw [nI_0] at k2
  have o12 := o1.tr o2
  have rc2 := s2.1.rc
  obtain ⟨M3, fs3, k3, s3, q3, o3⟩ := c123 (b := b) (f := at1) (n := 32) s2 (o12.at nb2 gb) hy hy2 nb2 (by omega)
  have ebw : ww.map (· &&& 255) = ww := byt_id bw
  rw [ew, ebw] at s3
  rw [show nI 32 = 32 from rfl] at k3
  have o13 := o12.tr o3
  have rc3 := s3.1.rc
  have g3 := gO_of s3.1.1
  have r74 := s3.1.rf 74 341 (by decide)
  have ldw : (da ++ ww).length ≤ 440 := by rw [List.length_append, lw]; omega
  obtain ⟨M4, fs4, k4, s4, H4, g4, q4, o4⟩ := c129 (n := 32) (b := 341) (at1 := 0) s3 (a10.of5 o13 (by decide)) ldw (hz.off o13 (by decide)).1 (by decide) (by decide) (by decide) (by rw [hz.2]; decide) (by rw [hz.2]; decide)
  rw [nI_0, show nI 32 = 32 from rfl] at k4
  rw [List.take_zero, List.nil_append, List.take_of_length_le (by rw [sha_len]; decide), List.drop_of_length_le (by rw [hz.2]; decide), List.append_nil] at g4
  have o14 : Off [284, 302, 303, 304, 305, 341] M M4 := (o13.wk (by decide)).tr o4
  have d4 : ArI M4 341 32 (sha (da ++ ww)) := ⟨g4, sha_len⟩
  have h74 := h7.off o14 (by decide)
  obtain ⟨dig, own, sig, y1, y2, y3, -⟩ := id a9
  have F14 : Fo [25, 30, 43] fs fs4 := by
    intro k hk
    have hk : k ≠ 30 := by
      intro q
      exact hk (by simp [q])
    rw [q4 k hk, q3 k hk, q2 k hk, List.getElem?_set_ne (Ne.symm hk)]
  have f25 : fs4[25]? = some (.int G.1) := by
    rw [q4 25 (by decide), q3 25 (by decide), q2 25 (by decide), List.getElem?_set_ne (by decide)]
    exact hg
  have rc4 := s4.1.rc
  have g4o := gO_of s4.1.1
  have r74b := s4.1.rf 74 341 (by decide)
  obtain ⟨M5, fs5, k5, n5, C5, H5, X5, S5, D5, P5, f5, F5, o5⟩ := n159 (kk := j) (sec := nBL 32 k.2.2.1) s4.1 (a12.off' o14 (by decide)) H4 s4.mx h74.2.2.2.1 r4 d4 h74.2.2.2.2.2.2 (y1.off o14 (by decide)) (y2.off o14 (by decide)) (y3.off o14 (by decide)) f25 (by omega) isB_nBL isB_sha
  rw [r7] at P5
  have oo : Off A187 M M5 := (o14.wk (by decide)).tr (o5.wk (by decide))
  have FF : Fo [25, 30, 43] fs fs5 := F14.tr F5
  have G5 : MG M5 (G.1 + 1, some (sha (da ++ ww), k.2.2.1)) := ⟨_, _, _, D5, P5, S5, ⟨rfl, rfl, rfl, isB_sha, sha_len, ok.2.2.2.2.1.1, ok.2.2.2.2.1.2⟩⟩
  refine ⟨M5, fs5, ?_, n5, ⟨a1.off oo (by decide), a2.off oo (by decide), a3.off oo (by decide), a4.off oo (by decide), a5.off oo (by decide), a6.off oo (by decide), a7.off oo (by decide), a8.off oo (by decide), G5, H5, X5, C5, a13.off oo (by decide), a14.off oo (by decide), a15.off oo (by decide), a16.off oo (by decide), a17.off oo (by decide), a18.off oo (by decide), a19.off oo (by decide), a20.off oo (by decide), a21.off oo (by decide), ⟨_, d4.off o5 (by decide)⟩⟩, S5, hD0.off n5 FF (by decide) oo (by decide), f5, FF, oo⟩
  simp only [cl_187, e187_0, e187_1, e187_4, e187_5, e187_6, e187_9, e187_10, e187_11, e187_14, e187_17, e187_18, e187_19, e187_20, e187_22, e187_25, e187_26, e187_28, e187_29, e187_32, e187_33, e187_36, e187_37, e187_38, e187_39, e187_42, e187_45, ow_187, Int32.reduceOfInt, Int32.reduceOfNat, Int32.reduceToNatClampNeg, Int32.reduceLT, Int32.reduceLE, Int32.reduceAdd, Int32.reduceSub, Int32.reduceMul, Int64.reduceOfNat, Int64.reduceOfInt, Nat.reduceLeDiff, Nat.reduceLT, Nat.reduceEqDiff, Nat.reduceSub, cs_0, cs_1, cs_2, cs_3, cs_4, cs_5, cs_6, cs_7, cs_8, or_false, false_or, not_false_eq_true, and_true, true_and, if_true, if_false, List.length_cons, List.length_nil, List.getElem?_cons_succ, List.getElem?_cons_zero, List.set_cons_succ, List.set_cons_zero, reduceIte, d_G, d_R, s_aload, s_aload_n, s_iload, s_iload_n, s_lload, s_lload_n, s_istore, s_istore_n, s_astore, s_astoreN, s_astore_n, s_astore_nN, s_lstore, s_lstore_n, s_iinc, s_iconst, s_bipush, s_sipush, s_lconst, s_ldc2_w, s_aconst_null, s_dupA, s_dupI, s_dup2, s_iadd, s_isub, s_imul, s_iand, s_ior, s_ixor, s_ishl, s_ishr, s_iushr, s_ineg, s_idiv, s_irem, s_ladd, s_lsub, s_lmul, s_land, s_lor, s_lxor, s_ldiv, s_lshl, s_lshr, s_lushr, s_i2l, s_l2i, s_lcmp, s_goto, s_ieq, s_ine, s_ilt, s_ige, s_igt, s_ile, s_zeq, s_zne, s_zlt, s_zge, s_zgt, s_zle, s_ifnull, s_ifnullN, s_ifnonnull, s_ifnonnullN, s_tableswitch, s_lookupswitch, s_getfield, s_putfield, s_getstatic, s_iaload, s_laload, s_baload, s_aaload, s_iastore, s_lastore, s_bastore, s_aastore, s_arraylength, s_newI, s_newJ, s_newZ, s_anewarray, s_new, s_copy, s_max, s_min, s_invokestatic, s_objinit, s_invokespecial, kf_isr_r, s_invokevirtual, s_ireturn, s_lreturn, s_areturn, s_areturnN, s_return, lI_0, lI_s, lJ_0, lJ_s, lA_0, lA_0N, lA_s, lS1_0, lS1_1, lS1_2, lS2_0, lS2_1, lS2_2, lK_n, lK_i, lK_j, lK_a, lK_N, d_C', kf_w_0, kf_w_i, kf_w_a, kf_w_n, kf_w_j, c_0, c_1, c_2, c_3, c_4, c_5, c_6, tl_0, tl_1, Option.bind_some, Option.bind_none, Option.map_some, Nat.reduceAdd, Nat.reduceMul, Nat.reduceDiv, Nat.reduceMod, Int.reduceToNat, Fin.val_zero, Fin.isValue, Fin.val_one, Fin.val_two, fv_0, fv_1, fv_2, fv_3, fw_0, fw_1, d_ite, true_or, or_true, and_false, false_and, or_self, and_self, ow_121, ow_123, ow_129, ow_159, rc, k1, g1, r72, f73b, rc1, k2, rc2, k3, rc3, g3, r74, k4, rc4, g4o, r74b, k5]
end MASR
