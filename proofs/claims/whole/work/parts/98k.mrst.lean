/-! The reference: setUp, reset, tryOld, setPin -/
section MRST
variable {M : kf_M} {fs : List Value} {tp ou : List Int32} {tl ol n w : Nat} {V : Vs} {tc fl g : Int32} {ks : List Ky} {wt : List Nat} {wd : List Int32} {W : Ws} {G : Gs} {cs kk fr sz : List Int32} {p : Nat} {m : PM}
def A135 : List Nat := [284, 302, 303, 304, 305, 307, 288]
/-- a new token -/
theorem R135 (m1 : MdIs M fs) (m2 : MF fs tl ol V tc n w fl g) (m3 : MAr M tp ou V ks wt wd G) : ∃ M' fs', kf_cl 135 [.ref 284] M = some (none, M') ∧ MdIs M' fs' ∧ MF fs' tl ol (V.1, V.2.1, frs V.1 V.2.2.2.1, V.2.2.2.1 + 1, V.2.2.2.2.1, V.2.2.2.2.2.1, V.2.2.2.2.2.2) tc n w fl g ∧ MAr M' tp ou (V.1, V.2.1, frs V.1 V.2.2.2.1, V.2.2.2.1 + 1, V.2.2.2.2.1, V.2.2.2.2.2.1, V.2.2.2.2.2.2) ks wt wd G ∧ Fo [6, 30] fs fs' ∧ Off A135 M M' := by
  obtain ⟨a1, a2, a3, a4, a5, a6, a7, a8, a9, a10, a11, a12, a13, a14, a15, a16, a17, a18, a19, a20, a21, a22⟩ := m3
  obtain ⟨x7, hx7⟩ := a14
  obtain ⟨M3, fs3, k3, s1, s2, s3, s4, s5, s6, o3⟩ := c135 m1 a11 a10 a3.1 a3.2 hx7.1 hx7.2 a4.1 a4.2 m2.2.2.1
  have hF : Fo [6, 30] fs fs3 := fun k hk => s6 k (fun q => hk (by simp [q])) (fun q => hk (by simp [q]))
  have f3 : MF fs3 tl ol (V.1, V.2.1, frs V.1 V.2.2.2.1, V.2.2.2.1 + 1, V.2.2.2.2.1, V.2.2.2.2.2.1, V.2.2.2.2.2.2) tc n w fl g := by
    obtain ⟨h2, h4, h6, h9, h10, h11, h12, h13, h21, h24, h25⟩ := m2
    exact ⟨(hF 2 (by decide)).trans h2, (hF 4 (by decide)).trans h4, s5, (hF 9 (by decide)).trans h9, (hF 10 (by decide)).trans h10, (hF 11 (by decide)).trans h11, (hF 12 (by decide)).trans h12, (hF 13 (by decide)).trans h13, (hF 21 (by decide)).trans h21, (hF 24 (by decide)).trans h24, (hF 25 (by decide)).trans h25⟩
  have oo : Off A135 M M3 := o3.wk (by decide)
  exact ⟨M3, fs3, k3, s1.1, f3, ⟨a1.off oo (by decide), a2.off oo (by decide), a3.off oo (by decide), ⟨s4, sha_len⟩, a5.off oo (by decide), a6.off oo (by decide), a7.off oo (by decide), a8.off oo (by decide), a9.off oo (by decide), s2, s1.mx, a12.off' oo (by decide), a13.off oo (by decide), ⟨_, s3, sha_len⟩, a15.off oo (by decide), a16.off oo (by decide), a17.off oo (by decide), a18.off oo (by decide), a19.off oo (by decide), a20.off oo (by decide), a21.off oo (by decide), a22.off oo (by decide)⟩, hF, oo⟩
theorem R136 (m1 : MdIs M fs) (m2 : MF fs tl ol V tc n w fl g) (m3 : MAr M tp ou V ks wt wd G) : ∃ M' fs', kf_cl 136 [.ref 284] M = some (none, M') ∧ MdIs M' fs' ∧ MF fs' tl ol (V.1, V.2.1, frs V.1 0, 1, 8, 0, 0) 0 0 0 fl 0 ∧ MAr M' tp ou (V.1, V.2.1, frs V.1 0, 1, 8, 0, 0) [] [] wd (0, G.2) ∧ Off A135 M M' := by
  have gOa0 := gO_of m1.1
  have lfa0 : 6 < (fs).length := by rw [m1.2.1]; decide
  obtain ⟨Ma0, eMa0⟩ : ∃ X, X = M.set 284 (oO 12 ((fs).set 6 (.int 0))) := ⟨_, rfl⟩
  have oMa0 : Off [284] M Ma0 := by rw [eMa0]; exact Off.set (by simp)
  have nMa0 : MdIs Ma0 ((fs).set 6 (.int 0)) := by rw [eMa0]; exact m1.set (by decide)
  have f1 := m2.s6 (a := 0) m1.2.1
  obtain ⟨M2, fs2, k2, n2, f2, q2, F2, o2⟩ := R135 nMa0 f1 (m3.o oMa0)
  have gOb0 := gO_of n2.1
  have lfb0 : 9 < (fs2).length := by rw [n2.2.1]; decide
  obtain ⟨Mb0, eMb0⟩ : ∃ X, X = M2.set 284 (oO 12 ((fs2).set 9 (.int 0))) := ⟨_, rfl⟩
  have oMb0 : Off [284] M2 Mb0 := by rw [eMb0]; exact Off.set (by simp)
  have nMb0 : MdIs Mb0 ((fs2).set 9 (.int 0)) := by rw [eMb0]; exact n2.set (by decide)
  have gOb1 := gO_of nMb0.1
  have lfb1 : 10 < ((fs2).set 9 (.int 0)).length := by rw [nMb0.2.1]; decide
  obtain ⟨Mb1, eMb1⟩ : ∃ X, X = Mb0.set 284 (oO 12 (((fs2).set 9 (.int 0)).set 10 (.int 8))) := ⟨_, rfl⟩
  have oMb1 : Off [284] Mb0 Mb1 := by rw [eMb1]; exact Off.set (by simp)
  have nMb1 : MdIs Mb1 (((fs2).set 9 (.int 0)).set 10 (.int 8)) := by rw [eMb1]; exact nMb0.set (by decide)
  have gOb2 := gO_of nMb1.1
  have lfb2 : 11 < (((fs2).set 9 (.int 0)).set 10 (.int 8)).length := by rw [nMb1.2.1]; decide
  obtain ⟨Mb2, eMb2⟩ : ∃ X, X = Mb1.set 284 (oO 12 ((((fs2).set 9 (.int 0)).set 10 (.int 8)).set 11 (.int 0))) := ⟨_, rfl⟩
  have oMb2 : Off [284] Mb1 Mb2 := by rw [eMb2]; exact Off.set (by simp)
  have nMb2 : MdIs Mb2 ((((fs2).set 9 (.int 0)).set 10 (.int 8)).set 11 (.int 0)) := by rw [eMb2]; exact nMb1.set (by decide)
  have gOb3 := gO_of nMb2.1
  have lfb3 : 12 < ((((fs2).set 9 (.int 0)).set 10 (.int 8)).set 11 (.int 0)).length := by rw [nMb2.2.1]; decide
  obtain ⟨Mb3, eMb3⟩ : ∃ X, X = Mb2.set 284 (oO 12 (((((fs2).set 9 (.int 0)).set 10 (.int 8)).set 11 (.int 0)).set 12 (.int 0))) := ⟨_, rfl⟩
  have oMb3 : Off [284] Mb2 Mb3 := by rw [eMb3]; exact Off.set (by simp)
  have nMb3 : MdIs Mb3 (((((fs2).set 9 (.int 0)).set 10 (.int 8)).set 11 (.int 0)).set 12 (.int 0)) := by rw [eMb3]; exact nMb2.set (by decide)
  have gOb4 := gO_of nMb3.1
  have lfb4 : 13 < (((((fs2).set 9 (.int 0)).set 10 (.int 8)).set 11 (.int 0)).set 12 (.int 0)).length := by rw [nMb3.2.1]; decide
  obtain ⟨Mb4, eMb4⟩ : ∃ X, X = Mb3.set 284 (oO 12 ((((((fs2).set 9 (.int 0)).set 10 (.int 8)).set 11 (.int 0)).set 12 (.int 0)).set 13 (.int 0))) := ⟨_, rfl⟩
  have oMb4 : Off [284] Mb3 Mb4 := by rw [eMb4]; exact Off.set (by simp)
  have nMb4 : MdIs Mb4 ((((((fs2).set 9 (.int 0)).set 10 (.int 8)).set 11 (.int 0)).set 12 (.int 0)).set 13 (.int 0)) := by rw [eMb4]; exact nMb3.set (by decide)
  have gOb5 := gO_of nMb4.1
  have lfb5 : 21 < ((((((fs2).set 9 (.int 0)).set 10 (.int 8)).set 11 (.int 0)).set 12 (.int 0)).set 13 (.int 0)).length := by rw [nMb4.2.1]; decide
  obtain ⟨Mb5, eMb5⟩ : ∃ X, X = Mb4.set 284 (oO 12 (((((((fs2).set 9 (.int 0)).set 10 (.int 8)).set 11 (.int 0)).set 12 (.int 0)).set 13 (.int 0)).set 21 (.int 0))) := ⟨_, rfl⟩
  have oMb5 : Off [284] Mb4 Mb5 := by rw [eMb5]; exact Off.set (by simp)
  have nMb5 : MdIs Mb5 (((((((fs2).set 9 (.int 0)).set 10 (.int 8)).set 11 (.int 0)).set 12 (.int 0)).set 13 (.int 0)).set 21 (.int 0)) := by rw [eMb5]; exact nMb4.set (by decide)
  have gOb6 := gO_of nMb5.1
  have lfb6 : 25 < (((((((fs2).set 9 (.int 0)).set 10 (.int 8)).set 11 (.int 0)).set 12 (.int 0)).set 13 (.int 0)).set 21 (.int 0)).length := by rw [nMb5.2.1]; decide
  obtain ⟨Mb6, eMb6⟩ : ∃ X, X = Mb5.set 284 (oO 12 ((((((((fs2).set 9 (.int 0)).set 10 (.int 8)).set 11 (.int 0)).set 12 (.int 0)).set 13 (.int 0)).set 21 (.int 0)).set 25 (.int 0))) := ⟨_, rfl⟩
  have oMb6 : Off [284] Mb5 Mb6 := by rw [eMb6]; exact Off.set (by simp)
  have nMb6 : MdIs Mb6 ((((((((fs2).set 9 (.int 0)).set 10 (.int 8)).set 11 (.int 0)).set 12 (.int 0)).set 13 (.int 0)).set 21 (.int 0)).set 25 (.int 0)) := by rw [eMb6]; exact nMb5.set (by decide)
  have F9 := f2.s9 (a := 0) n2.2.1
  have FA := F9.s10 (a := 8) nMb0.2.1
  have FB := FA.s11 (a := 0) nMb1.2.1
  have FC := FB.s12 (a := 0) nMb2.2.1
  have FD := FC.s13 (a := 0) nMb3.2.1
  have FE := FD.s21 (a := 0) nMb4.2.1
  have FG := FE.s25 (a := 0) nMb5.2.1
  rw [nI_0] at FD FE FG
  have q3 := q2.o ((((((oMb0.tr oMb1).tr oMb2).tr oMb3).tr oMb4).tr oMb5).tr oMb6)
  have q4 : MAr Mb6 tp ou (V.1, V.2.1, frs V.1 0, 1, 8, 0, 0) [] [] wd (0, G.2) := by
    obtain ⟨a1, a2, a3, a4, a5, a6, a7, a8, a9, a10, a11, a12, a13, a14, a15, a16, a17, a18, a19, a20, a21, a22⟩ := q3
    obtain ⟨hos, ul, us, se, ide, ct, po, h7, hr, hl⟩ := a6
    obtain ⟨ws, hws, -⟩ := a7
    obtain ⟨dig, own, sig, y1, y2, y3, y4⟩ := a9
    have a6' : MK Mb6 [] := ⟨hos, ul, us, se, ide, ct, po, h7, (fun j k hk => by cases hk), Nat.zero_le _⟩
    have a7' : MW Mb6 [] 0 := ⟨ws, hws, fun i x hx => by cases hx⟩
    have a9' : MG Mb6 (0, G.2) := ⟨dig, own, sig, y1, y2, y3, by
      obtain ⟨sg, si⟩ := G
      cases si with
      | none => rfl
      | some e => exact y4⟩
    exact ⟨a1, a2, a3, a4, a5, a6', a7', a8, a9', a10, a11, a12, a13, a14, a15, a16, a17, a18, a19, a20, a21, a22⟩
  have rca := nMa0.rc
  have bb : (((0 : Int32) == 0) || ((0 : Int32) == 1)) = true := by decide
  refine ⟨Mb6, _, ?_, nMb6, FG, q4, ((oMa0.wk (by decide)).tr o2).tr (((((((oMb0.tr oMb1).tr oMb2).tr oMb3).tr oMb4).tr oMb5).tr oMb6).wk (by decide))⟩
  simp only [cl_136, e136_0, e136_1, e136_2, e136_5, e136_6, e136_9, e136_10, e136_11, e136_14, e136_15, e136_17, e136_20, e136_21, e136_22, e136_25, e136_26, e136_27, e136_30, e136_31, e136_32, e136_35, e136_36, e136_37, e136_40, e136_41, e136_42, e136_45, ow_136, Int32.reduceOfInt, Int32.reduceOfNat, Int32.reduceToNatClampNeg, Int32.reduceLT, Int32.reduceLE, Int32.reduceAdd, Int32.reduceSub, Int32.reduceMul, Int64.reduceOfNat, Int64.reduceOfInt, Nat.reduceLeDiff, Nat.reduceLT, Nat.reduceEqDiff, Nat.reduceSub, cs_0, cs_1, cs_2, cs_3, cs_4, cs_5, cs_6, cs_7, cs_8, or_false, false_or, not_false_eq_true, and_true, true_and, if_true, if_false, List.length_cons, List.length_nil, List.getElem?_cons_succ, List.getElem?_cons_zero, List.set_cons_succ, List.set_cons_zero, reduceIte, d_G, d_R, s_aload, s_aload_n, s_iload, s_iload_n, s_lload, s_lload_n, s_istore, s_istore_n, s_astore, s_astoreN, s_astore_n, s_astore_nN, s_lstore, s_lstore_n, s_iinc, s_iconst, s_bipush, s_sipush, s_lconst, s_ldc2_w, s_aconst_null, s_dupA, s_dupI, s_dup2, s_iadd, s_isub, s_imul, s_iand, s_ior, s_ixor, s_ishl, s_ishr, s_iushr, s_ineg, s_idiv, s_irem, s_ladd, s_lsub, s_lmul, s_land, s_lor, s_lxor, s_ldiv, s_lshl, s_lshr, s_lushr, s_i2l, s_l2i, s_lcmp, s_goto, s_ieq, s_ine, s_ilt, s_ige, s_igt, s_ile, s_zeq, s_zne, s_zlt, s_zge, s_zgt, s_zle, s_ifnull, s_ifnullN, s_ifnonnull, s_ifnonnullN, s_tableswitch, s_lookupswitch, s_getfield, s_putfield, s_getstatic, s_iaload, s_laload, s_baload, s_aaload, s_iastore, s_lastore, s_bastore, s_aastore, s_arraylength, s_newI, s_newJ, s_newZ, s_anewarray, s_new, s_copy, s_max, s_min, s_invokestatic, s_objinit, s_invokespecial, kf_isr_r, s_invokevirtual, s_ireturn, s_lreturn, s_areturn, s_areturnN, s_return, lI_0, lI_s, lJ_0, lJ_s, lA_0, lA_0N, lA_s, lS1_0, lS1_1, lS1_2, lS2_0, lS2_1, lS2_2, lK_n, lK_i, lK_j, lK_a, lK_N, d_C', kf_w_0, kf_w_i, kf_w_a, kf_w_n, kf_w_j, c_0, c_1, c_2, c_3, c_4, c_5, c_6, tl_0, tl_1, Option.bind_some, Option.bind_none, Option.map_some, Nat.reduceAdd, Nat.reduceMul, Nat.reduceDiv, Nat.reduceMod, Int.reduceToNat, Fin.val_zero, Fin.isValue, Fin.val_one, Fin.val_two, fv_0, fv_1, fv_2, fv_3, fw_0, fw_1, d_ite, true_or, or_true, and_false, false_and, or_self, and_self, ow_135, kf_fit, bb, gOa0, lfa0, ← eMa0, rca, k2, gOb0, lfb0, ← eMb0, gOb1, lfb1, ← eMb1, gOb2, lfb2, ← eMb2, gOb3, lfb3, ← eMb3, gOb4, lfb4, ← eMb4, gOb5, lfb5, ← eMb5, gOb6, lfb6, ← eMb6]
def A197 : List Nat := [284, 287, 302, 303, 304, 305, 307, 288]
theorem R197n (m1 : MdIs M fs) (m2 : MF fs tl ol V 0 n w fl g) : kf_cl 197 [.ref 284] M = some (some (.int 39), M) := by
  have g0 := gO_of m1.1
  have f12 := m2.2.2.2.2.2.2.1
  simp only [cl_197, e197_0, e197_1, e197_4, e197_7, e197_9, e197_10, e197_11, e197_14, e197_15, e197_16, e197_19, e197_20, e197_22, e197_25, e197_26, e197_27, e197_30, e197_31, e197_33, e197_34, e197_37, e197_38, e197_41, e197_42, e197_45, e197_46, ow_197, Int32.reduceOfInt, Int32.reduceOfNat, Int32.reduceToNatClampNeg, Int32.reduceLT, Int32.reduceLE, Int32.reduceAdd, Int32.reduceSub, Int32.reduceMul, Int64.reduceOfNat, Int64.reduceOfInt, Nat.reduceLeDiff, Nat.reduceLT, Nat.reduceEqDiff, Nat.reduceSub, cs_0, cs_1, cs_2, cs_3, cs_4, cs_5, cs_6, cs_7, cs_8, or_false, false_or, not_false_eq_true, and_true, true_and, if_true, if_false, List.length_cons, List.length_nil, List.getElem?_cons_succ, List.getElem?_cons_zero, List.set_cons_succ, List.set_cons_zero, reduceIte, d_G, d_R, s_aload, s_aload_n, s_iload, s_iload_n, s_lload, s_lload_n, s_istore, s_istore_n, s_astore, s_astoreN, s_astore_n, s_astore_nN, s_lstore, s_lstore_n, s_iinc, s_iconst, s_bipush, s_sipush, s_lconst, s_ldc2_w, s_aconst_null, s_dupA, s_dupI, s_dup2, s_iadd, s_isub, s_imul, s_iand, s_ior, s_ixor, s_ishl, s_ishr, s_iushr, s_ineg, s_idiv, s_irem, s_ladd, s_lsub, s_lmul, s_land, s_lor, s_lxor, s_ldiv, s_lshl, s_lshr, s_lushr, s_i2l, s_l2i, s_lcmp, s_goto, s_ieq, s_ine, s_ilt, s_ige, s_igt, s_ile, s_zeq, s_zne, s_zlt, s_zge, s_zgt, s_zle, s_ifnull, s_ifnullN, s_ifnonnull, s_ifnonnullN, s_tableswitch, s_lookupswitch, s_getfield, s_putfield, s_getstatic, s_iaload, s_laload, s_baload, s_aaload, s_iastore, s_lastore, s_bastore, s_aastore, s_arraylength, s_newI, s_newJ, s_newZ, s_anewarray, s_new, s_copy, s_max, s_min, s_invokestatic, s_objinit, s_invokespecial, kf_isr_r, s_invokevirtual, s_ireturn, s_lreturn, s_areturn, s_areturnN, s_return, lI_0, lI_s, lJ_0, lJ_s, lA_0, lA_0N, lA_s, lS1_0, lS1_1, lS1_2, lS2_0, lS2_1, lS2_2, lK_n, lK_i, lK_j, lK_a, lK_N, d_C', kf_w_0, kf_w_i, kf_w_a, kf_w_n, kf_w_j, c_0, c_1, c_2, c_3, c_4, c_5, c_6, tl_0, tl_1, Option.bind_some, Option.bind_none, Option.map_some, Nat.reduceAdd, Nat.reduceMul, Nat.reduceDiv, Nat.reduceMod, Int.reduceToNat, Fin.val_zero, Fin.isValue, Fin.val_one, Fin.val_two, fv_0, fv_1, fv_2, fv_3, fw_0, fw_1, d_ite, true_or, or_true, and_false, false_and, or_self, and_self, g0, f12]
theorem R197y (m1 : MdIs M fs) (m2 : MF fs tl ol V 1 n w fl g) (m3 : MAr M tp ou V ks wt wd G) : ∃ M' fs', kf_cl 197 [.ref 284] M = some (some (.int 0), M') ∧ MdIs M' fs' ∧ MF fs' tl ol (rstV V) 0 0 0 fl 0 ∧ MAr M' tp ou (rstV V) [] [] wd (0, G.2) ∧ Off A197 M M' := by
  have g0 := gO_of m1.1
  have f12 := m2.2.2.2.2.2.2.1
  have z1 : ¬ (1 : Int32) = 0 := by decide
  obtain ⟨a1, a2, a3, a4, a5, a6, a7, a8, a9, a10, a11, a12, a13, a14, a15, a16, a17, a18, a19, a20, a21, a22⟩ := m3
  obtain ⟨X, hX, lX⟩ := id a11
  have rc := m1.rc
  obtain ⟨M1, k1, s1, o1⟩ := c121 m1 hX lX
  have g1 := gO_of s1.1.1
  have rc1 := s1.1.rc
  have r5 := s1.1.rf 5 287 (by decide)
  have b3 := a3.off o1 (by decide)
  obtain ⟨M2, fs2, k2, s2, q2, o2⟩ := c123 (b := 287) (f := 0) (n := 32) s1 b3.1 (by rw [b3.2]; decide) (by rw [b3.2]; decide) (by decide) (by decide)
  rw [List.nil_append, List.drop_zero, List.take_of_length_le (by rw [b3.2]; decide)] at s2
  rw [nI_0, show nI 32 = 32 from rfl] at k2
  have s2 : MsgIs M2 fs2 (byt V.1) := s2
  have lb : (byt V.1).length = 32 := by unfold byt; rw [List.length_map]; exact a3.2
  have rc2 := s2.1.rc
  obtain ⟨M3, k3, s3, o3⟩ := c122 (v := 1) s2 (by omega)
  rw [show ((1 : Int32) &&& 255) = 1 from rfl] at s3
  have o13 := (o1.tr o2).tr o3
  have rc3 := s3.1.rc
  have g3 := gO_of s3.1.1
  have r5b := s3.1.rf 5 287 (by decide)
  have c3 := a3.off o13 (by decide)
  obtain ⟨M4, fs4, k4, s4, H4, g4, q4, o4⟩ := c129 (n := 32) (b := 287) (at1 := 0) s3 (a10.of5 o13 (by decide)) (by rw [List.length_append, lb]; decide) c3.1 (by decide) (by decide) (by decide) (by rw [c3.2]; decide) (by rw [c3.2]; decide)
  rw [nI_0, show nI 32 = 32 from rfl] at k4
  rw [List.take_zero, List.nil_append, List.take_of_length_le (by rw [sha_len]; decide), List.drop_of_length_le (by rw [c3.2]; decide), List.append_nil] at g4
  have o14 : Off [284, 302, 303, 304, 305, 287] M M4 := (o13.wk (by decide)).tr o4
  have F4 : Fo [30] fs fs4 := fun k hk => by
    have hk : k ≠ 30 := by simpa using hk
    rw [q4 k hk, List.getElem?_set_ne (Ne.symm hk), q2 k hk, List.getElem?_set_ne (Ne.symm hk)]
  have f4 : MF fs4 tl ol (sha (byt V.1 ++ [1]), V.2) 1 n w fl g := m2.fo F4 (by decide)
  have t4 : ArI M4 287 32 (sha (byt V.1 ++ [1])) := ⟨g4, sha_len⟩
  have u4 : MAr M4 tp ou (sha (byt V.1 ++ [1]), V.2) ks wt wd G := ⟨a1.off o14 (by decide), a2.off o14 (by decide), t4, a4.off o14 (by decide), a5.off o14 (by decide), a6.off o14 (by decide), a7.off o14 (by decide), a8.off o14 (by decide), a9.off o14 (by decide), H4, s4.mx, a12.off' o14 (by decide), a13.off o14 (by decide), a14.off o14 (by decide), a15.off o14 (by decide), a16.off o14 (by decide), a17.off o14 (by decide), a18.off o14 (by decide), a19.off o14 (by decide), a20.off o14 (by decide), a21.off o14 (by decide), a22.off o14 (by decide)⟩
  obtain ⟨M5, fs5, k5, n5, f5, q5, o5⟩ := R136 s4.1 f4 u4
  have rc4 := s4.1.rc
  refine ⟨M5, fs5, ?_, n5, f5, q5, (o14.wk (by decide)).tr (o5.wk (by decide))⟩
  simp only [cl_197, e197_0, e197_1, e197_4, e197_7, e197_9, e197_10, e197_11, e197_14, e197_15, e197_16, e197_19, e197_20, e197_22, e197_25, e197_26, e197_27, e197_30, e197_31, e197_33, e197_34, e197_37, e197_38, e197_41, e197_42, e197_45, e197_46, ow_197, Int32.reduceOfInt, Int32.reduceOfNat, Int32.reduceToNatClampNeg, Int32.reduceLT, Int32.reduceLE, Int32.reduceAdd, Int32.reduceSub, Int32.reduceMul, Int64.reduceOfNat, Int64.reduceOfInt, Nat.reduceLeDiff, Nat.reduceLT, Nat.reduceEqDiff, Nat.reduceSub, cs_0, cs_1, cs_2, cs_3, cs_4, cs_5, cs_6, cs_7, cs_8, or_false, false_or, not_false_eq_true, and_true, true_and, if_true, if_false, List.length_cons, List.length_nil, List.getElem?_cons_succ, List.getElem?_cons_zero, List.set_cons_succ, List.set_cons_zero, reduceIte, d_G, d_R, s_aload, s_aload_n, s_iload, s_iload_n, s_lload, s_lload_n, s_istore, s_istore_n, s_astore, s_astoreN, s_astore_n, s_astore_nN, s_lstore, s_lstore_n, s_iinc, s_iconst, s_bipush, s_sipush, s_lconst, s_ldc2_w, s_aconst_null, s_dupA, s_dupI, s_dup2, s_iadd, s_isub, s_imul, s_iand, s_ior, s_ixor, s_ishl, s_ishr, s_iushr, s_ineg, s_idiv, s_irem, s_ladd, s_lsub, s_lmul, s_land, s_lor, s_lxor, s_ldiv, s_lshl, s_lshr, s_lushr, s_i2l, s_l2i, s_lcmp, s_goto, s_ieq, s_ine, s_ilt, s_ige, s_igt, s_ile, s_zeq, s_zne, s_zlt, s_zge, s_zgt, s_zle, s_ifnull, s_ifnullN, s_ifnonnull, s_ifnonnullN, s_tableswitch, s_lookupswitch, s_getfield, s_putfield, s_getstatic, s_iaload, s_laload, s_baload, s_aaload, s_iastore, s_lastore, s_bastore, s_aastore, s_arraylength, s_newI, s_newJ, s_newZ, s_anewarray, s_new, s_copy, s_max, s_min, s_invokestatic, s_objinit, s_invokespecial, kf_isr_r, s_invokevirtual, s_ireturn, s_lreturn, s_areturn, s_areturnN, s_return, lI_0, lI_s, lJ_0, lJ_s, lA_0, lA_0N, lA_s, lS1_0, lS1_1, lS1_2, lS2_0, lS2_1, lS2_2, lK_n, lK_i, lK_j, lK_a, lK_N, d_C', kf_w_0, kf_w_i, kf_w_a, kf_w_n, kf_w_j, c_0, c_1, c_2, c_3, c_4, c_5, c_6, tl_0, tl_1, Option.bind_some, Option.bind_none, Option.map_some, Nat.reduceAdd, Nat.reduceMul, Nat.reduceDiv, Nat.reduceMod, Int.reduceToNat, Fin.val_zero, Fin.isValue, Fin.val_one, Fin.val_two, fv_0, fv_1, fv_2, fv_3, fw_0, fw_1, d_ite, true_or, or_true, and_false, false_and, or_self, and_self, ow_121, ow_123, ow_122, ow_129, ow_136, g0, f12, z1, rc, k1, g1, r5, rc1, k2, rc2, k3, g3, r5b, rc3, k4, rc4, k5]
end MRST
