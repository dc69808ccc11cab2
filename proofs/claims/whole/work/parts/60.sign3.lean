/-! Signer: remember, sign -/
theorem f62 {M : kf_M} {made cf : Int32} {pa : Nat} {own pts : List Int32} (hO : SgO M made cf) (hw : ArI M 198 64 own) (hp : ArI M pa 64 pts) (hpa : pa ≠ 198) : ∃ M', kf_cl 62 [.ref 104, .ref pa] M = some (none, M') ∧ SgO M' made (if own = pts then cf else 0) ∧ ArI M' 198 64 pts ∧ Off [104, 198] M M' := by
  have g := gO_of hO
  have k1 := c119 (f := 0) (n := 64) hw.1 hp.1 (by rw [hw.2]; omega) (by rw [hp.2]; omega) (by rw [hp.2]; omega) (by rw [hw.2]; omega)
  rw [List.drop_zero, List.take_of_length_le (by rw [hw.2]; omega), List.take_of_length_le (by rw [hp.2]; omega), nI_0, show nI 64 = 64 from rfl] at k1
  by_cases q : own = pts
  · rw [if_pos q] at k1
    have h10 : ¬ (1 : Int32) = 0 := by decide
    refine ⟨M, by simp only [cl_62, e62_0, e62_1, e62_4, e62_5, e62_6, e62_8, e62_11, e62_14, e62_15, e62_16, e62_17, e62_20, e62_21, e62_23, e62_26, e62_27, e62_28, e62_31, ow_62, Int32.reduceOfInt, Int32.reduceOfNat, Int32.reduceToNatClampNeg, Int32.reduceLT, Int32.reduceLE, Int32.reduceAdd, Int32.reduceSub, Int32.reduceMul, Int64.reduceOfNat, Int64.reduceOfInt, Nat.reduceLeDiff, Nat.reduceLT, Nat.reduceEqDiff, Nat.reduceSub, cs_0, cs_1, cs_2, cs_3, cs_4, cs_5, cs_6, cs_7, cs_8, or_false, false_or, not_false_eq_true, and_true, true_and, if_true, if_false, List.length_cons, List.length_nil, List.getElem?_cons_succ, List.getElem?_cons_zero, List.set_cons_succ, List.set_cons_zero, reduceIte, d_G, d_R, s_aload, s_aload_n, s_iload, s_iload_n, s_lload, s_lload_n, s_istore, s_istore_n, s_astore, s_astoreN, s_astore_n, s_astore_nN, s_lstore, s_lstore_n, s_iinc, s_iconst, s_bipush, s_sipush, s_lconst, s_ldc2_w, s_aconst_null, s_dupA, s_dupI, s_dup2, s_iadd, s_isub, s_imul, s_iand, s_ior, s_ixor, s_ishl, s_ishr, s_iushr, s_ineg, s_idiv, s_irem, s_ladd, s_lsub, s_lmul, s_land, s_lor, s_lxor, s_ldiv, s_lshl, s_lshr, s_lushr, s_i2l, s_l2i, s_lcmp, s_goto, s_ieq, s_ine, s_ilt, s_ige, s_igt, s_ile, s_zeq, s_zne, s_zlt, s_zge, s_zgt, s_zle, s_ifnull, s_ifnullN, s_ifnonnull, s_ifnonnullN, s_tableswitch, s_lookupswitch, s_getfield, s_putfield, s_getstatic, s_iaload, s_laload, s_baload, s_aaload, s_iastore, s_lastore, s_bastore, s_aastore, s_arraylength, s_newI, s_newJ, s_newZ, s_anewarray, s_new, s_copy, s_max, s_min, s_invokestatic, s_objinit, s_invokespecial, kf_isr_r, s_invokevirtual, s_ireturn, s_lreturn, s_areturn, s_areturnN, s_return, lI_0, lI_s, lJ_0, lJ_s, lA_0, lA_0N, lA_s, lS1_0, lS1_1, lS1_2, lS2_0, lS2_1, lS2_2, lK_n, lK_i, lK_j, lK_a, lK_N, d_C', kf_w_0, kf_w_i, kf_w_a, kf_w_n, kf_w_j, c_0, c_1, c_2, c_3, c_4, c_5, c_6, tl_0, tl_1, Option.bind_some, Option.bind_none, Option.map_some, Nat.reduceAdd, Nat.reduceMul, Nat.reduceDiv, Nat.reduceMod, Int.reduceToNat, Fin.val_zero, Fin.isValue, Fin.val_one, Fin.val_two, fv_0, fv_1, fv_2, fv_3, fw_0, fw_1, d_ite, true_or, or_true, and_false, false_and, or_self, and_self, sgF, g, k1, h10], ?_, ?_, Off.rf⟩
    · rw [if_pos q]; exact hO
    · rw [← q]; exact hw
  · rw [if_neg q] at k1
    have kc := fun pc ls => cpI (N := 64) (n := 64) rfl hp.1 hw.1 (by rw [hp.2]; omega) (by rw [hw.2]; omega) (by decide) (by decide) pc ls
    rw [cp_all hp.2 hw.2] at kc
    have g2 : gO (M.set 198 (oI pts)) 104 = some (8, sgF made cf) := by rw [gO_ne (by decide)]; exact g
    refine ⟨_, by (simp only [cl_62, e62_0, e62_1, e62_4, e62_5, e62_6, e62_8, e62_11, e62_14, e62_15, e62_16, e62_17, e62_20, e62_21, e62_23, e62_26, e62_27, e62_28, e62_31, ow_62, Int32.reduceOfInt, Int32.reduceOfNat, Int32.reduceToNatClampNeg, Int32.reduceLT, Int32.reduceLE, Int32.reduceAdd, Int32.reduceSub, Int32.reduceMul, Int64.reduceOfNat, Int64.reduceOfInt, Nat.reduceLeDiff, Nat.reduceLT, Nat.reduceEqDiff, Nat.reduceSub, cs_0, cs_1, cs_2, cs_3, cs_4, cs_5, cs_6, cs_7, cs_8, or_false, false_or, not_false_eq_true, and_true, true_and, if_true, if_false, List.length_cons, List.length_nil, List.getElem?_cons_succ, List.getElem?_cons_zero, List.set_cons_succ, List.set_cons_zero, reduceIte, d_G, d_R, s_aload, s_aload_n, s_iload, s_iload_n, s_lload, s_lload_n, s_istore, s_istore_n, s_astore, s_astoreN, s_astore_n, s_astore_nN, s_lstore, s_lstore_n, s_iinc, s_iconst, s_bipush, s_sipush, s_lconst, s_ldc2_w, s_aconst_null, s_dupA, s_dupI, s_dup2, s_iadd, s_isub, s_imul, s_iand, s_ior, s_ixor, s_ishl, s_ishr, s_iushr, s_ineg, s_idiv, s_irem, s_ladd, s_lsub, s_lmul, s_land, s_lor, s_lxor, s_ldiv, s_lshl, s_lshr, s_lushr, s_i2l, s_l2i, s_lcmp, s_goto, s_ieq, s_ine, s_ilt, s_ige, s_igt, s_ile, s_zeq, s_zne, s_zlt, s_zge, s_zgt, s_zle, s_ifnull, s_ifnullN, s_ifnonnull, s_ifnonnullN, s_tableswitch, s_lookupswitch, s_getfield, s_putfield, s_getstatic, s_iaload, s_laload, s_baload, s_aaload, s_iastore, s_lastore, s_bastore, s_aastore, s_arraylength, s_newI, s_newJ, s_newZ, s_anewarray, s_new, s_copy, s_max, s_min, s_invokestatic, s_objinit, s_invokespecial, kf_isr_r, s_invokevirtual, s_ireturn, s_lreturn, s_areturn, s_areturnN, s_return, lI_0, lI_s, lJ_0, lJ_s, lA_0, lA_0N, lA_s, lS1_0, lS1_1, lS1_2, lS2_0, lS2_1, lS2_2, lK_n, lK_i, lK_j, lK_a, lK_N, d_C', kf_w_0, kf_w_i, kf_w_a, kf_w_n, kf_w_j, c_0, c_1, c_2, c_3, c_4, c_5, c_6, tl_0, tl_1, Option.bind_some, Option.bind_none, Option.map_some, Nat.reduceAdd, Nat.reduceMul, Nat.reduceDiv, Nat.reduceMod, Int.reduceToNat, Fin.val_zero, Fin.isValue, Fin.val_one, Fin.val_two, fv_0, fv_1, fv_2, fv_3, fw_0, fw_1, d_ite, true_or, or_true, and_false, false_and, or_self, and_self, sgF, g, k1, kc, g2, kf_fit] <;> rfl), ?_, ⟨?_, hp.2⟩, (Off.set (a := 198) (by simp)).tr (Off.set (by simp))⟩
    · rw [if_neg q]
      exact m_self (by rw [List.length_set]; exact m_lt hO)
    · rw [m_ne (by decide)]
      exact m_self (m_lt hw.1)
theorem cg_md {m r X : Int} (h0 : 0 ≤ r) (h1 : r < m) (h : cg m r X) : r = X % m := by
  obtain ⟨k, hk⟩ := h
  rw [show X = r + m * (-k) by rw [Int.mul_neg]; omega, Int.add_mul_emod_self_left, Int.emod_eq_of_lt h0 h1]
/-- r and s of a try with the nonce K -/
noncomputable def aX (K : Int) : Int := fpx (pmul K.toNat Gpt)
noncomputable def aS (K : Int) (D H : Nat) : Int := ((aX K * D + H) * K ^ (nN - 2)) % nN
theorem aS_un {K v X : Int} {D H : Nat} (c0 : 0 < K) (c1 : K < nN) (h0 : 0 ≤ v) (h1 : v < nN) (h : cg nN (v * K) (X * D + H)) : v = ((X * D + H) * K ^ (nN - 2)) % nN := by
  apply cg_md h0 h1
  have hnd : ¬ (nN : Int) ∣ K := by
    intro q
    have := Int.le_of_dvd c0 q
    omega
  have h2 := pw_inv nN_prm hnd
  have h3 : cg nN (v * (K * K ^ (nN - 2))) (v * 1) := cg_ml cg_rf h2
  rw [Int.mul_one] at h3
  have h4 : cg nN (v * K * K ^ (nN - 2)) ((X * D + H) * K ^ (nN - 2)) := cg_ml h cg_rf
  rw [Int.mul_assoc] at h4
  exact cg_tr (cg_sy h3) h4
/-- tries until both are not 0 -/
noncomputable def sgl (sec dig : List Int32) (i : Nat) : Nat → Int × Int → Int × Int
  | 0, rs => rs
  | m + 1, _ => if aX (nonce sec dig i) % nN ≠ 0 ∧ aS (nonce sec dig i) (nb sec) (nb dig) ≠ 0 then (aX (nonce sec dig i) % nN, aS (nonce sec dig i) (nb sec) (nb dig)) else sgl sec dig (i + 1) m (aX (nonce sec dig i) % nN, aS (nonce sec dig i) (nb sec) (nb dig))
theorem nonce_ok {sec dig : List Int32} {i : Nat} : 0 < nonce sec dig i ∧ nonce sec dig i < nN := drw_ok (nb_32 isB_sha sha_len).1
def A60 : List Nat := [178, 179, 180, 181, 182, 183, 184, 185, 186, 111, 192, 193, 194, 195, 264, 266, 267, 268, 273, 274, 275, 276, 277]
def S60 (M : kf_M) (made cf ul : Int32) (ct : Int64) (kk : Nat) (sec dig : List Int32) : Prop := SgO M made cf ∧ SgK M ∧ SH M ∧ HA M 193 ∧ ArI M (kk + 3) 32 sec ∧ ArI M 197 32 dig ∧ (∃ r, ArI M 264 64 r) ∧ KyO M kk ul ct
set_option maxRecDepth 100000 in
set_option maxHeartbeats 4000000 in
theorem f60b {M : kf_M} {made cf ul : Int32} {ct : Int64} {kk i : Nat} {sec dig : List Int32} {da wo : Nat} (hS : S60 M made cf ul ct kk sec dig) (hkk : 19 ≤ kk ∧ kk + 5 ≤ 103) (bs : isB sec) (bd : isB dig) (hi : i < 256) : ∃ M' r v, kf_ev 60 59 [some (.ref 104), some (.ref kk), some (.ref da), some (.ref wo), some (.int 0), some (.int (nI i))] [] M = kf_ev 60 59 [some (.ref 104), some (.ref kk), some (.ref da), some (.ref wo), some (.int (if r ≠ 0 ∧ v ≠ 0 then 1 else 0)), some (.int (nI (i + 1)))] [] M' ∧ S60 M' made cf ul ct kk sec dig ∧ r = aX (nonce sec dig i) % nN ∧ v = aS (nonce sec dig i) (nb sec) (nb dig) ∧ 0 ≤ r ∧ r < nN ∧ 0 ≤ v ∧ v < nN ∧ Num M' 276 r ∧ Num M' 277 v ∧ Off A60 M M' := by
  obtain ⟨hO, hK, hH, hA, hs, hd, ⟨rw1, hr⟩, hk⟩ := hS
  have hnl := nN_lt
  have hpl := pP_lt
  obtain ⟨M1, k1, n1, K1, H1, ⟨rw2, hr1⟩, o1⟩ := f63 (i := i) (ks := kk + 3) hO hK hH hA hs bs hd bd hr (by omega)
  obtain ⟨c0, c1⟩ := nonce_ok (sec := sec) (dig := dig) (i := i)
  generalize nonce sec dig i = K at *
  obtain ⟨kn, hkn⟩ := Int.eq_ofNat_of_zero_le (show 0 ≤ K by omega)
  subst hkn
  obtain ⟨D1, D2⟩ := nb_32 bs hs.2
  obtain ⟨H1', H2'⟩ := nb_32 bd hd.2
  generalize nb sec = D at *
  generalize nb dig = Hn at *
  have vQ := Gm_v kn
  have g0 := gO_of hO
  have gk0 := gO_of hk
  have hO1 := o1.at (by decide) hO
  have g1 := gO_of hO1
  have hk1 := o1.at (by simp; omega) hk
  have K1' := K1
  obtain ⟨a1, a2, a3, a4, a5, a6, a7, a8, a9, a10, a11, a12⟩ := K1'
  obtain ⟨M2, k2, C2, r2, o2⟩ := f1 a1 a2 a3 n1 a5 Gpt_v (by omega) (Or.inr (by decide)) (Or.inl rfl) (Or.inr (by decide)) (by decide)
  have K2 := K1.f1 o2 C2 r2
  have hO2 := o2.at (by decide) hO1
  have g2 := gO_of hO2
  have hk2 := o2.at (by simp [cvs]; omega) hk1
  have n2 := n1.off o2 (by decide)
  have K2' := K2
  obtain ⟨b1, b2, -, -, -, -, -, -, -, -, -, b12⟩ := K2'
  obtain ⟨M3, k3, x3, y3, p3, f3_, o3⟩ := f3 b1 b2 b12 r2 vQ (Or.inr (by decide))
  have K3 := K2.f3 o3 f3_ p3
  have hO3 := o3.at (by decide) hO2
  have g3 := gO_of hO3
  have hk3 := o3.at (by simp; omega) hk2
  have gk3 := gO_of hk3
  have n3 := n2.off o3 (by decide)
  have fb := fp_b vQ
  have o13 : Off A60 M M3 := (o1.wk (by decide)).tr ((o2.wk (by decide)).tr (o3.wk (by decide)))
  have nk : kk + 3 ∉ A60 := by simp [A60]; omega
  have nk0 : kk ∉ A60 := by simp [A60]; omega
  have hs3 := hs.off o13 nk
  have hd3 := hd.off o13 (by decide)
  have K3' := K3
  obtain ⟨d1, d2, d3, d4, d5, d6, d7, d8, d9, d10, d11, d12⟩ := K3'
  obtain ⟨M4, r, v, k4, nr, r0, r1, cr, nv, v0, v1, cv, j273, j274, j275, F4, o4⟩ := f64 hO3 d4 d12 hs3.1 D2 (by omega) hd3.1 H2' D1 H1' d5.1 x3 fb.1 (by omega) n3 (by omega) c1 d7 d8 d10 d11
  have hO4 := o4.at (by decide) hO3
  have g4 := gO_of hO4
  have kp1 := f20 F4.1 nr
  have kp2 := f20 F4.1 nv
  have K4 : SgK M4 := ⟨d1.off o4 (by decide), d2.off2 o4 (by decide), d3.off o4 (by decide), F4, d5.off o4 (by decide) (by decide) (by decide) (by decide), d6.off o4 (by decide) (by decide) (by decide) (by decide), j273, j274, j275, nr.jar, nv.jar, o4.at (by decide) d12⟩
  have o14 : Off A60 M M4 := o13.tr (o4.wk (by decide))
  have er := cg_md r0 r1 cr
  have ev := aS_un (by omega) c1 v0 v1 cv
  have rf := F4.1.rc
  have rO0 := hO.rc
  have rO3 : kf_rcv M3 8 (some (.ref 104)) = true := SgO.rc hO3
  have gc1 := gO_of a1.1
  have rc1 := a1.rc
  have rc2 := b1.rc
  have e : ¬ (256 : Int32) ≤ nI i := nI_ge (a := i) (b := 256) (by omega) (by omega)
  have h10 : ¬ (1 : Int32) = 0 := by decide
  refine ⟨M4, r, v, (e60_59 _ _ _).trans ?_, ⟨hO4, K4, hH.off o14 (by decide) (by decide), ((H1.off o2 (by decide) (by decide) (by decide)).off o3 (by decide) (by decide) (by decide)).off o4 (by decide) (by decide) (by decide), hs.off o14 nk, hd.off o14 (by decide), ⟨rw2, ((hr1.off o2 (by decide)).off o3 (by decide)).off o4 (by decide)⟩, o14.at nk0 hk⟩, ?_, ?_, r0, r1, v0, v1, nr, nv, o14⟩
  · by_cases q1 : r = 0
    · rw [if_neg (by intro h; exact h.1 q1)] at kp1 ⊢
      simp only [cl_60, e60_0, e60_1, e60_4, e60_7, e60_8, e60_11, e60_12, e60_15, e60_16, e60_17, e60_20, e60_23, e60_24, e60_27, e60_28, e60_29, e60_31, e60_34, e60_35, e60_38, e60_39, e60_42, e60_45, e60_46, e60_47, e60_50, e60_53, e60_54, e60_56, e60_57, e60_61, e60_64, e60_67, e60_69, e60_72, e60_73, e60_74, e60_77, e60_79, e60_82, e60_83, e60_86, e60_87, e60_90, e60_91, e60_94, e60_97, e60_98, e60_101, e60_104, e60_105, e60_108, e60_109, e60_112, e60_115, e60_116, e60_117, e60_120, e60_123, e60_124, e60_127, e60_128, e60_131, e60_134, e60_137, e60_138, e60_141, e60_142, e60_145, e60_148, e60_151, e60_152, e60_155, e60_156, e60_158, e60_161, e60_164, e60_165, e60_168, e60_169, e60_170, e60_173, e60_176, e60_177, e60_180, e60_182, e60_183, e60_186, e60_189, e60_190, e60_191, e60_194, e60_195, e60_196, e60_199, ow_60, Int32.reduceOfInt, Int32.reduceOfNat, Int32.reduceToNatClampNeg, Int32.reduceLT, Int32.reduceLE, Int32.reduceAdd, Int32.reduceSub, Int32.reduceMul, Int64.reduceOfNat, Int64.reduceOfInt, Nat.reduceLeDiff, Nat.reduceLT, Nat.reduceEqDiff, Nat.reduceSub, cs_0, cs_1, cs_2, cs_3, cs_4, cs_5, cs_6, cs_7, cs_8, or_false, false_or, not_false_eq_true, and_true, true_and, if_true, if_false, List.length_cons, List.length_nil, List.getElem?_cons_succ, List.getElem?_cons_zero, List.set_cons_succ, List.set_cons_zero, reduceIte, d_G, d_R, s_aload, s_aload_n, s_iload, s_iload_n, s_lload, s_lload_n, s_istore, s_istore_n, s_astore, s_astoreN, s_astore_n, s_astore_nN, s_lstore, s_lstore_n, s_iinc, s_iconst, s_bipush, s_sipush, s_lconst, s_ldc2_w, s_aconst_null, s_dupA, s_dupI, s_dup2, s_iadd, s_isub, s_imul, s_iand, s_ior, s_ixor, s_ishl, s_ishr, s_iushr, s_ineg, s_idiv, s_irem, s_ladd, s_lsub, s_lmul, s_land, s_lor, s_lxor, s_ldiv, s_lshl, s_lshr, s_lushr, s_i2l, s_l2i, s_lcmp, s_goto, s_ieq, s_ine, s_ilt, s_ige, s_igt, s_ile, s_zeq, s_zne, s_zlt, s_zge, s_zgt, s_zle, s_ifnull, s_ifnullN, s_ifnonnull, s_ifnonnullN, s_tableswitch, s_lookupswitch, s_getfield, s_putfield, s_getstatic, s_iaload, s_laload, s_baload, s_aaload, s_iastore, s_lastore, s_bastore, s_aastore, s_arraylength, s_newI, s_newJ, s_newZ, s_anewarray, s_new, s_copy, s_max, s_min, s_invokestatic, s_objinit, s_invokespecial, kf_isr_r, s_invokevirtual, s_ireturn, s_lreturn, s_areturn, s_areturnN, s_return, lI_0, lI_s, lJ_0, lJ_s, lA_0, lA_0N, lA_s, lS1_0, lS1_1, lS1_2, lS2_0, lS2_1, lS2_2, lK_n, lK_i, lK_j, lK_a, lK_N, d_C', kf_w_0, kf_w_i, kf_w_a, kf_w_n, kf_w_j, c_0, c_1, c_2, c_3, c_4, c_5, c_6, tl_0, tl_1, Option.bind_some, Option.bind_none, Option.map_some, Nat.reduceAdd, Nat.reduceMul, Nat.reduceDiv, Nat.reduceMod, Int.reduceToNat, Fin.val_zero, Fin.isValue, Fin.val_one, Fin.val_two, fv_0, fv_1, fv_2, fv_3, fw_0, fw_1, d_ite, true_or, or_true, and_false, false_and, or_self, and_self, ow_63, ow_1, ow_3, ow_64, ow_20, sgF, e, g0, g1, g2, g3, g4, gk0, gk3, gc1, rc1, rc2, rf, rO0, rO3, k1, k2, k3, k4, kp1, nI_1]
    · rw [if_pos ⟨q1, r1⟩] at kp1
      by_cases q2 : v = 0
      · rw [if_neg (by intro h; exact h.1 q2)] at kp2
        rw [if_neg (by intro h; exact h.2 q2)]
        simp only [cl_60, e60_0, e60_1, e60_4, e60_7, e60_8, e60_11, e60_12, e60_15, e60_16, e60_17, e60_20, e60_23, e60_24, e60_27, e60_28, e60_29, e60_31, e60_34, e60_35, e60_38, e60_39, e60_42, e60_45, e60_46, e60_47, e60_50, e60_53, e60_54, e60_56, e60_57, e60_61, e60_64, e60_67, e60_69, e60_72, e60_73, e60_74, e60_77, e60_79, e60_82, e60_83, e60_86, e60_87, e60_90, e60_91, e60_94, e60_97, e60_98, e60_101, e60_104, e60_105, e60_108, e60_109, e60_112, e60_115, e60_116, e60_117, e60_120, e60_123, e60_124, e60_127, e60_128, e60_131, e60_134, e60_137, e60_138, e60_141, e60_142, e60_145, e60_148, e60_151, e60_152, e60_155, e60_156, e60_158, e60_161, e60_164, e60_165, e60_168, e60_169, e60_170, e60_173, e60_176, e60_177, e60_180, e60_182, e60_183, e60_186, e60_189, e60_190, e60_191, e60_194, e60_195, e60_196, e60_199, ow_60, Int32.reduceOfInt, Int32.reduceOfNat, Int32.reduceToNatClampNeg, Int32.reduceLT, Int32.reduceLE, Int32.reduceAdd, Int32.reduceSub, Int32.reduceMul, Int64.reduceOfNat, Int64.reduceOfInt, Nat.reduceLeDiff, Nat.reduceLT, Nat.reduceEqDiff, Nat.reduceSub, cs_0, cs_1, cs_2, cs_3, cs_4, cs_5, cs_6, cs_7, cs_8, or_false, false_or, not_false_eq_true, and_true, true_and, if_true, if_false, List.length_cons, List.length_nil, List.getElem?_cons_succ, List.getElem?_cons_zero, List.set_cons_succ, List.set_cons_zero, reduceIte, d_G, d_R, s_aload, s_aload_n, s_iload, s_iload_n, s_lload, s_lload_n, s_istore, s_istore_n, s_astore, s_astoreN, s_astore_n, s_astore_nN, s_lstore, s_lstore_n, s_iinc, s_iconst, s_bipush, s_sipush, s_lconst, s_ldc2_w, s_aconst_null, s_dupA, s_dupI, s_dup2, s_iadd, s_isub, s_imul, s_iand, s_ior, s_ixor, s_ishl, s_ishr, s_iushr, s_ineg, s_idiv, s_irem, s_ladd, s_lsub, s_lmul, s_land, s_lor, s_lxor, s_ldiv, s_lshl, s_lshr, s_lushr, s_i2l, s_l2i, s_lcmp, s_goto, s_ieq, s_ine, s_ilt, s_ige, s_igt, s_ile, s_zeq, s_zne, s_zlt, s_zge, s_zgt, s_zle, s_ifnull, s_ifnullN, s_ifnonnull, s_ifnonnullN, s_tableswitch, s_lookupswitch, s_getfield, s_putfield, s_getstatic, s_iaload, s_laload, s_baload, s_aaload, s_iastore, s_lastore, s_bastore, s_aastore, s_arraylength, s_newI, s_newJ, s_newZ, s_anewarray, s_new, s_copy, s_max, s_min, s_invokestatic, s_objinit, s_invokespecial, kf_isr_r, s_invokevirtual, s_ireturn, s_lreturn, s_areturn, s_areturnN, s_return, lI_0, lI_s, lJ_0, lJ_s, lA_0, lA_0N, lA_s, lS1_0, lS1_1, lS1_2, lS2_0, lS2_1, lS2_2, lK_n, lK_i, lK_j, lK_a, lK_N, d_C', kf_w_0, kf_w_i, kf_w_a, kf_w_n, kf_w_j, c_0, c_1, c_2, c_3, c_4, c_5, c_6, tl_0, tl_1, Option.bind_some, Option.bind_none, Option.map_some, Nat.reduceAdd, Nat.reduceMul, Nat.reduceDiv, Nat.reduceMod, Int.reduceToNat, Fin.val_zero, Fin.isValue, Fin.val_one, Fin.val_two, fv_0, fv_1, fv_2, fv_3, fw_0, fw_1, d_ite, true_or, or_true, and_false, false_and, or_self, and_self, ow_63, ow_1, ow_3, ow_64, ow_20, sgF, e, g0, g1, g2, g3, g4, gk0, gk3, gc1, rc1, rc2, rf, rO0, rO3, k1, k2, k3, k4, kp1, kp2, h10, nI_1]
      · rw [if_pos ⟨q2, v1⟩] at kp2
        rw [if_pos ⟨q1, q2⟩]
        simp only [cl_60, e60_0, e60_1, e60_4, e60_7, e60_8, e60_11, e60_12, e60_15, e60_16, e60_17, e60_20, e60_23, e60_24, e60_27, e60_28, e60_29, e60_31, e60_34, e60_35, e60_38, e60_39, e60_42, e60_45, e60_46, e60_47, e60_50, e60_53, e60_54, e60_56, e60_57, e60_61, e60_64, e60_67, e60_69, e60_72, e60_73, e60_74, e60_77, e60_79, e60_82, e60_83, e60_86, e60_87, e60_90, e60_91, e60_94, e60_97, e60_98, e60_101, e60_104, e60_105, e60_108, e60_109, e60_112, e60_115, e60_116, e60_117, e60_120, e60_123, e60_124, e60_127, e60_128, e60_131, e60_134, e60_137, e60_138, e60_141, e60_142, e60_145, e60_148, e60_151, e60_152, e60_155, e60_156, e60_158, e60_161, e60_164, e60_165, e60_168, e60_169, e60_170, e60_173, e60_176, e60_177, e60_180, e60_182, e60_183, e60_186, e60_189, e60_190, e60_191, e60_194, e60_195, e60_196, e60_199, ow_60, Int32.reduceOfInt, Int32.reduceOfNat, Int32.reduceToNatClampNeg, Int32.reduceLT, Int32.reduceLE, Int32.reduceAdd, Int32.reduceSub, Int32.reduceMul, Int64.reduceOfNat, Int64.reduceOfInt, Nat.reduceLeDiff, Nat.reduceLT, Nat.reduceEqDiff, Nat.reduceSub, cs_0, cs_1, cs_2, cs_3, cs_4, cs_5, cs_6, cs_7, cs_8, or_false, false_or, not_false_eq_true, and_true, true_and, if_true, if_false, List.length_cons, List.length_nil, List.getElem?_cons_succ, List.getElem?_cons_zero, List.set_cons_succ, List.set_cons_zero, reduceIte, d_G, d_R, s_aload, s_aload_n, s_iload, s_iload_n, s_lload, s_lload_n, s_istore, s_istore_n, s_astore, s_astoreN, s_astore_n, s_astore_nN, s_lstore, s_lstore_n, s_iinc, s_iconst, s_bipush, s_sipush, s_lconst, s_ldc2_w, s_aconst_null, s_dupA, s_dupI, s_dup2, s_iadd, s_isub, s_imul, s_iand, s_ior, s_ixor, s_ishl, s_ishr, s_iushr, s_ineg, s_idiv, s_irem, s_ladd, s_lsub, s_lmul, s_land, s_lor, s_lxor, s_ldiv, s_lshl, s_lshr, s_lushr, s_i2l, s_l2i, s_lcmp, s_goto, s_ieq, s_ine, s_ilt, s_ige, s_igt, s_ile, s_zeq, s_zne, s_zlt, s_zge, s_zgt, s_zle, s_ifnull, s_ifnullN, s_ifnonnull, s_ifnonnullN, s_tableswitch, s_lookupswitch, s_getfield, s_putfield, s_getstatic, s_iaload, s_laload, s_baload, s_aaload, s_iastore, s_lastore, s_bastore, s_aastore, s_arraylength, s_newI, s_newJ, s_newZ, s_anewarray, s_new, s_copy, s_max, s_min, s_invokestatic, s_objinit, s_invokespecial, kf_isr_r, s_invokevirtual, s_ireturn, s_lreturn, s_areturn, s_areturnN, s_return, lI_0, lI_s, lJ_0, lJ_s, lA_0, lA_0N, lA_s, lS1_0, lS1_1, lS1_2, lS2_0, lS2_1, lS2_2, lK_n, lK_i, lK_j, lK_a, lK_N, d_C', kf_w_0, kf_w_i, kf_w_a, kf_w_n, kf_w_j, c_0, c_1, c_2, c_3, c_4, c_5, c_6, tl_0, tl_1, Option.bind_some, Option.bind_none, Option.map_some, Nat.reduceAdd, Nat.reduceMul, Nat.reduceDiv, Nat.reduceMod, Int.reduceToNat, Fin.val_zero, Fin.isValue, Fin.val_one, Fin.val_two, fv_0, fv_1, fv_2, fv_3, fw_0, fw_1, d_ite, true_or, or_true, and_false, false_and, or_self, and_self, ow_63, ow_1, ow_3, ow_64, ow_20, sgF, e, g0, g1, g2, g3, g4, gk0, gk3, gc1, rc1, rc2, rf, rO0, rO3, k1, k2, k3, k4, kp1, kp2, h10, nI_1]
  · rw [er]
    unfold aX
    rw [Int.toNat_natCast]
  · rw [ev]
    unfold aS aX
    rw [Int.toNat_natCast]
theorem f60h {M : kf_M} {kk da wo : Nat} {x : Int32} : kf_ev 60 59 [some (.ref 104), some (.ref kk), some (.ref da), some (.ref wo), some (.int 1), some (.int x)] [] M = kf_ev 60 164 [some (.ref 104), some (.ref kk), some (.ref da), some (.ref wo), some (.int 1), some (.int x)] [] M := by
  have h10 : ¬ (1 : Int32) = 0 := by decide
  refine (e60_59 _ _ _).trans ?_
  by_cases e : (256 : Int32) ≤ x
  · simp only [cl_60, e60_0, e60_1, e60_4, e60_7, e60_8, e60_11, e60_12, e60_15, e60_16, e60_17, e60_20, e60_23, e60_24, e60_27, e60_28, e60_29, e60_31, e60_34, e60_35, e60_38, e60_39, e60_42, e60_45, e60_46, e60_47, e60_50, e60_53, e60_54, e60_56, e60_57, e60_61, e60_64, e60_67, e60_69, e60_72, e60_73, e60_74, e60_77, e60_79, e60_82, e60_83, e60_86, e60_87, e60_90, e60_91, e60_94, e60_97, e60_98, e60_101, e60_104, e60_105, e60_108, e60_109, e60_112, e60_115, e60_116, e60_117, e60_120, e60_123, e60_124, e60_127, e60_128, e60_131, e60_134, e60_137, e60_138, e60_141, e60_142, e60_145, e60_148, e60_151, e60_152, e60_155, e60_156, e60_158, e60_161, e60_165, e60_168, e60_169, e60_170, e60_173, e60_176, e60_177, e60_180, e60_182, e60_183, e60_186, e60_189, e60_190, e60_191, e60_194, e60_195, e60_196, e60_199, ow_60, Int32.reduceOfInt, Int32.reduceOfNat, Int32.reduceToNatClampNeg, Int32.reduceLT, Int32.reduceLE, Int32.reduceAdd, Int32.reduceSub, Int32.reduceMul, Int64.reduceOfNat, Int64.reduceOfInt, Nat.reduceLeDiff, Nat.reduceLT, Nat.reduceEqDiff, Nat.reduceSub, cs_0, cs_1, cs_2, cs_3, cs_4, cs_5, cs_6, cs_7, cs_8, or_false, false_or, not_false_eq_true, and_true, true_and, if_true, if_false, List.length_cons, List.length_nil, List.getElem?_cons_succ, List.getElem?_cons_zero, List.set_cons_succ, List.set_cons_zero, reduceIte, d_G, d_R, s_aload, s_aload_n, s_iload, s_iload_n, s_lload, s_lload_n, s_istore, s_istore_n, s_astore, s_astoreN, s_astore_n, s_astore_nN, s_lstore, s_lstore_n, s_iinc, s_iconst, s_bipush, s_sipush, s_lconst, s_ldc2_w, s_aconst_null, s_dupA, s_dupI, s_dup2, s_iadd, s_isub, s_imul, s_iand, s_ior, s_ixor, s_ishl, s_ishr, s_iushr, s_ineg, s_idiv, s_irem, s_ladd, s_lsub, s_lmul, s_land, s_lor, s_lxor, s_ldiv, s_lshl, s_lshr, s_lushr, s_i2l, s_l2i, s_lcmp, s_goto, s_ieq, s_ine, s_ilt, s_ige, s_igt, s_ile, s_zeq, s_zne, s_zlt, s_zge, s_zgt, s_zle, s_ifnull, s_ifnullN, s_ifnonnull, s_ifnonnullN, s_tableswitch, s_lookupswitch, s_getfield, s_putfield, s_getstatic, s_iaload, s_laload, s_baload, s_aaload, s_iastore, s_lastore, s_bastore, s_aastore, s_arraylength, s_newI, s_newJ, s_newZ, s_anewarray, s_new, s_copy, s_max, s_min, s_invokestatic, s_objinit, s_invokespecial, kf_isr_r, s_invokevirtual, s_ireturn, s_lreturn, s_areturn, s_areturnN, s_return, lI_0, lI_s, lJ_0, lJ_s, lA_0, lA_0N, lA_s, lS1_0, lS1_1, lS1_2, lS2_0, lS2_1, lS2_2, lK_n, lK_i, lK_j, lK_a, lK_N, d_C', kf_w_0, kf_w_i, kf_w_a, kf_w_n, kf_w_j, c_0, c_1, c_2, c_3, c_4, c_5, c_6, tl_0, tl_1, Option.bind_some, Option.bind_none, Option.map_some, Nat.reduceAdd, Nat.reduceMul, Nat.reduceDiv, Nat.reduceMod, Int.reduceToNat, Fin.val_zero, Fin.isValue, Fin.val_one, Fin.val_two, fv_0, fv_1, fv_2, fv_3, fw_0, fw_1, d_ite, true_or, or_true, and_false, false_and, or_self, and_self, e]
  · simp only [cl_60, e60_0, e60_1, e60_4, e60_7, e60_8, e60_11, e60_12, e60_15, e60_16, e60_17, e60_20, e60_23, e60_24, e60_27, e60_28, e60_29, e60_31, e60_34, e60_35, e60_38, e60_39, e60_42, e60_45, e60_46, e60_47, e60_50, e60_53, e60_54, e60_56, e60_57, e60_61, e60_64, e60_67, e60_69, e60_72, e60_73, e60_74, e60_77, e60_79, e60_82, e60_83, e60_86, e60_87, e60_90, e60_91, e60_94, e60_97, e60_98, e60_101, e60_104, e60_105, e60_108, e60_109, e60_112, e60_115, e60_116, e60_117, e60_120, e60_123, e60_124, e60_127, e60_128, e60_131, e60_134, e60_137, e60_138, e60_141, e60_142, e60_145, e60_148, e60_151, e60_152, e60_155, e60_156, e60_158, e60_161, e60_165, e60_168, e60_169, e60_170, e60_173, e60_176, e60_177, e60_180, e60_182, e60_183, e60_186, e60_189, e60_190, e60_191, e60_194, e60_195, e60_196, e60_199, ow_60, Int32.reduceOfInt, Int32.reduceOfNat, Int32.reduceToNatClampNeg, Int32.reduceLT, Int32.reduceLE, Int32.reduceAdd, Int32.reduceSub, Int32.reduceMul, Int64.reduceOfNat, Int64.reduceOfInt, Nat.reduceLeDiff, Nat.reduceLT, Nat.reduceEqDiff, Nat.reduceSub, cs_0, cs_1, cs_2, cs_3, cs_4, cs_5, cs_6, cs_7, cs_8, or_false, false_or, not_false_eq_true, and_true, true_and, if_true, if_false, List.length_cons, List.length_nil, List.getElem?_cons_succ, List.getElem?_cons_zero, List.set_cons_succ, List.set_cons_zero, reduceIte, d_G, d_R, s_aload, s_aload_n, s_iload, s_iload_n, s_lload, s_lload_n, s_istore, s_istore_n, s_astore, s_astoreN, s_astore_n, s_astore_nN, s_lstore, s_lstore_n, s_iinc, s_iconst, s_bipush, s_sipush, s_lconst, s_ldc2_w, s_aconst_null, s_dupA, s_dupI, s_dup2, s_iadd, s_isub, s_imul, s_iand, s_ior, s_ixor, s_ishl, s_ishr, s_iushr, s_ineg, s_idiv, s_irem, s_ladd, s_lsub, s_lmul, s_land, s_lor, s_lxor, s_ldiv, s_lshl, s_lshr, s_lushr, s_i2l, s_l2i, s_lcmp, s_goto, s_ieq, s_ine, s_ilt, s_ige, s_igt, s_ile, s_zeq, s_zne, s_zlt, s_zge, s_zgt, s_zle, s_ifnull, s_ifnullN, s_ifnonnull, s_ifnonnullN, s_tableswitch, s_lookupswitch, s_getfield, s_putfield, s_getstatic, s_iaload, s_laload, s_baload, s_aaload, s_iastore, s_lastore, s_bastore, s_aastore, s_arraylength, s_newI, s_newJ, s_newZ, s_anewarray, s_new, s_copy, s_max, s_min, s_invokestatic, s_objinit, s_invokespecial, kf_isr_r, s_invokevirtual, s_ireturn, s_lreturn, s_areturn, s_areturnN, s_return, lI_0, lI_s, lJ_0, lJ_s, lA_0, lA_0N, lA_s, lS1_0, lS1_1, lS1_2, lS2_0, lS2_1, lS2_2, lK_n, lK_i, lK_j, lK_a, lK_N, d_C', kf_w_0, kf_w_i, kf_w_a, kf_w_n, kf_w_j, c_0, c_1, c_2, c_3, c_4, c_5, c_6, tl_0, tl_1, Option.bind_some, Option.bind_none, Option.map_some, Nat.reduceAdd, Nat.reduceMul, Nat.reduceDiv, Nat.reduceMod, Int.reduceToNat, Fin.val_zero, Fin.isValue, Fin.val_one, Fin.val_two, fv_0, fv_1, fv_2, fv_3, fw_0, fw_1, d_ite, true_or, or_true, and_false, false_and, or_self, and_self, e, h10]
theorem f60l {made cf ul : Int32} {ct : Int64} {kk da wo : Nat} {sec dig : List Int32} (hkk : 19 ≤ kk ∧ kk + 5 ≤ 103) (bs : isB sec) (bd : isB dig) : ∀ (m i : Nat) (M : kf_M) (rs : Int × Int), i + m = 256 → S60 M made cf ul ct kk sec dig → (m = 0 → Num M 276 rs.1 ∧ Num M 277 rs.2 ∧ 0 ≤ rs.1 ∧ rs.1 < nN ∧ 0 ≤ rs.2 ∧ rs.2 < nN) → ∃ M' b j, kf_ev 60 59 [some (.ref 104), some (.ref kk), some (.ref da), some (.ref wo), some (.int 0), some (.int (nI i))] [] M = kf_ev 60 164 [some (.ref 104), some (.ref kk), some (.ref da), some (.ref wo), some (.int b), some (.int j)] [] M' ∧ S60 M' made cf ul ct kk sec dig ∧ Num M' 276 (sgl sec dig i m rs).1 ∧ Num M' 277 (sgl sec dig i m rs).2 ∧ (0 ≤ (sgl sec dig i m rs).1 ∧ (sgl sec dig i m rs).1 < nN ∧ 0 ≤ (sgl sec dig i m rs).2 ∧ (sgl sec dig i m rs).2 < nN) ∧ Off A60 M M' := by
  intro m
  induction m with
  | zero =>
    intro i M rs hi hS h0
    have hi : i = 256 := by omega
    subst hi
    have e : (256 : Int32) ≤ nI 256 := by decide
    obtain ⟨q1, q2, q3⟩ := h0 rfl
    refine ⟨M, 0, nI 256, (e60_59 _ _ _).trans ?_, hS, q1, q2, q3, Off.rf⟩
    simp only [cl_60, e60_0, e60_1, e60_4, e60_7, e60_8, e60_11, e60_12, e60_15, e60_16, e60_17, e60_20, e60_23, e60_24, e60_27, e60_28, e60_29, e60_31, e60_34, e60_35, e60_38, e60_39, e60_42, e60_45, e60_46, e60_47, e60_50, e60_53, e60_54, e60_56, e60_57, e60_61, e60_64, e60_67, e60_69, e60_72, e60_73, e60_74, e60_77, e60_79, e60_82, e60_83, e60_86, e60_87, e60_90, e60_91, e60_94, e60_97, e60_98, e60_101, e60_104, e60_105, e60_108, e60_109, e60_112, e60_115, e60_116, e60_117, e60_120, e60_123, e60_124, e60_127, e60_128, e60_131, e60_134, e60_137, e60_138, e60_141, e60_142, e60_145, e60_148, e60_151, e60_152, e60_155, e60_156, e60_158, e60_161, e60_165, e60_168, e60_169, e60_170, e60_173, e60_176, e60_177, e60_180, e60_182, e60_183, e60_186, e60_189, e60_190, e60_191, e60_194, e60_195, e60_196, e60_199, ow_60, Int32.reduceOfInt, Int32.reduceOfNat, Int32.reduceToNatClampNeg, Int32.reduceLT, Int32.reduceLE, Int32.reduceAdd, Int32.reduceSub, Int32.reduceMul, Int64.reduceOfNat, Int64.reduceOfInt, Nat.reduceLeDiff, Nat.reduceLT, Nat.reduceEqDiff, Nat.reduceSub, cs_0, cs_1, cs_2, cs_3, cs_4, cs_5, cs_6, cs_7, cs_8, or_false, false_or, not_false_eq_true, and_true, true_and, if_true, if_false, List.length_cons, List.length_nil, List.getElem?_cons_succ, List.getElem?_cons_zero, List.set_cons_succ, List.set_cons_zero, reduceIte, d_G, d_R, s_aload, s_aload_n, s_iload, s_iload_n, s_lload, s_lload_n, s_istore, s_istore_n, s_astore, s_astoreN, s_astore_n, s_astore_nN, s_lstore, s_lstore_n, s_iinc, s_iconst, s_bipush, s_sipush, s_lconst, s_ldc2_w, s_aconst_null, s_dupA, s_dupI, s_dup2, s_iadd, s_isub, s_imul, s_iand, s_ior, s_ixor, s_ishl, s_ishr, s_iushr, s_ineg, s_idiv, s_irem, s_ladd, s_lsub, s_lmul, s_land, s_lor, s_lxor, s_ldiv, s_lshl, s_lshr, s_lushr, s_i2l, s_l2i, s_lcmp, s_goto, s_ieq, s_ine, s_ilt, s_ige, s_igt, s_ile, s_zeq, s_zne, s_zlt, s_zge, s_zgt, s_zle, s_ifnull, s_ifnullN, s_ifnonnull, s_ifnonnullN, s_tableswitch, s_lookupswitch, s_getfield, s_putfield, s_getstatic, s_iaload, s_laload, s_baload, s_aaload, s_iastore, s_lastore, s_bastore, s_aastore, s_arraylength, s_newI, s_newJ, s_newZ, s_anewarray, s_new, s_copy, s_max, s_min, s_invokestatic, s_objinit, s_invokespecial, kf_isr_r, s_invokevirtual, s_ireturn, s_lreturn, s_areturn, s_areturnN, s_return, lI_0, lI_s, lJ_0, lJ_s, lA_0, lA_0N, lA_s, lS1_0, lS1_1, lS1_2, lS2_0, lS2_1, lS2_2, lK_n, lK_i, lK_j, lK_a, lK_N, d_C', kf_w_0, kf_w_i, kf_w_a, kf_w_n, kf_w_j, c_0, c_1, c_2, c_3, c_4, c_5, c_6, tl_0, tl_1, Option.bind_some, Option.bind_none, Option.map_some, Nat.reduceAdd, Nat.reduceMul, Nat.reduceDiv, Nat.reduceMod, Int.reduceToNat, Fin.val_zero, Fin.isValue, Fin.val_one, Fin.val_two, fv_0, fv_1, fv_2, fv_3, fw_0, fw_1, d_ite, true_or, or_true, and_false, false_and, or_self, and_self, e]
  | succ m ih =>
    intro i M rs hi hS h0
    obtain ⟨M1, r, v, k1, S1, er, ev, r0, r1, v0, v1, nr, nv, o1⟩ := f60b (i := i) (da := da) (wo := wo) hS hkk bs bd (by omega)
    have es : sgl sec dig i (m + 1) rs = if r ≠ 0 ∧ v ≠ 0 then (r, v) else sgl sec dig (i + 1) m (r, v) := by
      rw [er, ev]
      rfl
    rw [es]
    by_cases q : r ≠ 0 ∧ v ≠ 0
    · rw [if_pos q] at k1 ⊢
      exact ⟨M1, 1, nI (i + 1), k1.trans f60h, S1, nr, nv, ⟨r0, r1, v0, v1⟩, o1⟩
    · rw [if_neg q] at k1 ⊢
      obtain ⟨M2, b, j, k2, S2, n2, n3, q4, o2⟩ := ih (i + 1) M1 (r, v) (by omega) S1 (fun _ => ⟨nr, nv, r0, r1, v0, v1⟩)
      exact ⟨M2, b, j, k1.trans k2, S2, n2, n3, q4, o1.tr o2⟩
/-- the bytes of a signature -/
noncomputable def sgB (sec dig : List Int32) : List Int32 := nBL 32 (sgl sec dig 0 256 (0, 0)).1.toNat ++ nBL 32 (sgl sec dig 0 256 (0, 0)).2.toNat
def A60s : List Nat := [178, 179, 180, 181, 182, 183, 184, 185, 186, 111, 192, 193, 194, 195, 264, 266, 267, 268, 273, 274, 275, 276, 277, 104, 196, 197, 198]
set_option maxRecDepth 100000 in
set_option maxHeartbeats 4000000 in
theorem f60 {M : kf_M} {made cf ul : Int32} {ct : Int64} {kk wd : Nat} {sec dig cs word own pts sig : List Int32} (hS : S60 M made cf ul ct kk sec dig) (hkk : 19 ≤ kk ∧ kk + 5 ≤ 103) (bs : isB sec) (hw : ArI M wd 32 word) (hwd : 277 < wd) (bw : isB word) (hR : RowIs M 30 200 cs) (bc : isB cs) (hown : ArI M 198 64 own) (hp : ArI M (kk + 5) 64 pts) (hsig : ArI M 196 64 sig) : ∃ M', kf_cl 60 [.ref 104, .ref kk, .ref 30, .ref wd] M = some (none, M') ∧ S60 M' (made + 1) (if own = pts then cf else 0) ul ct kk sec (sha (cs ++ word)) ∧ ArI M' 198 64 pts ∧ ArI M' 196 64 (sgB sec (sha (cs ++ word))) ∧ Off A60s M M' := by
  have hle := hR.le
  obtain ⟨hO, hK, hH, hA, hs, hd, hr, hk⟩ := hS
  have hnl := nN_lt
  obtain ⟨rb, q1, q2, q3, q4⟩ := hR
  have g0 := gO_of hO
  have qa := hA.rc
  have gr := gO_of q1
  obtain ⟨M1, k1, r1, o1⟩ := h25 hA hH.1 (by decide)
  have S1 := hH.off o1 (by decide) (by decide)
  obtain ⟨M2, k2, r2, o2⟩ := h27 (f := 0) (n := cs.length) r1 (by simp; omega) S1.2 (o1.at (by decide) q2) (by omega) (by omega) (by decide) (by decide)
  rw [List.nil_append, List.drop_zero, q4] at r2
  have S2 := S1.off o2 (by decide) (by decide)
  have o12 := o1.tr o2
  obtain ⟨M3, k3, r3, o3⟩ := h27 (f := 0) (n := 32) r2 (by omega) S2.2 (o12.at (by simp; omega) hw.1) (by have := hw.2; omega) (by have := hw.2; omega) (by decide) (by simp; omega)
  rw [List.drop_zero, List.take_of_length_le (by have := hw.2; omega)] at r3
  have S3 := S2.off o3 (by decide) (by decide)
  have o13 := o12.tr o3
  obtain ⟨M4, k4, r4, g4, o4⟩ := h28 r3 (by have := hw.2; simp; omega) S3.2 (o13.at (by decide) hd.1) (by have := hd.2; omega) (by have := hd.2; omega) (by decide) (by decide) (by decide)
  rw [List.drop_of_length_le (by have := hd.2; omega), List.append_nil, byt_id (isB_app bc bw)] at g4
  have o14 : Off [193, 194, 195, 197] M M4 := (o13.wk (by decide)).tr o4
  have bdg : isB (sha (cs ++ word)) := isB_sha
  have ldg : (sha (cs ++ word)).length = 32 := sha_len
  generalize sha (cs ++ word) = dg2 at *
  have hO4 := o14.at (by decide) hO
  obtain ⟨M5, k5, O5, w5, o5⟩ := f62 hO4 (hown.off o14 (by decide)) (hp.off o14 (by simp; omega)) (by omega)
  have o15 : Off [193, 194, 195, 197, 104, 198] M M5 := (o14.wk (by decide)).tr (o5.wk (by decide))
  have nk : ∀ x, x ≤ 103 → 19 ≤ x → x ∉ [193, 194, 195, 197, 104, 198] := by
    intro x h1 h2
    simp
    omega
  obtain ⟨rw0, hr0⟩ := hr
  have S5 : S60 M5 made (if own = pts then cf else 0) ul ct kk sec dg2 := ⟨O5, hK.off o15 (by decide), hH.off o15 (by decide) (by decide), r4.off o5 (by decide) (by decide) (by decide), hs.off o15 (nk _ (by omega) (by omega)), ⟨o5.at (by decide) g4, ldg⟩, ⟨rw0, hr0.off o15 (by decide)⟩, o15.at (nk _ (by omega) (by omega)) hk⟩
  obtain ⟨M6, b, j, k6, S6, nr, nv, ⟨r0, r1', v0, v1⟩, o6⟩ := f60l (da := 30) (wo := wd) hkk bs bdg 256 0 M5 (0, 0) rfl S5 (fun h => absurd h (by decide))
  unfold sgB
  generalize sgl sec dg2 0 256 (0, 0) = rs at *
  rw [nI_0] at k6
  obtain ⟨O6, K6, H6, A6, s6, d6, ⟨rw6, hr6⟩, ky6⟩ := S6
  have g6 := gO_of O6
  have sg6 := (hsig.off o15 (by decide)).off o6 (by decide)
  have k7 := f10 (f := 0) (by decide) sg6.1 nr r0 (by omega) (by rw [sg6.2]; omega) (by rw [sg6.2]; omega)
  rw [List.take_zero, List.nil_append, nI_0] at k7
  have o7 : Off [196] M6 (M6.set 196 (oI (nBL 32 rs.1.toNat ++ sig.drop (0 + 32)))) := Off.set (by simp)
  have e7 : (M6.set 196 (oI (nBL 32 rs.1.toNat ++ sig.drop (0 + 32))))[196]? = some (oI (nBL 32 rs.1.toNat ++ sig.drop (0 + 32))) := m_self (m_lt sg6.1)
  generalize M6.set 196 (oI (nBL 32 rs.1.toNat ++ sig.drop (0 + 32))) = M7 at *
  have l7 : (nBL 32 rs.1.toNat ++ sig.drop (0 + 32)).length = 64 := by rw [List.length_append, nBL_len, List.length_drop, hsig.2]
  have O7 := o7.at (by decide) O6
  have g7 := gO_of O7
  have k8 := f10 (f := 32) (by decide) e7 (nv.off o7 (by decide)) v0 (by omega) (by rw [l7]; omega) (by rw [l7]; omega)
  rw [List.take_left' nBL_len, List.drop_of_length_le (by rw [l7]; omega), List.append_nil, show nI 32 = 32 from rfl] at k8
  have o8 : Off [196] M7 (M7.set 196 (oI (nBL 32 rs.1.toNat ++ nBL 32 rs.2.toNat))) := Off.set (by simp)
  have e8 : (M7.set 196 (oI (nBL 32 rs.1.toNat ++ nBL 32 rs.2.toNat)))[196]? = some (oI (nBL 32 rs.1.toNat ++ nBL 32 rs.2.toNat)) := m_self (m_lt e7)
  generalize M7.set 196 (oI (nBL 32 rs.1.toNat ++ nBL 32 rs.2.toNat)) = M8 at *
  have O8 := o8.at (by decide) O7
  have g8 := gO_of O8
  have o9 : ∀ X, Off [104] M8 (M8.set 104 X) := fun X => Off.set (by simp)
  have o69 : ∀ X, Off [196, 104] M6 (M8.set 104 X) := fun X => (o7.wk (by decide)).tr ((o8.wk (by decide)).tr ((o9 X).wk (by decide)))
  have gg1 := gO_of (o1.at (by decide) hO)
  have gr1 := gO_of (o1.at (by decide) q1)
  have gg2 := gO_of (o12.at (by decide) hO)
  have gg3 := gO_of (o13.at (by decide) hO)
  have gg4 := gO_of hO4
  have gk4 := gO_of (o14.at (by simp; omega) hk)
  have c1 := r1.ha.rc
  have c2 := r2.ha.rc
  have c3 := r3.ha.rc
  have rO4 : kf_rcv M4 8 (some (.ref 104)) = true := SgO.rc hO4
  rw [nI_0] at k2 k3
  rw [show nI 32 = 32 from rfl] at k3
  refine ⟨_, by (simp only [cl_60, e60_0, e60_1, e60_4, e60_7, e60_8, e60_11, e60_12, e60_15, e60_16, e60_17, e60_20, e60_23, e60_24, e60_27, e60_28, e60_29, e60_31, e60_34, e60_35, e60_38, e60_39, e60_42, e60_45, e60_46, e60_47, e60_50, e60_53, e60_54, e60_56, e60_57, e60_61, e60_64, e60_67, e60_69, e60_72, e60_73, e60_74, e60_77, e60_79, e60_82, e60_83, e60_86, e60_87, e60_90, e60_91, e60_94, e60_97, e60_98, e60_101, e60_104, e60_105, e60_108, e60_109, e60_112, e60_115, e60_116, e60_117, e60_120, e60_123, e60_124, e60_127, e60_128, e60_131, e60_134, e60_137, e60_138, e60_141, e60_142, e60_145, e60_148, e60_151, e60_152, e60_155, e60_156, e60_158, e60_161, e60_164, e60_165, e60_168, e60_169, e60_170, e60_173, e60_176, e60_177, e60_180, e60_182, e60_183, e60_186, e60_189, e60_190, e60_191, e60_194, e60_195, e60_196, e60_199, ow_60, Int32.reduceOfInt, Int32.reduceOfNat, Int32.reduceToNatClampNeg, Int32.reduceLT, Int32.reduceLE, Int32.reduceAdd, Int32.reduceSub, Int32.reduceMul, Int64.reduceOfNat, Int64.reduceOfInt, Nat.reduceLeDiff, Nat.reduceLT, Nat.reduceEqDiff, Nat.reduceSub, cs_0, cs_1, cs_2, cs_3, cs_4, cs_5, cs_6, cs_7, cs_8, or_false, false_or, not_false_eq_true, and_true, true_and, if_true, if_false, List.length_cons, List.length_nil, List.getElem?_cons_succ, List.getElem?_cons_zero, List.set_cons_succ, List.set_cons_zero, reduceIte, d_G, d_R, s_aload, s_aload_n, s_iload, s_iload_n, s_lload, s_lload_n, s_istore, s_istore_n, s_astore, s_astoreN, s_astore_n, s_astore_nN, s_lstore, s_lstore_n, s_iinc, s_iconst, s_bipush, s_sipush, s_lconst, s_ldc2_w, s_aconst_null, s_dupA, s_dupI, s_dup2, s_iadd, s_isub, s_imul, s_iand, s_ior, s_ixor, s_ishl, s_ishr, s_iushr, s_ineg, s_idiv, s_irem, s_ladd, s_lsub, s_lmul, s_land, s_lor, s_lxor, s_ldiv, s_lshl, s_lshr, s_lushr, s_i2l, s_l2i, s_lcmp, s_goto, s_ieq, s_ine, s_ilt, s_ige, s_igt, s_ile, s_zeq, s_zne, s_zlt, s_zge, s_zgt, s_zle, s_ifnull, s_ifnullN, s_ifnonnull, s_ifnonnullN, s_tableswitch, s_lookupswitch, s_getfield, s_putfield, s_getstatic, s_iaload, s_laload, s_baload, s_aaload, s_iastore, s_lastore, s_bastore, s_aastore, s_arraylength, s_newI, s_newJ, s_newZ, s_anewarray, s_new, s_copy, s_max, s_min, s_invokestatic, s_objinit, s_invokespecial, kf_isr_r, s_invokevirtual, s_ireturn, s_lreturn, s_areturn, s_areturnN, s_return, lI_0, lI_s, lJ_0, lJ_s, lA_0, lA_0N, lA_s, lS1_0, lS1_1, lS1_2, lS2_0, lS2_1, lS2_2, lK_n, lK_i, lK_j, lK_a, lK_N, d_C', kf_w_0, kf_w_i, kf_w_a, kf_w_n, kf_w_j, c_0, c_1, c_2, c_3, c_4, c_5, c_6, tl_0, tl_1, Option.bind_some, Option.bind_none, Option.map_some, Nat.reduceAdd, Nat.reduceMul, Nat.reduceDiv, Nat.reduceMod, Int.reduceToNat, Fin.val_zero, Fin.isValue, Fin.val_one, Fin.val_two, fv_0, fv_1, fv_2, fv_3, fw_0, fw_1, d_ite, true_or, or_true, and_false, false_and, or_self, and_self, ow_25, ow_27, ow_28, ow_62, sgF, g0, gg1, gg2, gg3, gg4, g6, g7, g8, gr, gr1, gk4, qa, c1, c2, c3, rO4, k1, k2, k3, k4, k5, k6, k7, k8, kf_fit] <;> rfl), ⟨m_self (m_lt O8), K6.off (o69 _) (by decide), H6.off (o69 _) (by decide) (by decide), A6.off (o69 _) (by decide) (by decide) (by decide), s6.off (o69 _) (by simp; omega), d6.off (o69 _) (by decide), ⟨rw6, hr6.off (o69 _) (by decide)⟩, (o69 _).at (by simp; omega) ky6⟩, (w5.off o6 (by decide)).off (o69 _) (by decide), ⟨(o9 _).at (by decide) e8, by rw [List.length_append, nBL_len, nBL_len]⟩, (o15.wk (by decide)).tr ((o6.wk (by decide)).tr ((o69 _).wk (by decide)))⟩
