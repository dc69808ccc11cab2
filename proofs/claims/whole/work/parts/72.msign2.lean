/-! sign, all of it -/
theorem n159h {M : kf_M} {kk x : Int32} : kf_ev 159 39 [some (.ref 284), some (.int kk), some (.ref 341), some (.int 1), some (.int x)] [] M = kf_ev 159 238 [some (.ref 284), some (.int kk), some (.ref 341), some (.int 1), some (.int x)] [] M := by
  have z1 : ¬ (1 : Int32) = 0 := by decide
  refine (e159_39 _ _ _).trans ?_
  by_cases q : (256 : Int32) ≤ x
  · simp only [e159_39, e159_41, e159_44, e159_47, e159_48, Int32.reduceOfInt, Int32.reduceOfNat, Int32.reduceToNatClampNeg, Int32.reduceLT, Int32.reduceLE, Int32.reduceAdd, Int32.reduceSub, Int32.reduceMul, Int64.reduceOfNat, Int64.reduceOfInt, Nat.reduceLeDiff, Nat.reduceLT, Nat.reduceEqDiff, Nat.reduceSub, cs_0, cs_1, cs_2, cs_3, cs_4, cs_5, cs_6, cs_7, cs_8, or_false, false_or, not_false_eq_true, and_true, true_and, if_true, if_false, List.length_cons, List.length_nil, List.getElem?_cons_succ, List.getElem?_cons_zero, List.set_cons_succ, List.set_cons_zero, reduceIte, d_G, d_R, s_aload, s_aload_n, s_iload, s_iload_n, s_lload, s_lload_n, s_istore, s_istore_n, s_astore, s_astoreN, s_astore_n, s_astore_nN, s_lstore, s_lstore_n, s_iinc, s_iconst, s_bipush, s_sipush, s_lconst, s_ldc2_w, s_aconst_null, s_dupA, s_dupI, s_dup2, s_iadd, s_isub, s_imul, s_iand, s_ior, s_ixor, s_ishl, s_ishr, s_iushr, s_ineg, s_idiv, s_irem, s_ladd, s_lsub, s_lmul, s_land, s_lor, s_lxor, s_ldiv, s_lshl, s_lshr, s_lushr, s_i2l, s_l2i, s_lcmp, s_goto, s_ieq, s_ine, s_ilt, s_ige, s_igt, s_ile, s_zeq, s_zne, s_zlt, s_zge, s_zgt, s_zle, s_ifnull, s_ifnullN, s_ifnonnull, s_ifnonnullN, s_tableswitch, s_lookupswitch, s_getfield, s_putfield, s_getstatic, s_iaload, s_laload, s_baload, s_aaload, s_iastore, s_lastore, s_bastore, s_aastore, s_arraylength, s_newI, s_newJ, s_newZ, s_anewarray, s_new, s_copy, s_max, s_min, s_invokestatic, s_objinit, s_invokespecial, kf_isr_r, s_invokevirtual, s_ireturn, s_lreturn, s_areturn, s_areturnN, s_return, lI_0, lI_s, lJ_0, lJ_s, lA_0, lA_0N, lA_s, lS1_0, lS1_1, lS1_2, lS2_0, lS2_1, lS2_2, lK_n, lK_i, lK_j, lK_a, lK_N, d_C', kf_w_0, kf_w_i, kf_w_a, kf_w_n, kf_w_j, c_0, c_1, c_2, c_3, c_4, c_5, c_6, tl_0, tl_1, Option.bind_some, Option.bind_none, Option.map_some, Nat.reduceAdd, Nat.reduceMul, Nat.reduceDiv, Nat.reduceMod, Int.reduceToNat, Fin.val_zero, Fin.isValue, Fin.val_one, Fin.val_two, fv_0, fv_1, fv_2, fv_3, fw_0, fw_1, d_ite, true_or, or_true, and_false, false_and, or_self, and_self, q]
  · simp only [e159_39, e159_41, e159_44, e159_47, e159_48, Int32.reduceOfInt, Int32.reduceOfNat, Int32.reduceToNatClampNeg, Int32.reduceLT, Int32.reduceLE, Int32.reduceAdd, Int32.reduceSub, Int32.reduceMul, Int64.reduceOfNat, Int64.reduceOfInt, Nat.reduceLeDiff, Nat.reduceLT, Nat.reduceEqDiff, Nat.reduceSub, cs_0, cs_1, cs_2, cs_3, cs_4, cs_5, cs_6, cs_7, cs_8, or_false, false_or, not_false_eq_true, and_true, true_and, if_true, if_false, List.length_cons, List.length_nil, List.getElem?_cons_succ, List.getElem?_cons_zero, List.set_cons_succ, List.set_cons_zero, reduceIte, d_G, d_R, s_aload, s_aload_n, s_iload, s_iload_n, s_lload, s_lload_n, s_istore, s_istore_n, s_astore, s_astoreN, s_astore_n, s_astore_nN, s_lstore, s_lstore_n, s_iinc, s_iconst, s_bipush, s_sipush, s_lconst, s_ldc2_w, s_aconst_null, s_dupA, s_dupI, s_dup2, s_iadd, s_isub, s_imul, s_iand, s_ior, s_ixor, s_ishl, s_ishr, s_iushr, s_ineg, s_idiv, s_irem, s_ladd, s_lsub, s_lmul, s_land, s_lor, s_lxor, s_ldiv, s_lshl, s_lshr, s_lushr, s_i2l, s_l2i, s_lcmp, s_goto, s_ieq, s_ine, s_ilt, s_ige, s_igt, s_ile, s_zeq, s_zne, s_zlt, s_zge, s_zgt, s_zle, s_ifnull, s_ifnullN, s_ifnonnull, s_ifnonnullN, s_tableswitch, s_lookupswitch, s_getfield, s_putfield, s_getstatic, s_iaload, s_laload, s_baload, s_aaload, s_iastore, s_lastore, s_bastore, s_aastore, s_arraylength, s_newI, s_newJ, s_newZ, s_anewarray, s_new, s_copy, s_max, s_min, s_invokestatic, s_objinit, s_invokespecial, kf_isr_r, s_invokevirtual, s_ireturn, s_lreturn, s_areturn, s_areturnN, s_return, lI_0, lI_s, lJ_0, lJ_s, lA_0, lA_0N, lA_s, lS1_0, lS1_1, lS1_2, lS2_0, lS2_1, lS2_2, lK_n, lK_i, lK_j, lK_a, lK_N, d_C', kf_w_0, kf_w_i, kf_w_a, kf_w_n, kf_w_j, c_0, c_1, c_2, c_3, c_4, c_5, c_6, tl_0, tl_1, Option.bind_some, Option.bind_none, Option.map_some, Nat.reduceAdd, Nat.reduceMul, Nat.reduceDiv, Nat.reduceMod, Int.reduceToNat, Fin.val_zero, Fin.isValue, Fin.val_one, Fin.val_two, fv_0, fv_1, fv_2, fv_3, fw_0, fw_1, d_ite, true_or, or_true, and_false, false_and, or_self, and_self, q, z1]
theorem sgl_s {sec dig : List Int32} {i m : Nat} {rs : Int × Int} {r v : Int} (er : r = aX (nonce sec dig i) % nN) (ev : v = aS (nonce sec dig i) (nb sec) (nb dig)) : sgl sec dig i (m + 1) rs = if r ≠ 0 ∧ v ≠ 0 then (r, v) else sgl sec dig (i + 1) m (r, v) := by
  rw [er, ev]
  rfl
theorem n159l {kk : Nat} {sec dig nu : List Int32} (hkk : kk < 10) (bs : isB sec) (bd : isB dig) : ∀ (m i : Nat) (M : kf_M) (fs : List Value) (rs : Int × Int), i + m = 256 → SgM M fs kk sec dig nu → (m = 0 → Wd M 325 rs.1.toNat ∧ Wd M 326 rs.2.toNat) → ∃ (M' : kf_M) (fs' : List Value) (b j : Int32), kf_ev 159 39 [some (.ref 284), some (.int (nI kk)), some (.ref 341), some (.int 0), some (.int (nI i))] [] M = kf_ev 159 238 [some (.ref 284), some (.int (nI kk)), some (.ref 341), some (.int b), some (.int j)] [] M' ∧ SgM M' fs' kk sec dig nu ∧ Wd M' 325 (sgl sec dig i m rs).1.toNat ∧ Wd M' 326 (sgl sec dig i m rs).2.toNat ∧ Fo [30, 43] fs fs' ∧ Off A159 M M' := by
  intro m
  induction m with
  | zero =>
    intro i M fs rs hi hS h0
    have hi : i = 256 := by omega
    subst hi
    have e : (256 : Int32) ≤ nI 256 := by decide
    refine ⟨M, fs, 0, nI 256, (e159_39 _ _ _).trans ?_, hS, (h0 rfl).1, (h0 rfl).2, Fo.rf, Off.rf⟩
    simp only [e159_41, e159_44, e159_47, e159_48, Int32.reduceOfInt, Int32.reduceOfNat, Int32.reduceToNatClampNeg, Int32.reduceLT, Int32.reduceLE, Int32.reduceAdd, Int32.reduceSub, Int32.reduceMul, Int64.reduceOfNat, Int64.reduceOfInt, Nat.reduceLeDiff, Nat.reduceLT, Nat.reduceEqDiff, Nat.reduceSub, cs_0, cs_1, cs_2, cs_3, cs_4, cs_5, cs_6, cs_7, cs_8, or_false, false_or, not_false_eq_true, and_true, true_and, if_true, if_false, List.length_cons, List.length_nil, List.getElem?_cons_succ, List.getElem?_cons_zero, List.set_cons_succ, List.set_cons_zero, reduceIte, d_G, d_R, s_aload, s_aload_n, s_iload, s_iload_n, s_lload, s_lload_n, s_istore, s_istore_n, s_astore, s_astoreN, s_astore_n, s_astore_nN, s_lstore, s_lstore_n, s_iinc, s_iconst, s_bipush, s_sipush, s_lconst, s_ldc2_w, s_aconst_null, s_dupA, s_dupI, s_dup2, s_iadd, s_isub, s_imul, s_iand, s_ior, s_ixor, s_ishl, s_ishr, s_iushr, s_ineg, s_idiv, s_irem, s_ladd, s_lsub, s_lmul, s_land, s_lor, s_lxor, s_ldiv, s_lshl, s_lshr, s_lushr, s_i2l, s_l2i, s_lcmp, s_goto, s_ieq, s_ine, s_ilt, s_ige, s_igt, s_ile, s_zeq, s_zne, s_zlt, s_zge, s_zgt, s_zle, s_ifnull, s_ifnullN, s_ifnonnull, s_ifnonnullN, s_tableswitch, s_lookupswitch, s_getfield, s_putfield, s_getstatic, s_iaload, s_laload, s_baload, s_aaload, s_iastore, s_lastore, s_bastore, s_aastore, s_arraylength, s_newI, s_newJ, s_newZ, s_anewarray, s_new, s_copy, s_max, s_min, s_invokestatic, s_objinit, s_invokespecial, kf_isr_r, s_invokevirtual, s_ireturn, s_lreturn, s_areturn, s_areturnN, s_return, lI_0, lI_s, lJ_0, lJ_s, lA_0, lA_0N, lA_s, lS1_0, lS1_1, lS1_2, lS2_0, lS2_1, lS2_2, lK_n, lK_i, lK_j, lK_a, lK_N, d_C', kf_w_0, kf_w_i, kf_w_a, kf_w_n, kf_w_j, c_0, c_1, c_2, c_3, c_4, c_5, c_6, tl_0, tl_1, Option.bind_some, Option.bind_none, Option.map_some, Nat.reduceAdd, Nat.reduceMul, Nat.reduceDiv, Nat.reduceMod, Int.reduceToNat, Fin.val_zero, Fin.isValue, Fin.val_one, Fin.val_two, fv_0, fv_1, fv_2, fv_3, fw_0, fw_1, d_ite, true_or, or_true, and_false, false_and, or_self, and_self, e]
  | succ m ih =>
    intro i M fs rs hi hS h0
    obtain ⟨M1, f1, r, v, k1, S1, er, ev, r1, v1, wr, wv1, F1, o1⟩ := n159b (i := i) hS hkk bs bd (by omega)
    have es : sgl sec dig i (m + 1) rs = if (r : Int) ≠ 0 ∧ (v : Int) ≠ 0 then ((r : Int), (v : Int)) else sgl sec dig (i + 1) m ((r : Int), (v : Int)) := sgl_s er ev
    rw [es]
    by_cases q : r ≠ 0 ∧ v ≠ 0
    · rw [if_pos q] at k1
      rw [if_pos (by omega)]
      exact ⟨M1, f1, 1, nI (i + 1), k1.trans n159h, S1, wr, wv1, F1, o1⟩
    · rw [if_neg q] at k1
      rw [if_neg (by omega)]
      obtain ⟨M2, f2, b, j, k2, S2, wr2, wv2, F2, o2⟩ := ih (i + 1) M1 f1 ((r : Int), (v : Int)) (by omega) S1 (fun _ => ⟨wr, wv1⟩)
      exact ⟨M2, f2, b, j, k1.trans k2, S2, wr2, wv2, F1.tr F2, o1.tr o2⟩
def A159s : List Nat := [284, 302, 303, 304, 305, 308, 309, 310, 311, 312, 313, 314, 315, 316, 317, 318, 319, 320, 321, 323, 325, 326, 322, 324, 299, 300, 301]
theorem take_app {a b : List Int32} {n : Nat} (h : a.length = n) : (a ++ b).take n = a := by rw [← h, List.take_left]
theorem drop_app {a b : List Int32} {n : Nat} (h : a.length = n) : (a ++ b).drop n = b := by rw [← h, List.drop_left]
theorem cp_full {xs ys : List Int32} {a n : Nat} (hy : ys.length = n) : kf_cp xs ys a 0 n = (xs.drop a).take n := by
  unfold kf_cp
  rw [List.take_zero, List.nil_append, Nat.zero_add, List.drop_of_length_le (l := ys) (by omega), List.append_nil]
set_option maxRecDepth 100000 in
set_option maxHeartbeats 4000000 in
theorem n159 {M : kf_M} {fs : List Value} {kk : Nat} {sec dig nu po lh lp lg : List Int32} {sg : Int32} (hM : MdIs M fs) (hC : Cal M) (hH : MH M) (hX : MX M) (hnu : ArI M 293 320 nu) (hse : (nu.drop (32 * kk)).take 32 = sec) (hdi : ArI M 341 32 dig) (hpo : ArI M 296 640 po) (hlh : ArI M 299 32 lh) (hlp : ArI M 300 64 lp) (hlg : ArI M 301 64 lg) (hsg : fs[25]? = some (.int sg)) (hkk : kk < 10) (bs : isB sec) (bd : isB dig) : ∃ (M' : kf_M) (fs' : List Value), kf_cl 159 [.ref 284, .int (nI kk), .ref 341] M = some (none, M') ∧ MdIs M' fs' ∧ Cal M' ∧ MH M' ∧ MX M' ∧ ArI M' 301 64 (sgB sec dig) ∧ ArI M' 299 32 dig ∧ ArI M' 300 64 ((po.drop (64 * kk)).take 64) ∧ fs'[25]? = some (.int (sg + 1)) ∧ Fo [25, 30, 43] fs fs' ∧ Off A159s M M' := by
  have ls : sec.length = 32 := by rw [← hse, List.length_take, List.length_drop, hnu.2]; omega
  obtain ⟨N0, N1⟩ := nb_32 bs ls
  obtain ⟨H0, H1⟩ := nb_32 bd hdi.2
  have g0 := gO_of hM.1
  have r17 := hM.rf 17 293 (by decide)
  have r51 := hM.rf 51 322 (by decide)
  have r53 := hM.rf 53 324 (by decide)
  obtain ⟨M1, k1, w1, C1, o1⟩ := q152 (to := 322) (row := 293) (at1 := 32 * kk) hC (by decide) (by decide) hnu.1 (by rw [hnu.2]; decide) (by rw [hnu.2]; omega) (by rw [hse]; exact N1) N0
  have hM1 := hM.off o1 (by decide)
  have g1 := gO_of hM1.1
  have di1 := hdi.off o1 (by decide)
  obtain ⟨M2, k2, w2, C2, o2⟩ := q152 (to := 324) (row := 341) (at1 := 0) C1 (by decide) (by decide) di1.1 (by rw [hdi.2]; decide) (by rw [hdi.2]; decide) (by rw [List.drop_zero, List.take_of_length_le (by rw [hdi.2]; decide)]; exact H1) H0
  have hM2 := hM1.off o2 (by decide)
  have g2 := gO_of hM2.1
  obtain ⟨M3, k3, w3, C3, o3⟩ := q144 (to := 324) C2 Mo14 (by decide) w2
  have hM3 := hM2.off o3 (by decide)
  have o13 : Off [322, 324] M M3 := ((o1.wk (by decide)).tr (o2.wk (by decide))).tr (o3.wk (by decide))
  obtain ⟨M4, f4, b, j, k4, S4, wr, ws, F4, o4⟩ := n159l hkk bs bd 256 0 M3 fs (0, 0) (by omega) ⟨hM3, C3, hH.of5 o13 (by decide), hX.off o13 (by decide), hnu.off o13 (by decide), hse, hdi.off o13 (by decide), (w1.off o2 (by decide)).off o3 (by decide), w3⟩ (fun h => by omega)
  obtain ⟨hM4, C4, H4, X4, nu4, -, di4, -, -⟩ := S4
  have hsB : sgB sec dig = nBL 32 (sgl sec dig 0 256 (0, 0)).1.toNat ++ nBL 32 (sgl sec dig 0 256 (0, 0)).2.toNat := rfl
  generalize (sgl sec dig 0 256 (0, 0)).1.toNat = r at *
  generalize (sgl sec dig 0 256 (0, 0)).2.toNat = v at *
  have o14 : Off A159s M M4 := (o13.wk (by decide)).tr (o4.wk (by decide))
  have g4 := gO_of hM4.1
  have s54 := hM4.rf 54 325 (by decide)
  have s55 := hM4.rf 55 326 (by decide)
  have s28 := hM4.rf 28 301 (by decide)
  have s26 := hM4.rf 26 299 (by decide)
  have s27 := hM4.rf 27 300 (by decide)
  have s20 := hM4.rf 20 296 (by decide)
  have lg4 := (hlg.off o13 (by decide)).off o4 (by decide)
  have lh4 := (hlh.off o13 (by decide)).off o4 (by decide)
  have lp4 := (hlp.off o13 (by decide)).off o4 (by decide)
  have po4 := (hpo.off o13 (by decide)).off o4 (by decide)
  have k5 := n153 (row := 301) (at1 := 0) wr (by decide) (by decide) lg4.1 (by rw [hlg.2]; decide) (by rw [hlg.2]; decide)
  rw [List.take_zero, List.nil_append, Nat.zero_add] at k5
  obtain ⟨M5, hM5e⟩ : ∃ X, X = M4.set 301 (oI (nBL 32 r ++ lg.drop 32)) := ⟨_, rfl⟩
  have o5 : Off [301] M4 M5 := by rw [hM5e]; exact Off.set (by simp)
  have g5x : M5[301]? = some (oI (nBL 32 r ++ lg.drop 32)) := by rw [hM5e]; exact m_self (m_lt lg4.1)
  rw [← hM5e] at k5
  have hM5 := hM4.off o5 (by decide)
  have g5 := gO_of hM5.1
  have l5 : (nBL 32 r ++ lg.drop 32).length = 64 := by rw [List.length_append, nBL_len, List.length_drop, hlg.2]
  have k6 := n153 (row := 301) (at1 := 32) (ws.off o5 (by decide)) (by decide) (by decide) g5x (by rw [l5]; decide) (by rw [l5]; decide)
  rw [take_app nBL_len, List.drop_of_length_le (by rw [l5]; decide), List.append_nil, ← hsB] at k6
  obtain ⟨M6, hM6e⟩ : ∃ X, X = M5.set 301 (oI (sgB sec dig)) := ⟨_, rfl⟩
  have o6 : Off [301] M5 M6 := by rw [hM6e]; exact Off.set (by simp)
  have g6x : M6[301]? = some (oI (sgB sec dig)) := by rw [hM6e]; exact m_self (m_lt g5x)
  rw [← hM6e] at k6
  have hM6 := hM5.off o6 (by decide)
  have g6 := gO_of hM6.1
  have di6 := (di4.off o5 (by decide)).off o6 (by decide)
  have lh6 := (lh4.off o5 (by decide)).off o6 (by decide)
  have lp6 := (lp4.off o5 (by decide)).off o6 (by decide)
  have po6 := (po4.off o5 (by decide)).off o6 (by decide)
  have k7 := c130 (a := 0) (b := 0) (n := 32) di6.1 lh6.1 (by decide) (by decide) (by rw [hdi.2]; decide) (by rw [hlh.2]; decide) (by rw [hdi.2]; decide) (by rw [hlh.2]; decide)
  rw [cp_full hlh.2, List.drop_zero, List.take_of_length_le (by rw [hdi.2]; decide)] at k7
  obtain ⟨M7, hM7e⟩ : ∃ X, X = M6.set 299 (oI dig) := ⟨_, rfl⟩
  have o7 : Off [299] M6 M7 := by rw [hM7e]; exact Off.set (by simp)
  have g7x : M7[299]? = some (oI dig) := by rw [hM7e]; exact m_self (m_lt lh6.1)
  rw [← hM7e] at k7
  have hM7 := hM6.off o7 (by decide)
  have g7 := gO_of hM7.1
  have lp7 := lp6.off o7 (by decide)
  have po7 := po6.off o7 (by decide)
  have k8 := c130 (a := 64 * kk) (b := 0) (n := 64) po7.1 lp7.1 (by decide) (by decide) (by rw [hpo.2]; omega) (by rw [hlp.2]; decide) (by rw [hpo.2]; decide) (by rw [hlp.2]; decide)
  rw [cp_full hlp.2] at k8
  obtain ⟨M8, hM8e⟩ : ∃ X, X = M7.set 300 (oI ((po.drop (64 * kk)).take 64)) := ⟨_, rfl⟩
  have o8 : Off [300] M7 M8 := by rw [hM8e]; exact Off.set (by simp)
  have g8x : M8[300]? = some (oI ((po.drop (64 * kk)).take 64)) := by rw [hM8e]; exact m_self (m_lt lp7.1)
  rw [← hM8e] at k8
  have hM8 := hM7.off o8 (by decide)
  have g8 := gO_of hM8.1
  have s25 : f4[25]? = some (.int sg) := (F4 25 (by decide)).trans hsg
  have l25 : 25 < f4.length := by rw [hM4.2.1]; decide
  have o9 : Off [284] M8 (M8.set 284 (oO 12 (f4.set 25 (.int (sg + 1))))) := Off.set (by simp)
  have o48 : Off [299, 300, 301] M4 M8 := (((o5.wk (by decide)).tr (o6.wk (by decide))).tr (o7.wk (by decide))).tr (o8.wk (by decide))
  have C8 := C4.off' o48 (by decide)
  refine ⟨_, f4.set 25 (.int (sg + 1)), ?_, hM8.set (by decide), C8.off' o9 (by decide), (H4.of5 o48 (by decide)).of5 o9 (by decide), (X4.off o48 (by decide)).off o9 (by decide), ⟨o9.at (by decide) (o8.at (by decide) (o7.at (by decide) g6x)), by rw [hsB, List.length_append, nBL_len, nBL_len]⟩, ⟨o9.at (by decide) (o8.at (by decide) g7x), hdi.2⟩, ⟨o9.at (by decide) g8x, by rw [List.length_take, List.length_drop, hpo.2]; omega⟩, List.getElem?_set_self l25, (F4.wk (by simp)).tr (Fo.set.wk (by simp)), (o14.tr (o48.wk (by decide))).tr (o9.wk (by decide))⟩
  have m32 : (32 : Int32) * nI kk = nI (32 * kk) := pk_mul 32 kk
  have m64 : (64 : Int32) * nI kk = nI (64 * kk) := pk_mul 64 kk
  rw [nI_0] at k2 k4 k5 k7 k8
  rw [show nI 32 = 32 from rfl] at k6 k7
  rw [show nI 64 = 64 from rfl] at k8
  simp only [cl_159, e159_0, e159_1, e159_4, e159_5, e159_8, e159_10, e159_11, e159_12, e159_15, e159_16, e159_19, e159_20, e159_21, e159_24, e159_25, e159_28, e159_31, e159_34, e159_35, e159_36, e159_37, e159_41, e159_44, e159_47, e159_48, e159_51, e159_52, e159_55, e159_56, e159_57, e159_60, e159_62, e159_63, e159_64, e159_66, e159_69, e159_70, e159_71, e159_72, e159_74, e159_77, e159_78, e159_80, e159_83, e159_84, e159_87, e159_88, e159_89, e159_92, e159_93, e159_96, e159_97, e159_100, e159_101, e159_102, e159_105, e159_108, e159_111, e159_114, e159_115, e159_118, e159_119, e159_122, e159_125, e159_126, e159_129, e159_132, e159_135, e159_136, e159_137, e159_140, e159_141, e159_144, e159_145, e159_148, e159_151, e159_154, e159_155, e159_158, e159_159, e159_162, e159_163, e159_166, e159_169, e159_172, e159_173, e159_174, e159_177, e159_178, e159_181, e159_184, e159_187, e159_188, e159_189, e159_192, e159_193, e159_196, e159_197, e159_200, e159_203, e159_206, e159_207, e159_210, e159_213, e159_216, e159_217, e159_220, e159_223, e159_226, e159_227, e159_230, e159_231, e159_232, e159_235, e159_239, e159_242, e159_243, e159_246, e159_247, e159_250, e159_251, e159_254, e159_255, e159_258, e159_260, e159_263, e159_264, e159_265, e159_266, e159_269, e159_270, e159_272, e159_275, e159_276, e159_279, e159_281, e159_282, e159_283, e159_284, e159_287, e159_288, e159_290, e159_293, e159_294, e159_295, e159_298, e159_299, e159_300, e159_303, ow_159, Int32.reduceOfInt, Int32.reduceOfNat, Int32.reduceToNatClampNeg, Int32.reduceLT, Int32.reduceLE, Int32.reduceAdd, Int32.reduceSub, Int32.reduceMul, Int64.reduceOfNat, Int64.reduceOfInt, Nat.reduceLeDiff, Nat.reduceLT, Nat.reduceEqDiff, Nat.reduceSub, cs_0, cs_1, cs_2, cs_3, cs_4, cs_5, cs_6, cs_7, cs_8, or_false, false_or, not_false_eq_true, and_true, true_and, if_true, if_false, List.length_cons, List.length_nil, List.getElem?_cons_succ, List.getElem?_cons_zero, List.set_cons_succ, List.set_cons_zero, reduceIte, d_G, d_R, s_aload, s_aload_n, s_iload, s_iload_n, s_lload, s_lload_n, s_istore, s_istore_n, s_astore, s_astoreN, s_astore_n, s_astore_nN, s_lstore, s_lstore_n, s_iinc, s_iconst, s_bipush, s_sipush, s_lconst, s_ldc2_w, s_aconst_null, s_dupA, s_dupI, s_dup2, s_iadd, s_isub, s_imul, s_iand, s_ior, s_ixor, s_ishl, s_ishr, s_iushr, s_ineg, s_idiv, s_irem, s_ladd, s_lsub, s_lmul, s_land, s_lor, s_lxor, s_ldiv, s_lshl, s_lshr, s_lushr, s_i2l, s_l2i, s_lcmp, s_goto, s_ieq, s_ine, s_ilt, s_ige, s_igt, s_ile, s_zeq, s_zne, s_zlt, s_zge, s_zgt, s_zle, s_ifnull, s_ifnullN, s_ifnonnull, s_ifnonnullN, s_tableswitch, s_lookupswitch, s_getfield, s_putfield, s_getstatic, s_iaload, s_laload, s_baload, s_aaload, s_iastore, s_lastore, s_bastore, s_aastore, s_arraylength, s_newI, s_newJ, s_newZ, s_anewarray, s_new, s_copy, s_max, s_min, s_invokestatic, s_objinit, s_invokespecial, kf_isr_r, s_invokevirtual, s_ireturn, s_lreturn, s_areturn, s_areturnN, s_return, lI_0, lI_s, lJ_0, lJ_s, lA_0, lA_0N, lA_s, lS1_0, lS1_1, lS1_2, lS2_0, lS2_1, lS2_2, lK_n, lK_i, lK_j, lK_a, lK_N, d_C', kf_w_0, kf_w_i, kf_w_a, kf_w_n, kf_w_j, c_0, c_1, c_2, c_3, c_4, c_5, c_6, tl_0, tl_1, Option.bind_some, Option.bind_none, Option.map_some, Nat.reduceAdd, Nat.reduceMul, Nat.reduceDiv, Nat.reduceMod, Int.reduceToNat, Fin.val_zero, Fin.isValue, Fin.val_one, Fin.val_two, fv_0, fv_1, fv_2, fv_3, fw_0, fw_1, d_ite, true_or, or_true, and_false, false_and, or_self, and_self, g0, g1, g2, r17, r51, r53, m32, k1, k2, k3, k4]
  refine (e159_238 _ _ _).trans ?_
  simp only [cl_159, e159_0, e159_1, e159_4, e159_5, e159_8, e159_10, e159_11, e159_12, e159_15, e159_16, e159_19, e159_20, e159_21, e159_24, e159_25, e159_28, e159_31, e159_34, e159_35, e159_36, e159_37, e159_41, e159_44, e159_47, e159_48, e159_51, e159_52, e159_55, e159_56, e159_57, e159_60, e159_62, e159_63, e159_64, e159_66, e159_69, e159_70, e159_71, e159_72, e159_74, e159_77, e159_78, e159_80, e159_83, e159_84, e159_87, e159_88, e159_89, e159_92, e159_93, e159_96, e159_97, e159_100, e159_101, e159_102, e159_105, e159_108, e159_111, e159_114, e159_115, e159_118, e159_119, e159_122, e159_125, e159_126, e159_129, e159_132, e159_135, e159_136, e159_137, e159_140, e159_141, e159_144, e159_145, e159_148, e159_151, e159_154, e159_155, e159_158, e159_159, e159_162, e159_163, e159_166, e159_169, e159_172, e159_173, e159_174, e159_177, e159_178, e159_181, e159_184, e159_187, e159_188, e159_189, e159_192, e159_193, e159_196, e159_197, e159_200, e159_203, e159_206, e159_207, e159_210, e159_213, e159_216, e159_217, e159_220, e159_223, e159_226, e159_227, e159_230, e159_231, e159_232, e159_235, e159_239, e159_242, e159_243, e159_246, e159_247, e159_250, e159_251, e159_254, e159_255, e159_258, e159_260, e159_263, e159_264, e159_265, e159_266, e159_269, e159_270, e159_272, e159_275, e159_276, e159_279, e159_281, e159_282, e159_283, e159_284, e159_287, e159_288, e159_290, e159_293, e159_294, e159_295, e159_298, e159_299, e159_300, e159_303, ow_159, Int32.reduceOfInt, Int32.reduceOfNat, Int32.reduceToNatClampNeg, Int32.reduceLT, Int32.reduceLE, Int32.reduceAdd, Int32.reduceSub, Int32.reduceMul, Int64.reduceOfNat, Int64.reduceOfInt, Nat.reduceLeDiff, Nat.reduceLT, Nat.reduceEqDiff, Nat.reduceSub, cs_0, cs_1, cs_2, cs_3, cs_4, cs_5, cs_6, cs_7, cs_8, or_false, false_or, not_false_eq_true, and_true, true_and, if_true, if_false, List.length_cons, List.length_nil, List.getElem?_cons_succ, List.getElem?_cons_zero, List.set_cons_succ, List.set_cons_zero, reduceIte, d_G, d_R, s_aload, s_aload_n, s_iload, s_iload_n, s_lload, s_lload_n, s_istore, s_istore_n, s_astore, s_astoreN, s_astore_n, s_astore_nN, s_lstore, s_lstore_n, s_iinc, s_iconst, s_bipush, s_sipush, s_lconst, s_ldc2_w, s_aconst_null, s_dupA, s_dupI, s_dup2, s_iadd, s_isub, s_imul, s_iand, s_ior, s_ixor, s_ishl, s_ishr, s_iushr, s_ineg, s_idiv, s_irem, s_ladd, s_lsub, s_lmul, s_land, s_lor, s_lxor, s_ldiv, s_lshl, s_lshr, s_lushr, s_i2l, s_l2i, s_lcmp, s_goto, s_ieq, s_ine, s_ilt, s_ige, s_igt, s_ile, s_zeq, s_zne, s_zlt, s_zge, s_zgt, s_zle, s_ifnull, s_ifnullN, s_ifnonnull, s_ifnonnullN, s_tableswitch, s_lookupswitch, s_getfield, s_putfield, s_getstatic, s_iaload, s_laload, s_baload, s_aaload, s_iastore, s_lastore, s_bastore, s_aastore, s_arraylength, s_newI, s_newJ, s_newZ, s_anewarray, s_new, s_copy, s_max, s_min, s_invokestatic, s_objinit, s_invokespecial, kf_isr_r, s_invokevirtual, s_ireturn, s_lreturn, s_areturn, s_areturnN, s_return, lI_0, lI_s, lJ_0, lJ_s, lA_0, lA_0N, lA_s, lS1_0, lS1_1, lS1_2, lS2_0, lS2_1, lS2_2, lK_n, lK_i, lK_j, lK_a, lK_N, d_C', kf_w_0, kf_w_i, kf_w_a, kf_w_n, kf_w_j, c_0, c_1, c_2, c_3, c_4, c_5, c_6, tl_0, tl_1, Option.bind_some, Option.bind_none, Option.map_some, Nat.reduceAdd, Nat.reduceMul, Nat.reduceDiv, Nat.reduceMod, Int.reduceToNat, Fin.val_zero, Fin.isValue, Fin.val_one, Fin.val_two, fv_0, fv_1, fv_2, fv_3, fw_0, fw_1, d_ite, true_or, or_true, and_false, false_and, or_self, and_self, g4, g5, g6, g7, g8, s54, s55, s28, s26, s27, s20, s25, l25, m64, k5, k6, k7, k8, kf_fit]
