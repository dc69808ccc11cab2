/-! The class reads a map -/
def TT (M : kf_M) (cs K S Z I J : List Int32) (it pl : Nat) : Prop := TpIs M K S Z I J it pl ∧ RowIs M 21 400 cs ∧ pl ≤ cs.length
def TJ (M : kf_M) (cs : List Int32) : Prop := ∃ (K S Z I J : List Int32) (it pl : Nat), TpIs M K S Z I J it pl ∧ RowIs M 21 400 cs
theorem TT.j {M : kf_M} {cs K S Z I J : List Int32} {it pl : Nat} (h : TT M cs K S Z I J it pl) : TJ M cs := ⟨K, S, Z, I, J, it, pl, h.1, h.2.1⟩
theorem TT.off {M M' : kf_M} {A : List Nat} {cs K S Z I J : List Int32} {it pl : Nat} (h : TT M cs K S Z I J it pl) (ho : Off A M M') (hA : ∀ a ∈ A, a < 20 ∨ 27 < a) : TT M' cs K S Z I J it pl :=
  ⟨h.1.off ho (fun a ha => by have := hA a ha; simp; omega), h.2.1.off ho (fun q => by have := hA _ q; omega) (fun q => by have := hA _ q; omega), h.2.2⟩
theorem TJ.off {M M' : kf_M} {A : List Nat} {cs : List Int32} (h : TJ M cs) (ho : Off A M M') (hA : ∀ a ∈ A, a < 20 ∨ 27 < a) : TJ M' cs := by
  obtain ⟨K, S, Z, I, J, it, pl, h, hr⟩ := h
  exact ⟨K, S, Z, I, J, it, pl, h.off ho (fun a ha => by have := hA a ha; simp; omega), hr.off ho (fun q => by have := hA _ q; omega) (fun q => by have := hA _ q; omega)⟩
def A20 : List Nat := [20, 23, 24, 25, 26, 27]
theorem TpIs.row {M M' : kf_M} {A : List Nat} {cs : List Int32} (h : RowIs M 21 400 cs) (ho : Off A M M') (hA : ∀ a ∈ A, a ∈ A20) : RowIs M' 21 400 cs := h.off ho (fun w => by have := hA _ w; revert this; decide) (fun w => by have := hA _ w; revert this; decide)
section CPARSE
variable {M : kf_M} {cs K S Z I J : List Int32} {it pl nm : Nat}
theorem t78 (hb : isB cs) (h : TT M cs K S Z I J it pl) : ∃ M', kf_cl 78 [.ref 20] M = some (some (.int (nbV cs pl)), M') ∧ TT M' cs K S Z I J it (nbP cs pl) ∧ Off [20] M M' := by
  obtain ⟨M', k, r, rr, o⟩ := c78' h.1 h.2.1 h.2.2
  exact ⟨M', k, ⟨r, rr, nbP_le h.2.2⟩, o⟩
theorem t82y {low n q9 : Nat} (hb : isB cs) (h : TT M cs K S Z I J it pl) (hl : low < 32) (hq : pln cs low pl = some (n, q9)) : ∃ M', kf_cl 82 [.ref 20, .int (nI low)] M = some (some (.int (nI n)), M') ∧ TT M' cs K S Z I J it q9 ∧ Off [20] M M' := by
  obtain ⟨M', k, r, rr, o⟩ := c82 (low := nI low) h.1 h.2.1 h.2.2
  have hk := pln_ok hq h.2.2
  rcases rs_c hb h.2.2 hl with ⟨n2, s2, e1, e2, e3⟩ | ⟨e1, e2⟩
  · rw [hq] at e1
    cases e1
    rw [e2] at k
    rw [e3] at r
    exact ⟨M', k, ⟨r, rr, hk.2.1⟩, o⟩
  · rw [hq] at e1
    cases e1
theorem t82n {low : Nat} (hb : isB cs) (h : TT M cs K S Z I J it pl) (hl : low < 32) (hq : pln cs low pl = none) : ∃ M', kf_cl 82 [.ref 20, .int (nI low)] M = some (some (.int (-1)), M') ∧ (∃ p9, TT M' cs K S Z I J it p9) ∧ Off [20] M M' := by
  obtain ⟨M', k, r, rr, o⟩ := c82 (low := nI low) h.1 h.2.1 h.2.2
  rcases rs_c hb h.2.2 hl with ⟨n2, s2, e1, e2, e3⟩ | ⟨e1, e2⟩
  · rw [hq] at e1
    cases e1
  · rw [e2] at k
    exact ⟨M', k, ⟨_, r, rr, rsP_le h.2.2⟩, o⟩
theorem t83y {n kd : Nat} (h : TT M cs K S Z I J it pl) (hn : nm < 24) (hk : pl + n ≤ cs.length) : ∃ M', kf_cl 83 [.ref 20, .int (nI nm), .int (nI kd), .int (nI n)] M = some (some (.int 1), M') ∧ TT M' cs (K.set nm (nI kd)) (S.set nm (nI pl)) (Z.set nm (nI n)) I J it (pl + n) ∧ Off A20 M M' := by
  have hle := h.2.1.le
  obtain ⟨M1, k1, r1, rr1, o1⟩ := c84y (n := n) h.1 h.2.1 hk
  have hn1 : ¬ nI n = -1 := fun z => by
    have h1 : uw (nI n) = n := uw_nI (by omega)
    rw [z] at h1
    have h2 : uw (-1) = 4294967295 := rfl
    omega
  obtain ⟨M2, k2, r2, o2⟩ := c80 (kd := nI kd) (st := nI pl) (sz := nI n) r1 hn hn1
  have g := gO_of h.1.1
  have rc := h.1.rc
  have rc1 := r1.rc
  have z1 : ¬ (1 : Int32) = 0 := by decide
  refine ⟨M2, ?_, ⟨r2, TpIs.row rr1 o2 (by decide), hk⟩, (o1.wk (by decide)).tr (o2.wk (by decide))⟩
  simp only [cl_83, e83_0, e83_1, e83_4, e83_6, e83_7, e83_8, e83_11, e83_14, e83_15, e83_16, e83_17, e83_19, e83_20, e83_23, e83_26, e83_27, e83_30, e83_31, ow_83, Int32.reduceOfInt, Int32.reduceOfNat, Int32.reduceToNatClampNeg, Int32.reduceLT, Int32.reduceLE, Int32.reduceAdd, Int32.reduceSub, Int32.reduceMul, Int64.reduceOfNat, Int64.reduceOfInt, Nat.reduceLeDiff, Nat.reduceLT, Nat.reduceEqDiff, Nat.reduceSub, cs_0, cs_1, cs_2, cs_3, cs_4, cs_5, cs_6, cs_7, cs_8, or_false, false_or, not_false_eq_true, and_true, true_and, if_true, if_false, List.length_cons, List.length_nil, List.getElem?_cons_succ, List.getElem?_cons_zero, List.set_cons_succ, List.set_cons_zero, reduceIte, d_G, d_R, s_aload, s_aload_n, s_iload, s_iload_n, s_lload, s_lload_n, s_istore, s_istore_n, s_astore, s_astoreN, s_astore_n, s_astore_nN, s_lstore, s_lstore_n, s_iinc, s_iconst, s_bipush, s_sipush, s_lconst, s_ldc2_w, s_aconst_null, s_dupA, s_dupI, s_dup2, s_iadd, s_isub, s_imul, s_iand, s_ior, s_ixor, s_ishl, s_ishr, s_iushr, s_ineg, s_idiv, s_irem, s_ladd, s_lsub, s_lmul, s_land, s_lor, s_lxor, s_ldiv, s_lshl, s_lshr, s_lushr, s_i2l, s_l2i, s_lcmp, s_goto, s_ieq, s_ine, s_ilt, s_ige, s_igt, s_ile, s_zeq, s_zne, s_zlt, s_zge, s_zgt, s_zle, s_ifnull, s_ifnullN, s_ifnonnull, s_ifnonnullN, s_tableswitch, s_lookupswitch, s_getfield, s_putfield, s_getstatic, s_iaload, s_laload, s_baload, s_aaload, s_iastore, s_lastore, s_bastore, s_aastore, s_arraylength, s_newI, s_newJ, s_newZ, s_anewarray, s_new, s_copy, s_max, s_min, s_invokestatic, s_objinit, s_invokespecial, kf_isr_r, s_invokevirtual, s_ireturn, s_lreturn, s_areturn, s_areturnN, s_return, lI_0, lI_s, lJ_0, lJ_s, lA_0, lA_0N, lA_s, lS1_0, lS1_1, lS1_2, lS2_0, lS2_1, lS2_2, lK_n, lK_i, lK_j, lK_a, lK_N, d_C', kf_w_0, kf_w_i, kf_w_a, kf_w_n, kf_w_j, c_0, c_1, c_2, c_3, c_4, c_5, c_6, tl_0, tl_1, Option.bind_some, Option.bind_none, Option.map_some, Nat.reduceAdd, Nat.reduceMul, Nat.reduceDiv, Nat.reduceMod, Int.reduceToNat, Fin.val_zero, Fin.isValue, Fin.val_one, Fin.val_two, fv_0, fv_1, fv_2, fv_3, fw_0, fw_1, d_ite, true_or, or_true, and_false, false_and, or_self, and_self, ow_84, ow_80, g, rc, rc1, k1, k2, z1]
theorem t83n {kd : Nat} {v : Int32} (h : TT M cs K S Z I J it pl) (hv : v < 0 ∨ ¬ v ≤ nI (cs.length - pl)) : kf_cl 83 [.ref 20, .int (nI nm), .int (nI kd), .int v] M = some (some (.int 0), M) := by
  have k1 := c84n h.1 h.2.1 h.2.2 hv
  have g := gO_of h.1.1
  have rc := h.1.rc
  simp only [cl_83, e83_0, e83_1, e83_4, e83_6, e83_7, e83_8, e83_11, e83_14, e83_15, e83_16, e83_17, e83_19, e83_20, e83_23, e83_26, e83_27, e83_30, e83_31, ow_83, Int32.reduceOfInt, Int32.reduceOfNat, Int32.reduceToNatClampNeg, Int32.reduceLT, Int32.reduceLE, Int32.reduceAdd, Int32.reduceSub, Int32.reduceMul, Int64.reduceOfNat, Int64.reduceOfInt, Nat.reduceLeDiff, Nat.reduceLT, Nat.reduceEqDiff, Nat.reduceSub, cs_0, cs_1, cs_2, cs_3, cs_4, cs_5, cs_6, cs_7, cs_8, or_false, false_or, not_false_eq_true, and_true, true_and, if_true, if_false, List.length_cons, List.length_nil, List.getElem?_cons_succ, List.getElem?_cons_zero, List.set_cons_succ, List.set_cons_zero, reduceIte, d_G, d_R, s_aload, s_aload_n, s_iload, s_iload_n, s_lload, s_lload_n, s_istore, s_istore_n, s_astore, s_astoreN, s_astore_n, s_astore_nN, s_lstore, s_lstore_n, s_iinc, s_iconst, s_bipush, s_sipush, s_lconst, s_ldc2_w, s_aconst_null, s_dupA, s_dupI, s_dup2, s_iadd, s_isub, s_imul, s_iand, s_ior, s_ixor, s_ishl, s_ishr, s_iushr, s_ineg, s_idiv, s_irem, s_ladd, s_lsub, s_lmul, s_land, s_lor, s_lxor, s_ldiv, s_lshl, s_lshr, s_lushr, s_i2l, s_l2i, s_lcmp, s_goto, s_ieq, s_ine, s_ilt, s_ige, s_igt, s_ile, s_zeq, s_zne, s_zlt, s_zge, s_zgt, s_zle, s_ifnull, s_ifnullN, s_ifnonnull, s_ifnonnullN, s_tableswitch, s_lookupswitch, s_getfield, s_putfield, s_getstatic, s_iaload, s_laload, s_baload, s_aaload, s_iastore, s_lastore, s_bastore, s_aastore, s_arraylength, s_newI, s_newJ, s_newZ, s_anewarray, s_new, s_copy, s_max, s_min, s_invokestatic, s_objinit, s_invokespecial, kf_isr_r, s_invokevirtual, s_ireturn, s_lreturn, s_areturn, s_areturnN, s_return, lI_0, lI_s, lJ_0, lJ_s, lA_0, lA_0N, lA_s, lS1_0, lS1_1, lS1_2, lS2_0, lS2_1, lS2_2, lK_n, lK_i, lK_j, lK_a, lK_N, d_C', kf_w_0, kf_w_i, kf_w_a, kf_w_n, kf_w_j, c_0, c_1, c_2, c_3, c_4, c_5, c_6, tl_0, tl_1, Option.bind_some, Option.bind_none, Option.map_some, Nat.reduceAdd, Nat.reduceMul, Nat.reduceDiv, Nat.reduceMod, Int.reduceToNat, Fin.val_zero, Fin.isValue, Fin.val_one, Fin.val_two, fv_0, fv_1, fv_2, fv_3, fw_0, fw_1, d_ite, true_or, or_true, and_false, false_and, or_self, and_self, ow_84, g, rc, k1]
def ItR (I J : List Int32) (f : Nat) (its : List (Nat × Nat)) : Prop := ∀ (k : Nat) (e : Nat × Nat), its[k]? = some e → I.getD (f + k) 0 = nI e.1 ∧ J.getD (f + k) 0 = nI e.2
theorem TpIs.itm (h : TpIs M K S Z I J it pl) {x y : Int32} (hi : it < 225) : ∃ M', M' = ((M.set 26 (oI (I.set it x))).set 27 (oI (J.set it y))).set 20 (oO 9 [.ref 21, .ref 23, .ref 24, .ref 25, .ref 26, .ref 27, .int (nI (it + 1)), .int (nI pl)]) ∧ TpIs M' K S Z (I.set it x) (J.set it y) (it + 1) pl ∧ Off A20 M M' := by
  obtain ⟨b1, b2, b3, b4, b5, b6, w1, w2, w3, w4, w5, w6, w7⟩ := h
  refine ⟨_, rfl, ⟨?_, ?_, ?_, ?_, ?_, ?_, w1, w2, w3, by rw [List.length_set]; exact w4, by rw [List.length_set]; exact w5, by omega, w7⟩, ((Off.set (by decide)).tr (Off.set (by decide))).tr (Off.set (by decide))⟩
  · rw [m_self (by rw [List.length_set, List.length_set]; exact m_lt b1)]
  · rw [m_ne (by decide), m_ne (by decide), m_ne (by decide)]; exact b2
  · rw [m_ne (by decide), m_ne (by decide), m_ne (by decide)]; exact b3
  · rw [m_ne (by decide), m_ne (by decide), m_ne (by decide)]; exact b4
  · rw [m_ne (by decide), m_ne (by decide), m_self (m_lt b5)]
  · rw [m_ne (by decide), m_self (by rw [List.length_set]; exact m_lt b6)]
end CPARSE
theorem sh5 {b : Nat} (h : b < 256) : nI b >>> ((5 : Int32) &&& 31) = nI (b / 32) := pk_shrN (by omega) ((5 : Int32) &&& 31) 5 (by decide)
theorem an31 {b : Nat} (h : b < 256) : nI b &&& 31 = nI (b % 32) := pk_andN (by omega) (m := 31) 5 rfl
theorem t85l {cs K S Z : List Int32} {nm rows first : Nat} (hb : isB cs) (hr : rows ≤ 15) : ∀ (m i : Nat) (M : kf_M) (I J : List Int32) (it pl : Nat) (u5 u6 u7 : Option Value), i + m = rows → TT M cs K S Z I J it pl → it + m ≤ 225 → (∀ its p9, pit cs m pl = some (its, p9) → ∃ (M' : kf_M) (I' J' : List Int32) (v5 v6 v7 : Option Value), kf_ev 85 16 [some (.ref 20), some (.int (nI nm)), some (.int (nI rows)), some (.int (nI first)), some (.int (nI i)), u5, u6, u7] [] M = kf_ev 85 118 [some (.ref 20), some (.int (nI nm)), some (.int (nI rows)), some (.int (nI first)), some (.int (nI rows)), v5, v6, v7] [] M' ∧ TT M' cs K S Z I' J' (it + m) p9 ∧ (∀ k, k < it → I'.getD k 0 = I.getD k 0 ∧ J'.getD k 0 = J.getD k 0) ∧ ItR I' J' it its ∧ Off A20 M M') ∧ (pit cs m pl = none → ∃ (M' : kf_M), kf_ev 85 16 [some (.ref 20), some (.int (nI nm)), some (.int (nI rows)), some (.int (nI first)), some (.int (nI i)), u5, u6, u7] [] M = some (some (.int 0), M') ∧ TJ M' cs ∧ Off A20 M M') := by
  intro m
  have z1 : ¬ (1 : Int32) = 0 := by decide
  induction m with
  | zero =>
    intro i M I J it pl u5 u6 u7 hi h hl
    have hi : i = rows := by omega
    subst hi
    have e : nI i ≤ nI i := nI_le (Nat.le_refl _) (by omega)
    refine ⟨fun its p9 hq => ?_, fun hq => by cases hq⟩
    cases hq
    refine ⟨M, I, J, u5, u6, u7, (e85_16 _ _ _).trans ?_, h, fun k _ => ⟨rfl, rfl⟩, (fun k e he => by simp at he), Off.rf⟩
    simp only [cl_85, e85_0, e85_1, e85_3, e85_6, e85_7, e85_8, e85_9, e85_12, e85_13, e85_14, e85_18, e85_19, e85_22, e85_23, e85_26, e85_28, e85_30, e85_31, e85_32, e85_33, e85_36, e85_37, e85_39, e85_41, e85_42, e85_45, e85_48, e85_49, e85_51, e85_52, e85_55, e85_57, e85_58, e85_60, e85_63, e85_66, e85_67, e85_70, e85_71, e85_74, e85_75, e85_78, e85_79, e85_80, e85_81, e85_84, e85_85, e85_88, e85_90, e85_91, e85_92, e85_95, e85_96, e85_99, e85_101, e85_102, e85_103, e85_104, e85_107, e85_108, e85_109, e85_112, e85_115, e85_119, e85_120, e85_121, e85_122, e85_123, e85_126, ow_85, Int32.reduceOfInt, Int32.reduceOfNat, Int32.reduceToNatClampNeg, Int32.reduceLT, Int32.reduceLE, Int32.reduceAdd, Int32.reduceSub, Int32.reduceMul, Int64.reduceOfNat, Int64.reduceOfInt, Nat.reduceLeDiff, Nat.reduceLT, Nat.reduceEqDiff, Nat.reduceSub, cs_0, cs_1, cs_2, cs_3, cs_4, cs_5, cs_6, cs_7, cs_8, or_false, false_or, not_false_eq_true, and_true, true_and, if_true, if_false, List.length_cons, List.length_nil, List.getElem?_cons_succ, List.getElem?_cons_zero, List.set_cons_succ, List.set_cons_zero, reduceIte, d_G, d_R, s_aload, s_aload_n, s_iload, s_iload_n, s_lload, s_lload_n, s_istore, s_istore_n, s_astore, s_astoreN, s_astore_n, s_astore_nN, s_lstore, s_lstore_n, s_iinc, s_iconst, s_bipush, s_sipush, s_lconst, s_ldc2_w, s_aconst_null, s_dupA, s_dupI, s_dup2, s_iadd, s_isub, s_imul, s_iand, s_ior, s_ixor, s_ishl, s_ishr, s_iushr, s_ineg, s_idiv, s_irem, s_ladd, s_lsub, s_lmul, s_land, s_lor, s_lxor, s_ldiv, s_lshl, s_lshr, s_lushr, s_i2l, s_l2i, s_lcmp, s_goto, s_ieq, s_ine, s_ilt, s_ige, s_igt, s_ile, s_zeq, s_zne, s_zlt, s_zge, s_zgt, s_zle, s_ifnull, s_ifnullN, s_ifnonnull, s_ifnonnullN, s_tableswitch, s_lookupswitch, s_getfield, s_putfield, s_getstatic, s_iaload, s_laload, s_baload, s_aaload, s_iastore, s_lastore, s_bastore, s_aastore, s_arraylength, s_newI, s_newJ, s_newZ, s_anewarray, s_new, s_copy, s_max, s_min, s_invokestatic, s_objinit, s_invokespecial, kf_isr_r, s_invokevirtual, s_ireturn, s_lreturn, s_areturn, s_areturnN, s_return, lI_0, lI_s, lJ_0, lJ_s, lA_0, lA_0N, lA_s, lS1_0, lS1_1, lS1_2, lS2_0, lS2_1, lS2_2, lK_n, lK_i, lK_j, lK_a, lK_N, d_C', kf_w_0, kf_w_i, kf_w_a, kf_w_n, kf_w_j, c_0, c_1, c_2, c_3, c_4, c_5, c_6, tl_0, tl_1, Option.bind_some, Option.bind_none, Option.map_some, Nat.reduceAdd, Nat.reduceMul, Nat.reduceDiv, Nat.reduceMod, Int.reduceToNat, Fin.val_zero, Fin.isValue, Fin.val_one, Fin.val_two, fv_0, fv_1, fv_2, fv_3, fw_0, fw_1, d_ite, true_or, or_true, and_false, false_and, or_self, and_self, e]
  | succ m ih =>
    intro i M I J it pl u5 u6 u7 hi h hl
    have hle := h.2.1.le
    have e : ¬ nI rows ≤ nI i := nI_ge (by omega) (by omega)
    obtain ⟨M1, k1, h1, o1⟩ := t78 hb h
    have rc := h.1.rc
    have rc1 := h1.1.rc
    have g1 := gO_of h1.1.1
    have o1' : Off A20 M M1 := o1.wk (by decide)
    have bad : ∀ (M2 : kf_M) (v5 v7 : Option Value) (p8 : Nat), TT M2 cs K S Z I J it p8 → kf_ev 85 51 [some (.ref 20), some (.int (nI nm)), some (.int (nI rows)), some (.int (nI first)), some (.int (nI i)), v5, some (.int (-1)), v7] [] M2 = some (some (.int 0), M2) := by
      intro M2 v5 v7 p8 h2
      have k2 := c84n (v := -1) h2.1 h2.2.1 h2.2.2 (Or.inl (by decide))
      have g2 := gO_of h2.1.1
      have rc2 := h2.1.rc
      refine (e85_51 _ _ _).trans ?_
      simp only [cl_85, e85_0, e85_1, e85_3, e85_6, e85_7, e85_8, e85_9, e85_12, e85_13, e85_14, e85_18, e85_19, e85_22, e85_23, e85_26, e85_28, e85_30, e85_31, e85_32, e85_33, e85_36, e85_37, e85_39, e85_41, e85_42, e85_45, e85_48, e85_49, e85_52, e85_55, e85_57, e85_58, e85_60, e85_63, e85_66, e85_67, e85_70, e85_71, e85_74, e85_75, e85_78, e85_79, e85_80, e85_81, e85_84, e85_85, e85_88, e85_90, e85_91, e85_92, e85_95, e85_96, e85_99, e85_101, e85_102, e85_103, e85_104, e85_107, e85_108, e85_109, e85_112, e85_115, e85_119, e85_120, e85_121, e85_122, e85_123, e85_126, ow_85, Int32.reduceOfInt, Int32.reduceOfNat, Int32.reduceToNatClampNeg, Int32.reduceLT, Int32.reduceLE, Int32.reduceAdd, Int32.reduceSub, Int32.reduceMul, Int64.reduceOfNat, Int64.reduceOfInt, Nat.reduceLeDiff, Nat.reduceLT, Nat.reduceEqDiff, Nat.reduceSub, cs_0, cs_1, cs_2, cs_3, cs_4, cs_5, cs_6, cs_7, cs_8, or_false, false_or, not_false_eq_true, and_true, true_and, if_true, if_false, List.length_cons, List.length_nil, List.getElem?_cons_succ, List.getElem?_cons_zero, List.set_cons_succ, List.set_cons_zero, reduceIte, d_G, d_R, s_aload, s_aload_n, s_iload, s_iload_n, s_lload, s_lload_n, s_istore, s_istore_n, s_astore, s_astoreN, s_astore_n, s_astore_nN, s_lstore, s_lstore_n, s_iinc, s_iconst, s_bipush, s_sipush, s_lconst, s_ldc2_w, s_aconst_null, s_dupA, s_dupI, s_dup2, s_iadd, s_isub, s_imul, s_iand, s_ior, s_ixor, s_ishl, s_ishr, s_iushr, s_ineg, s_idiv, s_irem, s_ladd, s_lsub, s_lmul, s_land, s_lor, s_lxor, s_ldiv, s_lshl, s_lshr, s_lushr, s_i2l, s_l2i, s_lcmp, s_goto, s_ieq, s_ine, s_ilt, s_ige, s_igt, s_ile, s_zeq, s_zne, s_zlt, s_zge, s_zgt, s_zle, s_ifnull, s_ifnullN, s_ifnonnull, s_ifnonnullN, s_tableswitch, s_lookupswitch, s_getfield, s_putfield, s_getstatic, s_iaload, s_laload, s_baload, s_aaload, s_iastore, s_lastore, s_bastore, s_aastore, s_arraylength, s_newI, s_newJ, s_newZ, s_anewarray, s_new, s_copy, s_max, s_min, s_invokestatic, s_objinit, s_invokespecial, kf_isr_r, s_invokevirtual, s_ireturn, s_lreturn, s_areturn, s_areturnN, s_return, lI_0, lI_s, lJ_0, lJ_s, lA_0, lA_0N, lA_s, lS1_0, lS1_1, lS1_2, lS2_0, lS2_1, lS2_2, lK_n, lK_i, lK_j, lK_a, lK_N, d_C', kf_w_0, kf_w_i, kf_w_a, kf_w_n, kf_w_j, c_0, c_1, c_2, c_3, c_4, c_5, c_6, tl_0, tl_1, Option.bind_some, Option.bind_none, Option.map_some, Nat.reduceAdd, Nat.reduceMul, Nat.reduceDiv, Nat.reduceMod, Int.reduceToNat, Fin.val_zero, Fin.isValue, Fin.val_one, Fin.val_two, fv_0, fv_1, fv_2, fv_3, fw_0, fw_1, d_ite, true_or, or_true, and_false, false_and, or_self, and_self, ow_84, g2, rc2, k2]
    rcases nb_c hb h.2.2 with ⟨b1, b2, b3, b4⟩ | ⟨b1, b2, b3, b4⟩
    · rw [b3] at k1
      rw [b4] at h1
      have s5 := sh5 b1
      have a31 := an31 b1
      by_cases c : 64 ≤ byn cs pl ∧ byn cs pl < 96
      · have e2 : nI (byn cs pl / 32) = 2 := by rw [show byn cs pl / 32 = 2 by omega]; rfl
        have e3 : byn cs pl % 32 = byn cs pl - 64 := by omega
        rw [e3] at a31
        cases hq : pln cs (byn cs pl - 64) (pl + 1) with
        | none =>
          obtain ⟨M2, k2, ⟨p8, h2⟩, o2⟩ := t82n hb h1 (by omega) hq
          have bd := bad M2 (some (.int (nI (byn cs pl)))) u7 p8 h2
          refine ⟨fun its p9 hx => ?_, fun _ => ⟨M2, (e85_16 _ _ _).trans ?_, h2.j, o1'.tr (o2.wk (by decide))⟩⟩
          · exfalso
            simp only [pit, if_pos c, hq, Option.bind_none] at hx
            cases hx
          · simp only [cl_85, e85_0, e85_1, e85_3, e85_6, e85_7, e85_8, e85_9, e85_12, e85_13, e85_14, e85_18, e85_19, e85_22, e85_23, e85_26, e85_28, e85_30, e85_31, e85_32, e85_33, e85_36, e85_37, e85_39, e85_41, e85_42, e85_45, e85_48, e85_49, e85_52, e85_55, e85_57, e85_58, e85_60, e85_63, e85_66, e85_67, e85_70, e85_71, e85_74, e85_75, e85_78, e85_79, e85_80, e85_81, e85_84, e85_85, e85_88, e85_90, e85_91, e85_92, e85_95, e85_96, e85_99, e85_101, e85_102, e85_103, e85_104, e85_107, e85_108, e85_109, e85_112, e85_115, e85_119, e85_120, e85_121, e85_122, e85_123, e85_126, ow_85, Int32.reduceOfInt, Int32.reduceOfNat, Int32.reduceToNatClampNeg, Int32.reduceLT, Int32.reduceLE, Int32.reduceAdd, Int32.reduceSub, Int32.reduceMul, Int64.reduceOfNat, Int64.reduceOfInt, Nat.reduceLeDiff, Nat.reduceLT, Nat.reduceEqDiff, Nat.reduceSub, cs_0, cs_1, cs_2, cs_3, cs_4, cs_5, cs_6, cs_7, cs_8, or_false, false_or, not_false_eq_true, and_true, true_and, if_true, if_false, List.length_cons, List.length_nil, List.getElem?_cons_succ, List.getElem?_cons_zero, List.set_cons_succ, List.set_cons_zero, reduceIte, d_G, d_R, s_aload, s_aload_n, s_iload, s_iload_n, s_lload, s_lload_n, s_istore, s_istore_n, s_astore, s_astoreN, s_astore_n, s_astore_nN, s_lstore, s_lstore_n, s_iinc, s_iconst, s_bipush, s_sipush, s_lconst, s_ldc2_w, s_aconst_null, s_dupA, s_dupI, s_dup2, s_iadd, s_isub, s_imul, s_iand, s_ior, s_ixor, s_ishl, s_ishr, s_iushr, s_ineg, s_idiv, s_irem, s_ladd, s_lsub, s_lmul, s_land, s_lor, s_lxor, s_ldiv, s_lshl, s_lshr, s_lushr, s_i2l, s_l2i, s_lcmp, s_goto, s_ieq, s_ine, s_ilt, s_ige, s_igt, s_ile, s_zeq, s_zne, s_zlt, s_zge, s_zgt, s_zle, s_ifnull, s_ifnullN, s_ifnonnull, s_ifnonnullN, s_tableswitch, s_lookupswitch, s_getfield, s_putfield, s_getstatic, s_iaload, s_laload, s_baload, s_aaload, s_iastore, s_lastore, s_bastore, s_aastore, s_arraylength, s_newI, s_newJ, s_newZ, s_anewarray, s_new, s_copy, s_max, s_min, s_invokestatic, s_objinit, s_invokespecial, kf_isr_r, s_invokevirtual, s_ireturn, s_lreturn, s_areturn, s_areturnN, s_return, lI_0, lI_s, lJ_0, lJ_s, lA_0, lA_0N, lA_s, lS1_0, lS1_1, lS1_2, lS2_0, lS2_1, lS2_2, lK_n, lK_i, lK_j, lK_a, lK_N, d_C', kf_w_0, kf_w_i, kf_w_a, kf_w_n, kf_w_j, c_0, c_1, c_2, c_3, c_4, c_5, c_6, tl_0, tl_1, Option.bind_some, Option.bind_none, Option.map_some, Nat.reduceAdd, Nat.reduceMul, Nat.reduceDiv, Nat.reduceMod, Int.reduceToNat, Fin.val_zero, Fin.isValue, Fin.val_one, Fin.val_two, fv_0, fv_1, fv_2, fv_3, fw_0, fw_1, d_ite, true_or, or_true, and_false, false_and, or_self, and_self, ow_78, ow_82, e, rc, k1, s5, e2, a31, rc1, k2, bd]
        | some r =>
          obtain ⟨z, s⟩ := r
          have hk := pln_ok hq h1.2.2
          obtain ⟨M2, k2, h2, o2⟩ := t82y hb h1 (by omega) hq
          have g2 := gO_of h2.1.1
          have rc2 := h2.1.rc
          by_cases c2 : s + z ≤ cs.length
          · obtain ⟨M3, k3, r3, rr3, o3⟩ := c84y (n := z) h2.1 h2.2.1 c2
            have g3 := gO_of r3.1
            have q26 := r3.2.2.2.2.1
            have q27 := r3.2.2.2.2.2.1
            have i225 := r3.2.2.2.2.2.2.2.2.2.1
            have j225 := r3.2.2.2.2.2.2.2.2.2.2.1
            obtain ⟨M4, e4, r4, o4⟩ := r3.itm (x := nI s) (y := nI z) (by omega)
            have h4 : TT M4 cs K S Z (I.set it (nI s)) (J.set it (nI z)) (it + 1) (s + z) := ⟨r4, TpIs.row rr3 o4 (by decide), c2⟩
            obtain ⟨ihy, ihn⟩ := ih (i + 1) M4 _ _ (it + 1) (s + z) (some (.int (nI (byn cs pl)))) (some (.int (nI z))) (some (.int (nI s))) (by omega) h4 (by omega)
            have o14 : Off A20 M M4 := ((o1'.tr (o2.wk (by decide))).tr (o3.wk (by decide))).tr o4
            have step : kf_ev 85 16 [some (.ref 20), some (.int (nI nm)), some (.int (nI rows)), some (.int (nI first)), some (.int (nI i)), u5, u6, u7] [] M = kf_ev 85 16 [some (.ref 20), some (.int (nI nm)), some (.int (nI rows)), some (.int (nI first)), some (.int (nI (i + 1))), some (.int (nI (byn cs pl))), some (.int (nI z)), some (.int (nI s))] [] M4 := by
              have p0 : ¬ nI it < 0 := nI_pos (by omega)
              have p1 : (nI it).toNatClampNeg = it := nI_clamp (by omega)
              have l1 : nI it < nI 225 := nI_lt (by omega) (by omega)
              have n26 : ¬ I.length ≤ it := by omega
              have n27 : ¬ J.length ≤ it := by omega
              have n225 : ¬ 225 ≤ it := by omega
              have m0 : ¬ 26 < 19 := by decide
              have m1 : ¬ 27 < 19 := by decide
              have gi := gI_of q26
              have gj : gI (M3.set 26 (oI (I.set it (nI s)))) 27 = some J := by rw [gI_ne (by decide)]; exact gI_of q27
              have g3a : gO (M3.set 26 (oI (I.set it (nI s)))) 20 = some (9, [.ref 21, .ref 23, .ref 24, .ref 25, .ref 26, .ref 27, .int (nI it), .int (nI (s + z))]) := by rw [gO_ne (by decide)]; exact g3
              have g3b : gO ((M3.set 26 (oI (I.set it (nI s)))).set 27 (oI (J.set it (nI z)))) 20 = some (9, [.ref 21, .ref 23, .ref 24, .ref 25, .ref 26, .ref 27, .int (nI it), .int (nI (s + z))]) := by rw [gO_ne (by decide)]; exact g3a
              refine (e85_16 _ _ _).trans ?_
              simp only [cl_85, e85_0, e85_1, e85_3, e85_6, e85_7, e85_8, e85_9, e85_12, e85_13, e85_14, e85_18, e85_19, e85_22, e85_23, e85_26, e85_28, e85_30, e85_31, e85_32, e85_33, e85_36, e85_37, e85_39, e85_41, e85_42, e85_45, e85_48, e85_49, e85_51, e85_52, e85_55, e85_57, e85_58, e85_60, e85_63, e85_66, e85_67, e85_70, e85_71, e85_74, e85_75, e85_78, e85_79, e85_80, e85_81, e85_84, e85_85, e85_88, e85_90, e85_91, e85_92, e85_95, e85_96, e85_99, e85_101, e85_102, e85_103, e85_104, e85_107, e85_108, e85_109, e85_112, e85_115, e85_119, e85_120, e85_121, e85_122, e85_123, e85_126, ow_85, Int32.reduceOfInt, Int32.reduceOfNat, Int32.reduceToNatClampNeg, Int32.reduceLT, Int32.reduceLE, Int32.reduceAdd, Int32.reduceSub, Int32.reduceMul, Int64.reduceOfNat, Int64.reduceOfInt, Nat.reduceLeDiff, Nat.reduceLT, Nat.reduceEqDiff, Nat.reduceSub, cs_0, cs_1, cs_2, cs_3, cs_4, cs_5, cs_6, cs_7, cs_8, or_false, false_or, not_false_eq_true, and_true, true_and, if_true, if_false, List.length_cons, List.length_nil, List.getElem?_cons_succ, List.getElem?_cons_zero, List.set_cons_succ, List.set_cons_zero, reduceIte, d_G, d_R, s_aload, s_aload_n, s_iload, s_iload_n, s_lload, s_lload_n, s_istore, s_istore_n, s_astore, s_astoreN, s_astore_n, s_astore_nN, s_lstore, s_lstore_n, s_iinc, s_iconst, s_bipush, s_sipush, s_lconst, s_ldc2_w, s_aconst_null, s_dupA, s_dupI, s_dup2, s_iadd, s_isub, s_imul, s_iand, s_ior, s_ixor, s_ishl, s_ishr, s_iushr, s_ineg, s_idiv, s_irem, s_ladd, s_lsub, s_lmul, s_land, s_lor, s_lxor, s_ldiv, s_lshl, s_lshr, s_lushr, s_i2l, s_l2i, s_lcmp, s_goto, s_ieq, s_ine, s_ilt, s_ige, s_igt, s_ile, s_zeq, s_zne, s_zlt, s_zge, s_zgt, s_zle, s_ifnull, s_ifnullN, s_ifnonnull, s_ifnonnullN, s_tableswitch, s_lookupswitch, s_getfield, s_putfield, s_getstatic, s_iaload, s_laload, s_baload, s_aaload, s_iastore, s_lastore, s_bastore, s_aastore, s_arraylength, s_newI, s_newJ, s_newZ, s_anewarray, s_new, s_copy, s_max, s_min, s_invokestatic, s_objinit, s_invokespecial, kf_isr_r, s_invokevirtual, s_ireturn, s_lreturn, s_areturn, s_areturnN, s_return, lI_0, lI_s, lJ_0, lJ_s, lA_0, lA_0N, lA_s, lS1_0, lS1_1, lS1_2, lS2_0, lS2_1, lS2_2, lK_n, lK_i, lK_j, lK_a, lK_N, d_C', kf_w_0, kf_w_i, kf_w_a, kf_w_n, kf_w_j, c_0, c_1, c_2, c_3, c_4, c_5, c_6, tl_0, tl_1, Option.bind_some, Option.bind_none, Option.map_some, Nat.reduceAdd, Nat.reduceMul, Nat.reduceDiv, Nat.reduceMod, Int.reduceToNat, Fin.val_zero, Fin.isValue, Fin.val_one, Fin.val_two, fv_0, fv_1, fv_2, fv_3, fw_0, fw_1, d_ite, true_or, or_true, and_false, false_and, or_self, and_self, ow_78, ow_82, ow_84, e, rc, k1, s5, e2, a31, rc1, k2, g2, rc2, k3, z1, g3, q26, oLen_I, i225, toI, l1, gi, gj, g3a, g3b, p0, p1, n26, n27, n225, m0, m1, kf_NS, kf_fit, nI_1, ← e4]
            refine ⟨fun its p9 hx => ?_, fun hx => ?_⟩
            · simp only [pit, if_pos c, hq, Option.bind_some, if_pos c2] at hx
              cases hq2 : pit cs m (s + z) with
              | none => rw [hq2] at hx; cases hx
              | some t =>
                obtain ⟨ts, s9⟩ := t
                rw [hq2] at hx
                cases hx
                obtain ⟨M5, I5, J5, v5, v6, v7, k5, h5, f5, r5, o5⟩ := ihy ts _ hq2
                refine ⟨M5, I5, J5, v5, v6, v7, step.trans k5, by rw [show it + (m + 1) = it + 1 + m by omega]; exact h5, fun k hk => ?_, fun k e9 he => ?_, o14.tr o5⟩
                · obtain ⟨f1, f2⟩ := f5 k (by omega)
                  rw [f1, f2, gD_ne (by omega), gD_ne (by omega)]
                  exact ⟨rfl, rfl⟩
                · cases k with
                  | zero =>
                    cases he
                    obtain ⟨f1, f2⟩ := f5 it (by omega)
                    rw [Nat.add_zero, f1, f2, gD_self (by omega), gD_self (by omega)]
                    exact ⟨rfl, rfl⟩
                  | succ k =>
                    have := r5 k e9 he
                    rw [show it + (k + 1) = it + 1 + k by omega]
                    exact this
            · simp only [pit, if_pos c, hq, Option.bind_some, if_pos c2] at hx
              cases hq2 : pit cs m (s + z) with
              | none =>
                obtain ⟨M5, k5, h5, o5⟩ := ihn hq2
                exact ⟨M5, step.trans k5, h5, o14.tr o5⟩
              | some t => rw [hq2] at hx; cases hx
          · have k3 := c84n (v := nI z) h2.1 h2.2.1 h2.2.2 (Or.inr (nI_ge (by omega) (by omega)))
            refine ⟨fun its p9 hx => ?_, fun _ => ⟨M2, (e85_16 _ _ _).trans ?_, h2.j, o1'.tr (o2.wk (by decide))⟩⟩
            · exfalso
              simp only [pit, if_pos c, hq, Option.bind_some, if_neg c2] at hx
              cases hx
            · simp only [cl_85, e85_0, e85_1, e85_3, e85_6, e85_7, e85_8, e85_9, e85_12, e85_13, e85_14, e85_18, e85_19, e85_22, e85_23, e85_26, e85_28, e85_30, e85_31, e85_32, e85_33, e85_36, e85_37, e85_39, e85_41, e85_42, e85_45, e85_48, e85_49, e85_51, e85_52, e85_55, e85_57, e85_58, e85_60, e85_63, e85_66, e85_67, e85_70, e85_71, e85_74, e85_75, e85_78, e85_79, e85_80, e85_81, e85_84, e85_85, e85_88, e85_90, e85_91, e85_92, e85_95, e85_96, e85_99, e85_101, e85_102, e85_103, e85_104, e85_107, e85_108, e85_109, e85_112, e85_115, e85_119, e85_120, e85_121, e85_122, e85_123, e85_126, ow_85, Int32.reduceOfInt, Int32.reduceOfNat, Int32.reduceToNatClampNeg, Int32.reduceLT, Int32.reduceLE, Int32.reduceAdd, Int32.reduceSub, Int32.reduceMul, Int64.reduceOfNat, Int64.reduceOfInt, Nat.reduceLeDiff, Nat.reduceLT, Nat.reduceEqDiff, Nat.reduceSub, cs_0, cs_1, cs_2, cs_3, cs_4, cs_5, cs_6, cs_7, cs_8, or_false, false_or, not_false_eq_true, and_true, true_and, if_true, if_false, List.length_cons, List.length_nil, List.getElem?_cons_succ, List.getElem?_cons_zero, List.set_cons_succ, List.set_cons_zero, reduceIte, d_G, d_R, s_aload, s_aload_n, s_iload, s_iload_n, s_lload, s_lload_n, s_istore, s_istore_n, s_astore, s_astoreN, s_astore_n, s_astore_nN, s_lstore, s_lstore_n, s_iinc, s_iconst, s_bipush, s_sipush, s_lconst, s_ldc2_w, s_aconst_null, s_dupA, s_dupI, s_dup2, s_iadd, s_isub, s_imul, s_iand, s_ior, s_ixor, s_ishl, s_ishr, s_iushr, s_ineg, s_idiv, s_irem, s_ladd, s_lsub, s_lmul, s_land, s_lor, s_lxor, s_ldiv, s_lshl, s_lshr, s_lushr, s_i2l, s_l2i, s_lcmp, s_goto, s_ieq, s_ine, s_ilt, s_ige, s_igt, s_ile, s_zeq, s_zne, s_zlt, s_zge, s_zgt, s_zle, s_ifnull, s_ifnullN, s_ifnonnull, s_ifnonnullN, s_tableswitch, s_lookupswitch, s_getfield, s_putfield, s_getstatic, s_iaload, s_laload, s_baload, s_aaload, s_iastore, s_lastore, s_bastore, s_aastore, s_arraylength, s_newI, s_newJ, s_newZ, s_anewarray, s_new, s_copy, s_max, s_min, s_invokestatic, s_objinit, s_invokespecial, kf_isr_r, s_invokevirtual, s_ireturn, s_lreturn, s_areturn, s_areturnN, s_return, lI_0, lI_s, lJ_0, lJ_s, lA_0, lA_0N, lA_s, lS1_0, lS1_1, lS1_2, lS2_0, lS2_1, lS2_2, lK_n, lK_i, lK_j, lK_a, lK_N, d_C', kf_w_0, kf_w_i, kf_w_a, kf_w_n, kf_w_j, c_0, c_1, c_2, c_3, c_4, c_5, c_6, tl_0, tl_1, Option.bind_some, Option.bind_none, Option.map_some, Nat.reduceAdd, Nat.reduceMul, Nat.reduceDiv, Nat.reduceMod, Int.reduceToNat, Fin.val_zero, Fin.isValue, Fin.val_one, Fin.val_two, fv_0, fv_1, fv_2, fv_3, fw_0, fw_1, d_ite, true_or, or_true, and_false, false_and, or_self, and_self, ow_78, ow_82, ow_84, e, rc, k1, s5, e2, a31, rc1, k2, g2, rc2, k3]
      · have e2 : ¬ nI (byn cs pl / 32) = 2 := fun z => by
          have := (nI_eq (b := 2) (by omega) (by omega)).mp z
          omega
        have bd := bad M1 (some (.int (nI (byn cs pl)))) u7 _ h1
        refine ⟨fun its p9 hx => ?_, fun _ => ⟨M1, (e85_16 _ _ _).trans ?_, h1.j, o1'⟩⟩
        · exfalso
          simp only [pit, if_neg c] at hx
          cases hx
        · simp only [cl_85, e85_0, e85_1, e85_3, e85_6, e85_7, e85_8, e85_9, e85_12, e85_13, e85_14, e85_18, e85_19, e85_22, e85_23, e85_26, e85_28, e85_30, e85_31, e85_32, e85_33, e85_36, e85_37, e85_39, e85_41, e85_42, e85_45, e85_48, e85_49, e85_52, e85_55, e85_57, e85_58, e85_60, e85_63, e85_66, e85_67, e85_70, e85_71, e85_74, e85_75, e85_78, e85_79, e85_80, e85_81, e85_84, e85_85, e85_88, e85_90, e85_91, e85_92, e85_95, e85_96, e85_99, e85_101, e85_102, e85_103, e85_104, e85_107, e85_108, e85_109, e85_112, e85_115, e85_119, e85_120, e85_121, e85_122, e85_123, e85_126, ow_85, Int32.reduceOfInt, Int32.reduceOfNat, Int32.reduceToNatClampNeg, Int32.reduceLT, Int32.reduceLE, Int32.reduceAdd, Int32.reduceSub, Int32.reduceMul, Int64.reduceOfNat, Int64.reduceOfInt, Nat.reduceLeDiff, Nat.reduceLT, Nat.reduceEqDiff, Nat.reduceSub, cs_0, cs_1, cs_2, cs_3, cs_4, cs_5, cs_6, cs_7, cs_8, or_false, false_or, not_false_eq_true, and_true, true_and, if_true, if_false, List.length_cons, List.length_nil, List.getElem?_cons_succ, List.getElem?_cons_zero, List.set_cons_succ, List.set_cons_zero, reduceIte, d_G, d_R, s_aload, s_aload_n, s_iload, s_iload_n, s_lload, s_lload_n, s_istore, s_istore_n, s_astore, s_astoreN, s_astore_n, s_astore_nN, s_lstore, s_lstore_n, s_iinc, s_iconst, s_bipush, s_sipush, s_lconst, s_ldc2_w, s_aconst_null, s_dupA, s_dupI, s_dup2, s_iadd, s_isub, s_imul, s_iand, s_ior, s_ixor, s_ishl, s_ishr, s_iushr, s_ineg, s_idiv, s_irem, s_ladd, s_lsub, s_lmul, s_land, s_lor, s_lxor, s_ldiv, s_lshl, s_lshr, s_lushr, s_i2l, s_l2i, s_lcmp, s_goto, s_ieq, s_ine, s_ilt, s_ige, s_igt, s_ile, s_zeq, s_zne, s_zlt, s_zge, s_zgt, s_zle, s_ifnull, s_ifnullN, s_ifnonnull, s_ifnonnullN, s_tableswitch, s_lookupswitch, s_getfield, s_putfield, s_getstatic, s_iaload, s_laload, s_baload, s_aaload, s_iastore, s_lastore, s_bastore, s_aastore, s_arraylength, s_newI, s_newJ, s_newZ, s_anewarray, s_new, s_copy, s_max, s_min, s_invokestatic, s_objinit, s_invokespecial, kf_isr_r, s_invokevirtual, s_ireturn, s_lreturn, s_areturn, s_areturnN, s_return, lI_0, lI_s, lJ_0, lJ_s, lA_0, lA_0N, lA_s, lS1_0, lS1_1, lS1_2, lS2_0, lS2_1, lS2_2, lK_n, lK_i, lK_j, lK_a, lK_N, d_C', kf_w_0, kf_w_i, kf_w_a, kf_w_n, kf_w_j, c_0, c_1, c_2, c_3, c_4, c_5, c_6, tl_0, tl_1, Option.bind_some, Option.bind_none, Option.map_some, Nat.reduceAdd, Nat.reduceMul, Nat.reduceDiv, Nat.reduceMod, Int.reduceToNat, Fin.val_zero, Fin.isValue, Fin.val_one, Fin.val_two, fv_0, fv_1, fv_2, fv_3, fw_0, fw_1, d_ite, true_or, or_true, and_false, false_and, or_self, and_self, ow_78, e, rc, k1, s5, e2, bd]
    · rw [b3] at k1
      rw [b4] at h1
      have e2 : ¬ (-1 : Int32) >>> ((5 : Int32) &&& 31) = 2 := by decide
      have bd := bad M1 (some (.int (-1))) u7 _ h1
      have c : ¬ (64 ≤ byn cs pl ∧ byn cs pl < 96) := by omega
      refine ⟨fun its p9 hx => ?_, fun _ => ⟨M1, (e85_16 _ _ _).trans ?_, h1.j, o1'⟩⟩
      · exfalso
        simp only [pit, if_neg c] at hx
        cases hx
      · simp only [cl_85, e85_0, e85_1, e85_3, e85_6, e85_7, e85_8, e85_9, e85_12, e85_13, e85_14, e85_18, e85_19, e85_22, e85_23, e85_26, e85_28, e85_30, e85_31, e85_32, e85_33, e85_36, e85_37, e85_39, e85_41, e85_42, e85_45, e85_48, e85_49, e85_52, e85_55, e85_57, e85_58, e85_60, e85_63, e85_66, e85_67, e85_70, e85_71, e85_74, e85_75, e85_78, e85_79, e85_80, e85_81, e85_84, e85_85, e85_88, e85_90, e85_91, e85_92, e85_95, e85_96, e85_99, e85_101, e85_102, e85_103, e85_104, e85_107, e85_108, e85_109, e85_112, e85_115, e85_119, e85_120, e85_121, e85_122, e85_123, e85_126, ow_85, Int32.reduceOfInt, Int32.reduceOfNat, Int32.reduceToNatClampNeg, Int32.reduceLT, Int32.reduceLE, Int32.reduceAdd, Int32.reduceSub, Int32.reduceMul, Int64.reduceOfNat, Int64.reduceOfInt, Nat.reduceLeDiff, Nat.reduceLT, Nat.reduceEqDiff, Nat.reduceSub, cs_0, cs_1, cs_2, cs_3, cs_4, cs_5, cs_6, cs_7, cs_8, or_false, false_or, not_false_eq_true, and_true, true_and, if_true, if_false, List.length_cons, List.length_nil, List.getElem?_cons_succ, List.getElem?_cons_zero, List.set_cons_succ, List.set_cons_zero, reduceIte, d_G, d_R, s_aload, s_aload_n, s_iload, s_iload_n, s_lload, s_lload_n, s_istore, s_istore_n, s_astore, s_astoreN, s_astore_n, s_astore_nN, s_lstore, s_lstore_n, s_iinc, s_iconst, s_bipush, s_sipush, s_lconst, s_ldc2_w, s_aconst_null, s_dupA, s_dupI, s_dup2, s_iadd, s_isub, s_imul, s_iand, s_ior, s_ixor, s_ishl, s_ishr, s_iushr, s_ineg, s_idiv, s_irem, s_ladd, s_lsub, s_lmul, s_land, s_lor, s_lxor, s_ldiv, s_lshl, s_lshr, s_lushr, s_i2l, s_l2i, s_lcmp, s_goto, s_ieq, s_ine, s_ilt, s_ige, s_igt, s_ile, s_zeq, s_zne, s_zlt, s_zge, s_zgt, s_zle, s_ifnull, s_ifnullN, s_ifnonnull, s_ifnonnullN, s_tableswitch, s_lookupswitch, s_getfield, s_putfield, s_getstatic, s_iaload, s_laload, s_baload, s_aaload, s_iastore, s_lastore, s_bastore, s_aastore, s_arraylength, s_newI, s_newJ, s_newZ, s_anewarray, s_new, s_copy, s_max, s_min, s_invokestatic, s_objinit, s_invokespecial, kf_isr_r, s_invokevirtual, s_ireturn, s_lreturn, s_areturn, s_areturnN, s_return, lI_0, lI_s, lJ_0, lJ_s, lA_0, lA_0N, lA_s, lS1_0, lS1_1, lS1_2, lS2_0, lS2_1, lS2_2, lK_n, lK_i, lK_j, lK_a, lK_N, d_C', kf_w_0, kf_w_i, kf_w_a, kf_w_n, kf_w_j, c_0, c_1, c_2, c_3, c_4, c_5, c_6, tl_0, tl_1, Option.bind_some, Option.bind_none, Option.map_some, Nat.reduceAdd, Nat.reduceMul, Nat.reduceDiv, Nat.reduceMod, Int.reduceToNat, Fin.val_zero, Fin.isValue, Fin.val_one, Fin.val_two, fv_0, fv_1, fv_2, fv_3, fw_0, fw_1, d_ite, true_or, or_true, and_false, false_and, or_self, and_self, ow_78, e, rc, k1, e2, bd]
