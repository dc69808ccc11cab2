/-! Hash: begin, put, putAll -/
theorem HashIs.off {M M' : kf_M} {A : List Nat} {a n : Nat} {S W : List Int32} (h : HashIs M a S W n) (ho : Off A M M') (h0 : a ∉ A) (h1 : a + 1 ∉ A) (h2 : a + 2 ∉ A) : HashIs M' a S W n := ⟨ho.at h0 h.1, ho.at h1 h.2.1, ho.at h2 h.2.2⟩
theorem HashIs.rc {M : kf_M} {a n : Nat} {S W : List Int32} (h : HashIs M a S W n) : kf_rcv M 2 (some (.ref a)) = true := kf_rcv_ok (gO_of h.1)
theorem c25 {M : kf_M} {a n : Nat} {S W : List Int32} (h : HashIs M a S W n) (hS : S.length = 8) (g0 : M[0]? = some (oI sx_0)) (ha : 19 ≤ a) : ∃ M', kf_cl 25 [.ref a] M = some (none, M') ∧ HashIs M' a sx_0 W 0 ∧ Off [a, a + 1, a + 2] M M' := by
  obtain ⟨q1, q2, q3⟩ := h
  have ga := gO_of q1
  have gs := gI_of q2
  have gk := gI_of g0
  have b1 : ¬ a + 1 < 19 := by omega
  have b2 : 0 + 8 ≤ sx_0.length ∧ 0 + 8 ≤ S.length := ⟨by decide, by omega⟩
  have hw : ¬ 8 < kf_w [] := by decide
  have ecp : kf_cp sx_0 S 0 0 8 = sx_0 := by
    unfold kf_cp
    rw [List.take_zero, List.drop_zero, List.take_of_length_le (show sx_0.length ≤ 8 by decide), List.drop_of_length_le (by omega)]
    simp
  have ga2 : gO (M.set (a + 1) (oI sx_0)) a = some (2, [.ref (a + 1), .ref (a + 2), .int (nI n)]) := by rw [gO_ne (by omega)]; exact ga
  refine ⟨_, by (simp only [cl_25, e25_0, e25_3, e25_4, e25_5, e25_8, e25_9, e25_11, e25_14, e25_15, e25_16, e25_19, ow_25, Int32.reduceOfInt, Int32.reduceOfNat, Int32.reduceToNatClampNeg, Int32.reduceLT, Int32.reduceLE, Int32.reduceAdd, Int32.reduceSub, Int32.reduceMul, Int64.reduceOfNat, Int64.reduceOfInt, Nat.reduceLeDiff, Nat.reduceLT, Nat.reduceEqDiff, Nat.reduceSub, cs_0, cs_1, cs_2, cs_3, cs_4, cs_5, cs_6, cs_7, cs_8, or_false, false_or, not_false_eq_true, and_true, true_and, if_true, if_false, List.length_cons, List.length_nil, List.getElem?_cons_succ, List.getElem?_cons_zero, List.set_cons_succ, List.set_cons_zero, reduceIte, d_G, d_R, s_aload, s_aload_n, s_iload, s_iload_n, s_lload, s_lload_n, s_istore, s_istore_n, s_astore, s_astoreN, s_astore_n, s_astore_nN, s_lstore, s_lstore_n, s_iinc, s_iconst, s_bipush, s_sipush, s_lconst, s_ldc2_w, s_aconst_null, s_dupA, s_dupI, s_dup2, s_iadd, s_isub, s_imul, s_iand, s_ior, s_ixor, s_ishl, s_ishr, s_iushr, s_ineg, s_idiv, s_irem, s_ladd, s_lsub, s_lmul, s_land, s_lor, s_lxor, s_ldiv, s_lshl, s_lshr, s_lushr, s_i2l, s_l2i, s_lcmp, s_goto, s_ieq, s_ine, s_ilt, s_ige, s_igt, s_ile, s_zeq, s_zne, s_zlt, s_zge, s_zgt, s_zle, s_ifnull, s_ifnullN, s_ifnonnull, s_ifnonnullN, s_tableswitch, s_lookupswitch, s_getfield, s_putfield, s_getstatic, s_iaload, s_laload, s_baload, s_aaload, s_iastore, s_lastore, s_bastore, s_aastore, s_arraylength, s_newI, s_newJ, s_newZ, s_anewarray, s_new, s_copy, s_max, s_min, s_invokestatic, s_objinit, s_invokespecial, kf_isr_r, s_invokevirtual, s_ireturn, s_lreturn, s_areturn, s_areturnN, s_return, lI_0, lI_s, lJ_0, lJ_s, lA_0, lA_0N, lA_s, lS1_0, lS1_1, lS1_2, lS2_0, lS2_1, lS2_2, lK_n, lK_i, lK_j, lK_a, lK_N, d_C', kf_w_0, kf_w_i, kf_w_a, kf_w_n, kf_w_j, c_0, c_1, c_2, c_3, c_4, c_5, c_6, tl_0, tl_1, Option.bind_some, Option.bind_none, Option.map_some, Nat.reduceAdd, Nat.reduceMul, Nat.reduceDiv, Nat.reduceMod, Int.reduceToNat, Fin.val_zero, Fin.isValue, Fin.val_one, Fin.val_two, fv_0, fv_1, fv_2, fv_3, fw_0, fw_1, d_ite, true_or, or_true, and_false, false_and, or_self, and_self, ga, gs, gk, kf_copy, b1, b2, hw, ecp, ga2, kf_fit, kf_NS]; rfl), ⟨?_, ?_, ?_⟩, ?_⟩
  · rw [m_self (by rw [List.length_set]; exact m_lt q1)]; rfl
  · rw [m_ne (by omega), m_self (m_lt q2)]
  · rw [m_ne (by omega), m_ne (by omega)]; exact q3
  · exact (Off.set (by simp)).tr (Off.set (by simp))
/-- a byte more: state, words, length -/
def hW (W : List Int32) (n : Nat) (v : Int32) : List Int32 := W.set (n % 64 / 4) (W.getD (n % 64 / 4) 0 <<< ((8 : Int32) &&& 31) ||| (v &&& 255))
def hput (s : List Int32 × List Int32 × Nat) (v : Int32) : List Int32 × List Int32 × Nat := if s.2.2 % 64 = 63 then (mixS s.1 (hW s.2.1 s.2.2 v), wext (hW s.2.1 s.2.2 v) 16 48, s.2.2 + 1) else (s.1, hW s.2.1 s.2.2 v, s.2.2 + 1)
theorem mixS_len {S W : List Int32} (h : S.length = 8) : (mixS S W).length = 8 := by
  unfold mixS
  split
  · rfl
  · exact h
theorem hput_len {s : List Int32 × List Int32 × Nat} {v : Int32} (h1 : s.1.length = 8) (h2 : s.2.1.length = 64) : (hput s v).1.length = 8 ∧ (hput s v).2.1.length = 64 ∧ (hput s v).2.2 = s.2.2 + 1 := by
  unfold hput
  split
  · exact ⟨mixS_len h1, by rw [wext_len]; simp [hW, h2], rfl⟩
  · exact ⟨h1, by simp [hW, h2], rfl⟩
theorem len8 {S : List Int32} (h : S.length = 8) : ∃ a b c d e f g i, S = [a, b, c, d, e, f, g, i] := by
  match S, h with
  | [a, b, c, d, e, f, g, i], _ => exact ⟨a, b, c, d, e, f, g, i, rfl⟩
theorem c26 {M : kf_M} {a n : Nat} {S W : List Int32} {v : Int32} (h : HashIs M a S W n) (hS : S.length = 8) (hWl : W.length = 64) (hn : n < 2 ^ 30) (gk : M[1]? = some (oI sx_1)) (ha : 19 ≤ a) : ∃ M', kf_cl 26 [.ref a, .int v] M = some (none, M') ∧ HashIs M' a (hput (S, W, n) v).1 (hput (S, W, n) v).2.1 (hput (S, W, n) v).2.2 ∧ Off [a, a + 1, a + 2] M M' := by
  obtain ⟨q1, q2, q3⟩ := h
  have ga := gO_of q1
  have gw := gI_of q3
  have l0 := m_lt q1
  have l1 := m_lt q2
  have l2 := m_lt q3
  have e63 : nI n &&& 63 = nI (n % 64) := pk_andN (by omega) 6 (by decide)
  have e4 : nI (n % 64) >>> ((2 : Int32) &&& 31) = nI (n % 64 / 4) := pk_shrN (by omega) _ 2 (by decide)
  have p0 : ¬ nI (n % 64 / 4) < 0 := nI_pos (by omega)
  have p1 : (nI (n % 64 / 4)).toNatClampNeg = n % 64 / 4 := nI_clamp (by omega)
  have w0 := getD_of (xs := W) (i := n % 64 / 4) (by omega)
  have b1 : ¬ W.length ≤ n % 64 / 4 := by omega
  have b2 : ¬ a + 2 < 19 := by omega
  have ga2 : ∀ X, gO (M.set (a + 2) (oI X)) a = some (2, [.ref (a + 1), .ref (a + 2), .int (nI n)]) := fun X => by rw [gO_ne (by omega)]; exact ga
  let M1 : kf_M := (M.set (a + 2) (oI (hW W n v))).set a (oO 2 [.ref (a + 1), .ref (a + 2), .int (nI (n + 1))])
  have hH1 : HashIs M1 a S (hW W n v) (n + 1) := ⟨by rw [m_self (by rw [List.length_set]; exact l0)], by rw [m_ne (by omega), m_ne (by omega)]; exact q2, by rw [m_ne (by omega), m_self l2]⟩
  have o1 : Off [a, a + 1, a + 2] M M1 := (Off.set (by simp)).tr (Off.set (by simp))
  by_cases h63 : n % 64 = 63
  · obtain ⟨x1, x2, x3, x4, x5, x6, x7, x8, rfl⟩ := len8 hS
    obtain ⟨M2, k2, r2, o2⟩ := c29 hH1 (o1.at (by simp; omega) gk) (by simp [hW, hWl]) ha
    have e5 : (nI (n % 64) = 63) = True := eq_true (by rw [h63]; rfl)
    refine ⟨M2, ?_, ?_, o1.tr o2⟩
    · have rc : kf_rcv ((M.set (a + 2) (oI (W.set (n % 64 / 4) (W.getD (n % 64 / 4) 0 <<< ((8 : Int32) &&& 31) ||| (v &&& 255))))).set a (oO 2 [.ref (a + 1), .ref (a + 2), .int (nI (n + 1))])) 2 (some (.ref a)) = true := hH1.rc
      have k2' : kf_cl 29 [.ref a] ((M.set (a + 2) (oI (W.set (n % 64 / 4) (W.getD (n % 64 / 4) 0 <<< ((8 : Int32) &&& 31) ||| (v &&& 255))))).set a (oO 2 [.ref (a + 1), .ref (a + 2), .int (nI (n + 1))])) = some (none, M2) := k2
      simp only [cl_26, e26_0, e26_1, e26_4, e26_6, e26_7, e26_8, e26_9, e26_12, e26_13, e26_14, e26_15, e26_16, e26_19, e26_20, e26_21, e26_22, e26_23, e26_25, e26_26, e26_27, e26_30, e26_31, e26_32, e26_33, e26_34, e26_35, e26_38, e26_39, e26_40, e26_43, e26_44, e26_46, e26_49, e26_50, e26_53, ow_26, Int32.reduceOfInt, Int32.reduceOfNat, Int32.reduceToNatClampNeg, Int32.reduceLT, Int32.reduceLE, Int32.reduceAdd, Int32.reduceSub, Int32.reduceMul, Int64.reduceOfNat, Int64.reduceOfInt, Nat.reduceLeDiff, Nat.reduceLT, Nat.reduceEqDiff, Nat.reduceSub, cs_0, cs_1, cs_2, cs_3, cs_4, cs_5, cs_6, cs_7, cs_8, or_false, false_or, not_false_eq_true, and_true, true_and, if_true, if_false, List.length_cons, List.length_nil, List.getElem?_cons_succ, List.getElem?_cons_zero, List.set_cons_succ, List.set_cons_zero, reduceIte, d_G, d_R, s_aload, s_aload_n, s_iload, s_iload_n, s_lload, s_lload_n, s_istore, s_istore_n, s_astore, s_astoreN, s_astore_n, s_astore_nN, s_lstore, s_lstore_n, s_iinc, s_iconst, s_bipush, s_sipush, s_lconst, s_ldc2_w, s_aconst_null, s_dupA, s_dupI, s_dup2, s_iadd, s_isub, s_imul, s_iand, s_ior, s_ixor, s_ishl, s_ishr, s_iushr, s_ineg, s_idiv, s_irem, s_ladd, s_lsub, s_lmul, s_land, s_lor, s_lxor, s_ldiv, s_lshl, s_lshr, s_lushr, s_i2l, s_l2i, s_lcmp, s_goto, s_ieq, s_ine, s_ilt, s_ige, s_igt, s_ile, s_zeq, s_zne, s_zlt, s_zge, s_zgt, s_zle, s_ifnull, s_ifnullN, s_ifnonnull, s_ifnonnullN, s_tableswitch, s_lookupswitch, s_getfield, s_putfield, s_getstatic, s_iaload, s_laload, s_baload, s_aaload, s_iastore, s_lastore, s_bastore, s_aastore, s_arraylength, s_newI, s_newJ, s_newZ, s_anewarray, s_new, s_copy, s_max, s_min, s_invokestatic, s_objinit, s_invokespecial, kf_isr_r, s_invokevirtual, s_ireturn, s_lreturn, s_areturn, s_areturnN, s_return, lI_0, lI_s, lJ_0, lJ_s, lA_0, lA_0N, lA_s, lS1_0, lS1_1, lS1_2, lS2_0, lS2_1, lS2_2, lK_n, lK_i, lK_j, lK_a, lK_N, d_C', kf_w_0, kf_w_i, kf_w_a, kf_w_n, kf_w_j, c_0, c_1, c_2, c_3, c_4, c_5, c_6, tl_0, tl_1, Option.bind_some, Option.bind_none, Option.map_some, Nat.reduceAdd, Nat.reduceMul, Nat.reduceDiv, Nat.reduceMod, Int.reduceToNat, Fin.val_zero, Fin.isValue, Fin.val_one, Fin.val_two, fv_0, fv_1, fv_2, fv_3, fw_0, fw_1, d_ite, true_or, or_true, and_false, false_and, or_self, and_self, ow_29, ga, gw, e63, e4, e5, p0, p1, w0, b1, b2, ga2, kf_fit, kf_NS, nI_1, rc, k2']
    · simp only [hput, h63, if_true]
      exact r2
  · have e5 : ¬ nI (n % 64) = 63 := fun q => h63 ((nI_eq (by omega) (by omega)).mp (show nI (n % 64) = nI 63 from q))
    refine ⟨M1, ?_, ?_, o1⟩
    · simp only [cl_26, e26_0, e26_1, e26_4, e26_6, e26_7, e26_8, e26_9, e26_12, e26_13, e26_14, e26_15, e26_16, e26_19, e26_20, e26_21, e26_22, e26_23, e26_25, e26_26, e26_27, e26_30, e26_31, e26_32, e26_33, e26_34, e26_35, e26_38, e26_39, e26_40, e26_43, e26_44, e26_46, e26_49, e26_50, e26_53, ow_26, Int32.reduceOfInt, Int32.reduceOfNat, Int32.reduceToNatClampNeg, Int32.reduceLT, Int32.reduceLE, Int32.reduceAdd, Int32.reduceSub, Int32.reduceMul, Int64.reduceOfNat, Int64.reduceOfInt, Nat.reduceLeDiff, Nat.reduceLT, Nat.reduceEqDiff, Nat.reduceSub, cs_0, cs_1, cs_2, cs_3, cs_4, cs_5, cs_6, cs_7, cs_8, or_false, false_or, not_false_eq_true, and_true, true_and, if_true, if_false, List.length_cons, List.length_nil, List.getElem?_cons_succ, List.getElem?_cons_zero, List.set_cons_succ, List.set_cons_zero, reduceIte, d_G, d_R, s_aload, s_aload_n, s_iload, s_iload_n, s_lload, s_lload_n, s_istore, s_istore_n, s_astore, s_astoreN, s_astore_n, s_astore_nN, s_lstore, s_lstore_n, s_iinc, s_iconst, s_bipush, s_sipush, s_lconst, s_ldc2_w, s_aconst_null, s_dupA, s_dupI, s_dup2, s_iadd, s_isub, s_imul, s_iand, s_ior, s_ixor, s_ishl, s_ishr, s_iushr, s_ineg, s_idiv, s_irem, s_ladd, s_lsub, s_lmul, s_land, s_lor, s_lxor, s_ldiv, s_lshl, s_lshr, s_lushr, s_i2l, s_l2i, s_lcmp, s_goto, s_ieq, s_ine, s_ilt, s_ige, s_igt, s_ile, s_zeq, s_zne, s_zlt, s_zge, s_zgt, s_zle, s_ifnull, s_ifnullN, s_ifnonnull, s_ifnonnullN, s_tableswitch, s_lookupswitch, s_getfield, s_putfield, s_getstatic, s_iaload, s_laload, s_baload, s_aaload, s_iastore, s_lastore, s_bastore, s_aastore, s_arraylength, s_newI, s_newJ, s_newZ, s_anewarray, s_new, s_copy, s_max, s_min, s_invokestatic, s_objinit, s_invokespecial, kf_isr_r, s_invokevirtual, s_ireturn, s_lreturn, s_areturn, s_areturnN, s_return, lI_0, lI_s, lJ_0, lJ_s, lA_0, lA_0N, lA_s, lS1_0, lS1_1, lS1_2, lS2_0, lS2_1, lS2_2, lK_n, lK_i, lK_j, lK_a, lK_N, d_C', kf_w_0, kf_w_i, kf_w_a, kf_w_n, kf_w_j, c_0, c_1, c_2, c_3, c_4, c_5, c_6, tl_0, tl_1, Option.bind_some, Option.bind_none, Option.map_some, Nat.reduceAdd, Nat.reduceMul, Nat.reduceDiv, Nat.reduceMod, Int.reduceToNat, Fin.val_zero, Fin.isValue, Fin.val_one, Fin.val_two, fv_0, fv_1, fv_2, fv_3, fw_0, fw_1, d_ite, true_or, or_true, and_false, false_and, or_self, and_self, ow_29, ga, gw, e63, e4, e5, p0, p1, w0, b1, b2, ga2, kf_fit, kf_NS, nI_1]
      rfl
    · simp only [hput, h63, if_false]
      exact hH1
/-- Hash.putAll -/
def hputs (s : List Int32 × List Int32 × Nat) (xs : List Int32) : List Int32 × List Int32 × Nat := xs.foldl hput s
theorem hputs_len : ∀ (xs : List Int32) (s : List Int32 × List Int32 × Nat), s.1.length = 8 → s.2.1.length = 64 → (hputs s xs).1.length = 8 ∧ (hputs s xs).2.1.length = 64 ∧ (hputs s xs).2.2 = s.2.2 + xs.length
  | [], s, h1, h2 => ⟨h1, h2, rfl⟩
  | x :: t, s, h1, h2 => by
    have a := hput_len (v := x) h1 h2
    have b := hputs_len t (hput s x) a.1 a.2.1
    refine ⟨b.1, b.2.1, ?_⟩
    show (hputs (hput s x) t).2.2 = _
    rw [b.2.2, a.2.2]
    simp
    omega
theorem c27l {a b f n : Nat} {xs : List Int32} (hf : f + n ≤ xs.length) (hx : xs.length < 2 ^ 20) (ha : 19 ≤ a) (hb : b ∉ [a, a + 1, a + 2]) : ∀ (m i : Nat) (M : kf_M) (S W : List Int32) (k : Nat), i + m = n → HashIs M a S W k → S.length = 8 → W.length = 64 → k + m < 2 ^ 30 → M[1]? = some (oI sx_1) → M[b]? = some (oI xs) → ∃ M', kf_ev 27 22 [some (.ref a), some (.ref b), some (.int (nI f)), some (.int (nI n)), some (.int (nI i))] [] M = some (none, M') ∧ HashIs M' a (hputs (S, W, k) ((xs.drop (f + i)).take m)).1 (hputs (S, W, k) ((xs.drop (f + i)).take m)).2.1 (hputs (S, W, k) ((xs.drop (f + i)).take m)).2.2 ∧ Off [a, a + 1, a + 2] M M' := by
  intro m
  induction m with
  | zero =>
    intro i M S W k hi hH hS hW hk gk gb
    have e : nI n ≤ nI i := nI_le (by omega) (by omega)
    refine ⟨M, (e27_22 _ _ _).trans (by simp only [cl_27, e27_0, e27_1, e27_4, e27_5, e27_6, e27_7, e27_10, e27_11, e27_12, e27_13, e27_14, e27_15, e27_18, e27_19, e27_20, e27_24, e27_25, e27_28, e27_29, e27_30, e27_31, e27_33, e27_34, e27_35, e27_38, e27_41, e27_44, ow_27, Int32.reduceOfInt, Int32.reduceOfNat, Int32.reduceToNatClampNeg, Int32.reduceLT, Int32.reduceLE, Int32.reduceAdd, Int32.reduceSub, Int32.reduceMul, Int64.reduceOfNat, Int64.reduceOfInt, Nat.reduceLeDiff, Nat.reduceLT, Nat.reduceEqDiff, Nat.reduceSub, cs_0, cs_1, cs_2, cs_3, cs_4, cs_5, cs_6, cs_7, cs_8, or_false, false_or, not_false_eq_true, and_true, true_and, if_true, if_false, List.length_cons, List.length_nil, List.getElem?_cons_succ, List.getElem?_cons_zero, List.set_cons_succ, List.set_cons_zero, reduceIte, d_G, d_R, s_aload, s_aload_n, s_iload, s_iload_n, s_lload, s_lload_n, s_istore, s_istore_n, s_astore, s_astoreN, s_astore_n, s_astore_nN, s_lstore, s_lstore_n, s_iinc, s_iconst, s_bipush, s_sipush, s_lconst, s_ldc2_w, s_aconst_null, s_dupA, s_dupI, s_dup2, s_iadd, s_isub, s_imul, s_iand, s_ior, s_ixor, s_ishl, s_ishr, s_iushr, s_ineg, s_idiv, s_irem, s_ladd, s_lsub, s_lmul, s_land, s_lor, s_lxor, s_ldiv, s_lshl, s_lshr, s_lushr, s_i2l, s_l2i, s_lcmp, s_goto, s_ieq, s_ine, s_ilt, s_ige, s_igt, s_ile, s_zeq, s_zne, s_zlt, s_zge, s_zgt, s_zle, s_ifnull, s_ifnullN, s_ifnonnull, s_ifnonnullN, s_tableswitch, s_lookupswitch, s_getfield, s_putfield, s_getstatic, s_iaload, s_laload, s_baload, s_aaload, s_iastore, s_lastore, s_bastore, s_aastore, s_arraylength, s_newI, s_newJ, s_newZ, s_anewarray, s_new, s_copy, s_max, s_min, s_invokestatic, s_objinit, s_invokespecial, kf_isr_r, s_invokevirtual, s_ireturn, s_lreturn, s_areturn, s_areturnN, s_return, lI_0, lI_s, lJ_0, lJ_s, lA_0, lA_0N, lA_s, lS1_0, lS1_1, lS1_2, lS2_0, lS2_1, lS2_2, lK_n, lK_i, lK_j, lK_a, lK_N, d_C', kf_w_0, kf_w_i, kf_w_a, kf_w_n, kf_w_j, c_0, c_1, c_2, c_3, c_4, c_5, c_6, tl_0, tl_1, Option.bind_some, Option.bind_none, Option.map_some, Nat.reduceAdd, Nat.reduceMul, Nat.reduceDiv, Nat.reduceMod, Int.reduceToNat, Fin.val_zero, Fin.isValue, Fin.val_one, Fin.val_two, fv_0, fv_1, fv_2, fv_3, fw_0, fw_1, d_ite, true_or, or_true, and_false, false_and, or_self, and_self, e]), ?_, Off.rf⟩
    simpa [hputs] using hH
  | succ m ih =>
    intro i M S W k hi hH hS hW hk gk gb
    have e : ¬ nI n ≤ nI i := nI_ge (by omega) (by omega)
    have p0 : ¬ nI (f + i) < 0 := nI_pos (by omega)
    have p1 : (nI (f + i)).toNatClampNeg = f + i := nI_clamp (by omega)
    have x1 : xs[f + i]? = some (xs[f + i]'(by omega)) := List.getElem?_eq_getElem (by omega)
    have g2 := gI_of gb
    obtain ⟨M1, k1, r1, o1⟩ := c26 (v := xs[f + i]'(by omega)) hH hS hW (by omega) gk ha
    have hl := hput_len (s := (S, W, k)) (v := xs[f + i]'(by omega)) hS hW
    obtain ⟨M2, k2, r2, o2⟩ := ih (i + 1) M1 _ _ _ (by omega) r1 hl.1 hl.2.1 (by rw [hl.2.2]; show k + 1 + m < _; omega) (o1.at (by simp; omega) gk) (o1.at hb gb)
    have rc := hH.rc
    refine ⟨M2, (e27_22 _ _ _).trans (by simp only [cl_27, e27_0, e27_1, e27_4, e27_5, e27_6, e27_7, e27_10, e27_11, e27_12, e27_13, e27_14, e27_15, e27_18, e27_19, e27_20, e27_24, e27_25, e27_28, e27_29, e27_30, e27_31, e27_33, e27_34, e27_35, e27_38, e27_41, e27_44, ow_27, Int32.reduceOfInt, Int32.reduceOfNat, Int32.reduceToNatClampNeg, Int32.reduceLT, Int32.reduceLE, Int32.reduceAdd, Int32.reduceSub, Int32.reduceMul, Int64.reduceOfNat, Int64.reduceOfInt, Nat.reduceLeDiff, Nat.reduceLT, Nat.reduceEqDiff, Nat.reduceSub, cs_0, cs_1, cs_2, cs_3, cs_4, cs_5, cs_6, cs_7, cs_8, or_false, false_or, not_false_eq_true, and_true, true_and, if_true, if_false, List.length_cons, List.length_nil, List.getElem?_cons_succ, List.getElem?_cons_zero, List.set_cons_succ, List.set_cons_zero, reduceIte, d_G, d_R, s_aload, s_aload_n, s_iload, s_iload_n, s_lload, s_lload_n, s_istore, s_istore_n, s_astore, s_astoreN, s_astore_n, s_astore_nN, s_lstore, s_lstore_n, s_iinc, s_iconst, s_bipush, s_sipush, s_lconst, s_ldc2_w, s_aconst_null, s_dupA, s_dupI, s_dup2, s_iadd, s_isub, s_imul, s_iand, s_ior, s_ixor, s_ishl, s_ishr, s_iushr, s_ineg, s_idiv, s_irem, s_ladd, s_lsub, s_lmul, s_land, s_lor, s_lxor, s_ldiv, s_lshl, s_lshr, s_lushr, s_i2l, s_l2i, s_lcmp, s_goto, s_ieq, s_ine, s_ilt, s_ige, s_igt, s_ile, s_zeq, s_zne, s_zlt, s_zge, s_zgt, s_zle, s_ifnull, s_ifnullN, s_ifnonnull, s_ifnonnullN, s_tableswitch, s_lookupswitch, s_getfield, s_putfield, s_getstatic, s_iaload, s_laload, s_baload, s_aaload, s_iastore, s_lastore, s_bastore, s_aastore, s_arraylength, s_newI, s_newJ, s_newZ, s_anewarray, s_new, s_copy, s_max, s_min, s_invokestatic, s_objinit, s_invokespecial, kf_isr_r, s_invokevirtual, s_ireturn, s_lreturn, s_areturn, s_areturnN, s_return, lI_0, lI_s, lJ_0, lJ_s, lA_0, lA_0N, lA_s, lS1_0, lS1_1, lS1_2, lS2_0, lS2_1, lS2_2, lK_n, lK_i, lK_j, lK_a, lK_N, d_C', kf_w_0, kf_w_i, kf_w_a, kf_w_n, kf_w_j, c_0, c_1, c_2, c_3, c_4, c_5, c_6, tl_0, tl_1, Option.bind_some, Option.bind_none, Option.map_some, Nat.reduceAdd, Nat.reduceMul, Nat.reduceDiv, Nat.reduceMod, Int.reduceToNat, Fin.val_zero, Fin.isValue, Fin.val_one, Fin.val_two, fv_0, fv_1, fv_2, fv_3, fw_0, fw_1, d_ite, true_or, or_true, and_false, false_and, or_self, and_self, ow_26, e, p0, p1, x1, g2, nI_add, nI_1, rc, k1, k2]), ?_, o1.tr o2⟩
    rw [List.drop_eq_getElem_cons (show f + i < xs.length by omega), List.take_succ_cons]
    exact r2
theorem c27 {M : kf_M} {a b f n k : Nat} {xs S W : List Int32} (h : HashIs M a S W k) (hS : S.length = 8) (hW : W.length = 64) (hk : k + n < 2 ^ 30) (gk : M[1]? = some (oI sx_1)) (gb : M[b]? = some (oI xs)) (hf : f + n ≤ xs.length) (hx : xs.length < 2 ^ 20) (ha : 19 ≤ a) (hb : b ∉ [a, a + 1, a + 2]) : ∃ M', kf_cl 27 [.ref a, .ref b, .int (nI f), .int (nI n)] M = some (none, M') ∧ HashIs M' a (hputs (S, W, k) ((xs.drop f).take n)).1 (hputs (S, W, k) ((xs.drop f).take n)).2.1 (hputs (S, W, k) ((xs.drop f).take n)).2.2 ∧ Off [a, a + 1, a + 2] M M' := by
  obtain ⟨M', k1, r1, o1⟩ := c27l (f := f) (n := n) hf hx ha hb n 0 M S W k (by omega) h hS hW hk gk gb
  have e1 : ¬ nI f < 0 := nI_pos (by omega)
  have e2 : ¬ nI xs.length < nI f := nI_nlt (by omega) (by omega)
  have e3 : nI n ≤ nI (xs.length - f) := nI_le (by omega) (by omega)
  have e4 : nI xs.length - nI f = nI (xs.length - f) := pk_sub (by omega)
  rw [nI_0] at k1
  refine ⟨M', by simp only [cl_27, e27_0, e27_1, e27_4, e27_5, e27_6, e27_7, e27_10, e27_11, e27_12, e27_13, e27_14, e27_15, e27_18, e27_19, e27_20, e27_24, e27_25, e27_28, e27_29, e27_30, e27_31, e27_33, e27_34, e27_35, e27_38, e27_41, e27_44, ow_27, Int32.reduceOfInt, Int32.reduceOfNat, Int32.reduceToNatClampNeg, Int32.reduceLT, Int32.reduceLE, Int32.reduceAdd, Int32.reduceSub, Int32.reduceMul, Int64.reduceOfNat, Int64.reduceOfInt, Nat.reduceLeDiff, Nat.reduceLT, Nat.reduceEqDiff, Nat.reduceSub, cs_0, cs_1, cs_2, cs_3, cs_4, cs_5, cs_6, cs_7, cs_8, or_false, false_or, not_false_eq_true, and_true, true_and, if_true, if_false, List.length_cons, List.length_nil, List.getElem?_cons_succ, List.getElem?_cons_zero, List.set_cons_succ, List.set_cons_zero, reduceIte, d_G, d_R, s_aload, s_aload_n, s_iload, s_iload_n, s_lload, s_lload_n, s_istore, s_istore_n, s_astore, s_astoreN, s_astore_n, s_astore_nN, s_lstore, s_lstore_n, s_iinc, s_iconst, s_bipush, s_sipush, s_lconst, s_ldc2_w, s_aconst_null, s_dupA, s_dupI, s_dup2, s_iadd, s_isub, s_imul, s_iand, s_ior, s_ixor, s_ishl, s_ishr, s_iushr, s_ineg, s_idiv, s_irem, s_ladd, s_lsub, s_lmul, s_land, s_lor, s_lxor, s_ldiv, s_lshl, s_lshr, s_lushr, s_i2l, s_l2i, s_lcmp, s_goto, s_ieq, s_ine, s_ilt, s_ige, s_igt, s_ile, s_zeq, s_zne, s_zlt, s_zge, s_zgt, s_zle, s_ifnull, s_ifnullN, s_ifnonnull, s_ifnonnullN, s_tableswitch, s_lookupswitch, s_getfield, s_putfield, s_getstatic, s_iaload, s_laload, s_baload, s_aaload, s_iastore, s_lastore, s_bastore, s_aastore, s_arraylength, s_newI, s_newJ, s_newZ, s_anewarray, s_new, s_copy, s_max, s_min, s_invokestatic, s_objinit, s_invokespecial, kf_isr_r, s_invokevirtual, s_ireturn, s_lreturn, s_areturn, s_areturnN, s_return, lI_0, lI_s, lJ_0, lJ_s, lA_0, lA_0N, lA_s, lS1_0, lS1_1, lS1_2, lS2_0, lS2_1, lS2_2, lK_n, lK_i, lK_j, lK_a, lK_N, d_C', kf_w_0, kf_w_i, kf_w_a, kf_w_n, kf_w_j, c_0, c_1, c_2, c_3, c_4, c_5, c_6, tl_0, tl_1, Option.bind_some, Option.bind_none, Option.map_some, Nat.reduceAdd, Nat.reduceMul, Nat.reduceDiv, Nat.reduceMod, Int.reduceToNat, Fin.val_zero, Fin.isValue, Fin.val_one, Fin.val_two, fv_0, fv_1, fv_2, fv_3, fw_0, fw_1, d_ite, true_or, or_true, and_false, false_and, or_self, and_self, gb, oLen_I, toI, e1, e2, e3, e4, k1], by simpa using r1, o1⟩
