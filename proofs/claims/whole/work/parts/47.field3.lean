/-! numbers modulo m -/
def cg (m a b : Int) : Prop := m ∣ (a - b)
section CG
variable {m a b c d : Int}
theorem cg_rf : cg m a a := by unfold cg; rw [Int.sub_self]; exact Int.dvd_zero _
theorem cg_sy (h : cg m a b) : cg m b a := by
  obtain ⟨k, hk⟩ := h
  exact ⟨-k, by rw [Int.mul_neg]; omega⟩
theorem cg_tr (h : cg m a b) (h2 : cg m b c) : cg m a c := by
  obtain ⟨k, hk⟩ := h
  obtain ⟨l, hl⟩ := h2
  exact ⟨k + l, by rw [Int.mul_add]; omega⟩
theorem cg_ad (h : cg m a b) (h2 : cg m c d) : cg m (a + c) (b + d) := by
  obtain ⟨k, hk⟩ := h
  obtain ⟨l, hl⟩ := h2
  exact ⟨k + l, by rw [Int.mul_add]; omega⟩
theorem cg_sb (h : cg m a b) (h2 : cg m c d) : cg m (a - c) (b - d) := by
  obtain ⟨k, hk⟩ := h
  obtain ⟨l, hl⟩ := h2
  exact ⟨k - l, by rw [Int.mul_sub]; omega⟩
theorem cg_ml (h : cg m a b) (h2 : cg m c d) : cg m (a * c) (b * d) := by
  obtain ⟨k, hk⟩ := h
  obtain ⟨l, hl⟩ := h2
  exact ⟨k * c + b * l, by have e1 : a = b + m * k := by omega
                           have e2 : c = d + m * l := by omega
                           subst e1; subst e2; grind⟩
theorem cg_pw (h : cg m a b) : ∀ n : Nat, cg m (a ^ n) (b ^ n)
  | 0 => by rw [Int.pow_zero, Int.pow_zero]; exact cg_rf
  | n + 1 => by rw [Int.pow_succ, Int.pow_succ]; exact cg_ml (cg_pw h n) h
end CG
/-- what a product's parts may be, and what it is -/
def bgi (v : Int) : Prop := -(2 ^ 262) ≤ v ∧ v ≤ 2 ^ 262
def sml (v : Int) : Prop := -(2 ^ 244) ≤ v ∧ v ≤ 2 ^ 256 + 2 ^ 244
theorem sml_b {v : Int} (h : sml v) : bgi v := by unfold sml at h; unfold bgi; omega
theorem f16c {M : kf_M} {f to a b : Nat} {m va vb : Int} (hF : Mod M f m) (ha : Num M a va) (hb : Num M b vb) (ht : Jar M to) (hto : 19 ≤ to) (a1 : bgi va) (b1 : bgi vb) : ∃ M' v, kf_cl 16 [.ref f, .ref to, .ref a, .ref b] M = some (none, M') ∧ Num M' to v ∧ cg m (v * 2 ^ 280) (va * vb) ∧ sml v ∧ Off [to] M M' := by
  have hm : 0 < m ∧ m < 2 ^ 256 := by
    obtain ⟨inv, -, -, -, h1, h2⟩ := hF
    exact ⟨h1, h2⟩
  unfold bgi at a1 b1
  obtain ⟨M', v, Q, k1, n1, e1, q0, q1, o1⟩ := f16 hF ha hb ht hto (by omega) (by omega) (by omega) (by omega)
  have hb1 := mb (v := va) (w := vb) (B := 2 ^ 262) (C := 2 ^ 262) a1.1 a1.2 b1.1 b1.2
  have hq1 : 0 ≤ Q * m := Int.mul_nonneg q0 (by omega)
  have hq2 : Q * m ≤ 2 ^ 280 * m := Int.mul_le_mul_of_nonneg_right (by omega) (by omega)
  refine ⟨M', v, k1, n1, ⟨Q, ?_⟩, ?_, o1⟩
  · rw [e1, Int.mul_comm m Q]
    omega
  · unfold sml
    rw [← Int.pow_add] at hb1
    omega
/-- a product with 1: 0 .. m -/
theorem f16o {M : kf_M} {f to a b : Nat} {m va : Int} (hF : Mod M f m) (ha : Num M a va) (hb : Num M b 1) (ht : Jar M to) (hto : 19 ≤ to) (a1 : bgi va) : ∃ M' v, kf_cl 16 [.ref f, .ref to, .ref a, .ref b] M = some (none, M') ∧ Num M' to v ∧ cg m (v * 2 ^ 280) va ∧ 0 ≤ v ∧ v ≤ m ∧ Off [to] M M' := by
  have hm : 0 < m ∧ m < 2 ^ 256 := by
    obtain ⟨inv, -, -, -, h1, h2⟩ := hF
    exact ⟨h1, h2⟩
  unfold bgi at a1
  obtain ⟨M', v, Q, k1, n1, e1, q0, q1, o1⟩ := f16 hF ha hb ht hto (by omega) (by omega) (by decide) (by decide)
  rw [Int.mul_one] at e1
  have hq1 : 0 ≤ Q * m := Int.mul_nonneg q0 (by omega)
  have hq2 : Q * m ≤ (2 ^ 280 - 1) * m := Int.mul_le_mul_of_nonneg_right (by omega) (by omega)
  refine ⟨M', v, k1, n1, ⟨Q, ?_⟩, by omega, ?_, o1⟩
  · rw [e1, Int.mul_comm m Q]
    omega
  · rw [Int.sub_mul] at hq2
    omega
/-- a field with its other numbers: m - 2, 2^560 and 2^280 modulo m -/
def FldIs (M : kf_M) (f : Nat) (m : Int) : Prop := Mod M f m ∧ Num M (f + 2) (m - 2) ∧ (∃ sq, Num M (f + 3) sq ∧ cg m sq (2 ^ 560) ∧ bgi sq) ∧ (∃ on, Num M (f + 4) on ∧ cg m on (2 ^ 280) ∧ sml on) ∧ Jar M (f + 5)
theorem FldIs.off {M M' : kf_M} {A : List Nat} {f : Nat} {m : Int} (h : FldIs M f m) (ho : Off A M M') (h0 : f ∉ A) (h1 : f + 1 ∉ A) (h2 : f + 2 ∉ A) (h3 : f + 3 ∉ A) (h4 : f + 4 ∉ A) (h5 : f + 5 ∉ A) : FldIs M' f m := by
  obtain ⟨a, b, ⟨sq, c, c2⟩, ⟨on, d, d2⟩, e⟩ := h
  exact ⟨a.off ho h0 h1, b.off ho h2, ⟨sq, c.off ho h3, c2⟩, ⟨on, d.off ho h4, d2⟩, e.off ho h5⟩
theorem Mod.gO {M : kf_M} {f : Nat} {m : Int} (h : Mod M f m) : ∃ inv, gO M f = some (1, [.ref (f + 1), .ref (f + 2), .ref (f + 3), .ref (f + 4), .ref (f + 5), .long inv]) := by
  obtain ⟨inv, a, -⟩ := h
  exact ⟨inv, gO_of a⟩
theorem f18 {M : kf_M} {f to a : Nat} {m va : Int} (hF : FldIs M f m) (ha : Num M a va) (ht : Jar M to) (hto : 19 ≤ to) (a1 : bgi va) : ∃ M' v, kf_cl 18 [.ref f, .ref to, .ref a] M = some (none, M') ∧ Num M' to v ∧ cg m (v * 2 ^ 280) (va * 2 ^ 560) ∧ sml v ∧ Off [to] M M' := by
  obtain ⟨hM, -, ⟨sq, hs, cs, bs⟩, -, -⟩ := hF
  obtain ⟨M', v, k1, n1, c1, s1, o1⟩ := f16c hM ha hs ht hto a1 bs
  obtain ⟨inv, g⟩ := hM.gO
  have rc := hM.rc
  exact ⟨M', v, by simp only [cl_18, e18_0, e18_1, e18_2, e18_3, e18_4, e18_7, e18_10, ow_18, Int32.reduceOfInt, Int32.reduceOfNat, Int32.reduceToNatClampNeg, Int32.reduceLT, Int32.reduceLE, Int32.reduceAdd, Int32.reduceSub, Int32.reduceMul, Int64.reduceOfNat, Int64.reduceOfInt, Nat.reduceLeDiff, Nat.reduceLT, Nat.reduceEqDiff, Nat.reduceSub, cs_0, cs_1, cs_2, cs_3, cs_4, cs_5, cs_6, cs_7, cs_8, or_false, false_or, not_false_eq_true, and_true, true_and, if_true, if_false, List.length_cons, List.length_nil, List.getElem?_cons_succ, List.getElem?_cons_zero, List.set_cons_succ, List.set_cons_zero, reduceIte, d_G, d_R, s_aload, s_aload_n, s_iload, s_iload_n, s_lload, s_lload_n, s_istore, s_istore_n, s_astore, s_astoreN, s_astore_n, s_astore_nN, s_lstore, s_lstore_n, s_iinc, s_iconst, s_bipush, s_sipush, s_lconst, s_ldc2_w, s_aconst_null, s_dupA, s_dupI, s_dup2, s_iadd, s_isub, s_imul, s_iand, s_ior, s_ixor, s_ishl, s_ishr, s_iushr, s_ineg, s_idiv, s_irem, s_ladd, s_lsub, s_lmul, s_land, s_lor, s_lxor, s_ldiv, s_lshl, s_lshr, s_lushr, s_i2l, s_l2i, s_lcmp, s_goto, s_ieq, s_ine, s_ilt, s_ige, s_igt, s_ile, s_zeq, s_zne, s_zlt, s_zge, s_zgt, s_zle, s_ifnull, s_ifnullN, s_ifnonnull, s_ifnonnullN, s_tableswitch, s_lookupswitch, s_getfield, s_putfield, s_getstatic, s_iaload, s_laload, s_baload, s_aaload, s_iastore, s_lastore, s_bastore, s_aastore, s_arraylength, s_newI, s_newJ, s_newZ, s_anewarray, s_new, s_copy, s_max, s_min, s_invokestatic, s_objinit, s_invokespecial, kf_isr_r, s_invokevirtual, s_ireturn, s_lreturn, s_areturn, s_areturnN, s_return, lI_0, lI_s, lJ_0, lJ_s, lA_0, lA_0N, lA_s, lS1_0, lS1_1, lS1_2, lS2_0, lS2_1, lS2_2, lK_n, lK_i, lK_j, lK_a, lK_N, d_C', kf_w_0, kf_w_i, kf_w_a, kf_w_n, kf_w_j, c_0, c_1, c_2, c_3, c_4, c_5, c_6, tl_0, tl_1, Option.bind_some, Option.bind_none, Option.map_some, Nat.reduceAdd, Nat.reduceMul, Nat.reduceDiv, Nat.reduceMod, Int.reduceToNat, Fin.val_zero, Fin.isValue, Fin.val_one, Fin.val_two, fv_0, fv_1, fv_2, fv_3, fw_0, fw_1, d_ite, true_or, or_true, and_false, false_and, or_self, and_self, ow_16, g, rc, k1], n1, cg_tr c1 (cg_ml cg_rf cs), s1, o1⟩
/-- leave: the number below m -/
theorem f19 {M : kf_M} {f to a : Nat} {m va : Int} (hF : Mod M f m) (g4 : M[4]? = some (oJ sx_4)) (ha : Num M a va) (ht : Jar M to) (hto : 19 ≤ to) (hne : f ≠ to) (hne1 : f + 1 ≠ to) (a1 : bgi va) : ∃ M' v, kf_cl 19 [.ref f, .ref to, .ref a] M = some (none, M') ∧ Num M' to v ∧ cg m (v * 2 ^ 280) va ∧ 0 ≤ v ∧ v < m ∧ Off [to] M M' := by
  obtain ⟨M1, v, k1, n1, c1, v0, v1, o1⟩ := f16o hF ha ⟨_, g4, lmb_1⟩ ht hto a1
  obtain ⟨inv, g⟩ := (hF.off o1 (by simpa using hne) (by simpa using hne1)).gO
  have hF1 := hF.off o1 (by simpa using hne) (by simpa using hne1)
  have rc := hF.rc
  have hmm := hF1
  obtain ⟨-, -, nm, -, m0, -⟩ := hmm
  have k2 := f12 n1 nm
  by_cases q : v = m
  · obtain ⟨M2, k3, n3, o3⟩ := f13 n1.jar hto
    rw [if_pos q] at k2
    have e1 : ¬ (1 : Int32) = 0 := by decide
    refine ⟨M2, 0, by simp only [cl_19, e19_0, e19_1, e19_2, e19_3, e19_6, e19_9, e19_10, e19_11, e19_14, e19_17, e19_20, e19_21, e19_24, ow_19, Int32.reduceOfInt, Int32.reduceOfNat, Int32.reduceToNatClampNeg, Int32.reduceLT, Int32.reduceLE, Int32.reduceAdd, Int32.reduceSub, Int32.reduceMul, Int64.reduceOfNat, Int64.reduceOfInt, Nat.reduceLeDiff, Nat.reduceLT, Nat.reduceEqDiff, Nat.reduceSub, cs_0, cs_1, cs_2, cs_3, cs_4, cs_5, cs_6, cs_7, cs_8, or_false, false_or, not_false_eq_true, and_true, true_and, if_true, if_false, List.length_cons, List.length_nil, List.getElem?_cons_succ, List.getElem?_cons_zero, List.set_cons_succ, List.set_cons_zero, reduceIte, d_G, d_R, s_aload, s_aload_n, s_iload, s_iload_n, s_lload, s_lload_n, s_istore, s_istore_n, s_astore, s_astoreN, s_astore_n, s_astore_nN, s_lstore, s_lstore_n, s_iinc, s_iconst, s_bipush, s_sipush, s_lconst, s_ldc2_w, s_aconst_null, s_dupA, s_dupI, s_dup2, s_iadd, s_isub, s_imul, s_iand, s_ior, s_ixor, s_ishl, s_ishr, s_iushr, s_ineg, s_idiv, s_irem, s_ladd, s_lsub, s_lmul, s_land, s_lor, s_lxor, s_ldiv, s_lshl, s_lshr, s_lushr, s_i2l, s_l2i, s_lcmp, s_goto, s_ieq, s_ine, s_ilt, s_ige, s_igt, s_ile, s_zeq, s_zne, s_zlt, s_zge, s_zgt, s_zle, s_ifnull, s_ifnullN, s_ifnonnull, s_ifnonnullN, s_tableswitch, s_lookupswitch, s_getfield, s_putfield, s_getstatic, s_iaload, s_laload, s_baload, s_aaload, s_iastore, s_lastore, s_bastore, s_aastore, s_arraylength, s_newI, s_newJ, s_newZ, s_anewarray, s_new, s_copy, s_max, s_min, s_invokestatic, s_objinit, s_invokespecial, kf_isr_r, s_invokevirtual, s_ireturn, s_lreturn, s_areturn, s_areturnN, s_return, lI_0, lI_s, lJ_0, lJ_s, lA_0, lA_0N, lA_s, lS1_0, lS1_1, lS1_2, lS2_0, lS2_1, lS2_2, lK_n, lK_i, lK_j, lK_a, lK_N, d_C', kf_w_0, kf_w_i, kf_w_a, kf_w_n, kf_w_j, c_0, c_1, c_2, c_3, c_4, c_5, c_6, tl_0, tl_1, Option.bind_some, Option.bind_none, Option.map_some, Nat.reduceAdd, Nat.reduceMul, Nat.reduceDiv, Nat.reduceMod, Int.reduceToNat, Fin.val_zero, Fin.isValue, Fin.val_one, Fin.val_two, fv_0, fv_1, fv_2, fv_3, fw_0, fw_1, d_ite, true_or, or_true, and_false, false_and, or_self, and_self, ow_16, g, rc, k1, k2, k3, e1], n3, ?_, by omega, by omega, o1.tr o3⟩
    refine cg_tr ?_ c1
    rw [q]
    exact ⟨- 2 ^ 280, by rw [Int.mul_neg]; omega⟩
  · rw [if_neg q] at k2
    exact ⟨M1, v, by simp only [cl_19, e19_0, e19_1, e19_2, e19_3, e19_6, e19_9, e19_10, e19_11, e19_14, e19_17, e19_20, e19_21, e19_24, ow_19, Int32.reduceOfInt, Int32.reduceOfNat, Int32.reduceToNatClampNeg, Int32.reduceLT, Int32.reduceLE, Int32.reduceAdd, Int32.reduceSub, Int32.reduceMul, Int64.reduceOfNat, Int64.reduceOfInt, Nat.reduceLeDiff, Nat.reduceLT, Nat.reduceEqDiff, Nat.reduceSub, cs_0, cs_1, cs_2, cs_3, cs_4, cs_5, cs_6, cs_7, cs_8, or_false, false_or, not_false_eq_true, and_true, true_and, if_true, if_false, List.length_cons, List.length_nil, List.getElem?_cons_succ, List.getElem?_cons_zero, List.set_cons_succ, List.set_cons_zero, reduceIte, d_G, d_R, s_aload, s_aload_n, s_iload, s_iload_n, s_lload, s_lload_n, s_istore, s_istore_n, s_astore, s_astoreN, s_astore_n, s_astore_nN, s_lstore, s_lstore_n, s_iinc, s_iconst, s_bipush, s_sipush, s_lconst, s_ldc2_w, s_aconst_null, s_dupA, s_dupI, s_dup2, s_iadd, s_isub, s_imul, s_iand, s_ior, s_ixor, s_ishl, s_ishr, s_iushr, s_ineg, s_idiv, s_irem, s_ladd, s_lsub, s_lmul, s_land, s_lor, s_lxor, s_ldiv, s_lshl, s_lshr, s_lushr, s_i2l, s_l2i, s_lcmp, s_goto, s_ieq, s_ine, s_ilt, s_ige, s_igt, s_ile, s_zeq, s_zne, s_zlt, s_zge, s_zgt, s_zle, s_ifnull, s_ifnullN, s_ifnonnull, s_ifnonnullN, s_tableswitch, s_lookupswitch, s_getfield, s_putfield, s_getstatic, s_iaload, s_laload, s_baload, s_aaload, s_iastore, s_lastore, s_bastore, s_aastore, s_arraylength, s_newI, s_newJ, s_newZ, s_anewarray, s_new, s_copy, s_max, s_min, s_invokestatic, s_objinit, s_invokespecial, kf_isr_r, s_invokevirtual, s_ireturn, s_lreturn, s_areturn, s_areturnN, s_return, lI_0, lI_s, lJ_0, lJ_s, lA_0, lA_0N, lA_s, lS1_0, lS1_1, lS1_2, lS2_0, lS2_1, lS2_2, lK_n, lK_i, lK_j, lK_a, lK_N, d_C', kf_w_0, kf_w_i, kf_w_a, kf_w_n, kf_w_j, c_0, c_1, c_2, c_3, c_4, c_5, c_6, tl_0, tl_1, Option.bind_some, Option.bind_none, Option.map_some, Nat.reduceAdd, Nat.reduceMul, Nat.reduceDiv, Nat.reduceMod, Int.reduceToNat, Fin.val_zero, Fin.isValue, Fin.val_one, Fin.val_two, fv_0, fv_1, fv_2, fv_3, fw_0, fw_1, d_ite, true_or, or_true, and_false, false_and, or_self, and_self, ow_16, g, rc, k1, k2], n1, c1, v0, by omega, o1⟩
theorem i64_1 : i64 (1 : Int64) 1 256 := ⟨rfl, by decide, by decide⟩
theorem i64_m1 : i64 (-1 : Int64) (-1) 256 := ⟨rfl, by decide, by decide⟩
theorem i64_3 : i64 (3 : Int64) 3 256 := ⟨rfl, by decide, by decide⟩
theorem i64_m3 : i64 (-3 : Int64) (-3) 256 := ⟨rfl, by decide, by decide⟩
theorem i64_9 : i64 (9 : Int64) 9 256 := ⟨rfl, by decide, by decide⟩
/-- draw: 1 + the seed modulo m - 1 -/
def drw (m s : Int) : Int := if s + 1 < m then s + 1 else s + 1 - m + 1
theorem f21 {M : kf_M} {f to a : Nat} {m va : Int} (hF : Mod M f m) (g4 : M[4]? = some (oJ sx_4)) (ha : Num M a va) (ht : Jar M to) (hto : 19 ≤ to) (hne : f ≠ to) (hne1 : f + 1 ≠ to) (a0 : 0 ≤ va) (a1 : va < 2 ^ 256) : ∃ M', kf_cl 21 [.ref f, .ref to, .ref a] M = some (none, M') ∧ Num M' to (drw m va) ∧ Off [to] M M' := by
  have u4 : Num M 4 1 := ⟨_, g4, lmb_1⟩
  have hm : 0 < m ∧ m < 2 ^ 256 := by
    obtain ⟨inv, -, -, -, h1, h2⟩ := hF
    exact ⟨h1, h2⟩
  obtain ⟨M1, k1, n1, o1⟩ := f15 i64_1 ha u4 ht hto (by omega) (by omega) (by decide) (by decide)
  rw [Int.one_mul] at n1
  have hF1 := hF.off o1 (by simpa using hne) (by simpa using hne1)
  have k2 := f22 hF1 n1
  have rc := hF1.rc
  unfold drw
  by_cases q : va + 1 < m
  · rw [if_pos q] at k2 ⊢
    have e1 : ¬ (1 : Int32) = 0 := by decide
    exact ⟨M1, by simp only [cl_21, e21_0, e21_1, e21_2, e21_3, e21_6, e21_9, e21_10, e21_11, e21_14, e21_17, e21_18, e21_19, e21_22, e21_23, e21_26, e21_29, e21_30, e21_31, e21_32, e21_35, e21_38, ow_21, Int32.reduceOfInt, Int32.reduceOfNat, Int32.reduceToNatClampNeg, Int32.reduceLT, Int32.reduceLE, Int32.reduceAdd, Int32.reduceSub, Int32.reduceMul, Int64.reduceOfNat, Int64.reduceOfInt, Nat.reduceLeDiff, Nat.reduceLT, Nat.reduceEqDiff, Nat.reduceSub, cs_0, cs_1, cs_2, cs_3, cs_4, cs_5, cs_6, cs_7, cs_8, or_false, false_or, not_false_eq_true, and_true, true_and, if_true, if_false, List.length_cons, List.length_nil, List.getElem?_cons_succ, List.getElem?_cons_zero, List.set_cons_succ, List.set_cons_zero, reduceIte, d_G, d_R, s_aload, s_aload_n, s_iload, s_iload_n, s_lload, s_lload_n, s_istore, s_istore_n, s_astore, s_astoreN, s_astore_n, s_astore_nN, s_lstore, s_lstore_n, s_iinc, s_iconst, s_bipush, s_sipush, s_lconst, s_ldc2_w, s_aconst_null, s_dupA, s_dupI, s_dup2, s_iadd, s_isub, s_imul, s_iand, s_ior, s_ixor, s_ishl, s_ishr, s_iushr, s_ineg, s_idiv, s_irem, s_ladd, s_lsub, s_lmul, s_land, s_lor, s_lxor, s_ldiv, s_lshl, s_lshr, s_lushr, s_i2l, s_l2i, s_lcmp, s_goto, s_ieq, s_ine, s_ilt, s_ige, s_igt, s_ile, s_zeq, s_zne, s_zlt, s_zge, s_zgt, s_zle, s_ifnull, s_ifnullN, s_ifnonnull, s_ifnonnullN, s_tableswitch, s_lookupswitch, s_getfield, s_putfield, s_getstatic, s_iaload, s_laload, s_baload, s_aaload, s_iastore, s_lastore, s_bastore, s_aastore, s_arraylength, s_newI, s_newJ, s_newZ, s_anewarray, s_new, s_copy, s_max, s_min, s_invokestatic, s_objinit, s_invokespecial, kf_isr_r, s_invokevirtual, s_ireturn, s_lreturn, s_areturn, s_areturnN, s_return, lI_0, lI_s, lJ_0, lJ_s, lA_0, lA_0N, lA_s, lS1_0, lS1_1, lS1_2, lS2_0, lS2_1, lS2_2, lK_n, lK_i, lK_j, lK_a, lK_N, d_C', kf_w_0, kf_w_i, kf_w_a, kf_w_n, kf_w_j, c_0, c_1, c_2, c_3, c_4, c_5, c_6, tl_0, tl_1, Option.bind_some, Option.bind_none, Option.map_some, Nat.reduceAdd, Nat.reduceMul, Nat.reduceDiv, Nat.reduceMod, Int.reduceToNat, Fin.val_zero, Fin.isValue, Fin.val_one, Fin.val_two, fv_0, fv_1, fv_2, fv_3, fw_0, fw_1, d_ite, true_or, or_true, and_false, false_and, or_self, and_self, ow_22, rc, k1, k2, e1], n1, o1⟩
  · rw [if_neg q] at k2 ⊢
    have hmm := hF1
    obtain ⟨inv, g⟩ := hF1.gO
    obtain ⟨-, -, nm, -⟩ := hmm
    obtain ⟨M2, k3, n2, o2⟩ := f15 i64_m1 n1 nm n1.jar hto (by omega) (by omega) (by omega) (by omega)
    have o12 := o1.tr o2
    have u42 : Num M2 4 1 := u4.off o12 (by simp; omega)
    obtain ⟨M3, k4, n3, o3⟩ := f15 i64_1 n2 u42 n2.jar hto (by omega) (by omega) (by decide) (by decide)
    refine ⟨M3, by simp only [cl_21, e21_0, e21_1, e21_2, e21_3, e21_6, e21_9, e21_10, e21_11, e21_14, e21_17, e21_18, e21_19, e21_22, e21_23, e21_26, e21_29, e21_30, e21_31, e21_32, e21_35, e21_38, ow_21, Int32.reduceOfInt, Int32.reduceOfNat, Int32.reduceToNatClampNeg, Int32.reduceLT, Int32.reduceLE, Int32.reduceAdd, Int32.reduceSub, Int32.reduceMul, Int64.reduceOfNat, Int64.reduceOfInt, Nat.reduceLeDiff, Nat.reduceLT, Nat.reduceEqDiff, Nat.reduceSub, cs_0, cs_1, cs_2, cs_3, cs_4, cs_5, cs_6, cs_7, cs_8, or_false, false_or, not_false_eq_true, and_true, true_and, if_true, if_false, List.length_cons, List.length_nil, List.getElem?_cons_succ, List.getElem?_cons_zero, List.set_cons_succ, List.set_cons_zero, reduceIte, d_G, d_R, s_aload, s_aload_n, s_iload, s_iload_n, s_lload, s_lload_n, s_istore, s_istore_n, s_astore, s_astoreN, s_astore_n, s_astore_nN, s_lstore, s_lstore_n, s_iinc, s_iconst, s_bipush, s_sipush, s_lconst, s_ldc2_w, s_aconst_null, s_dupA, s_dupI, s_dup2, s_iadd, s_isub, s_imul, s_iand, s_ior, s_ixor, s_ishl, s_ishr, s_iushr, s_ineg, s_idiv, s_irem, s_ladd, s_lsub, s_lmul, s_land, s_lor, s_lxor, s_ldiv, s_lshl, s_lshr, s_lushr, s_i2l, s_l2i, s_lcmp, s_goto, s_ieq, s_ine, s_ilt, s_ige, s_igt, s_ile, s_zeq, s_zne, s_zlt, s_zge, s_zgt, s_zle, s_ifnull, s_ifnullN, s_ifnonnull, s_ifnonnullN, s_tableswitch, s_lookupswitch, s_getfield, s_putfield, s_getstatic, s_iaload, s_laload, s_baload, s_aaload, s_iastore, s_lastore, s_bastore, s_aastore, s_arraylength, s_newI, s_newJ, s_newZ, s_anewarray, s_new, s_copy, s_max, s_min, s_invokestatic, s_objinit, s_invokespecial, kf_isr_r, s_invokevirtual, s_ireturn, s_lreturn, s_areturn, s_areturnN, s_return, lI_0, lI_s, lJ_0, lJ_s, lA_0, lA_0N, lA_s, lS1_0, lS1_1, lS1_2, lS2_0, lS2_1, lS2_2, lK_n, lK_i, lK_j, lK_a, lK_N, d_C', kf_w_0, kf_w_i, kf_w_a, kf_w_n, kf_w_j, c_0, c_1, c_2, c_3, c_4, c_5, c_6, tl_0, tl_1, Option.bind_some, Option.bind_none, Option.map_some, Nat.reduceAdd, Nat.reduceMul, Nat.reduceDiv, Nat.reduceMod, Int.reduceToNat, Fin.val_zero, Fin.isValue, Fin.val_one, Fin.val_two, fv_0, fv_1, fv_2, fv_3, fw_0, fw_1, d_ite, true_or, or_true, and_false, false_and, or_self, and_self, ow_22, rc, k1, k2, k3, k4, g], ?_, o12.tr o3⟩
    rw [show va + 1 - m + 1 = va + 1 + -1 * m + 1 * 1 by omega]
    exact n3
/-! isProper -/
def zrx (la : List Int64) (i : Nat) : Nat → Bool → Bool
  | 0, z => z
  | n + 1, z => zrx la (i + 1) n (z && decide (la.getD i 0 = 0))
def b01 (z : Bool) : Int32 := if z = true then 1 else 0
theorem c20l {M : kf_M} {a f : Nat} {la : List Int64} (ga : gJ M a = some la) (l1 : la.length = 10) : ∀ (n i : Nat) (z : Bool), i + n = 10 → kf_ev 20 4 [some (.ref f), some (.ref a), some (.int (b01 z)), some (.int (nI i))] [] M = kf_ev 20 34 [some (.ref f), some (.ref a), some (.int (b01 (zrx la i n z))), some (.int 10)] [] M := by
  intro n
  induction n with
  | zero =>
    intro i z hi
    have hi : i = 10 := by omega
    subst hi
    have e : (10 : Int32) ≤ nI 10 := by decide
    refine (e20_4 _ _ _).trans ?_
    simp only [cl_20, e20_0, e20_1, e20_2, e20_3, e20_5, e20_7, e20_10, e20_11, e20_14, e20_15, e20_16, e20_17, e20_18, e20_19, e20_22, e20_23, e20_26, e20_27, e20_28, e20_31, e20_35, e20_38, e20_39, e20_40, e20_43, e20_46, e20_47, e20_50, e20_51, ow_20, Int32.reduceOfInt, Int32.reduceOfNat, Int32.reduceToNatClampNeg, Int32.reduceLT, Int32.reduceLE, Int32.reduceAdd, Int32.reduceSub, Int32.reduceMul, Int64.reduceOfNat, Int64.reduceOfInt, Nat.reduceLeDiff, Nat.reduceLT, Nat.reduceEqDiff, Nat.reduceSub, cs_0, cs_1, cs_2, cs_3, cs_4, cs_5, cs_6, cs_7, cs_8, or_false, false_or, not_false_eq_true, and_true, true_and, if_true, if_false, List.length_cons, List.length_nil, List.getElem?_cons_succ, List.getElem?_cons_zero, List.set_cons_succ, List.set_cons_zero, reduceIte, d_G, d_R, s_aload, s_aload_n, s_iload, s_iload_n, s_lload, s_lload_n, s_istore, s_istore_n, s_astore, s_astoreN, s_astore_n, s_astore_nN, s_lstore, s_lstore_n, s_iinc, s_iconst, s_bipush, s_sipush, s_lconst, s_ldc2_w, s_aconst_null, s_dupA, s_dupI, s_dup2, s_iadd, s_isub, s_imul, s_iand, s_ior, s_ixor, s_ishl, s_ishr, s_iushr, s_ineg, s_idiv, s_irem, s_ladd, s_lsub, s_lmul, s_land, s_lor, s_lxor, s_ldiv, s_lshl, s_lshr, s_lushr, s_i2l, s_l2i, s_lcmp, s_goto, s_ieq, s_ine, s_ilt, s_ige, s_igt, s_ile, s_zeq, s_zne, s_zlt, s_zge, s_zgt, s_zle, s_ifnull, s_ifnullN, s_ifnonnull, s_ifnonnullN, s_tableswitch, s_lookupswitch, s_getfield, s_putfield, s_getstatic, s_iaload, s_laload, s_baload, s_aaload, s_iastore, s_lastore, s_bastore, s_aastore, s_arraylength, s_newI, s_newJ, s_newZ, s_anewarray, s_new, s_copy, s_max, s_min, s_invokestatic, s_objinit, s_invokespecial, kf_isr_r, s_invokevirtual, s_ireturn, s_lreturn, s_areturn, s_areturnN, s_return, lI_0, lI_s, lJ_0, lJ_s, lA_0, lA_0N, lA_s, lS1_0, lS1_1, lS1_2, lS2_0, lS2_1, lS2_2, lK_n, lK_i, lK_j, lK_a, lK_N, d_C', kf_w_0, kf_w_i, kf_w_a, kf_w_n, kf_w_j, c_0, c_1, c_2, c_3, c_4, c_5, c_6, tl_0, tl_1, Option.bind_some, Option.bind_none, Option.map_some, Nat.reduceAdd, Nat.reduceMul, Nat.reduceDiv, Nat.reduceMod, Int.reduceToNat, Fin.val_zero, Fin.isValue, Fin.val_one, Fin.val_two, fv_0, fv_1, fv_2, fv_3, fw_0, fw_1, d_ite, true_or, or_true, and_false, false_and, or_self, and_self, e, zrx]
    rfl
  | succ n ih =>
    intro i z hi
    have e : ¬ (10 : Int32) ≤ nI i := nI_ge (a := i) (b := 10) (by omega) (by omega)
    have p0 : ¬ nI i < 0 := nI_pos (by omega)
    have p1 : (nI i).toNatClampNeg = i := nI_clamp (by omega)
    have x1 := jD_of (xs := la) (i := i) (by omega)
    have ih' := ih (i + 1) (z && decide (la.getD i 0 = 0)) (by omega)
    have h10 : ¬ (1 : Int32) = 0 := by decide
    refine (e20_4 _ _ _).trans (Eq.trans ?_ ih')
    cases z with
    | false =>
      simp only [cl_20, e20_0, e20_1, e20_2, e20_3, e20_5, e20_7, e20_10, e20_11, e20_14, e20_15, e20_16, e20_17, e20_18, e20_19, e20_22, e20_23, e20_26, e20_27, e20_28, e20_31, e20_35, e20_38, e20_39, e20_40, e20_43, e20_46, e20_47, e20_50, e20_51, ow_20, Int32.reduceOfInt, Int32.reduceOfNat, Int32.reduceToNatClampNeg, Int32.reduceLT, Int32.reduceLE, Int32.reduceAdd, Int32.reduceSub, Int32.reduceMul, Int64.reduceOfNat, Int64.reduceOfInt, Nat.reduceLeDiff, Nat.reduceLT, Nat.reduceEqDiff, Nat.reduceSub, cs_0, cs_1, cs_2, cs_3, cs_4, cs_5, cs_6, cs_7, cs_8, or_false, false_or, not_false_eq_true, and_true, true_and, if_true, if_false, List.length_cons, List.length_nil, List.getElem?_cons_succ, List.getElem?_cons_zero, List.set_cons_succ, List.set_cons_zero, reduceIte, d_G, d_R, s_aload, s_aload_n, s_iload, s_iload_n, s_lload, s_lload_n, s_istore, s_istore_n, s_astore, s_astoreN, s_astore_n, s_astore_nN, s_lstore, s_lstore_n, s_iinc, s_iconst, s_bipush, s_sipush, s_lconst, s_ldc2_w, s_aconst_null, s_dupA, s_dupI, s_dup2, s_iadd, s_isub, s_imul, s_iand, s_ior, s_ixor, s_ishl, s_ishr, s_iushr, s_ineg, s_idiv, s_irem, s_ladd, s_lsub, s_lmul, s_land, s_lor, s_lxor, s_ldiv, s_lshl, s_lshr, s_lushr, s_i2l, s_l2i, s_lcmp, s_goto, s_ieq, s_ine, s_ilt, s_ige, s_igt, s_ile, s_zeq, s_zne, s_zlt, s_zge, s_zgt, s_zle, s_ifnull, s_ifnullN, s_ifnonnull, s_ifnonnullN, s_tableswitch, s_lookupswitch, s_getfield, s_putfield, s_getstatic, s_iaload, s_laload, s_baload, s_aaload, s_iastore, s_lastore, s_bastore, s_aastore, s_arraylength, s_newI, s_newJ, s_newZ, s_anewarray, s_new, s_copy, s_max, s_min, s_invokestatic, s_objinit, s_invokespecial, kf_isr_r, s_invokevirtual, s_ireturn, s_lreturn, s_areturn, s_areturnN, s_return, lI_0, lI_s, lJ_0, lJ_s, lA_0, lA_0N, lA_s, lS1_0, lS1_1, lS1_2, lS2_0, lS2_1, lS2_2, lK_n, lK_i, lK_j, lK_a, lK_N, d_C', kf_w_0, kf_w_i, kf_w_a, kf_w_n, kf_w_j, c_0, c_1, c_2, c_3, c_4, c_5, c_6, tl_0, tl_1, Option.bind_some, Option.bind_none, Option.map_some, Nat.reduceAdd, Nat.reduceMul, Nat.reduceDiv, Nat.reduceMod, Int.reduceToNat, Fin.val_zero, Fin.isValue, Fin.val_one, Fin.val_two, fv_0, fv_1, fv_2, fv_3, fw_0, fw_1, d_ite, true_or, or_true, and_false, false_and, or_self, and_self, e, b01, Bool.false_and, Bool.false_eq_true, nI_1]
    | true =>
      by_cases q : la.getD i 0 = 0
      · simp only [cl_20, e20_0, e20_1, e20_2, e20_3, e20_5, e20_7, e20_10, e20_11, e20_14, e20_15, e20_16, e20_17, e20_18, e20_19, e20_22, e20_23, e20_26, e20_27, e20_28, e20_31, e20_35, e20_38, e20_39, e20_40, e20_43, e20_46, e20_47, e20_50, e20_51, ow_20, Int32.reduceOfInt, Int32.reduceOfNat, Int32.reduceToNatClampNeg, Int32.reduceLT, Int32.reduceLE, Int32.reduceAdd, Int32.reduceSub, Int32.reduceMul, Int64.reduceOfNat, Int64.reduceOfInt, Nat.reduceLeDiff, Nat.reduceLT, Nat.reduceEqDiff, Nat.reduceSub, cs_0, cs_1, cs_2, cs_3, cs_4, cs_5, cs_6, cs_7, cs_8, or_false, false_or, not_false_eq_true, and_true, true_and, if_true, if_false, List.length_cons, List.length_nil, List.getElem?_cons_succ, List.getElem?_cons_zero, List.set_cons_succ, List.set_cons_zero, reduceIte, d_G, d_R, s_aload, s_aload_n, s_iload, s_iload_n, s_lload, s_lload_n, s_istore, s_istore_n, s_astore, s_astoreN, s_astore_n, s_astore_nN, s_lstore, s_lstore_n, s_iinc, s_iconst, s_bipush, s_sipush, s_lconst, s_ldc2_w, s_aconst_null, s_dupA, s_dupI, s_dup2, s_iadd, s_isub, s_imul, s_iand, s_ior, s_ixor, s_ishl, s_ishr, s_iushr, s_ineg, s_idiv, s_irem, s_ladd, s_lsub, s_lmul, s_land, s_lor, s_lxor, s_ldiv, s_lshl, s_lshr, s_lushr, s_i2l, s_l2i, s_lcmp, s_goto, s_ieq, s_ine, s_ilt, s_ige, s_igt, s_ile, s_zeq, s_zne, s_zlt, s_zge, s_zgt, s_zle, s_ifnull, s_ifnullN, s_ifnonnull, s_ifnonnullN, s_tableswitch, s_lookupswitch, s_getfield, s_putfield, s_getstatic, s_iaload, s_laload, s_baload, s_aaload, s_iastore, s_lastore, s_bastore, s_aastore, s_arraylength, s_newI, s_newJ, s_newZ, s_anewarray, s_new, s_copy, s_max, s_min, s_invokestatic, s_objinit, s_invokespecial, kf_isr_r, s_invokevirtual, s_ireturn, s_lreturn, s_areturn, s_areturnN, s_return, lI_0, lI_s, lJ_0, lJ_s, lA_0, lA_0N, lA_s, lS1_0, lS1_1, lS1_2, lS2_0, lS2_1, lS2_2, lK_n, lK_i, lK_j, lK_a, lK_N, d_C', kf_w_0, kf_w_i, kf_w_a, kf_w_n, kf_w_j, c_0, c_1, c_2, c_3, c_4, c_5, c_6, tl_0, tl_1, Option.bind_some, Option.bind_none, Option.map_some, Nat.reduceAdd, Nat.reduceMul, Nat.reduceDiv, Nat.reduceMod, Int.reduceToNat, Fin.val_zero, Fin.isValue, Fin.val_one, Fin.val_two, fv_0, fv_1, fv_2, fv_3, fw_0, fw_1, d_ite, true_or, or_true, and_false, false_and, or_self, and_self, ga, e, p0, p1, x1, b01, h10, lg0, eq_true q, Bool.true_and, decide_true, nI_1]
      · simp only [cl_20, e20_0, e20_1, e20_2, e20_3, e20_5, e20_7, e20_10, e20_11, e20_14, e20_15, e20_16, e20_17, e20_18, e20_19, e20_22, e20_23, e20_26, e20_27, e20_28, e20_31, e20_35, e20_38, e20_39, e20_40, e20_43, e20_46, e20_47, e20_50, e20_51, ow_20, Int32.reduceOfInt, Int32.reduceOfNat, Int32.reduceToNatClampNeg, Int32.reduceLT, Int32.reduceLE, Int32.reduceAdd, Int32.reduceSub, Int32.reduceMul, Int64.reduceOfNat, Int64.reduceOfInt, Nat.reduceLeDiff, Nat.reduceLT, Nat.reduceEqDiff, Nat.reduceSub, cs_0, cs_1, cs_2, cs_3, cs_4, cs_5, cs_6, cs_7, cs_8, or_false, false_or, not_false_eq_true, and_true, true_and, if_true, if_false, List.length_cons, List.length_nil, List.getElem?_cons_succ, List.getElem?_cons_zero, List.set_cons_succ, List.set_cons_zero, reduceIte, d_G, d_R, s_aload, s_aload_n, s_iload, s_iload_n, s_lload, s_lload_n, s_istore, s_istore_n, s_astore, s_astoreN, s_astore_n, s_astore_nN, s_lstore, s_lstore_n, s_iinc, s_iconst, s_bipush, s_sipush, s_lconst, s_ldc2_w, s_aconst_null, s_dupA, s_dupI, s_dup2, s_iadd, s_isub, s_imul, s_iand, s_ior, s_ixor, s_ishl, s_ishr, s_iushr, s_ineg, s_idiv, s_irem, s_ladd, s_lsub, s_lmul, s_land, s_lor, s_lxor, s_ldiv, s_lshl, s_lshr, s_lushr, s_i2l, s_l2i, s_lcmp, s_goto, s_ieq, s_ine, s_ilt, s_ige, s_igt, s_ile, s_zeq, s_zne, s_zlt, s_zge, s_zgt, s_zle, s_ifnull, s_ifnullN, s_ifnonnull, s_ifnonnullN, s_tableswitch, s_lookupswitch, s_getfield, s_putfield, s_getstatic, s_iaload, s_laload, s_baload, s_aaload, s_iastore, s_lastore, s_bastore, s_aastore, s_arraylength, s_newI, s_newJ, s_newZ, s_anewarray, s_new, s_copy, s_max, s_min, s_invokestatic, s_objinit, s_invokespecial, kf_isr_r, s_invokevirtual, s_ireturn, s_lreturn, s_areturn, s_areturnN, s_return, lI_0, lI_s, lJ_0, lJ_s, lA_0, lA_0N, lA_s, lS1_0, lS1_1, lS1_2, lS2_0, lS2_1, lS2_2, lK_n, lK_i, lK_j, lK_a, lK_N, d_C', kf_w_0, kf_w_i, kf_w_a, kf_w_n, kf_w_j, c_0, c_1, c_2, c_3, c_4, c_5, c_6, tl_0, tl_1, Option.bind_some, Option.bind_none, Option.map_some, Nat.reduceAdd, Nat.reduceMul, Nat.reduceDiv, Nat.reduceMod, Int.reduceToNat, Fin.val_zero, Fin.isValue, Fin.val_one, Fin.val_two, fv_0, fv_1, fv_2, fv_3, fw_0, fw_1, d_ite, true_or, or_true, and_false, false_and, or_self, and_self, ga, e, p0, p1, x1, b01, h10, lg0, eq_false q, Bool.true_and, decide_false, Bool.false_eq_true, nI_1]
