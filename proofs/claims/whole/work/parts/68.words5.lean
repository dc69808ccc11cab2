/-! inverse -/
def Iv4 (M : kf_M) : Prop := War M 309 ∧ War M 310 ∧ War M 311 ∧ War M 312
theorem Iv4.off {M M' : kf_M} {A : List Nat} (h : Iv4 M) (ho : Off A M M') (h1 : 309 ∉ A) (h2 : 310 ∉ A) (h3 : 311 ∉ A) (h4 : 312 ∉ A) : Iv4 M' := ⟨h.1.off ho h1, h.2.1.off ho h2, h.2.2.1.off ho h3, h.2.2.2.off ho h4⟩
theorem cg_less {a b m : Nat} (hb : b ≤ m) : cg m ((a + (m - b)) % m : Nat) ((a : Int) - b) := by
  refine ⟨-((a + (m - b)) / m : Nat) + 1, ?_⟩
  have h := Nat.div_add_mod (a + (m - b)) m
  have h2 : ((m * ((a + (m - b)) / m) : Nat) : Int) = m * ((a + (m - b)) / m : Nat) := Int.natCast_mul _ _
  rw [Int.mul_add, Int.mul_neg, ← h2]
  generalize m * ((a + (m - b)) / m) = z at *
  omega
theorem c151l {to a m vm : Nat} {fs : List Value} {A : Int} (hm19 : m < 19) (hodd : vm % 2 = 1) : ∀ (n u v x1 x2 : Nat) (M : kf_M), u + v ≤ n → Nat.gcd u v = 1 → MdIs M fs → Wd M m vm → Wd M 309 u → Wd M 310 v → Wd M 311 x1 → Wd M 312 x2 → x1 < vm → x2 < vm → cg vm (x1 * A) u → cg vm (x2 * A) v → ∃ (M' : kf_M) (u' v' x1' x2' : Nat), kf_ev 151 32 [some (.ref 284), some (.ref to), some (.ref a), some (.ref m)] [] M = kf_ev 151 158 [some (.ref 284), some (.ref to), some (.ref a), some (.ref m)] [] M' ∧ (u' = 1 ∨ v' = 1) ∧ Wd M' 309 u' ∧ Wd M' 310 v' ∧ Wd M' 311 x1' ∧ Wd M' 312 x2' ∧ x1' < vm ∧ x2' < vm ∧ cg vm (x1' * A) u' ∧ cg vm (x2' * A) v' ∧ Off [309, 310, 311, 312] M M' := by
  intro n
  have z1 : ¬ (1 : Int32) = 0 := by decide
  induction n with
  | zero =>
    intro u v x1 x2 M h1 h2
    have : u = 0 := by omega
    have : v = 0 := by omega
    subst u v
    exact absurd h2 (by decide)
  | succ n ih =>
    intro u v x1 x2 M h1 h2 hM wm wu wv1 wx1 wx2 b1 b2 c1 c2
    have g := gO_of hM.1
    have r37 := hM.rf 37 309 (by decide)
    have r38 := hM.rf 38 310 (by decide)
    have r39 := hM.rf 39 311 (by decide)
    have r40 := hM.rf 40 312 (by decide)
    have i1 := n139 wu
    have i2 := n139 wv1
    by_cases q1 : u = 1
    · rw [if_pos q1] at i1
      refine ⟨M, u, v, x1, x2, (e151_32 _ _ _).trans ?_, Or.inl q1, wu, wv1, wx1, wx2, b1, b2, c1, c2, Off.rf⟩
      simp only [cl_151, e151_0, e151_1, e151_4, e151_5, e151_8, e151_9, e151_12, e151_13, e151_16, e151_17, e151_20, e151_21, e151_24, e151_25, e151_28, e151_29, e151_33, e151_36, e151_39, e151_42, e151_43, e151_46, e151_49, e151_52, e151_53, e151_56, e151_57, e151_60, e151_61, e151_64, e151_65, e151_68, e151_69, e151_72, e151_73, e151_76, e151_77, e151_80, e151_81, e151_84, e151_87, e151_90, e151_91, e151_94, e151_95, e151_98, e151_99, e151_102, e151_105, e151_106, e151_109, e151_110, e151_113, e151_114, e151_117, e151_118, e151_121, e151_124, e151_125, e151_128, e151_129, e151_132, e151_133, e151_136, e151_139, e151_140, e151_143, e151_144, e151_147, e151_148, e151_151, e151_152, e151_155, e151_159, e151_160, e151_163, e151_166, e151_169, e151_170, e151_173, e151_176, e151_177, e151_180, e151_183, ow_151, Int32.reduceOfInt, Int32.reduceOfNat, Int32.reduceToNatClampNeg, Int32.reduceLT, Int32.reduceLE, Int32.reduceAdd, Int32.reduceSub, Int32.reduceMul, Int64.reduceOfNat, Int64.reduceOfInt, Nat.reduceLeDiff, Nat.reduceLT, Nat.reduceEqDiff, Nat.reduceSub, cs_0, cs_1, cs_2, cs_3, cs_4, cs_5, cs_6, cs_7, cs_8, or_false, false_or, not_false_eq_true, and_true, true_and, if_true, if_false, List.length_cons, List.length_nil, List.getElem?_cons_succ, List.getElem?_cons_zero, List.set_cons_succ, List.set_cons_zero, reduceIte, d_G, d_R, s_aload, s_aload_n, s_iload, s_iload_n, s_lload, s_lload_n, s_istore, s_istore_n, s_astore, s_astoreN, s_astore_n, s_astore_nN, s_lstore, s_lstore_n, s_iinc, s_iconst, s_bipush, s_sipush, s_lconst, s_ldc2_w, s_aconst_null, s_dupA, s_dupI, s_dup2, s_iadd, s_isub, s_imul, s_iand, s_ior, s_ixor, s_ishl, s_ishr, s_iushr, s_ineg, s_idiv, s_irem, s_ladd, s_lsub, s_lmul, s_land, s_lor, s_lxor, s_ldiv, s_lshl, s_lshr, s_lushr, s_i2l, s_l2i, s_lcmp, s_goto, s_ieq, s_ine, s_ilt, s_ige, s_igt, s_ile, s_zeq, s_zne, s_zlt, s_zge, s_zgt, s_zle, s_ifnull, s_ifnullN, s_ifnonnull, s_ifnonnullN, s_tableswitch, s_lookupswitch, s_getfield, s_putfield, s_getstatic, s_iaload, s_laload, s_baload, s_aaload, s_iastore, s_lastore, s_bastore, s_aastore, s_arraylength, s_newI, s_newJ, s_newZ, s_anewarray, s_new, s_copy, s_max, s_min, s_invokestatic, s_objinit, s_invokespecial, kf_isr_r, s_invokevirtual, s_ireturn, s_lreturn, s_areturn, s_areturnN, s_return, lI_0, lI_s, lJ_0, lJ_s, lA_0, lA_0N, lA_s, lS1_0, lS1_1, lS1_2, lS2_0, lS2_1, lS2_2, lK_n, lK_i, lK_j, lK_a, lK_N, d_C', kf_w_0, kf_w_i, kf_w_a, kf_w_n, kf_w_j, c_0, c_1, c_2, c_3, c_4, c_5, c_6, tl_0, tl_1, Option.bind_some, Option.bind_none, Option.map_some, Nat.reduceAdd, Nat.reduceMul, Nat.reduceDiv, Nat.reduceMod, Int.reduceToNat, Fin.val_zero, Fin.isValue, Fin.val_one, Fin.val_two, fv_0, fv_1, fv_2, fv_3, fw_0, fw_1, d_ite, true_or, or_true, and_false, false_and, or_self, and_self, g, r37, i1, z1]
    rw [if_neg q1] at i1
    by_cases q2 : v = 1
    · rw [if_pos q2] at i2
      refine ⟨M, u, v, x1, x2, (e151_32 _ _ _).trans ?_, Or.inr q2, wu, wv1, wx1, wx2, b1, b2, c1, c2, Off.rf⟩
      simp only [cl_151, e151_0, e151_1, e151_4, e151_5, e151_8, e151_9, e151_12, e151_13, e151_16, e151_17, e151_20, e151_21, e151_24, e151_25, e151_28, e151_29, e151_33, e151_36, e151_39, e151_42, e151_43, e151_46, e151_49, e151_52, e151_53, e151_56, e151_57, e151_60, e151_61, e151_64, e151_65, e151_68, e151_69, e151_72, e151_73, e151_76, e151_77, e151_80, e151_81, e151_84, e151_87, e151_90, e151_91, e151_94, e151_95, e151_98, e151_99, e151_102, e151_105, e151_106, e151_109, e151_110, e151_113, e151_114, e151_117, e151_118, e151_121, e151_124, e151_125, e151_128, e151_129, e151_132, e151_133, e151_136, e151_139, e151_140, e151_143, e151_144, e151_147, e151_148, e151_151, e151_152, e151_155, e151_159, e151_160, e151_163, e151_166, e151_169, e151_170, e151_173, e151_176, e151_177, e151_180, e151_183, ow_151, Int32.reduceOfInt, Int32.reduceOfNat, Int32.reduceToNatClampNeg, Int32.reduceLT, Int32.reduceLE, Int32.reduceAdd, Int32.reduceSub, Int32.reduceMul, Int64.reduceOfNat, Int64.reduceOfInt, Nat.reduceLeDiff, Nat.reduceLT, Nat.reduceEqDiff, Nat.reduceSub, cs_0, cs_1, cs_2, cs_3, cs_4, cs_5, cs_6, cs_7, cs_8, or_false, false_or, not_false_eq_true, and_true, true_and, if_true, if_false, List.length_cons, List.length_nil, List.getElem?_cons_succ, List.getElem?_cons_zero, List.set_cons_succ, List.set_cons_zero, reduceIte, d_G, d_R, s_aload, s_aload_n, s_iload, s_iload_n, s_lload, s_lload_n, s_istore, s_istore_n, s_astore, s_astoreN, s_astore_n, s_astore_nN, s_lstore, s_lstore_n, s_iinc, s_iconst, s_bipush, s_sipush, s_lconst, s_ldc2_w, s_aconst_null, s_dupA, s_dupI, s_dup2, s_iadd, s_isub, s_imul, s_iand, s_ior, s_ixor, s_ishl, s_ishr, s_iushr, s_ineg, s_idiv, s_irem, s_ladd, s_lsub, s_lmul, s_land, s_lor, s_lxor, s_ldiv, s_lshl, s_lshr, s_lushr, s_i2l, s_l2i, s_lcmp, s_goto, s_ieq, s_ine, s_ilt, s_ige, s_igt, s_ile, s_zeq, s_zne, s_zlt, s_zge, s_zgt, s_zle, s_ifnull, s_ifnullN, s_ifnonnull, s_ifnonnullN, s_tableswitch, s_lookupswitch, s_getfield, s_putfield, s_getstatic, s_iaload, s_laload, s_baload, s_aaload, s_iastore, s_lastore, s_bastore, s_aastore, s_arraylength, s_newI, s_newJ, s_newZ, s_anewarray, s_new, s_copy, s_max, s_min, s_invokestatic, s_objinit, s_invokespecial, kf_isr_r, s_invokevirtual, s_ireturn, s_lreturn, s_areturn, s_areturnN, s_return, lI_0, lI_s, lJ_0, lJ_s, lA_0, lA_0N, lA_s, lS1_0, lS1_1, lS1_2, lS2_0, lS2_1, lS2_2, lK_n, lK_i, lK_j, lK_a, lK_N, d_C', kf_w_0, kf_w_i, kf_w_a, kf_w_n, kf_w_j, c_0, c_1, c_2, c_3, c_4, c_5, c_6, tl_0, tl_1, Option.bind_some, Option.bind_none, Option.map_some, Nat.reduceAdd, Nat.reduceMul, Nat.reduceDiv, Nat.reduceMod, Int.reduceToNat, Fin.val_zero, Fin.isValue, Fin.val_one, Fin.val_two, fv_0, fv_1, fv_2, fv_3, fw_0, fw_1, d_ite, true_or, or_true, and_false, false_and, or_self, and_self, g, r37, r38, i1, i2, z1]
    rw [if_neg q2] at i2
    have u0 : 0 < u := by
      apply Nat.pos_of_ne_zero
      intro z
      subst z
      rw [Nat.gcd_zero_left] at h2
      exact q2 h2
    have v0 : 0 < v := by
      apply Nat.pos_of_ne_zero
      intro z
      subst z
      rw [Nat.gcd_zero_right] at h2
      exact q1 h2
    obtain ⟨M1, u1, y1, k1, s1, s2, s3, s4, s5, s6, s7, o1⟩ := n150 (a := 309) (x := 311) (m := m) (vm := vm) (by decide) (by decide) (by decide) (by omega) (by omega) hodd u u x1 M none (Nat.le_refl _) u0 b1 wu wx1 wm
    rw [← cl_150] at k1
    have hM1 := hM.off o1 (by decide)
    have wm1 := wm.off o1 (by simp; omega)
    have wv2 := wv1.off o1 (by decide)
    have wx3 := wx2.off o1 (by decide)
    obtain ⟨M2, v1, y2, k2, t1, t2, t3, t4, t5, t6, t7, o2⟩ := n150 (a := 310) (x := 312) (m := m) (vm := vm) (by decide) (by decide) (by decide) (by omega) (by omega) hodd v v x2 M1 none (Nat.le_refl _) v0 b2 wv2 wx3 wm1
    rw [← cl_150] at k2
    have hM2 := hM1.off o2 (by decide)
    have wm2 := wm1.off o2 (by simp; omega)
    have s1' := s1.off o2 (by decide)
    have s2' := s2.off o2 (by decide)
    have g1 := gO_of hM1.1
    have g2 := gO_of hM2.1
    have d1 := s7 A c1
    have d2 := t7 A c2
    have hg : Nat.gcd u1 v1 = 1 := Nat.Coprime.coprime_dvd_left s5 (Nat.Coprime.coprime_dvd_right t5 h2)
    have hl := n137 s1' t1
    have o12 : Off [309, 310, 311, 312] M M2 := (o1.wk (by decide)).tr (o2.wk (by decide))
    by_cases q3 : u1 < v1
    · rw [if_pos q3] at hl
      obtain ⟨M3, k3, w3, o3⟩ := n143 t1 s1' t1.ar (by decide)
      have l1 := t1.lt
      have l2 := s1'.lt
      rw [show (v1 + (2 ^ 256 - u1)) % 2 ^ 256 = v1 - u1 by omega] at w3
      have hM3 := hM2.off o3 (by decide)
      have g3 := gO_of hM3.1
      obtain ⟨M4, k4, w4, o4⟩ := n146 (t2.off o3 (by decide)) (s2'.off o3 (by decide)) (wm2.off o3 (by simp; omega)) (t2.off o3 (by decide)).ar (by decide) (by omega) t6 s6
      have hM4 := hM3.off o4 (by decide)
      have o24 : Off [309, 310, 311, 312] M2 M4 := (o3.wk (by decide)).tr (o4.wk (by decide))
      obtain ⟨M5, u', v', x1', x2', k5, f⟩ := ih u1 (v1 - u1) y1 _ M4 (by omega) (by rw [Nat.gcd_comm, Nat.gcd_sub_self_left (by omega), Nat.gcd_comm]; exact hg) hM4 (wm2.off o24 (by simp; omega)) ((s1'.off o3 (by decide)).off o4 (by decide)) (w3.off o4 (by decide)) ((s2'.off o3 (by decide)).off o4 (by decide)) w4 s6 (Nat.mod_lt _ (by omega)) d1 (by
        have e := cg_less (a := y2) (b := y1) (m := vm) (by omega)
        have e2 := cg_ml e (cg_rf (a := A))
        rw [Int.sub_mul] at e2
        have e3 := cg_sb d2 d1
        rw [show ((v1 - u1 : Nat) : Int) = (v1 : Int) - u1 by omega]
        exact cg_tr e2 e3)
      refine ⟨M5, u', v', x1', x2', (e151_32 _ _ _).trans (Eq.trans ?_ k5), f.1, f.2.1, f.2.2.1, f.2.2.2.1, f.2.2.2.2.1, f.2.2.2.2.2.1, f.2.2.2.2.2.2.1, f.2.2.2.2.2.2.2.1, f.2.2.2.2.2.2.2.2.1, (o12.tr o24).tr f.2.2.2.2.2.2.2.2.2⟩
      simp only [cl_151, e151_0, e151_1, e151_4, e151_5, e151_8, e151_9, e151_12, e151_13, e151_16, e151_17, e151_20, e151_21, e151_24, e151_25, e151_28, e151_29, e151_33, e151_36, e151_39, e151_42, e151_43, e151_46, e151_49, e151_52, e151_53, e151_56, e151_57, e151_60, e151_61, e151_64, e151_65, e151_68, e151_69, e151_72, e151_73, e151_76, e151_77, e151_80, e151_81, e151_84, e151_87, e151_90, e151_91, e151_94, e151_95, e151_98, e151_99, e151_102, e151_105, e151_106, e151_109, e151_110, e151_113, e151_114, e151_117, e151_118, e151_121, e151_124, e151_125, e151_128, e151_129, e151_132, e151_133, e151_136, e151_139, e151_140, e151_143, e151_144, e151_147, e151_148, e151_151, e151_152, e151_155, e151_159, e151_160, e151_163, e151_166, e151_169, e151_170, e151_173, e151_176, e151_177, e151_180, e151_183, ow_151, Int32.reduceOfInt, Int32.reduceOfNat, Int32.reduceToNatClampNeg, Int32.reduceLT, Int32.reduceLE, Int32.reduceAdd, Int32.reduceSub, Int32.reduceMul, Int64.reduceOfNat, Int64.reduceOfInt, Nat.reduceLeDiff, Nat.reduceLT, Nat.reduceEqDiff, Nat.reduceSub, cs_0, cs_1, cs_2, cs_3, cs_4, cs_5, cs_6, cs_7, cs_8, or_false, false_or, not_false_eq_true, and_true, true_and, if_true, if_false, List.length_cons, List.length_nil, List.getElem?_cons_succ, List.getElem?_cons_zero, List.set_cons_succ, List.set_cons_zero, reduceIte, d_G, d_R, s_aload, s_aload_n, s_iload, s_iload_n, s_lload, s_lload_n, s_istore, s_istore_n, s_astore, s_astoreN, s_astore_n, s_astore_nN, s_lstore, s_lstore_n, s_iinc, s_iconst, s_bipush, s_sipush, s_lconst, s_ldc2_w, s_aconst_null, s_dupA, s_dupI, s_dup2, s_iadd, s_isub, s_imul, s_iand, s_ior, s_ixor, s_ishl, s_ishr, s_iushr, s_ineg, s_idiv, s_irem, s_ladd, s_lsub, s_lmul, s_land, s_lor, s_lxor, s_ldiv, s_lshl, s_lshr, s_lushr, s_i2l, s_l2i, s_lcmp, s_goto, s_ieq, s_ine, s_ilt, s_ige, s_igt, s_ile, s_zeq, s_zne, s_zlt, s_zge, s_zgt, s_zle, s_ifnull, s_ifnullN, s_ifnonnull, s_ifnonnullN, s_tableswitch, s_lookupswitch, s_getfield, s_putfield, s_getstatic, s_iaload, s_laload, s_baload, s_aaload, s_iastore, s_lastore, s_bastore, s_aastore, s_arraylength, s_newI, s_newJ, s_newZ, s_anewarray, s_new, s_copy, s_max, s_min, s_invokestatic, s_objinit, s_invokespecial, kf_isr_r, s_invokevirtual, s_ireturn, s_lreturn, s_areturn, s_areturnN, s_return, lI_0, lI_s, lJ_0, lJ_s, lA_0, lA_0N, lA_s, lS1_0, lS1_1, lS1_2, lS2_0, lS2_1, lS2_2, lK_n, lK_i, lK_j, lK_a, lK_N, d_C', kf_w_0, kf_w_i, kf_w_a, kf_w_n, kf_w_j, c_0, c_1, c_2, c_3, c_4, c_5, c_6, tl_0, tl_1, Option.bind_some, Option.bind_none, Option.map_some, Nat.reduceAdd, Nat.reduceMul, Nat.reduceDiv, Nat.reduceMod, Int.reduceToNat, Fin.val_zero, Fin.isValue, Fin.val_one, Fin.val_two, fv_0, fv_1, fv_2, fv_3, fw_0, fw_1, d_ite, true_or, or_true, and_false, false_and, or_self, and_self, g, g1, g2, g3, r37, r38, r39, r40, i1, i2, z1, k1, k2, k3, k4, hl]
    · rw [if_neg q3] at hl
      obtain ⟨M3, k3, w3, o3⟩ := n143 s1' t1 s1'.ar (by decide)
      have l1 := t1.lt
      have l2 := s1'.lt
      rw [show (u1 + (2 ^ 256 - v1)) % 2 ^ 256 = u1 - v1 by omega] at w3
      have hM3 := hM2.off o3 (by decide)
      have g3 := gO_of hM3.1
      obtain ⟨M4, k4, w4, o4⟩ := n146 (s2'.off o3 (by decide)) (t2.off o3 (by decide)) (wm2.off o3 (by simp; omega)) (s2'.off o3 (by decide)).ar (by decide) (by omega) s6 t6
      have hM4 := hM3.off o4 (by decide)
      have o24 : Off [309, 310, 311, 312] M2 M4 := (o3.wk (by decide)).tr (o4.wk (by decide))
      obtain ⟨M5, u', v', x1', x2', k5, f⟩ := ih (u1 - v1) v1 _ y2 M4 (by omega) (by rw [Nat.gcd_sub_self_left (by omega)]; exact hg) hM4 (wm2.off o24 (by simp; omega)) (w3.off o4 (by decide)) ((t1.off o3 (by decide)).off o4 (by decide)) w4 ((t2.off o3 (by decide)).off o4 (by decide)) (Nat.mod_lt _ (by omega)) t6 (by
        have e := cg_less (a := y1) (b := y2) (m := vm) (by omega)
        have e2 := cg_ml e (cg_rf (a := A))
        rw [Int.sub_mul] at e2
        have e3 := cg_sb d1 d2
        rw [show ((u1 - v1 : Nat) : Int) = (u1 : Int) - v1 by omega]
        exact cg_tr e2 e3) d2
      refine ⟨M5, u', v', x1', x2', (e151_32 _ _ _).trans (Eq.trans ?_ k5), f.1, f.2.1, f.2.2.1, f.2.2.2.1, f.2.2.2.2.1, f.2.2.2.2.2.1, f.2.2.2.2.2.2.1, f.2.2.2.2.2.2.2.1, f.2.2.2.2.2.2.2.2.1, (o12.tr o24).tr f.2.2.2.2.2.2.2.2.2⟩
      simp only [cl_151, e151_0, e151_1, e151_4, e151_5, e151_8, e151_9, e151_12, e151_13, e151_16, e151_17, e151_20, e151_21, e151_24, e151_25, e151_28, e151_29, e151_33, e151_36, e151_39, e151_42, e151_43, e151_46, e151_49, e151_52, e151_53, e151_56, e151_57, e151_60, e151_61, e151_64, e151_65, e151_68, e151_69, e151_72, e151_73, e151_76, e151_77, e151_80, e151_81, e151_84, e151_87, e151_90, e151_91, e151_94, e151_95, e151_98, e151_99, e151_102, e151_105, e151_106, e151_109, e151_110, e151_113, e151_114, e151_117, e151_118, e151_121, e151_124, e151_125, e151_128, e151_129, e151_132, e151_133, e151_136, e151_139, e151_140, e151_143, e151_144, e151_147, e151_148, e151_151, e151_152, e151_155, e151_159, e151_160, e151_163, e151_166, e151_169, e151_170, e151_173, e151_176, e151_177, e151_180, e151_183, ow_151, Int32.reduceOfInt, Int32.reduceOfNat, Int32.reduceToNatClampNeg, Int32.reduceLT, Int32.reduceLE, Int32.reduceAdd, Int32.reduceSub, Int32.reduceMul, Int64.reduceOfNat, Int64.reduceOfInt, Nat.reduceLeDiff, Nat.reduceLT, Nat.reduceEqDiff, Nat.reduceSub, cs_0, cs_1, cs_2, cs_3, cs_4, cs_5, cs_6, cs_7, cs_8, or_false, false_or, not_false_eq_true, and_true, true_and, if_true, if_false, List.length_cons, List.length_nil, List.getElem?_cons_succ, List.getElem?_cons_zero, List.set_cons_succ, List.set_cons_zero, reduceIte, d_G, d_R, s_aload, s_aload_n, s_iload, s_iload_n, s_lload, s_lload_n, s_istore, s_istore_n, s_astore, s_astoreN, s_astore_n, s_astore_nN, s_lstore, s_lstore_n, s_iinc, s_iconst, s_bipush, s_sipush, s_lconst, s_ldc2_w, s_aconst_null, s_dupA, s_dupI, s_dup2, s_iadd, s_isub, s_imul, s_iand, s_ior, s_ixor, s_ishl, s_ishr, s_iushr, s_ineg, s_idiv, s_irem, s_ladd, s_lsub, s_lmul, s_land, s_lor, s_lxor, s_ldiv, s_lshl, s_lshr, s_lushr, s_i2l, s_l2i, s_lcmp, s_goto, s_ieq, s_ine, s_ilt, s_ige, s_igt, s_ile, s_zeq, s_zne, s_zlt, s_zge, s_zgt, s_zle, s_ifnull, s_ifnullN, s_ifnonnull, s_ifnonnullN, s_tableswitch, s_lookupswitch, s_getfield, s_putfield, s_getstatic, s_iaload, s_laload, s_baload, s_aaload, s_iastore, s_lastore, s_bastore, s_aastore, s_arraylength, s_newI, s_newJ, s_newZ, s_anewarray, s_new, s_copy, s_max, s_min, s_invokestatic, s_objinit, s_invokespecial, kf_isr_r, s_invokevirtual, s_ireturn, s_lreturn, s_areturn, s_areturnN, s_return, lI_0, lI_s, lJ_0, lJ_s, lA_0, lA_0N, lA_s, lS1_0, lS1_1, lS1_2, lS2_0, lS2_1, lS2_2, lK_n, lK_i, lK_j, lK_a, lK_N, d_C', kf_w_0, kf_w_i, kf_w_a, kf_w_n, kf_w_j, c_0, c_1, c_2, c_3, c_4, c_5, c_6, tl_0, tl_1, Option.bind_some, Option.bind_none, Option.map_some, Nat.reduceAdd, Nat.reduceMul, Nat.reduceDiv, Nat.reduceMod, Int.reduceToNat, Fin.val_zero, Fin.isValue, Fin.val_one, Fin.val_two, fv_0, fv_1, fv_2, fv_3, fw_0, fw_1, d_ite, true_or, or_true, and_false, false_and, or_self, and_self, g, g1, g2, g3, r37, r38, r39, r40, i1, i2, z1, k1, k2, k3, k4, hl]
theorem n151 {M : kf_M} {fs : List Value} {to a m va vm : Nat} (hM : MdIs M fs) (hI : Iv4 M) (ha : Wd M a va) (wm : Wd M m vm) (ht : War M to) (hto : 312 < to) (ha4 : a < 309 ∨ 312 < a) (hm19 : m < 19) (hodd : vm % 2 = 1) (h1 : 1 < vm) (hg : Nat.gcd va vm = 1) : ∃ (M' : kf_M) (w : Nat), kf_cl 151 [.ref 284, .ref to, .ref a, .ref m] M = some (none, M') ∧ Wd M' to w ∧ w < vm ∧ cg vm (w * va) 1 ∧ Iv4 M' ∧ Off [309, 310, 311, 312, to] M M' := by
  obtain ⟨j1, j2, j3, j4⟩ := hI
  have z1 : ¬ (1 : Int32) = 0 := by decide
  have g := gO_of hM.1
  have r37 := hM.rf 37 309 (by decide)
  have r38 := hM.rf 38 310 (by decide)
  have r39 := hM.rf 39 311 (by decide)
  have r40 := hM.rf 40 312 (by decide)
  obtain ⟨M1, k1, w1, o1⟩ := n140 ha j1 (by decide) (by omega)
  have hM1 := hM.off o1 (by decide)
  have g1 := gO_of hM1.1
  have wm1 := wm.off o1 (by simp; omega)
  obtain ⟨M2, k2, w2, o2⟩ := n140 wm1 (j2.off o1 (by decide)) (by decide) (by omega)
  have hM2 := hM1.off o2 (by decide)
  have g2 := gO_of hM2.1
  have wm2 := wm1.off o2 (by simp; omega)
  obtain ⟨M3, k3, w3, o3⟩ := n141 (v := 1) ((j3.off o1 (by decide)).off o2 (by decide)) (by decide)
  have hM3 := hM2.off o3 (by decide)
  have g3 := gO_of hM3.1
  have wm3 := wm2.off o3 (by simp; omega)
  obtain ⟨M4, k4, w4, o4⟩ := n141 (v := 0) (((j4.off o1 (by decide)).off o2 (by decide)).off o3 (by decide)) (by decide)
  have hM4 := hM3.off o4 (by decide)
  have wm4 := wm3.off o4 (by simp; omega)
  rw [show uw 1 = 1 from rfl] at w3
  rw [show uw 0 = 0 from rfl] at w4
  have o14 : Off [309, 310, 311, 312] M M4 := (((o1.wk (by decide)).tr (o2.wk (by decide))).tr (o3.wk (by decide))).tr (o4.wk (by decide))
  obtain ⟨M5, u', v', x1, x2, k5, e5, wu, wv1, wx1, wx2, b1, b2, c1, c2, o5⟩ := c151l (to := to) (a := a) (A := (va : Int)) hm19 hodd (va + vm) va vm 1 0 M4 (Nat.le_refl _) hg hM4 wm4 (((w1.off o2 (by decide)).off o3 (by decide)).off o4 (by decide)) ((w2.off o3 (by decide)).off o4 (by decide)) (w3.off o4 (by decide)) w4 h1 (by omega) (by rw [show ((1 : Nat) : Int) * va = va by omega]; exact cg_rf) (by rw [show ((0 : Nat) : Int) * va = 0 by omega]; exact ⟨-1, by omega⟩)
  have hM5 := hM4.off o5 (by decide)
  have g5 := gO_of hM5.1
  have o15 := o14.tr o5
  have i1 := n139 wu
  have ht5 := ht.off o15 (by simp; omega)
  have fin : ∀ (x w : Nat), (x = 311 ∨ x = 312) → Wd M5 x w → w < vm → cg vm (w * va) 1 → (∀ M6, kf_cl 140 [.ref to, .ref x] M5 = some (none, M6) → kf_ev 151 158 [some (.ref 284), some (.ref to), some (.ref a), some (.ref m)] [] M5 = some (none, M6)) → ∃ (M' : kf_M) (w : Nat), kf_ev 151 158 [some (.ref 284), some (.ref to), some (.ref a), some (.ref m)] [] M5 = some (none, M') ∧ Wd M' to w ∧ w < vm ∧ cg vm (w * va) 1 ∧ Iv4 M' ∧ Off [309, 310, 311, 312, to] M M' := by
    intro x w hx wx bw cw1 hk
    obtain ⟨M6, k6, w6, o6⟩ := n140 wx ht5 (by omega) (by omega)
    exact ⟨M6, w, hk M6 k6, w6, bw, cw1, ⟨wu.ar.off o6 (by simp; omega), wv1.ar.off o6 (by simp; omega), wx1.ar.off o6 (by simp; omega), wx2.ar.off o6 (by simp; omega)⟩, (o15.wk (by intro z hz; simp at hz ⊢; omega)).tr (o6.wk (by simp))⟩
  have fin2 : ∃ (M' : kf_M) (w : Nat), kf_ev 151 158 [some (.ref 284), some (.ref to), some (.ref a), some (.ref m)] [] M5 = some (none, M') ∧ Wd M' to w ∧ w < vm ∧ cg vm (w * va) 1 ∧ Iv4 M' ∧ Off [309, 310, 311, 312, to] M M' := by
    by_cases q : u' = 1
    · rw [if_pos q] at i1
      subst q
      refine fin 311 x1 (Or.inl rfl) wx1 b1 c1 (fun M6 k6 => (e151_158 _ _ _).trans ?_)
      simp only [cl_151, e151_0, e151_1, e151_4, e151_5, e151_8, e151_9, e151_12, e151_13, e151_16, e151_17, e151_20, e151_21, e151_24, e151_25, e151_28, e151_29, e151_33, e151_36, e151_39, e151_42, e151_43, e151_46, e151_49, e151_52, e151_53, e151_56, e151_57, e151_60, e151_61, e151_64, e151_65, e151_68, e151_69, e151_72, e151_73, e151_76, e151_77, e151_80, e151_81, e151_84, e151_87, e151_90, e151_91, e151_94, e151_95, e151_98, e151_99, e151_102, e151_105, e151_106, e151_109, e151_110, e151_113, e151_114, e151_117, e151_118, e151_121, e151_124, e151_125, e151_128, e151_129, e151_132, e151_133, e151_136, e151_139, e151_140, e151_143, e151_144, e151_147, e151_148, e151_151, e151_152, e151_155, e151_159, e151_160, e151_163, e151_166, e151_169, e151_170, e151_173, e151_176, e151_177, e151_180, e151_183, ow_151, Int32.reduceOfInt, Int32.reduceOfNat, Int32.reduceToNatClampNeg, Int32.reduceLT, Int32.reduceLE, Int32.reduceAdd, Int32.reduceSub, Int32.reduceMul, Int64.reduceOfNat, Int64.reduceOfInt, Nat.reduceLeDiff, Nat.reduceLT, Nat.reduceEqDiff, Nat.reduceSub, cs_0, cs_1, cs_2, cs_3, cs_4, cs_5, cs_6, cs_7, cs_8, or_false, false_or, not_false_eq_true, and_true, true_and, if_true, if_false, List.length_cons, List.length_nil, List.getElem?_cons_succ, List.getElem?_cons_zero, List.set_cons_succ, List.set_cons_zero, reduceIte, d_G, d_R, s_aload, s_aload_n, s_iload, s_iload_n, s_lload, s_lload_n, s_istore, s_istore_n, s_astore, s_astoreN, s_astore_n, s_astore_nN, s_lstore, s_lstore_n, s_iinc, s_iconst, s_bipush, s_sipush, s_lconst, s_ldc2_w, s_aconst_null, s_dupA, s_dupI, s_dup2, s_iadd, s_isub, s_imul, s_iand, s_ior, s_ixor, s_ishl, s_ishr, s_iushr, s_ineg, s_idiv, s_irem, s_ladd, s_lsub, s_lmul, s_land, s_lor, s_lxor, s_ldiv, s_lshl, s_lshr, s_lushr, s_i2l, s_l2i, s_lcmp, s_goto, s_ieq, s_ine, s_ilt, s_ige, s_igt, s_ile, s_zeq, s_zne, s_zlt, s_zge, s_zgt, s_zle, s_ifnull, s_ifnullN, s_ifnonnull, s_ifnonnullN, s_tableswitch, s_lookupswitch, s_getfield, s_putfield, s_getstatic, s_iaload, s_laload, s_baload, s_aaload, s_iastore, s_lastore, s_bastore, s_aastore, s_arraylength, s_newI, s_newJ, s_newZ, s_anewarray, s_new, s_copy, s_max, s_min, s_invokestatic, s_objinit, s_invokespecial, kf_isr_r, s_invokevirtual, s_ireturn, s_lreturn, s_areturn, s_areturnN, s_return, lI_0, lI_s, lJ_0, lJ_s, lA_0, lA_0N, lA_s, lS1_0, lS1_1, lS1_2, lS2_0, lS2_1, lS2_2, lK_n, lK_i, lK_j, lK_a, lK_N, d_C', kf_w_0, kf_w_i, kf_w_a, kf_w_n, kf_w_j, c_0, c_1, c_2, c_3, c_4, c_5, c_6, tl_0, tl_1, Option.bind_some, Option.bind_none, Option.map_some, Nat.reduceAdd, Nat.reduceMul, Nat.reduceDiv, Nat.reduceMod, Int.reduceToNat, Fin.val_zero, Fin.isValue, Fin.val_one, Fin.val_two, fv_0, fv_1, fv_2, fv_3, fw_0, fw_1, d_ite, true_or, or_true, and_false, false_and, or_self, and_self, g5, r37, r39, i1, z1, k6]
    · rw [if_neg q] at i1
      have q2 : v' = 1 := by omega
      subst q2
      refine fin 312 x2 (Or.inr rfl) wx2 b2 c2 (fun M6 k6 => (e151_158 _ _ _).trans ?_)
      simp only [cl_151, e151_0, e151_1, e151_4, e151_5, e151_8, e151_9, e151_12, e151_13, e151_16, e151_17, e151_20, e151_21, e151_24, e151_25, e151_28, e151_29, e151_33, e151_36, e151_39, e151_42, e151_43, e151_46, e151_49, e151_52, e151_53, e151_56, e151_57, e151_60, e151_61, e151_64, e151_65, e151_68, e151_69, e151_72, e151_73, e151_76, e151_77, e151_80, e151_81, e151_84, e151_87, e151_90, e151_91, e151_94, e151_95, e151_98, e151_99, e151_102, e151_105, e151_106, e151_109, e151_110, e151_113, e151_114, e151_117, e151_118, e151_121, e151_124, e151_125, e151_128, e151_129, e151_132, e151_133, e151_136, e151_139, e151_140, e151_143, e151_144, e151_147, e151_148, e151_151, e151_152, e151_155, e151_159, e151_160, e151_163, e151_166, e151_169, e151_170, e151_173, e151_176, e151_177, e151_180, e151_183, ow_151, Int32.reduceOfInt, Int32.reduceOfNat, Int32.reduceToNatClampNeg, Int32.reduceLT, Int32.reduceLE, Int32.reduceAdd, Int32.reduceSub, Int32.reduceMul, Int64.reduceOfNat, Int64.reduceOfInt, Nat.reduceLeDiff, Nat.reduceLT, Nat.reduceEqDiff, Nat.reduceSub, cs_0, cs_1, cs_2, cs_3, cs_4, cs_5, cs_6, cs_7, cs_8, or_false, false_or, not_false_eq_true, and_true, true_and, if_true, if_false, List.length_cons, List.length_nil, List.getElem?_cons_succ, List.getElem?_cons_zero, List.set_cons_succ, List.set_cons_zero, reduceIte, d_G, d_R, s_aload, s_aload_n, s_iload, s_iload_n, s_lload, s_lload_n, s_istore, s_istore_n, s_astore, s_astoreN, s_astore_n, s_astore_nN, s_lstore, s_lstore_n, s_iinc, s_iconst, s_bipush, s_sipush, s_lconst, s_ldc2_w, s_aconst_null, s_dupA, s_dupI, s_dup2, s_iadd, s_isub, s_imul, s_iand, s_ior, s_ixor, s_ishl, s_ishr, s_iushr, s_ineg, s_idiv, s_irem, s_ladd, s_lsub, s_lmul, s_land, s_lor, s_lxor, s_ldiv, s_lshl, s_lshr, s_lushr, s_i2l, s_l2i, s_lcmp, s_goto, s_ieq, s_ine, s_ilt, s_ige, s_igt, s_ile, s_zeq, s_zne, s_zlt, s_zge, s_zgt, s_zle, s_ifnull, s_ifnullN, s_ifnonnull, s_ifnonnullN, s_tableswitch, s_lookupswitch, s_getfield, s_putfield, s_getstatic, s_iaload, s_laload, s_baload, s_aaload, s_iastore, s_lastore, s_bastore, s_aastore, s_arraylength, s_newI, s_newJ, s_newZ, s_anewarray, s_new, s_copy, s_max, s_min, s_invokestatic, s_objinit, s_invokespecial, kf_isr_r, s_invokevirtual, s_ireturn, s_lreturn, s_areturn, s_areturnN, s_return, lI_0, lI_s, lJ_0, lJ_s, lA_0, lA_0N, lA_s, lS1_0, lS1_1, lS1_2, lS2_0, lS2_1, lS2_2, lK_n, lK_i, lK_j, lK_a, lK_N, d_C', kf_w_0, kf_w_i, kf_w_a, kf_w_n, kf_w_j, c_0, c_1, c_2, c_3, c_4, c_5, c_6, tl_0, tl_1, Option.bind_some, Option.bind_none, Option.map_some, Nat.reduceAdd, Nat.reduceMul, Nat.reduceDiv, Nat.reduceMod, Int.reduceToNat, Fin.val_zero, Fin.isValue, Fin.val_one, Fin.val_two, fv_0, fv_1, fv_2, fv_3, fw_0, fw_1, d_ite, true_or, or_true, and_false, false_and, or_self, and_self, g5, r37, r40, i1, k6]
  obtain ⟨M6, w, k6, f⟩ := fin2
  refine ⟨M6, w, ?_, f⟩
  simp only [cl_151, e151_0, e151_1, e151_4, e151_5, e151_8, e151_9, e151_12, e151_13, e151_16, e151_17, e151_20, e151_21, e151_24, e151_25, e151_28, e151_29, e151_33, e151_36, e151_39, e151_42, e151_43, e151_46, e151_49, e151_52, e151_53, e151_56, e151_57, e151_60, e151_61, e151_64, e151_65, e151_68, e151_69, e151_72, e151_73, e151_76, e151_77, e151_80, e151_81, e151_84, e151_87, e151_90, e151_91, e151_94, e151_95, e151_98, e151_99, e151_102, e151_105, e151_106, e151_109, e151_110, e151_113, e151_114, e151_117, e151_118, e151_121, e151_124, e151_125, e151_128, e151_129, e151_132, e151_133, e151_136, e151_139, e151_140, e151_143, e151_144, e151_147, e151_148, e151_151, e151_152, e151_155, e151_159, e151_160, e151_163, e151_166, e151_169, e151_170, e151_173, e151_176, e151_177, e151_180, e151_183, ow_151, Int32.reduceOfInt, Int32.reduceOfNat, Int32.reduceToNatClampNeg, Int32.reduceLT, Int32.reduceLE, Int32.reduceAdd, Int32.reduceSub, Int32.reduceMul, Int64.reduceOfNat, Int64.reduceOfInt, Nat.reduceLeDiff, Nat.reduceLT, Nat.reduceEqDiff, Nat.reduceSub, cs_0, cs_1, cs_2, cs_3, cs_4, cs_5, cs_6, cs_7, cs_8, or_false, false_or, not_false_eq_true, and_true, true_and, if_true, if_false, List.length_cons, List.length_nil, List.getElem?_cons_succ, List.getElem?_cons_zero, List.set_cons_succ, List.set_cons_zero, reduceIte, d_G, d_R, s_aload, s_aload_n, s_iload, s_iload_n, s_lload, s_lload_n, s_istore, s_istore_n, s_astore, s_astoreN, s_astore_n, s_astore_nN, s_lstore, s_lstore_n, s_iinc, s_iconst, s_bipush, s_sipush, s_lconst, s_ldc2_w, s_aconst_null, s_dupA, s_dupI, s_dup2, s_iadd, s_isub, s_imul, s_iand, s_ior, s_ixor, s_ishl, s_ishr, s_iushr, s_ineg, s_idiv, s_irem, s_ladd, s_lsub, s_lmul, s_land, s_lor, s_lxor, s_ldiv, s_lshl, s_lshr, s_lushr, s_i2l, s_l2i, s_lcmp, s_goto, s_ieq, s_ine, s_ilt, s_ige, s_igt, s_ile, s_zeq, s_zne, s_zlt, s_zge, s_zgt, s_zle, s_ifnull, s_ifnullN, s_ifnonnull, s_ifnonnullN, s_tableswitch, s_lookupswitch, s_getfield, s_putfield, s_getstatic, s_iaload, s_laload, s_baload, s_aaload, s_iastore, s_lastore, s_bastore, s_aastore, s_arraylength, s_newI, s_newJ, s_newZ, s_anewarray, s_new, s_copy, s_max, s_min, s_invokestatic, s_objinit, s_invokespecial, kf_isr_r, s_invokevirtual, s_ireturn, s_lreturn, s_areturn, s_areturnN, s_return, lI_0, lI_s, lJ_0, lJ_s, lA_0, lA_0N, lA_s, lS1_0, lS1_1, lS1_2, lS2_0, lS2_1, lS2_2, lK_n, lK_i, lK_j, lK_a, lK_N, d_C', kf_w_0, kf_w_i, kf_w_a, kf_w_n, kf_w_j, c_0, c_1, c_2, c_3, c_4, c_5, c_6, tl_0, tl_1, Option.bind_some, Option.bind_none, Option.map_some, Nat.reduceAdd, Nat.reduceMul, Nat.reduceDiv, Nat.reduceMod, Int.reduceToNat, Fin.val_zero, Fin.isValue, Fin.val_one, Fin.val_two, fv_0, fv_1, fv_2, fv_3, fw_0, fw_1, d_ite, true_or, or_true, and_false, false_and, or_self, and_self, g, g1, g2, g3, r37, r38, r39, r40, k1, k2, k3, k4, k5, k6]
/-! fromBytes, toBytes -/
theorem fb_w {c3 c2 c1 c0 : Nat} (h3 : c3 < 256) (h2 : c2 < 256) (h1 : c1 < 256) (h0 : c0 < 256) : uw (nI c3 <<< ((24 : Int32) &&& 31) ||| nI c2 <<< ((16 : Int32) &&& 31) ||| nI c1 <<< ((8 : Int32) &&& 31) ||| nI c0) = c3 * 16777216 + c2 * 65536 + c1 * 256 + c0 := by
  have un : ∀ c, c < 256 → (nI c).toBitVec.toNat = c := fun c hc => by
    show (BitVec.ofNat 32 c).toNat = c
    rw [BitVec.toNat_ofNat]
    omega
  have e3 : (nI c3 <<< ((24 : Int32) &&& 31)).toBitVec.toNat = 2 ^ 24 * c3 := by
    show ((nI c3).toBitVec <<< (24 : Nat)).toNat = _
    rw [BitVec.toNat_shiftLeft, Nat.shiftLeft_eq, un c3 h3]
    omega
  have e2 : (nI c2 <<< ((16 : Int32) &&& 31)).toBitVec.toNat = 2 ^ 16 * c2 := by
    show ((nI c2).toBitVec <<< (16 : Nat)).toNat = _
    rw [BitVec.toNat_shiftLeft, Nat.shiftLeft_eq, un c2 h2]
    omega
  have e1 : (nI c1 <<< ((8 : Int32) &&& 31)).toBitVec.toNat = 2 ^ 8 * c1 := by
    show ((nI c1).toBitVec <<< (8 : Nat)).toNat = _
    rw [BitVec.toNat_shiftLeft, Nat.shiftLeft_eq, un c1 h1]
    omega
  show (nI c3 <<< ((24 : Int32) &&& 31) ||| nI c2 <<< ((16 : Int32) &&& 31) ||| nI c1 <<< ((8 : Int32) &&& 31) ||| nI c0).toBitVec.toNat = _
  rw [Int32.toBitVec_or, Int32.toBitVec_or, Int32.toBitVec_or, BitVec.toNat_or, BitVec.toNat_or, BitVec.toNat_or, e3, e2, e1, un c0 h0, ← Nat.two_pow_add_eq_or_of_lt (i := 24) (b := 2 ^ 16 * c2) (by omega) c3]
  rw [show 2 ^ 24 * c3 + 2 ^ 16 * c2 = 2 ^ 16 * (2 ^ 8 * c3 + c2) by omega, ← Nat.two_pow_add_eq_or_of_lt (i := 16) (b := 2 ^ 8 * c1) (by omega), show 2 ^ 16 * (2 ^ 8 * c3 + c2) + 2 ^ 8 * c1 = 2 ^ 8 * (2 ^ 16 * c3 + 2 ^ 8 * c2 + c1) by omega, ← Nat.two_pow_add_eq_or_of_lt (i := 8) (b := c0) (by omega)]
  omega
theorem wv_dg {R : List Int32} {n : Nat} : ∀ (m i : Nat), (∀ j, i ≤ j → j < i + m → uw (R.getD j 0) = n / 4294967296 ^ j % 4294967296) → wv R i m = n / 4294967296 ^ i % 4294967296 ^ m
  | 0, i, _ => by simp [wv, Nat.mod_one]
  | m + 1, i, h => by
    have ih := wv_dg (R := R) (n := n) m (i + 1) (fun j h1 h2 => h j (by omega) (by omega))
    show uw _ + 4294967296 * wv R (i + 1) m = _
    rw [ih, h i (Nat.le_refl _) (by omega), Nat.pow_succ 4294967296 i, ← Nat.div_div_eq_div_mul, Nat.pow_succ, Nat.mul_comm (4294967296 ^ m), Nat.mod_mul]
theorem b4 (n k : Nat) : n / 256 ^ (4 * k + 3) % 256 * 16777216 + n / 256 ^ (4 * k + 2) % 256 * 65536 + n / 256 ^ (4 * k + 1) % 256 * 256 + n / 256 ^ (4 * k) % 256 = n / 4294967296 ^ k % 4294967296 := by
  rw [Nat.pow_add, Nat.pow_add, Nat.pow_add, ← Nat.div_div_eq_div_mul, ← Nat.div_div_eq_div_mul, ← Nat.div_div_eq_div_mul, Nat.pow_mul, show (256 : Nat) ^ 4 = 4294967296 from rfl]
  omega
theorem c152l {M : kf_M} {to row at1 N : Nat} {rs : List Int32} (hto : 19 ≤ to) (hl : to < M.length) (hrt : row ≠ to) (gr : gI M row = some rs) (hr : rs.length < 2 ^ 20) (ha : at1 + 32 ≤ rs.length) (hb : (rs.drop at1).take 32 = nBL 32 N) : ∀ (n i : Nat) (X : List Int32) (u4 : Option Value), i + n = 8 → X.length = 8 → ∃ R : List Int32, kf_ev 152 2 [some (.ref to), some (.ref row), some (.int (nI at1)), some (.int (nI i)), u4] [] (M.set to (oI X)) = some (none, M.set to (oI R)) ∧ R.length = 8 ∧ (∀ j, j < i → R.getD j 0 = X.getD j 0) ∧ (∀ j, i ≤ j → j < 8 → uw (R.getD j 0) = N / 4294967296 ^ j % 4294967296) := by
  intro n
  have rb : ∀ k, k < 32 → rs[at1 + k]? = some (nI (N / 256 ^ (31 - k) % 256)) := fun k hk => by
    have h1 := nBL_get (L := 32) (n := N) hk
    rw [← hb, List.getElem?_take_of_lt hk, List.getElem?_drop] at h1
    exact h1
  induction n with
  | zero =>
    intro i X u4 hi hX
    have hi : i = 8 := by omega
    subst hi
    have e : (8 : Int32) ≤ nI 8 := by decide
    exact ⟨X, (e152_2 _ _ _).trans (by simp only [cl_152, e152_0, e152_1, e152_3, e152_5, e152_8, e152_9, e152_11, e152_12, e152_13, e152_14, e152_15, e152_16, e152_18, e152_19, e152_20, e152_21, e152_23, e152_24, e152_26, e152_27, e152_28, e152_30, e152_31, e152_32, e152_33, e152_35, e152_36, e152_37, e152_38, e152_40, e152_41, e152_42, e152_43, e152_45, e152_46, e152_47, e152_48, e152_50, e152_51, e152_52, e152_53, e152_54, e152_55, e152_58, e152_61, ow_152, Int32.reduceOfInt, Int32.reduceOfNat, Int32.reduceToNatClampNeg, Int32.reduceLT, Int32.reduceLE, Int32.reduceAdd, Int32.reduceSub, Int32.reduceMul, Int64.reduceOfNat, Int64.reduceOfInt, Nat.reduceLeDiff, Nat.reduceLT, Nat.reduceEqDiff, Nat.reduceSub, cs_0, cs_1, cs_2, cs_3, cs_4, cs_5, cs_6, cs_7, cs_8, or_false, false_or, not_false_eq_true, and_true, true_and, if_true, if_false, List.length_cons, List.length_nil, List.getElem?_cons_succ, List.getElem?_cons_zero, List.set_cons_succ, List.set_cons_zero, reduceIte, d_G, d_R, s_aload, s_aload_n, s_iload, s_iload_n, s_lload, s_lload_n, s_istore, s_istore_n, s_astore, s_astoreN, s_astore_n, s_astore_nN, s_lstore, s_lstore_n, s_iinc, s_iconst, s_bipush, s_sipush, s_lconst, s_ldc2_w, s_aconst_null, s_dupA, s_dupI, s_dup2, s_iadd, s_isub, s_imul, s_iand, s_ior, s_ixor, s_ishl, s_ishr, s_iushr, s_ineg, s_idiv, s_irem, s_ladd, s_lsub, s_lmul, s_land, s_lor, s_lxor, s_ldiv, s_lshl, s_lshr, s_lushr, s_i2l, s_l2i, s_lcmp, s_goto, s_ieq, s_ine, s_ilt, s_ige, s_igt, s_ile, s_zeq, s_zne, s_zlt, s_zge, s_zgt, s_zle, s_ifnull, s_ifnullN, s_ifnonnull, s_ifnonnullN, s_tableswitch, s_lookupswitch, s_getfield, s_putfield, s_getstatic, s_iaload, s_laload, s_baload, s_aaload, s_iastore, s_lastore, s_bastore, s_aastore, s_arraylength, s_newI, s_newJ, s_newZ, s_anewarray, s_new, s_copy, s_max, s_min, s_invokestatic, s_objinit, s_invokespecial, kf_isr_r, s_invokevirtual, s_ireturn, s_lreturn, s_areturn, s_areturnN, s_return, lI_0, lI_s, lJ_0, lJ_s, lA_0, lA_0N, lA_s, lS1_0, lS1_1, lS1_2, lS2_0, lS2_1, lS2_2, lK_n, lK_i, lK_j, lK_a, lK_N, d_C', kf_w_0, kf_w_i, kf_w_a, kf_w_n, kf_w_j, c_0, c_1, c_2, c_3, c_4, c_5, c_6, tl_0, tl_1, Option.bind_some, Option.bind_none, Option.map_some, Nat.reduceAdd, Nat.reduceMul, Nat.reduceDiv, Nat.reduceMod, Int.reduceToNat, Fin.val_zero, Fin.isValue, Fin.val_one, Fin.val_two, fv_0, fv_1, fv_2, fv_3, fw_0, fw_1, d_ite, true_or, or_true, and_false, false_and, or_self, and_self, e]), hX, fun _ _ => rfl, fun j h1 h2 => by omega⟩
  | succ n ih =>
    intro i X u4 hi hX
    have e : ¬ (8 : Int32) ≤ nI i := nI_ge (a := i) (b := 8) (by omega) (by omega)
    have p0 : ¬ nI i < 0 := nI_pos (by omega)
    have p1 : (nI i).toNatClampNeg = i := nI_clamp (by omega)
    have a1 : nI at1 + 28 = nI (at1 + 28) := nI_add at1 28
    have a2 : (4 : Int32) * nI i = nI (4 * i) := pk_mul 4 i
    have a3 : nI (at1 + 28) - nI (4 * i) = nI (at1 + (28 - 4 * i)) := by rw [pk_sub (by omega)]; congr 1; omega
    have b1 : nI (at1 + (28 - 4 * i)) + 1 = nI (at1 + (29 - 4 * i)) := by rw [nI_1]; congr 1; omega
    have b2 : nI (at1 + (28 - 4 * i)) + 2 = nI (at1 + (30 - 4 * i)) := by
      have := nI_add (at1 + (28 - 4 * i)) 2
      rw [show at1 + (28 - 4 * i) + 2 = at1 + (30 - 4 * i) by omega] at this
      exact this
    have b3 : nI (at1 + (28 - 4 * i)) + 3 = nI (at1 + (31 - 4 * i)) := by
      have := nI_add (at1 + (28 - 4 * i)) 3
      rw [show at1 + (28 - 4 * i) + 3 = at1 + (31 - 4 * i) by omega] at this
      exact this
    have c0 : ¬ nI (at1 + (28 - 4 * i)) < 0 := nI_pos (by omega)
    have c1 : ¬ nI (at1 + (29 - 4 * i)) < 0 := nI_pos (by omega)
    have c2 : ¬ nI (at1 + (30 - 4 * i)) < 0 := nI_pos (by omega)
    have c3 : ¬ nI (at1 + (31 - 4 * i)) < 0 := nI_pos (by omega)
    have d0 : (nI (at1 + (28 - 4 * i))).toNatClampNeg = at1 + (28 - 4 * i) := nI_clamp (by omega)
    have d1 : (nI (at1 + (29 - 4 * i))).toNatClampNeg = at1 + (29 - 4 * i) := nI_clamp (by omega)
    have d2 : (nI (at1 + (30 - 4 * i))).toNatClampNeg = at1 + (30 - 4 * i) := nI_clamp (by omega)
    have d3 : (nI (at1 + (31 - 4 * i))).toNatClampNeg = at1 + (31 - 4 * i) := nI_clamp (by omega)
    have w0 := rb (28 - 4 * i) (by omega)
    have w1 := rb (29 - 4 * i) (by omega)
    have w2 := rb (30 - 4 * i) (by omega)
    have w3 := rb (31 - 4 * i) (by omega)
    rw [show 31 - (28 - 4 * i) = 4 * i + 3 by omega] at w0
    rw [show 31 - (29 - 4 * i) = 4 * i + 2 by omega] at w1
    rw [show 31 - (30 - 4 * i) = 4 * i + 1 by omega] at w2
    rw [show 31 - (31 - 4 * i) = 4 * i by omega] at w3
    have g1 : gI (M.set to (oI X)) row = some rs := by rw [gI_ne (Ne.symm hrt)]; exact gr
    have g5 : gI (M.set to (oI X)) to = some X := gI_self hl
    have n1 : ¬ to < 19 := by omega
    have n2 : ¬ X.length ≤ i := by omega
    have hw := fb_w (Nat.mod_lt (N / 256 ^ (4 * i + 3)) (show 0 < 256 by decide)) (Nat.mod_lt (N / 256 ^ (4 * i + 2)) (show 0 < 256 by decide)) (Nat.mod_lt (N / 256 ^ (4 * i + 1)) (show 0 < 256 by decide)) (Nat.mod_lt (N / 256 ^ (4 * i)) (show 0 < 256 by decide))
    rw [b4] at hw
    obtain ⟨w, hwd⟩ : ∃ w : Int32, w = nI (N / 256 ^ (4 * i + 3) % 256) <<< ((24 : Int32) &&& 31) ||| nI (N / 256 ^ (4 * i + 2) % 256) <<< ((16 : Int32) &&& 31) ||| nI (N / 256 ^ (4 * i + 1) % 256) <<< ((8 : Int32) &&& 31) ||| nI (N / 256 ^ (4 * i) % 256) := ⟨_, rfl⟩
    rw [← hwd] at hw
    obtain ⟨R, r1, r2, r3, r4⟩ := ih (i + 1) (X.set i w) (some (.int (nI (at1 + (28 - 4 * i))))) (by omega) (by rw [List.length_set]; exact hX)
    refine ⟨R, (e152_2 _ _ _).trans (Eq.trans ?_ r1), r2, fun j hj => by rw [r3 j (by omega), gD_ne (by omega)], fun j h1 h2 => ?_⟩
    · simp only [cl_152, e152_0, e152_1, e152_3, e152_5, e152_8, e152_9, e152_11, e152_12, e152_13, e152_14, e152_15, e152_16, e152_18, e152_19, e152_20, e152_21, e152_23, e152_24, e152_26, e152_27, e152_28, e152_30, e152_31, e152_32, e152_33, e152_35, e152_36, e152_37, e152_38, e152_40, e152_41, e152_42, e152_43, e152_45, e152_46, e152_47, e152_48, e152_50, e152_51, e152_52, e152_53, e152_54, e152_55, e152_58, e152_61, ow_152, Int32.reduceOfInt, Int32.reduceOfNat, Int32.reduceToNatClampNeg, Int32.reduceLT, Int32.reduceLE, Int32.reduceAdd, Int32.reduceSub, Int32.reduceMul, Int64.reduceOfNat, Int64.reduceOfInt, Nat.reduceLeDiff, Nat.reduceLT, Nat.reduceEqDiff, Nat.reduceSub, cs_0, cs_1, cs_2, cs_3, cs_4, cs_5, cs_6, cs_7, cs_8, or_false, false_or, not_false_eq_true, and_true, true_and, if_true, if_false, List.length_cons, List.length_nil, List.getElem?_cons_succ, List.getElem?_cons_zero, List.set_cons_succ, List.set_cons_zero, reduceIte, d_G, d_R, s_aload, s_aload_n, s_iload, s_iload_n, s_lload, s_lload_n, s_istore, s_istore_n, s_astore, s_astoreN, s_astore_n, s_astore_nN, s_lstore, s_lstore_n, s_iinc, s_iconst, s_bipush, s_sipush, s_lconst, s_ldc2_w, s_aconst_null, s_dupA, s_dupI, s_dup2, s_iadd, s_isub, s_imul, s_iand, s_ior, s_ixor, s_ishl, s_ishr, s_iushr, s_ineg, s_idiv, s_irem, s_ladd, s_lsub, s_lmul, s_land, s_lor, s_lxor, s_ldiv, s_lshl, s_lshr, s_lushr, s_i2l, s_l2i, s_lcmp, s_goto, s_ieq, s_ine, s_ilt, s_ige, s_igt, s_ile, s_zeq, s_zne, s_zlt, s_zge, s_zgt, s_zle, s_ifnull, s_ifnullN, s_ifnonnull, s_ifnonnullN, s_tableswitch, s_lookupswitch, s_getfield, s_putfield, s_getstatic, s_iaload, s_laload, s_baload, s_aaload, s_iastore, s_lastore, s_bastore, s_aastore, s_arraylength, s_newI, s_newJ, s_newZ, s_anewarray, s_new, s_copy, s_max, s_min, s_invokestatic, s_objinit, s_invokespecial, kf_isr_r, s_invokevirtual, s_ireturn, s_lreturn, s_areturn, s_areturnN, s_return, lI_0, lI_s, lJ_0, lJ_s, lA_0, lA_0N, lA_s, lS1_0, lS1_1, lS1_2, lS2_0, lS2_1, lS2_2, lK_n, lK_i, lK_j, lK_a, lK_N, d_C', kf_w_0, kf_w_i, kf_w_a, kf_w_n, kf_w_j, c_0, c_1, c_2, c_3, c_4, c_5, c_6, tl_0, tl_1, Option.bind_some, Option.bind_none, Option.map_some, Nat.reduceAdd, Nat.reduceMul, Nat.reduceDiv, Nat.reduceMod, Int.reduceToNat, Fin.val_zero, Fin.isValue, Fin.val_one, Fin.val_two, fv_0, fv_1, fv_2, fv_3, fw_0, fw_1, d_ite, true_or, or_true, and_false, false_and, or_self, and_self, e, p0, p1, a1, a2, a3, b1, b2, b3, c0, c1, c2, c3, d0, d1, d2, d3, w0, w1, w2, w3, g1, g5, n1, n2, kf_NS, nI_1, List.set_set, ← hwd]
    · by_cases q : i = j
      · subst q
        rw [r3 i (by omega), gD_self (by omega), hw]
      · exact r4 j (by omega) h2
theorem n152 {M : kf_M} {to row at1 N : Nat} {rs : List Int32} (ht : War M to) (hto : 19 ≤ to) (hrt : row ≠ to) (gr : M[row]? = some (oI rs)) (hr : rs.length < 2 ^ 20) (ha : at1 + 32 ≤ rs.length) (hb : (rs.drop at1).take 32 = nBL 32 N) (hN : N < 2 ^ 256) : ∃ M', kf_cl 152 [.ref to, .ref row, .int (nI at1)] M = some (none, M') ∧ Wd M' to N ∧ Off [to] M M' := by
  obtain ⟨lt, gt, lt8⟩ := ht
  obtain ⟨R, r1, r2, -, r4⟩ := c152l hto (m_lt gt) hrt (gI_of gr) hr ha hb 8 0 lt none (by omega) lt8
  rw [set_id gt, nI_0] at r1
  refine ⟨_, by simp only [cl_152, e152_0, e152_1, e152_3, e152_5, e152_8, e152_9, e152_11, e152_12, e152_13, e152_14, e152_15, e152_16, e152_18, e152_19, e152_20, e152_21, e152_23, e152_24, e152_26, e152_27, e152_28, e152_30, e152_31, e152_32, e152_33, e152_35, e152_36, e152_37, e152_38, e152_40, e152_41, e152_42, e152_43, e152_45, e152_46, e152_47, e152_48, e152_50, e152_51, e152_52, e152_53, e152_54, e152_55, e152_58, e152_61, ow_152, Int32.reduceOfInt, Int32.reduceOfNat, Int32.reduceToNatClampNeg, Int32.reduceLT, Int32.reduceLE, Int32.reduceAdd, Int32.reduceSub, Int32.reduceMul, Int64.reduceOfNat, Int64.reduceOfInt, Nat.reduceLeDiff, Nat.reduceLT, Nat.reduceEqDiff, Nat.reduceSub, cs_0, cs_1, cs_2, cs_3, cs_4, cs_5, cs_6, cs_7, cs_8, or_false, false_or, not_false_eq_true, and_true, true_and, if_true, if_false, List.length_cons, List.length_nil, List.getElem?_cons_succ, List.getElem?_cons_zero, List.set_cons_succ, List.set_cons_zero, reduceIte, d_G, d_R, s_aload, s_aload_n, s_iload, s_iload_n, s_lload, s_lload_n, s_istore, s_istore_n, s_astore, s_astoreN, s_astore_n, s_astore_nN, s_lstore, s_lstore_n, s_iinc, s_iconst, s_bipush, s_sipush, s_lconst, s_ldc2_w, s_aconst_null, s_dupA, s_dupI, s_dup2, s_iadd, s_isub, s_imul, s_iand, s_ior, s_ixor, s_ishl, s_ishr, s_iushr, s_ineg, s_idiv, s_irem, s_ladd, s_lsub, s_lmul, s_land, s_lor, s_lxor, s_ldiv, s_lshl, s_lshr, s_lushr, s_i2l, s_l2i, s_lcmp, s_goto, s_ieq, s_ine, s_ilt, s_ige, s_igt, s_ile, s_zeq, s_zne, s_zlt, s_zge, s_zgt, s_zle, s_ifnull, s_ifnullN, s_ifnonnull, s_ifnonnullN, s_tableswitch, s_lookupswitch, s_getfield, s_putfield, s_getstatic, s_iaload, s_laload, s_baload, s_aaload, s_iastore, s_lastore, s_bastore, s_aastore, s_arraylength, s_newI, s_newJ, s_newZ, s_anewarray, s_new, s_copy, s_max, s_min, s_invokestatic, s_objinit, s_invokespecial, kf_isr_r, s_invokevirtual, s_ireturn, s_lreturn, s_areturn, s_areturnN, s_return, lI_0, lI_s, lJ_0, lJ_s, lA_0, lA_0N, lA_s, lS1_0, lS1_1, lS1_2, lS2_0, lS2_1, lS2_2, lK_n, lK_i, lK_j, lK_a, lK_N, d_C', kf_w_0, kf_w_i, kf_w_a, kf_w_n, kf_w_j, c_0, c_1, c_2, c_3, c_4, c_5, c_6, tl_0, tl_1, Option.bind_some, Option.bind_none, Option.map_some, Nat.reduceAdd, Nat.reduceMul, Nat.reduceDiv, Nat.reduceMod, Int.reduceToNat, Fin.val_zero, Fin.isValue, Fin.val_one, Fin.val_two, fv_0, fv_1, fv_2, fv_3, fw_0, fw_1, d_ite, true_or, or_true, and_false, false_and, or_self, and_self, r1], ⟨R, m_self (m_lt gt), r2, ?_⟩, Off.set (by simp)⟩
  rw [wv_dg 8 0 (fun j h1 h2 => r4 j h1 (by omega)), p8]
  simp only [Nat.pow_zero, Nat.div_one]
  exact Nat.mod_eq_of_lt hN
theorem tb_w (x : Int32) : ∀ s, s < 4 → (x >>> (nI (24 - 8 * s) &&& 31)) &&& 255 = nI (uw x / 256 ^ (3 - s) % 256) := by
  intro s hs
  have hsm : ∀ s, s < 4 → ((nI (24 - 8 * s) &&& 31).toBitVec.smod 32).toNat = 8 * (3 - s) := by decide +kernel
  rw [pk_and _ 8 rfl, show (x >>> (nI (24 - 8 * s) &&& 31)).toBitVec.toNat = uw (x >>> (nI (24 - 8 * s) &&& 31)) from rfl]
  congr 1
  have h1 := uw_int (x >>> (nI (24 - 8 * s) &&& 31))
  rw [pk_shr x _ _ (hsm s hs), Int.shiftRight_eq_div_pow] at h1
  have h2 := uw_int x
  have h3 := uw_lt x
  have hc : s = 0 ∨ s = 1 ∨ s = 2 ∨ s = 3 := by omega
  rcases hc with rfl | rfl | rfl | rfl <;> simp only [Nat.reduceSub, Nat.reduceMul, Nat.reducePow] at h1 ⊢ <;> omega
theorem c153l {M : kf_M} {a row at1 v : Nat} {rs la : List Int32} (hrow : 19 ≤ row) (hl : row < M.length) (hra : a ≠ row) (ga : gI M a = some la) (la8 : la.length = 8) (ea : wv la 0 8 = v) (hr : rs.length < 2 ^ 20) (ha : at1 + 32 ≤ rs.length) : ∀ (n i : Nat), i + n = 32 → kf_ev 153 2 [some (.ref a), some (.ref row), some (.int (nI at1)), some (.int (nI i))] [] (M.set row (oI (kf_cp (nBL 32 v) rs 0 at1 i))) = some (none, M.set row (oI (kf_cp (nBL 32 v) rs 0 at1 32))) := by
  intro n
  have z4 : ¬ (4 : Int32) = 0 := by decide
  induction n with
  | zero =>
    intro i hi
    have hi : i = 32 := by omega
    subst hi
    have e : (32 : Int32) ≤ nI 32 := by decide
    exact (e153_2 _ _ _).trans (by simp only [cl_153, e153_0, e153_1, e153_3, e153_5, e153_8, e153_9, e153_10, e153_11, e153_12, e153_13, e153_15, e153_16, e153_17, e153_18, e153_19, e153_20, e153_22, e153_24, e153_25, e153_26, e153_27, e153_28, e153_29, e153_30, e153_33, e153_34, e153_35, e153_38, e153_41, ow_153, Int32.reduceOfInt, Int32.reduceOfNat, Int32.reduceToNatClampNeg, Int32.reduceLT, Int32.reduceLE, Int32.reduceAdd, Int32.reduceSub, Int32.reduceMul, Int64.reduceOfNat, Int64.reduceOfInt, Nat.reduceLeDiff, Nat.reduceLT, Nat.reduceEqDiff, Nat.reduceSub, cs_0, cs_1, cs_2, cs_3, cs_4, cs_5, cs_6, cs_7, cs_8, or_false, false_or, not_false_eq_true, and_true, true_and, if_true, if_false, List.length_cons, List.length_nil, List.getElem?_cons_succ, List.getElem?_cons_zero, List.set_cons_succ, List.set_cons_zero, reduceIte, d_G, d_R, s_aload, s_aload_n, s_iload, s_iload_n, s_lload, s_lload_n, s_istore, s_istore_n, s_astore, s_astoreN, s_astore_n, s_astore_nN, s_lstore, s_lstore_n, s_iinc, s_iconst, s_bipush, s_sipush, s_lconst, s_ldc2_w, s_aconst_null, s_dupA, s_dupI, s_dup2, s_iadd, s_isub, s_imul, s_iand, s_ior, s_ixor, s_ishl, s_ishr, s_iushr, s_ineg, s_idiv, s_irem, s_ladd, s_lsub, s_lmul, s_land, s_lor, s_lxor, s_ldiv, s_lshl, s_lshr, s_lushr, s_i2l, s_l2i, s_lcmp, s_goto, s_ieq, s_ine, s_ilt, s_ige, s_igt, s_ile, s_zeq, s_zne, s_zlt, s_zge, s_zgt, s_zle, s_ifnull, s_ifnullN, s_ifnonnull, s_ifnonnullN, s_tableswitch, s_lookupswitch, s_getfield, s_putfield, s_getstatic, s_iaload, s_laload, s_baload, s_aaload, s_iastore, s_lastore, s_bastore, s_aastore, s_arraylength, s_newI, s_newJ, s_newZ, s_anewarray, s_new, s_copy, s_max, s_min, s_invokestatic, s_objinit, s_invokespecial, kf_isr_r, s_invokevirtual, s_ireturn, s_lreturn, s_areturn, s_areturnN, s_return, lI_0, lI_s, lJ_0, lJ_s, lA_0, lA_0N, lA_s, lS1_0, lS1_1, lS1_2, lS2_0, lS2_1, lS2_2, lK_n, lK_i, lK_j, lK_a, lK_N, d_C', kf_w_0, kf_w_i, kf_w_a, kf_w_n, kf_w_j, c_0, c_1, c_2, c_3, c_4, c_5, c_6, tl_0, tl_1, Option.bind_some, Option.bind_none, Option.map_some, Nat.reduceAdd, Nat.reduceMul, Nat.reduceDiv, Nat.reduceMod, Int.reduceToNat, Fin.val_zero, Fin.isValue, Fin.val_one, Fin.val_two, fv_0, fv_1, fv_2, fv_3, fw_0, fw_1, d_ite, true_or, or_true, and_false, false_and, or_self, and_self, e])
  | succ n ih =>
    intro i hi
    have e : ¬ (32 : Int32) ≤ nI i := nI_ge (a := i) (b := 32) (by omega) (by omega)
    have e4 : nI i / 4 = nI (i / 4) := pk_div (d := 4) (by omega) (by omega) (by omega)
    have e3 : nI i - nI (i / 4) * 4 = nI (i % 4) := by rw [← e4]; exact pk_rem (d := 4) (by omega) (by omega) (by omega)
    have e8 : (8 : Int32) * nI (i % 4) = nI (8 * (i % 4)) := pk_mul 8 (i % 4)
    have e9 : (24 : Int32) - nI (8 * (i % 4)) = nI (24 - 8 * (i % 4)) := pk_sub (a := 24) (by omega)
    have e7 : (7 : Int32) - nI (i / 4) = nI (7 - i / 4) := pk_sub (a := 7) (by omega)
    have p0 : ¬ nI (7 - i / 4) < 0 := nI_pos (by omega)
    have p1 : (nI (7 - i / 4)).toNatClampNeg = 7 - i / 4 := nI_clamp (by omega)
    have p2 : ¬ nI (at1 + i) < 0 := nI_pos (by omega)
    have p3 : (nI (at1 + i)).toNatClampNeg = at1 + i := nI_clamp (by omega)
    have w0 := getD_of (xs := la) (i := 7 - i / 4) (by omega)
    have g1 : gI (M.set row (oI (kf_cp (nBL 32 v) rs 0 at1 i))) a = some la := by rw [gI_ne (Ne.symm hra)]; exact ga
    have g5 : gI (M.set row (oI (kf_cp (nBL 32 v) rs 0 at1 i))) row = some (kf_cp (nBL 32 v) rs 0 at1 i) := gI_self hl
    have n1 : ¬ row < 19 := by omega
    have n2 : ¬ (kf_cp (nBL 32 v) rs 0 at1 i).length ≤ at1 + i := by rw [kf_cp_len (by rw [nBL_len]; omega) (by omega)]; omega
    have hb : (la.getD (7 - i / 4) 0 >>> (nI (24 - 8 * (i % 4)) &&& 31)) &&& 255 = (nBL 32 v).getD (0 + i) 0 := by
      have hnb : (nBL 32 v).getD i 0 = nI (v / 256 ^ (32 - 1 - i) % 256) := by rw [List.getD_eq_getElem?_getD, nBL_get (by omega)]; rfl
      rw [tb_w _ (i % 4) (by omega), Nat.zero_add, hnb]
      congr 1
      have h1 := wv_app (l := la) (i / 4 + 1) (7 - i / 4) 0
      rw [show 7 - i / 4 + (i / 4 + 1) = 8 by omega, ea, Nat.zero_add] at h1
      have h2 : wv la (7 - i / 4) (i / 4 + 1) = uw (la.getD (7 - i / 4) 0) + 4294967296 * wv la (7 - i / 4 + 1) (i / 4) := rfl
      have h3 := wv_lt (l := la) (7 - i / 4) 0
      have h4 : v / 4294967296 ^ (7 - i / 4) = uw (la.getD (7 - i / 4) 0) + 4294967296 * wv la (7 - i / 4 + 1) (i / 4) := by
        rw [h1, Nat.add_comm, Nat.mul_add_div (Nat.pos_of_ne_zero (by simp)), Nat.div_eq_of_lt h3, h2]
        rfl
      rw [show 32 - 1 - i = 4 * (7 - i / 4) + (3 - i % 4) by omega, Nat.pow_add, ← Nat.div_div_eq_div_mul, Nat.pow_mul, show (256 : Nat) ^ 4 = 4294967296 from rfl, h4]
      have hc : i % 4 = 0 ∨ i % 4 = 1 ∨ i % 4 = 2 ∨ i % 4 = 3 := by omega
      have h5 := uw_lt (la.getD (7 - i / 4) 0)
      rcases hc with q | q | q | q <;> rw [q] <;> simp only [Nat.reduceSub, Nat.reducePow] <;> omega
    have es := kf_cp_s (xs := nBL 32 v) (ys := rs) (a := 0) (b := at1) (k := i) (by rw [nBL_len]; omega) (by omega)
    rw [← hb] at es
    refine (e153_2 _ _ _).trans (Eq.trans ?_ (ih (i + 1) (by omega)))
    simp only [cl_153, e153_0, e153_1, e153_3, e153_5, e153_8, e153_9, e153_10, e153_11, e153_12, e153_13, e153_15, e153_16, e153_17, e153_18, e153_19, e153_20, e153_22, e153_24, e153_25, e153_26, e153_27, e153_28, e153_29, e153_30, e153_33, e153_34, e153_35, e153_38, e153_41, ow_153, Int32.reduceOfInt, Int32.reduceOfNat, Int32.reduceToNatClampNeg, Int32.reduceLT, Int32.reduceLE, Int32.reduceAdd, Int32.reduceSub, Int32.reduceMul, Int64.reduceOfNat, Int64.reduceOfInt, Nat.reduceLeDiff, Nat.reduceLT, Nat.reduceEqDiff, Nat.reduceSub, cs_0, cs_1, cs_2, cs_3, cs_4, cs_5, cs_6, cs_7, cs_8, or_false, false_or, not_false_eq_true, and_true, true_and, if_true, if_false, List.length_cons, List.length_nil, List.getElem?_cons_succ, List.getElem?_cons_zero, List.set_cons_succ, List.set_cons_zero, reduceIte, d_G, d_R, s_aload, s_aload_n, s_iload, s_iload_n, s_lload, s_lload_n, s_istore, s_istore_n, s_astore, s_astoreN, s_astore_n, s_astore_nN, s_lstore, s_lstore_n, s_iinc, s_iconst, s_bipush, s_sipush, s_lconst, s_ldc2_w, s_aconst_null, s_dupA, s_dupI, s_dup2, s_iadd, s_isub, s_imul, s_iand, s_ior, s_ixor, s_ishl, s_ishr, s_iushr, s_ineg, s_idiv, s_irem, s_ladd, s_lsub, s_lmul, s_land, s_lor, s_lxor, s_ldiv, s_lshl, s_lshr, s_lushr, s_i2l, s_l2i, s_lcmp, s_goto, s_ieq, s_ine, s_ilt, s_ige, s_igt, s_ile, s_zeq, s_zne, s_zlt, s_zge, s_zgt, s_zle, s_ifnull, s_ifnullN, s_ifnonnull, s_ifnonnullN, s_tableswitch, s_lookupswitch, s_getfield, s_putfield, s_getstatic, s_iaload, s_laload, s_baload, s_aaload, s_iastore, s_lastore, s_bastore, s_aastore, s_arraylength, s_newI, s_newJ, s_newZ, s_anewarray, s_new, s_copy, s_max, s_min, s_invokestatic, s_objinit, s_invokespecial, kf_isr_r, s_invokevirtual, s_ireturn, s_lreturn, s_areturn, s_areturnN, s_return, lI_0, lI_s, lJ_0, lJ_s, lA_0, lA_0N, lA_s, lS1_0, lS1_1, lS1_2, lS2_0, lS2_1, lS2_2, lK_n, lK_i, lK_j, lK_a, lK_N, d_C', kf_w_0, kf_w_i, kf_w_a, kf_w_n, kf_w_j, c_0, c_1, c_2, c_3, c_4, c_5, c_6, tl_0, tl_1, Option.bind_some, Option.bind_none, Option.map_some, Nat.reduceAdd, Nat.reduceMul, Nat.reduceDiv, Nat.reduceMod, Int.reduceToNat, Fin.val_zero, Fin.isValue, Fin.val_one, Fin.val_two, fv_0, fv_1, fv_2, fv_3, fw_0, fw_1, d_ite, true_or, or_true, and_false, false_and, or_self, and_self, e, e4, e3, e8, e9, e7, z4, p0, p1, p2, p3, w0, g1, g5, n1, n2, nI_add, nI_1, kf_NS, List.set_set, es]
theorem n153 {M : kf_M} {a row at1 v : Nat} {rs : List Int32} (ha : Wd M a v) (hrow : 19 ≤ row) (hra : a ≠ row) (gr : M[row]? = some (oI rs)) (hr : rs.length < 2 ^ 20) (hat : at1 + 32 ≤ rs.length) : kf_cl 153 [.ref a, .ref row, .int (nI at1)] M = some (none, M.set row (oI (rs.take at1 ++ nBL 32 v ++ rs.drop (at1 + 32)))) := by
  obtain ⟨la, ga, la8, ea⟩ := ha
  have h := c153l hrow (m_lt gr) hra (gI_of ga) la8 ea hr hat 32 0 (by omega)
  rw [kf_cp_0, set_id gr, nI_0] at h
  have e : kf_cp (nBL 32 v) rs 0 at1 32 = rs.take at1 ++ nBL 32 v ++ rs.drop (at1 + 32) := by
    unfold kf_cp
    rw [List.drop_zero, List.take_of_length_le (l := nBL 32 v) (by rw [nBL_len]; exact Nat.le_refl _)]
  rw [e] at h
  simp only [cl_153, e153_0, e153_1, e153_3, e153_5, e153_8, e153_9, e153_10, e153_11, e153_12, e153_13, e153_15, e153_16, e153_17, e153_18, e153_19, e153_20, e153_22, e153_24, e153_25, e153_26, e153_27, e153_28, e153_29, e153_30, e153_33, e153_34, e153_35, e153_38, e153_41, ow_153, Int32.reduceOfInt, Int32.reduceOfNat, Int32.reduceToNatClampNeg, Int32.reduceLT, Int32.reduceLE, Int32.reduceAdd, Int32.reduceSub, Int32.reduceMul, Int64.reduceOfNat, Int64.reduceOfInt, Nat.reduceLeDiff, Nat.reduceLT, Nat.reduceEqDiff, Nat.reduceSub, cs_0, cs_1, cs_2, cs_3, cs_4, cs_5, cs_6, cs_7, cs_8, or_false, false_or, not_false_eq_true, and_true, true_and, if_true, if_false, List.length_cons, List.length_nil, List.getElem?_cons_succ, List.getElem?_cons_zero, List.set_cons_succ, List.set_cons_zero, reduceIte, d_G, d_R, s_aload, s_aload_n, s_iload, s_iload_n, s_lload, s_lload_n, s_istore, s_istore_n, s_astore, s_astoreN, s_astore_n, s_astore_nN, s_lstore, s_lstore_n, s_iinc, s_iconst, s_bipush, s_sipush, s_lconst, s_ldc2_w, s_aconst_null, s_dupA, s_dupI, s_dup2, s_iadd, s_isub, s_imul, s_iand, s_ior, s_ixor, s_ishl, s_ishr, s_iushr, s_ineg, s_idiv, s_irem, s_ladd, s_lsub, s_lmul, s_land, s_lor, s_lxor, s_ldiv, s_lshl, s_lshr, s_lushr, s_i2l, s_l2i, s_lcmp, s_goto, s_ieq, s_ine, s_ilt, s_ige, s_igt, s_ile, s_zeq, s_zne, s_zlt, s_zge, s_zgt, s_zle, s_ifnull, s_ifnullN, s_ifnonnull, s_ifnonnullN, s_tableswitch, s_lookupswitch, s_getfield, s_putfield, s_getstatic, s_iaload, s_laload, s_baload, s_aaload, s_iastore, s_lastore, s_bastore, s_aastore, s_arraylength, s_newI, s_newJ, s_newZ, s_anewarray, s_new, s_copy, s_max, s_min, s_invokestatic, s_objinit, s_invokespecial, kf_isr_r, s_invokevirtual, s_ireturn, s_lreturn, s_areturn, s_areturnN, s_return, lI_0, lI_s, lJ_0, lJ_s, lA_0, lA_0N, lA_s, lS1_0, lS1_1, lS1_2, lS2_0, lS2_1, lS2_2, lK_n, lK_i, lK_j, lK_a, lK_N, d_C', kf_w_0, kf_w_i, kf_w_a, kf_w_n, kf_w_j, c_0, c_1, c_2, c_3, c_4, c_5, c_6, tl_0, tl_1, Option.bind_some, Option.bind_none, Option.map_some, Nat.reduceAdd, Nat.reduceMul, Nat.reduceDiv, Nat.reduceMod, Int.reduceToNat, Fin.val_zero, Fin.isValue, Fin.val_one, Fin.val_two, fv_0, fv_1, fv_2, fv_3, fw_0, fw_1, d_ite, true_or, or_true, and_false, false_and, or_self, and_self, h]
