/-! The reference: lose -/
section MLOSE
variable {M : kf_M} {fs : List Value} {tp ou : List Int32} {tl ol n w : Nat} {V : Vs} {tc fl g : Int32} {ks : List Ky} {wt : List Nat} {wd : List Int32} {W : Ws} {G : Gs}
def A189 : List Nat := [290, 291, 292, 293, 294, 295, 296]
def LInv (ks : List Ky) (j i : Nat) (ho ul us se ide ct po : List Int32) : Prop := ∀ (q : Nat) (k : Ky), (q < j → ks[q]? = some k → kyR ho ul us se ide ct po q k) ∧ (j ≤ q → q < i → ks[q + 1]? = some k → kyR ho ul us se ide ct po q k) ∧ (i ≤ q → ks[q]? = some k → kyR ho ul us se ide ct po q k)
set_option maxHeartbeats 4000000 in
theorem l189 {j : Nat} (hok : ∀ (q : Nat) (k : Ky), ks[q]? = some k → okKy k) (hl : ks.length ≤ 10) : ∀ (r i : Nat) (M : kf_M) (ho ul us se ide ct po : List Int32), i + 1 + r = ks.length → j ≤ i → MdIs M fs → fs[13]? = some (.int (nI ks.length)) → MK7 M ho ul us se ide ct po → LInv ks j i ho ul us se ide ct po → ∃ M' i' ho' ul' us' se' ide' ct' po', kf_ev 189 2 [some (.ref 284), some (.int (nI j)), some (.int (nI i))] [] M = kf_ev 189 166 [some (.ref 284), some (.int (nI j)), some (.int i')] [] M' ∧ MK7 M' ho' ul' us' se' ide' ct' po' ∧ LInv ks j (ks.length - 1) ho' ul' us' se' ide' ct' po' ∧ Off A189 M M' := by
  intro r
  induction r with
  | zero =>
    intro i M ho ul us se ide ct po hi hj h1 f13 h7 hI
    have e : nI ks.length ≤ nI (i + 1) := nI_le (by omega) (by omega)
    have g0 := gO_of h1.1
    have ei : ks.length - 1 = i := by omega
    refine ⟨M, nI i, ho, ul, us, se, ide, ct, po, (e189_2 _ _ _).trans ?_, h7, by rw [ei]; exact hI, Off.rf⟩
    simp only [cl_189, e189_0, e189_1, e189_3, e189_4, e189_5, e189_6, e189_9, e189_12, e189_13, e189_16, e189_18, e189_19, e189_20, e189_22, e189_23, e189_24, e189_27, e189_29, e189_30, e189_31, e189_33, e189_36, e189_37, e189_40, e189_42, e189_43, e189_44, e189_46, e189_47, e189_48, e189_51, e189_53, e189_54, e189_55, e189_57, e189_60, e189_61, e189_64, e189_66, e189_67, e189_68, e189_70, e189_71, e189_72, e189_75, e189_77, e189_78, e189_79, e189_81, e189_84, e189_85, e189_88, e189_90, e189_91, e189_92, e189_94, e189_95, e189_96, e189_99, e189_101, e189_102, e189_103, e189_105, e189_108, e189_109, e189_112, e189_114, e189_115, e189_116, e189_118, e189_119, e189_120, e189_123, e189_125, e189_126, e189_127, e189_129, e189_132, e189_133, e189_136, e189_137, e189_138, e189_141, e189_142, e189_143, e189_144, e189_145, e189_146, e189_147, e189_150, e189_151, e189_152, e189_155, e189_156, e189_157, e189_158, e189_159, e189_160, e189_163, e189_167, e189_168, e189_171, e189_172, e189_173, e189_176, ow_189, Int32.reduceOfInt, Int32.reduceOfNat, Int32.reduceToNatClampNeg, Int32.reduceLT, Int32.reduceLE, Int32.reduceAdd, Int32.reduceSub, Int32.reduceMul, Int64.reduceOfNat, Int64.reduceOfInt, Nat.reduceLeDiff, Nat.reduceLT, Nat.reduceEqDiff, Nat.reduceSub, cs_0, cs_1, cs_2, cs_3, cs_4, cs_5, cs_6, cs_7, cs_8, or_false, false_or, not_false_eq_true, and_true, true_and, if_true, if_false, List.length_cons, List.length_nil, List.getElem?_cons_succ, List.getElem?_cons_zero, List.set_cons_succ, List.set_cons_zero, reduceIte, d_G, d_R, s_aload, s_aload_n, s_iload, s_iload_n, s_lload, s_lload_n, s_istore, s_istore_n, s_astore, s_astoreN, s_astore_n, s_astore_nN, s_lstore, s_lstore_n, s_iinc, s_iconst, s_bipush, s_sipush, s_lconst, s_ldc2_w, s_aconst_null, s_dupA, s_dupI, s_dup2, s_iadd, s_isub, s_imul, s_iand, s_ior, s_ixor, s_ishl, s_ishr, s_iushr, s_ineg, s_idiv, s_irem, s_ladd, s_lsub, s_lmul, s_land, s_lor, s_lxor, s_ldiv, s_lshl, s_lshr, s_lushr, s_i2l, s_l2i, s_lcmp, s_goto, s_ieq, s_ine, s_ilt, s_ige, s_igt, s_ile, s_zeq, s_zne, s_zlt, s_zge, s_zgt, s_zle, s_ifnull, s_ifnullN, s_ifnonnull, s_ifnonnullN, s_tableswitch, s_lookupswitch, s_getfield, s_putfield, s_getstatic, s_iaload, s_laload, s_baload, s_aaload, s_iastore, s_lastore, s_bastore, s_aastore, s_arraylength, s_newI, s_newJ, s_newZ, s_anewarray, s_new, s_copy, s_max, s_min, s_invokestatic, s_objinit, s_invokespecial, kf_isr_r, s_invokevirtual, s_ireturn, s_lreturn, s_areturn, s_areturnN, s_return, lI_0, lI_s, lJ_0, lJ_s, lA_0, lA_0N, lA_s, lS1_0, lS1_1, lS1_2, lS2_0, lS2_1, lS2_2, lK_n, lK_i, lK_j, lK_a, lK_N, d_C', kf_w_0, kf_w_i, kf_w_a, kf_w_n, kf_w_j, c_0, c_1, c_2, c_3, c_4, c_5, c_6, tl_0, tl_1, Option.bind_some, Option.bind_none, Option.map_some, Nat.reduceAdd, Nat.reduceMul, Nat.reduceDiv, Nat.reduceMod, Int.reduceToNat, Fin.val_zero, Fin.isValue, Fin.val_one, Fin.val_two, fv_0, fv_1, fv_2, fv_3, fw_0, fw_1, d_ite, true_or, or_true, and_false, false_and, or_self, and_self, nI_1, g0, f13, e]
  | succ r ih =>
    intro i M ho ul us se ide ct po hi hj h1 f13 h7 hI
    have e : ¬ nI ks.length ≤ nI (i + 1) := nI_ge (by omega) (by omega)
    have g0 := gO_of h1.1
    have e32 : (32 : Int32) * nI i = nI (32 * i) := pk_mul 32 i
    have e16 : (16 : Int32) * nI i = nI (16 * i) := pk_mul 16 i
    have e64 : (64 : Int32) * nI i = nI (64 * i) := pk_mul 64 i
    have s32 : nI (32 * i) + 32 = nI (32 * i + 32) := nI_add _ 32
    have s16 : nI (16 * i) + 16 = nI (16 * i + 16) := nI_add _ 16
    have s64 : nI (64 * i) + 64 = nI (64 * i + 64) := nI_add _ 64
    have p0 : ¬ nI i < 0 := nI_pos (by omega)
    have p1 : (nI i).toNatClampNeg = i := nI_clamp (by omega)
    have p2 : ¬ nI (i + 1) < 0 := nI_pos (by omega)
    have p3 : (nI (i + 1)).toNatClampNeg = i + 1 := nI_clamp (by omega)
    have b290 := h7.1
    have gO290 := gO_of h1.1
    have rf290 := h1.rf 14 290 (by decide)
    have kc290 := c130s (a := 32 * i + 32) (b := 32 * i) (n := 32) b290.1 (by decide) (by rw [b290.2]; omega) (by omega) (by rw [b290.2]; decide)
    obtain ⟨M1, em290⟩ : ∃ X, X = M.set 290 (oI (kf_cp ho ho (32 * i + 32) (32 * i) 32)) := ⟨_, rfl⟩
    rw [← em290, show nI 32 = 32 from rfl] at kc290
    have az290 : ArI M1 290 320 (kf_cp ho ho (32 * i + 32) (32 * i) 32) := ⟨by rw [em290]; exact m_self (m_lt b290.1), by rw [kf_cp_len (by rw [b290.2]; omega) (by rw [b290.2]; omega)]; exact b290.2⟩
    have os290 : Off [290] M M1 := by rw [em290]; exact Off.set (by decide)
    have oc1 : Off [290] M M1 := os290
    have b292 := h7.2.2.1.off oc1 (by decide)
    have gO292 := gO_of (h1.off oc1 (by decide)).1
    have rf292 := h1.rf 16 292 (by decide)
    have kc292 := c130s (a := 16 * i + 16) (b := 16 * i) (n := 16) b292.1 (by decide) (by rw [b292.2]; omega) (by omega) (by rw [b292.2]; decide)
    obtain ⟨M2, em292⟩ : ∃ X, X = M1.set 292 (oI (kf_cp us us (16 * i + 16) (16 * i) 16)) := ⟨_, rfl⟩
    rw [← em292, show nI 16 = 16 from rfl] at kc292
    have az292 : ArI M2 292 160 (kf_cp us us (16 * i + 16) (16 * i) 16) := ⟨by rw [em292]; exact m_self (m_lt b292.1), by rw [kf_cp_len (by rw [b292.2]; omega) (by rw [b292.2]; omega)]; exact b292.2⟩
    have os292 : Off [292] M1 M2 := by rw [em292]; exact Off.set (by decide)
    have oc2 : Off [290, 292] M M2 := (oc1.wk (by decide)).tr (os292.wk (by decide))
    have b293 := h7.2.2.2.1.off oc2 (by decide)
    have gO293 := gO_of (h1.off oc2 (by decide)).1
    have rf293 := h1.rf 17 293 (by decide)
    have kc293 := c130s (a := 32 * i + 32) (b := 32 * i) (n := 32) b293.1 (by decide) (by rw [b293.2]; omega) (by omega) (by rw [b293.2]; decide)
    obtain ⟨M3, em293⟩ : ∃ X, X = M2.set 293 (oI (kf_cp se se (32 * i + 32) (32 * i) 32)) := ⟨_, rfl⟩
    rw [← em293, show nI 32 = 32 from rfl] at kc293
    have az293 : ArI M3 293 320 (kf_cp se se (32 * i + 32) (32 * i) 32) := ⟨by rw [em293]; exact m_self (m_lt b293.1), by rw [kf_cp_len (by rw [b293.2]; omega) (by rw [b293.2]; omega)]; exact b293.2⟩
    have os293 : Off [293] M2 M3 := by rw [em293]; exact Off.set (by decide)
    have oc3 : Off [290, 292, 293] M M3 := (oc2.wk (by decide)).tr (os293.wk (by decide))
    have b294 := h7.2.2.2.2.1.off oc3 (by decide)
    have gO294 := gO_of (h1.off oc3 (by decide)).1
    have rf294 := h1.rf 18 294 (by decide)
    have kc294 := c130s (a := 16 * i + 16) (b := 16 * i) (n := 16) b294.1 (by decide) (by rw [b294.2]; omega) (by omega) (by rw [b294.2]; decide)
    obtain ⟨M4, em294⟩ : ∃ X, X = M3.set 294 (oI (kf_cp ide ide (16 * i + 16) (16 * i) 16)) := ⟨_, rfl⟩
    rw [← em294, show nI 16 = 16 from rfl] at kc294
    have az294 : ArI M4 294 160 (kf_cp ide ide (16 * i + 16) (16 * i) 16) := ⟨by rw [em294]; exact m_self (m_lt b294.1), by rw [kf_cp_len (by rw [b294.2]; omega) (by rw [b294.2]; omega)]; exact b294.2⟩
    have os294 : Off [294] M3 M4 := by rw [em294]; exact Off.set (by decide)
    have oc4 : Off [290, 292, 293, 294] M M4 := (oc3.wk (by decide)).tr (os294.wk (by decide))
    have b296 := h7.2.2.2.2.2.2.off oc4 (by decide)
    have gO296 := gO_of (h1.off oc4 (by decide)).1
    have rf296 := h1.rf 20 296 (by decide)
    have kc296 := c130s (a := 64 * i + 64) (b := 64 * i) (n := 64) b296.1 (by decide) (by rw [b296.2]; omega) (by omega) (by rw [b296.2]; decide)
    obtain ⟨M5, em296⟩ : ∃ X, X = M4.set 296 (oI (kf_cp po po (64 * i + 64) (64 * i) 64)) := ⟨_, rfl⟩
    rw [← em296, show nI 64 = 64 from rfl] at kc296
    have az296 : ArI M5 296 640 (kf_cp po po (64 * i + 64) (64 * i) 64) := ⟨by rw [em296]; exact m_self (m_lt b296.1), by rw [kf_cp_len (by rw [b296.2]; omega) (by rw [b296.2]; omega)]; exact b296.2⟩
    have os296 : Off [296] M4 M5 := by rw [em296]; exact Off.set (by decide)
    have oc5 : Off [290, 292, 293, 294, 296] M M5 := (oc4.wk (by decide)).tr (os296.wk (by decide))
    have b291 := h7.2.1.off oc5 (by decide)
    have gO291 := gO_of (h1.off oc5 (by decide)).1
    have rf291 := h1.rf 15 291 (by decide)
    have gI291 := gI_of b291.1
    have wv291 := getD_of (xs := ul) (i := i + 1) (by rw [b291.2]; omega)
    have ba291 : ¬ ul.length ≤ i := by rw [b291.2]; omega
    have bb291 : ¬ 291 < 19 := by decide
    obtain ⟨M6, em291⟩ : ∃ X, X = M5.set 291 (oI (ul.set i (ul.getD (i + 1) 0))) := ⟨_, rfl⟩
    have az291 : ArI M6 291 10 (ul.set i (ul.getD (i + 1) 0)) := ⟨by rw [em291]; exact m_self (m_lt b291.1), by rw [List.length_set]; exact b291.2⟩
    have os291 : Off [291] M5 M6 := by rw [em291]; exact Off.set (by decide)
    have oc6 : Off [290, 292, 293, 294, 296, 291] M M6 := (oc5.wk (by decide)).tr (os291.wk (by decide))
    have b295 := h7.2.2.2.2.2.1.off oc6 (by decide)
    have gO295 := gO_of (h1.off oc6 (by decide)).1
    have rf295 := h1.rf 19 295 (by decide)
    have gI295 := gI_of b295.1
    have wv295 := getD_of (xs := ct) (i := i + 1) (by rw [b295.2]; omega)
    have ba295 : ¬ ct.length ≤ i := by rw [b295.2]; omega
    have bb295 : ¬ 295 < 19 := by decide
    obtain ⟨M7, em295⟩ : ∃ X, X = M6.set 295 (oI (ct.set i (ct.getD (i + 1) 0))) := ⟨_, rfl⟩
    have az295 : ArI M7 295 10 (ct.set i (ct.getD (i + 1) 0)) := ⟨by rw [em295]; exact m_self (m_lt b295.1), by rw [List.length_set]; exact b295.2⟩
    have os295 : Off [295] M6 M7 := by rw [em295]; exact Off.set (by decide)
    have oc7 : Off [290, 292, 293, 294, 296, 291, 295] M M7 := (oc6.wk (by decide)).tr (os295.wk (by decide))
    have K7 : MK7 M7 _ _ _ _ _ _ _ := ⟨((((((az290.off os292 (by decide)).off os293 (by decide)).off os294 (by decide)).off os296 (by decide)).off os291 (by decide)).off os295 (by decide)), (az291.off os295 (by decide)), (((((az292.off os293 (by decide)).off os294 (by decide)).off os296 (by decide)).off os291 (by decide)).off os295 (by decide)), ((((az293.off os294 (by decide)).off os296 (by decide)).off os291 (by decide)).off os295 (by decide)), (((az294.off os296 (by decide)).off os291 (by decide)).off os295 (by decide)), az295, ((az296.off os291 (by decide)).off os295 (by decide))⟩
    have IN : LInv ks j (i + 1) _ _ _ _ _ _ _ := fun q k => by
      obtain ⟨y1, y2, y3⟩ := hI q k
      have ll := And.intro h7.1.2 (And.intro h7.2.1.2 (And.intro h7.2.2.1.2 (And.intro h7.2.2.2.1.2 (And.intro h7.2.2.2.2.1.2 (And.intro h7.2.2.2.2.2.1.2 h7.2.2.2.2.2.2.2)))))
      refine ⟨fun w1 w2 => kyR_ne (i := i) (by omega) ll.1 ll.2.1 ll.2.2.1 ll.2.2.2.1 ll.2.2.2.2.1 ll.2.2.2.2.2.1 ll.2.2.2.2.2.2 (hok _ _ w2) (by omega) (y1 w1 w2), fun w1 w2 w3 => ?_, fun w1 w2 => kyR_ne (i := i) (by omega) ll.1 ll.2.1 ll.2.2.1 ll.2.2.2.1 ll.2.2.2.2.1 ll.2.2.2.2.2.1 ll.2.2.2.2.2.2 (hok _ _ w2) (by omega) (y3 (by omega) w2)⟩
      by_cases c : q = i
      · subst c
        exact kyR_eq (by omega) ll.1 ll.2.1 ll.2.2.1 ll.2.2.2.1 ll.2.2.2.2.1 ll.2.2.2.2.2.1 ll.2.2.2.2.2.2 (hok _ _ w3) ((hI (q + 1) k).2.2 (by omega) w3)
      · exact kyR_ne (i := i) (by omega) ll.1 ll.2.1 ll.2.2.1 ll.2.2.2.1 ll.2.2.2.2.1 ll.2.2.2.2.2.1 ll.2.2.2.2.2.2 (hok _ _ w3) c (y2 w1 (by omega) w3)
    obtain ⟨M', i', a1, a2, a3, a4, a5, a6, a7, k', K', I', o'⟩ := ih (i + 1) M7 _ _ _ _ _ _ _ (by omega) (by omega) (h1.off oc7 (by decide)) f13 K7 IN
    refine ⟨M', i', a1, a2, a3, a4, a5, a6, a7, (e189_2 _ _ _).trans (Eq.trans ?_ k'), K', I', (oc7.wk (by decide)).tr o'⟩
    simp only [cl_189, e189_0, e189_1, e189_3, e189_4, e189_5, e189_6, e189_9, e189_12, e189_13, e189_16, e189_18, e189_19, e189_20, e189_22, e189_23, e189_24, e189_27, e189_29, e189_30, e189_31, e189_33, e189_36, e189_37, e189_40, e189_42, e189_43, e189_44, e189_46, e189_47, e189_48, e189_51, e189_53, e189_54, e189_55, e189_57, e189_60, e189_61, e189_64, e189_66, e189_67, e189_68, e189_70, e189_71, e189_72, e189_75, e189_77, e189_78, e189_79, e189_81, e189_84, e189_85, e189_88, e189_90, e189_91, e189_92, e189_94, e189_95, e189_96, e189_99, e189_101, e189_102, e189_103, e189_105, e189_108, e189_109, e189_112, e189_114, e189_115, e189_116, e189_118, e189_119, e189_120, e189_123, e189_125, e189_126, e189_127, e189_129, e189_132, e189_133, e189_136, e189_137, e189_138, e189_141, e189_142, e189_143, e189_144, e189_145, e189_146, e189_147, e189_150, e189_151, e189_152, e189_155, e189_156, e189_157, e189_158, e189_159, e189_160, e189_163, e189_167, e189_168, e189_171, e189_172, e189_173, e189_176, ow_189, Int32.reduceOfInt, Int32.reduceOfNat, Int32.reduceToNatClampNeg, Int32.reduceLT, Int32.reduceLE, Int32.reduceAdd, Int32.reduceSub, Int32.reduceMul, Int64.reduceOfNat, Int64.reduceOfInt, Nat.reduceLeDiff, Nat.reduceLT, Nat.reduceEqDiff, Nat.reduceSub, cs_0, cs_1, cs_2, cs_3, cs_4, cs_5, cs_6, cs_7, cs_8, or_false, false_or, not_false_eq_true, and_true, true_and, if_true, if_false, List.length_cons, List.length_nil, List.getElem?_cons_succ, List.getElem?_cons_zero, List.set_cons_succ, List.set_cons_zero, reduceIte, d_G, d_R, s_aload, s_aload_n, s_iload, s_iload_n, s_lload, s_lload_n, s_istore, s_istore_n, s_astore, s_astoreN, s_astore_n, s_astore_nN, s_lstore, s_lstore_n, s_iinc, s_iconst, s_bipush, s_sipush, s_lconst, s_ldc2_w, s_aconst_null, s_dupA, s_dupI, s_dup2, s_iadd, s_isub, s_imul, s_iand, s_ior, s_ixor, s_ishl, s_ishr, s_iushr, s_ineg, s_idiv, s_irem, s_ladd, s_lsub, s_lmul, s_land, s_lor, s_lxor, s_ldiv, s_lshl, s_lshr, s_lushr, s_i2l, s_l2i, s_lcmp, s_goto, s_ieq, s_ine, s_ilt, s_ige, s_igt, s_ile, s_zeq, s_zne, s_zlt, s_zge, s_zgt, s_zle, s_ifnull, s_ifnullN, s_ifnonnull, s_ifnonnullN, s_tableswitch, s_lookupswitch, s_getfield, s_putfield, s_getstatic, s_iaload, s_laload, s_baload, s_aaload, s_iastore, s_lastore, s_bastore, s_aastore, s_arraylength, s_newI, s_newJ, s_newZ, s_anewarray, s_new, s_copy, s_max, s_min, s_invokestatic, s_objinit, s_invokespecial, kf_isr_r, s_invokevirtual, s_ireturn, s_lreturn, s_areturn, s_areturnN, s_return, lI_0, lI_s, lJ_0, lJ_s, lA_0, lA_0N, lA_s, lS1_0, lS1_1, lS1_2, lS2_0, lS2_1, lS2_2, lK_n, lK_i, lK_j, lK_a, lK_N, d_C', kf_w_0, kf_w_i, kf_w_a, kf_w_n, kf_w_j, c_0, c_1, c_2, c_3, c_4, c_5, c_6, tl_0, tl_1, Option.bind_some, Option.bind_none, Option.map_some, Nat.reduceAdd, Nat.reduceMul, Nat.reduceDiv, Nat.reduceMod, Int.reduceToNat, Fin.val_zero, Fin.isValue, Fin.val_one, Fin.val_two, fv_0, fv_1, fv_2, fv_3, fw_0, fw_1, d_ite, true_or, or_true, and_false, false_and, or_self, and_self, nI_1, g0, f13, e, e32, e16, e64, s32, s16, s64, p0, p1, p2, p3, kf_NS, gO290, rf290, kc290, gO292, rf292, kc292, gO293, rf293, kc293, gO294, rf294, kc294, gO296, rf296, kc296, gO291, rf291, gI291, wv291, ba291, bb291, ← em291, gO295, rf295, gI295, wv295, ba295, bb295, ← em295]
end MLOSE
