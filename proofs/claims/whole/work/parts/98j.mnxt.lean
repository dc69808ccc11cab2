/-! The reference: goOn -/
/-- what holds when a command of the reference is over -/
def MCr (M : kf_M) (tl : Nat) (tp : List Int32) (s : Sx) : Prop := ∃ fs fl wd, MdIs M fs ∧ MF fs tl s.2.1.length s.2.2.1 s.2.2.2.1 s.2.2.2.2.1.length s.2.2.2.2.2.1.1.length fl s.2.2.2.2.2.2.1 ∧ MAr M tp s.2.1 s.2.2.1 s.2.2.2.2.1 s.2.2.2.2.2.1.1 wd s.2.2.2.2.2.2 ∧ CW s.2.2.2.2.2.1 wd fl ∧ (s.2.1.length ≤ 200 ∧ isB s.2.1) ∧ VB s.2.2.1 ∧ (s.2.2.2.1 = 0 ∨ s.2.2.2.1 = 1) ∧ s.2.2.2.2.2.1.1.length ≤ 10
def shf (ws : List Int32) : Nat → List Int32
  | 0 => ws
  | k + 1 => (shf ws k).set k ((shf ws k).getD (k + 1) 0)
theorem shf_len {ws : List Int32} : ∀ k, (shf ws k).length = ws.length
  | 0 => rfl
  | k + 1 => by rw [shf, List.length_set, shf_len k]
theorem shf_get {ws : List Int32} : ∀ (k q : Nat), k < ws.length → (shf ws k)[q]? = if q < k then ws[q + 1]? else ws[q]?
  | 0, q, _ => by rw [if_neg (by omega)]; rfl
  | k + 1, q, h => by
    have ih := shf_get (ws := ws) k
    have l := shf_len (ws := ws) k
    rw [shf]
    by_cases c : k = q
    · subst c
      rw [List.getElem?_set_self (by omega), if_pos (by omega)]
      have h1 := ih (k + 1) (by omega)
      rw [if_neg (by omega)] at h1
      rw [← h1, ← getD_of (by omega)]
    · rw [List.getElem?_set_ne c, ih q (by omega)]
      by_cases d : q < k
      · rw [if_pos d, if_pos (by omega)]
      · rw [if_neg d, if_neg (by omega)]
section MNXT
variable {M : kf_M} {fs : List Value} {tp ou : List Int32} {tl ol n w : Nat} {V : Vs} {tc fl g : Int32} {ks : List Ky} {wt : List Nat} {wd : List Int32} {W : Ws} {G : Gs}
theorem l193 {n : Nat} {ws : List Int32} {jj : Int32} (lw : ws.length = 10) (hn : n ≤ 10) : ∀ (q k : Nat) (M : kf_M), k + 1 + q = n → MdIs M fs → fs[21]? = some (.int (nI n)) → ArI M 297 10 (shf ws k) → ∃ M', kf_ev 193 19 [some (.ref 284), some (.int jj), some (.int (nI (k + 1)))] [] M = kf_ev 193 47 [some (.ref 284), some (.int jj), some (.int (nI n))] [] M' ∧ ArI M' 297 10 (shf ws (n - 1)) ∧ Off [297] M M' := by
  intro q
  induction q with
  | zero =>
    intro k M hk h1 h2 h3
    have e : nI n ≤ nI (k + 1) := nI_le (by omega) (by omega)
    have g0 := gO_of h1.1
    have hk : n = k + 1 := by omega
    subst hk
    refine ⟨M, (e193_19 _ _ _).trans ?_, h3, Off.rf⟩
    simp only [cl_193, e193_0, e193_1, e193_4, e193_7, e193_9, e193_10, e193_11, e193_14, e193_15, e193_16, e193_17, e193_18, e193_20, e193_21, e193_24, e193_27, e193_28, e193_31, e193_32, e193_33, e193_34, e193_35, e193_38, e193_39, e193_40, e193_41, e193_44, e193_48, e193_49, e193_52, e193_53, e193_54, e193_57, e193_58, e193_61, e193_62, e193_63, e193_64, e193_67, e193_69, e193_70, e193_71, e193_72, e193_73, e193_76, e193_77, e193_78, e193_81, e193_82, e193_85, e193_86, ow_193, Int32.reduceOfInt, Int32.reduceOfNat, Int32.reduceToNatClampNeg, Int32.reduceLT, Int32.reduceLE, Int32.reduceAdd, Int32.reduceSub, Int32.reduceMul, Int64.reduceOfNat, Int64.reduceOfInt, Nat.reduceLeDiff, Nat.reduceLT, Nat.reduceEqDiff, Nat.reduceSub, cs_0, cs_1, cs_2, cs_3, cs_4, cs_5, cs_6, cs_7, cs_8, or_false, false_or, not_false_eq_true, and_true, true_and, if_true, if_false, List.length_cons, List.length_nil, List.getElem?_cons_succ, List.getElem?_cons_zero, List.set_cons_succ, List.set_cons_zero, reduceIte, d_G, d_R, s_aload, s_aload_n, s_iload, s_iload_n, s_lload, s_lload_n, s_istore, s_istore_n, s_astore, s_astoreN, s_astore_n, s_astore_nN, s_lstore, s_lstore_n, s_iinc, s_iconst, s_bipush, s_sipush, s_lconst, s_ldc2_w, s_aconst_null, s_dupA, s_dupI, s_dup2, s_iadd, s_isub, s_imul, s_iand, s_ior, s_ixor, s_ishl, s_ishr, s_iushr, s_ineg, s_idiv, s_irem, s_ladd, s_lsub, s_lmul, s_land, s_lor, s_lxor, s_ldiv, s_lshl, s_lshr, s_lushr, s_i2l, s_l2i, s_lcmp, s_goto, s_ieq, s_ine, s_ilt, s_ige, s_igt, s_ile, s_zeq, s_zne, s_zlt, s_zge, s_zgt, s_zle, s_ifnull, s_ifnullN, s_ifnonnull, s_ifnonnullN, s_tableswitch, s_lookupswitch, s_getfield, s_putfield, s_getstatic, s_iaload, s_laload, s_baload, s_aaload, s_iastore, s_lastore, s_bastore, s_aastore, s_arraylength, s_newI, s_newJ, s_newZ, s_anewarray, s_new, s_copy, s_max, s_min, s_invokestatic, s_objinit, s_invokespecial, kf_isr_r, s_invokevirtual, s_ireturn, s_lreturn, s_areturn, s_areturnN, s_return, lI_0, lI_s, lJ_0, lJ_s, lA_0, lA_0N, lA_s, lS1_0, lS1_1, lS1_2, lS2_0, lS2_1, lS2_2, lK_n, lK_i, lK_j, lK_a, lK_N, d_C', kf_w_0, kf_w_i, kf_w_a, kf_w_n, kf_w_j, c_0, c_1, c_2, c_3, c_4, c_5, c_6, tl_0, tl_1, Option.bind_some, Option.bind_none, Option.map_some, Nat.reduceAdd, Nat.reduceMul, Nat.reduceDiv, Nat.reduceMod, Int.reduceToNat, Fin.val_zero, Fin.isValue, Fin.val_one, Fin.val_two, fv_0, fv_1, fv_2, fv_3, fw_0, fw_1, d_ite, true_or, or_true, and_false, false_and, or_self, and_self, g0, h2, e]
  | succ q ih =>
    intro k M hk h1 h2 h3
    have e : ¬ nI n ≤ nI (k + 1) := nI_ge (by omega) (by omega)
    have g0 := gO_of h1.1
    have r22 := h1.rf 22 297 (by decide)
    have gw := gI_of h3.1
    have ep : nI (k + 1) - 1 = nI k := nI_pred k
    have p0 : ¬ nI k < 0 := nI_pos (by omega)
    have p1 : (nI k).toNatClampNeg = k := nI_clamp (by omega)
    have p2 : ¬ nI (k + 1) < 0 := nI_pos (by omega)
    have p3 : (nI (k + 1)).toNatClampNeg = k + 1 := nI_clamp (by omega)
    have w0 := getD_of (xs := shf ws k) (i := k + 1) (by rw [h3.2]; omega)
    have b1 : ¬ (shf ws k).length ≤ k := by rw [h3.2]; omega
    have b2 : ¬ 297 < 19 := by decide
    obtain ⟨M1, e1⟩ : ∃ X, X = M.set 297 (oI (shf ws (k + 1))) := ⟨_, rfl⟩
    have e1' : M.set 297 (oI ((shf ws k).set k ((shf ws k).getD (k + 1) 0))) = M1 := e1.symm
    have o1 : Off [297] M M1 := by rw [e1]; exact Off.set (by simp)
    have a1 : ArI M1 297 10 (shf ws (k + 1)) := ⟨by rw [e1]; exact m_self (m_lt h3.1), by rw [shf_len]; exact lw⟩
    obtain ⟨M', k', a', o'⟩ := ih (k + 1) M1 (by omega) (h1.off o1 (by decide)) h2 a1
    refine ⟨M', (e193_19 _ _ _).trans ?_, a', o1.tr o'⟩
    simp only [cl_193, e193_0, e193_1, e193_4, e193_7, e193_9, e193_10, e193_11, e193_14, e193_15, e193_16, e193_17, e193_18, e193_20, e193_21, e193_24, e193_27, e193_28, e193_31, e193_32, e193_33, e193_34, e193_35, e193_38, e193_39, e193_40, e193_41, e193_44, e193_48, e193_49, e193_52, e193_53, e193_54, e193_57, e193_58, e193_61, e193_62, e193_63, e193_64, e193_67, e193_69, e193_70, e193_71, e193_72, e193_73, e193_76, e193_77, e193_78, e193_81, e193_82, e193_85, e193_86, ow_193, Int32.reduceOfInt, Int32.reduceOfNat, Int32.reduceToNatClampNeg, Int32.reduceLT, Int32.reduceLE, Int32.reduceAdd, Int32.reduceSub, Int32.reduceMul, Int64.reduceOfNat, Int64.reduceOfInt, Nat.reduceLeDiff, Nat.reduceLT, Nat.reduceEqDiff, Nat.reduceSub, cs_0, cs_1, cs_2, cs_3, cs_4, cs_5, cs_6, cs_7, cs_8, or_false, false_or, not_false_eq_true, and_true, true_and, if_true, if_false, List.length_cons, List.length_nil, List.getElem?_cons_succ, List.getElem?_cons_zero, List.set_cons_succ, List.set_cons_zero, reduceIte, d_G, d_R, s_aload, s_aload_n, s_iload, s_iload_n, s_lload, s_lload_n, s_istore, s_istore_n, s_astore, s_astoreN, s_astore_n, s_astore_nN, s_lstore, s_lstore_n, s_iinc, s_iconst, s_bipush, s_sipush, s_lconst, s_ldc2_w, s_aconst_null, s_dupA, s_dupI, s_dup2, s_iadd, s_isub, s_imul, s_iand, s_ior, s_ixor, s_ishl, s_ishr, s_iushr, s_ineg, s_idiv, s_irem, s_ladd, s_lsub, s_lmul, s_land, s_lor, s_lxor, s_ldiv, s_lshl, s_lshr, s_lushr, s_i2l, s_l2i, s_lcmp, s_goto, s_ieq, s_ine, s_ilt, s_ige, s_igt, s_ile, s_zeq, s_zne, s_zlt, s_zge, s_zgt, s_zle, s_ifnull, s_ifnullN, s_ifnonnull, s_ifnonnullN, s_tableswitch, s_lookupswitch, s_getfield, s_putfield, s_getstatic, s_iaload, s_laload, s_baload, s_aaload, s_iastore, s_lastore, s_bastore, s_aastore, s_arraylength, s_newI, s_newJ, s_newZ, s_anewarray, s_new, s_copy, s_max, s_min, s_invokestatic, s_objinit, s_invokespecial, kf_isr_r, s_invokevirtual, s_ireturn, s_lreturn, s_areturn, s_areturnN, s_return, lI_0, lI_s, lJ_0, lJ_s, lA_0, lA_0N, lA_s, lS1_0, lS1_1, lS1_2, lS2_0, lS2_1, lS2_2, lK_n, lK_i, lK_j, lK_a, lK_N, d_C', kf_w_0, kf_w_i, kf_w_a, kf_w_n, kf_w_j, c_0, c_1, c_2, c_3, c_4, c_5, c_6, tl_0, tl_1, Option.bind_some, Option.bind_none, Option.map_some, Nat.reduceAdd, Nat.reduceMul, Nat.reduceDiv, Nat.reduceMod, Int.reduceToNat, Fin.val_zero, Fin.isValue, Fin.val_one, Fin.val_two, fv_0, fv_1, fv_2, fv_3, fw_0, fw_1, d_ite, true_or, or_true, and_false, false_and, or_self, and_self, g0, h2, e, r22, gw, ep, p0, p1, p2, p3, w0, b1, b2, kf_NS, e1', nI_1, k']
theorem mw_tail {w : Nat} {wr : List Nat} {ws : List Int32} (hw : ∀ (i x : Nat), (w :: wr)[i]? = some x → ws[i]? = some (nI x) ∧ x < n) (lw : ws.length = 10) (hl : (w :: wr).length ≤ 10) : ∀ (i x : Nat), wr[i]? = some x → (shf ws wr.length)[i]? = some (nI x) ∧ x < n := by
  intro i x hx
  have hi : i < wr.length := (List.getElem?_eq_some_iff.mp hx).1
  have := hw (i + 1) x hx
  rw [shf_get wr.length i (by rw [lw]; exact hl), if_pos hi]
  exact this
set_option maxHeartbeats 4000000 in
theorem R193 (m1 : MdIs M fs) (m2 : MF fs tl 0 V tc ks.length W.1.length fl G.1) (m3 : MAr M tp [] V ks W.1 wd G) (hW : CW W wd fl) (hv : VB V) (htc : tc = 0 ∨ tc = 1) (h10 : W.1.length ≤ 10) : ∃ M', kf_cl 193 [.ref 284] M = some (some (.int (sNxt V tc ks W G).1), M') ∧ MCr M' tl tp (sNxt V tc ks W G) ∧ Off CM M M' := by
  have g0 := gO_of m1.1
  have f21 := m2.2.2.2.2.2.2.2.2.1
  obtain ⟨wt, wz⟩ := W
  unfold sNxt
  cases wt with
  | nil =>
    have f21 : fs[21]? = some (.int 0) := f21
    refine ⟨M, ?_, ⟨fs, fl, wd, m1, m2, m3, hW, ⟨Nat.zero_le _, isB_nil⟩, hv, htc, Nat.zero_le _⟩, Off.rf⟩
    simp only [cl_193, e193_0, e193_1, e193_4, e193_7, e193_9, e193_10, e193_11, e193_14, e193_15, e193_16, e193_17, e193_18, e193_20, e193_21, e193_24, e193_27, e193_28, e193_31, e193_32, e193_33, e193_34, e193_35, e193_38, e193_39, e193_40, e193_41, e193_44, e193_48, e193_49, e193_52, e193_53, e193_54, e193_57, e193_58, e193_61, e193_62, e193_63, e193_64, e193_67, e193_69, e193_70, e193_71, e193_72, e193_73, e193_76, e193_77, e193_78, e193_81, e193_82, e193_85, e193_86, ow_193, Int32.reduceOfInt, Int32.reduceOfNat, Int32.reduceToNatClampNeg, Int32.reduceLT, Int32.reduceLE, Int32.reduceAdd, Int32.reduceSub, Int32.reduceMul, Int64.reduceOfNat, Int64.reduceOfInt, Nat.reduceLeDiff, Nat.reduceLT, Nat.reduceEqDiff, Nat.reduceSub, cs_0, cs_1, cs_2, cs_3, cs_4, cs_5, cs_6, cs_7, cs_8, or_false, false_or, not_false_eq_true, and_true, true_and, if_true, if_false, List.length_cons, List.length_nil, List.getElem?_cons_succ, List.getElem?_cons_zero, List.set_cons_succ, List.set_cons_zero, reduceIte, d_G, d_R, s_aload, s_aload_n, s_iload, s_iload_n, s_lload, s_lload_n, s_istore, s_istore_n, s_astore, s_astoreN, s_astore_n, s_astore_nN, s_lstore, s_lstore_n, s_iinc, s_iconst, s_bipush, s_sipush, s_lconst, s_ldc2_w, s_aconst_null, s_dupA, s_dupI, s_dup2, s_iadd, s_isub, s_imul, s_iand, s_ior, s_ixor, s_ishl, s_ishr, s_iushr, s_ineg, s_idiv, s_irem, s_ladd, s_lsub, s_lmul, s_land, s_lor, s_lxor, s_ldiv, s_lshl, s_lshr, s_lushr, s_i2l, s_l2i, s_lcmp, s_goto, s_ieq, s_ine, s_ilt, s_ige, s_igt, s_ile, s_zeq, s_zne, s_zlt, s_zge, s_zgt, s_zle, s_ifnull, s_ifnullN, s_ifnonnull, s_ifnonnullN, s_tableswitch, s_lookupswitch, s_getfield, s_putfield, s_getstatic, s_iaload, s_laload, s_baload, s_aaload, s_iastore, s_lastore, s_bastore, s_aastore, s_arraylength, s_newI, s_newJ, s_newZ, s_anewarray, s_new, s_copy, s_max, s_min, s_invokestatic, s_objinit, s_invokespecial, kf_isr_r, s_invokevirtual, s_ireturn, s_lreturn, s_areturn, s_areturnN, s_return, lI_0, lI_s, lJ_0, lJ_s, lA_0, lA_0N, lA_s, lS1_0, lS1_1, lS1_2, lS2_0, lS2_1, lS2_2, lK_n, lK_i, lK_j, lK_a, lK_N, d_C', kf_w_0, kf_w_i, kf_w_a, kf_w_n, kf_w_j, c_0, c_1, c_2, c_3, c_4, c_5, c_6, tl_0, tl_1, Option.bind_some, Option.bind_none, Option.map_some, Nat.reduceAdd, Nat.reduceMul, Nat.reduceDiv, Nat.reduceMod, Int.reduceToNat, Fin.val_zero, Fin.isValue, Fin.val_one, Fin.val_two, fv_0, fv_1, fv_2, fv_3, fw_0, fw_1, d_ite, true_or, or_true, and_false, false_and, or_self, and_self, g0, f21]
  | cons j wr =>
    have h10 : (j :: wr).length ≤ 10 := h10
    have f21 : fs[21]? = some (.int (nI (wr.length + 1))) := f21
    obtain ⟨w1, w2, w3, w4⟩ := hW (by intro q; cases q)
    have w1 : wd = wz.1 := w1
    have w2 : fl = wz.2 := w2
    have m3 : MAr M tp [] V ks (j :: wr) wd G := m3
    obtain ⟨a1, a2, a3, a4, a5, a6, a7, a8, a9, a10, a11, a12, a13, a14, a15, a16, a17, a18, a19, a20, a21, a22⟩ := m3
    obtain ⟨ws, hws, hwx⟩ := id a7
    obtain ⟨x1, x2⟩ := hwx 0 j rfl
    obtain ⟨hos, ul, us, se, ide, ct, po, h7, hr, hl⟩ := id a6
    have hk := List.getElem?_eq_getElem x2
    obtain ⟨k, ek⟩ : ∃ k, k = ks[j] := ⟨_, rfl⟩
    rw [← ek] at hk
    obtain ⟨ok, r1, r2, r3, r4, r5, r6, r7⟩ := hr j k hk
    have ekk : kAt ks j = k := by unfold kAt; rw [hk]; rfl
    have hl10 : wr.length + 1 ≤ 10 := h10
    have nz : ¬ nI (wr.length + 1) = 0 := nI_ne0 (by omega) (by omega)
    have r22 := m1.rf 22 297 (by decide)
    have gw := gI_of hws.1
    have p0 : ¬ (0 : Int32) < 0 := by decide
    have p1 : (0 : Int32).toNatClampNeg = 0 := by decide
    obtain ⟨M1, k1, s1, o1⟩ := l193 (ws := ws) (jj := nI j) (n := wr.length + 1) hws.2 h10 wr.length 0 M (by omega) m1 f21 hws
    rw [show nI (0 + 1) = 1 from rfl] at k1
    have n1 := m1.off o1 (by decide)
    have g1 := gO_of n1.1
    have l21 : 21 < fs.length := by rw [m1.2.1]; decide
    obtain ⟨M2, e2⟩ : ∃ X, X = M1.set 284 (oO 12 (fs.set 21 (.int (nI wr.length)))) := ⟨_, rfl⟩
    have o2 : Off [284] M1 M2 := by rw [e2]; exact Off.set (by simp)
    have n2 : MdIs M2 (fs.set 21 (.int (nI wr.length))) := by rw [e2]; exact n1.set (by decide)
    have f2 : MF (fs.set 21 (.int (nI wr.length))) tl 0 V tc ks.length wr.length fl G.1 := m2.s21 m1.2.1
    have c7 : MW M1 wr ks.length := ⟨shf ws wr.length, s1, mw_tail hwx hws.2 h10⟩
    have q1 : MAr M1 tp [] V ks wr wd G := ⟨a1.off o1 (by decide), a2.off o1 (by decide), a3.off o1 (by decide), a4.off o1 (by decide), a5.off o1 (by decide), a6.off o1 (by decide), c7, a8.off o1 (by decide), a9.off o1 (by decide), a10.of5 o1 (by decide), a11.off o1 (by decide), a12.off' o1 (by decide), a13.off o1 (by decide), a14.off o1 (by decide), a15.off o1 (by decide), a16.off o1 (by decide), a17.off o1 (by decide), a18.off o1 (by decide), a19.off o1 (by decide), a20.off o1 (by decide), a21.off o1 (by decide), a22.off o1 (by decide)⟩
    have q2 := q1.o o2
    have g2 := gO_of n2.1
    have r19 := n2.rf 19 295 (by decide)
    have r23 := n2.rf 23 298 (by decide)
    have o12 : Off [284, 297] M M2 := (o1.wk (by decide)).tr (o2.wk (by decide))
    have gc := gI_of (h7.off o12 (by decide)).2.2.2.2.2.1.1
    have pj : ¬ nI j < 0 := nI_pos (by omega)
    have pk : (nI j).toNatClampNeg = j := nI_clamp (by omega)
    have ep : nI (wr.length + 1) - 1 = nI wr.length := nI_pred _
    have f24 := f2.2.2.2.2.2.2.2.2.2.1
    have rc2 := n2.rc
    have em : (nI k.2.2.2 = -1) = (k.2.2.2 = 4294967295) := by
      apply propext
      constructor
      · intro q
        have := congrArg uw q
        rw [uw_nI ok.2.2.2.2.2] at this
        rw [this]
        rfl
      · intro q
        rw [q]
        decide
    have st47 : kf_cl 193 [.ref 284] M = kf_ev 193 47 [some (.ref 284), some (.int (nI j)), some (.int (nI (wr.length + 1)))] [] M1 := by
      simp only [cl_193, e193_0, e193_1, e193_4, e193_7, e193_9, e193_10, e193_11, e193_14, e193_15, e193_16, e193_17, e193_18, e193_20, e193_21, e193_24, e193_27, e193_28, e193_31, e193_32, e193_33, e193_34, e193_35, e193_38, e193_39, e193_40, e193_41, e193_44, e193_48, e193_49, e193_52, e193_53, e193_54, e193_57, e193_58, e193_61, e193_62, e193_63, e193_64, e193_67, e193_69, e193_70, e193_71, e193_72, e193_73, e193_76, e193_77, e193_78, e193_81, e193_82, e193_85, e193_86, ow_193, Int32.reduceOfInt, Int32.reduceOfNat, Int32.reduceToNatClampNeg, Int32.reduceLT, Int32.reduceLE, Int32.reduceAdd, Int32.reduceSub, Int32.reduceMul, Int64.reduceOfNat, Int64.reduceOfInt, Nat.reduceLeDiff, Nat.reduceLT, Nat.reduceEqDiff, Nat.reduceSub, cs_0, cs_1, cs_2, cs_3, cs_4, cs_5, cs_6, cs_7, cs_8, or_false, false_or, not_false_eq_true, and_true, true_and, if_true, if_false, List.length_cons, List.length_nil, List.getElem?_cons_succ, List.getElem?_cons_zero, List.set_cons_succ, List.set_cons_zero, reduceIte, d_G, d_R, s_aload, s_aload_n, s_iload, s_iload_n, s_lload, s_lload_n, s_istore, s_istore_n, s_astore, s_astoreN, s_astore_n, s_astore_nN, s_lstore, s_lstore_n, s_iinc, s_iconst, s_bipush, s_sipush, s_lconst, s_ldc2_w, s_aconst_null, s_dupA, s_dupI, s_dup2, s_iadd, s_isub, s_imul, s_iand, s_ior, s_ixor, s_ishl, s_ishr, s_iushr, s_ineg, s_idiv, s_irem, s_ladd, s_lsub, s_lmul, s_land, s_lor, s_lxor, s_ldiv, s_lshl, s_lshr, s_lushr, s_i2l, s_l2i, s_lcmp, s_goto, s_ieq, s_ine, s_ilt, s_ige, s_igt, s_ile, s_zeq, s_zne, s_zlt, s_zge, s_zgt, s_zle, s_ifnull, s_ifnullN, s_ifnonnull, s_ifnonnullN, s_tableswitch, s_lookupswitch, s_getfield, s_putfield, s_getstatic, s_iaload, s_laload, s_baload, s_aaload, s_iastore, s_lastore, s_bastore, s_aastore, s_arraylength, s_newI, s_newJ, s_newZ, s_anewarray, s_new, s_copy, s_max, s_min, s_invokestatic, s_objinit, s_invokespecial, kf_isr_r, s_invokevirtual, s_ireturn, s_lreturn, s_areturn, s_areturnN, s_return, lI_0, lI_s, lJ_0, lJ_s, lA_0, lA_0N, lA_s, lS1_0, lS1_1, lS1_2, lS2_0, lS2_1, lS2_2, lK_n, lK_i, lK_j, lK_a, lK_N, d_C', kf_w_0, kf_w_i, kf_w_a, kf_w_n, kf_w_j, c_0, c_1, c_2, c_3, c_4, c_5, c_6, tl_0, tl_1, Option.bind_some, Option.bind_none, Option.map_some, Nat.reduceAdd, Nat.reduceMul, Nat.reduceDiv, Nat.reduceMod, Int.reduceToNat, Fin.val_zero, Fin.isValue, Fin.val_one, Fin.val_two, fv_0, fv_1, fv_2, fv_3, fw_0, fw_1, d_ite, true_or, or_true, and_false, false_and, or_self, and_self, g0, f21, nz, r22, gw, p0, p1, x1, k1]
    dsimp only
    rw [ekk]
    by_cases hc : k.2.2.2 = 4294967295
    · rw [if_pos hc]
      have em : (nI k.2.2.2 = -1) = True := by rw [em]; exact eq_true hc
      refine ⟨M2, st47.trans ((e193_47 _ _ _).trans ?_), ⟨_, fl, wd, n2, f2, q2, (fun _ => ⟨w1, w2, w3, w4⟩), ⟨Nat.zero_le _, isB_nil⟩, hv, htc, by show wr.length ≤ 10; omega⟩, o12.cm (by decide)⟩
      simp only [cl_193, e193_0, e193_1, e193_4, e193_7, e193_9, e193_10, e193_11, e193_14, e193_15, e193_16, e193_17, e193_18, e193_19, e193_20, e193_21, e193_24, e193_27, e193_28, e193_31, e193_32, e193_33, e193_34, e193_35, e193_38, e193_39, e193_40, e193_41, e193_44, e193_48, e193_49, e193_52, e193_53, e193_54, e193_57, e193_58, e193_61, e193_62, e193_63, e193_64, e193_67, e193_69, e193_70, e193_71, e193_72, e193_73, e193_76, e193_77, e193_78, e193_81, e193_82, e193_85, e193_86, ow_193, Int32.reduceOfInt, Int32.reduceOfNat, Int32.reduceToNatClampNeg, Int32.reduceLT, Int32.reduceLE, Int32.reduceAdd, Int32.reduceSub, Int32.reduceMul, Int64.reduceOfNat, Int64.reduceOfInt, Nat.reduceLeDiff, Nat.reduceLT, Nat.reduceEqDiff, Nat.reduceSub, cs_0, cs_1, cs_2, cs_3, cs_4, cs_5, cs_6, cs_7, cs_8, or_false, false_or, not_false_eq_true, and_true, true_and, if_true, if_false, List.length_cons, List.length_nil, List.getElem?_cons_succ, List.getElem?_cons_zero, List.set_cons_succ, List.set_cons_zero, reduceIte, d_G, d_R, s_aload, s_aload_n, s_iload, s_iload_n, s_lload, s_lload_n, s_istore, s_istore_n, s_astore, s_astoreN, s_astore_n, s_astore_nN, s_lstore, s_lstore_n, s_iinc, s_iconst, s_bipush, s_sipush, s_lconst, s_ldc2_w, s_aconst_null, s_dupA, s_dupI, s_dup2, s_iadd, s_isub, s_imul, s_iand, s_ior, s_ixor, s_ishl, s_ishr, s_iushr, s_ineg, s_idiv, s_irem, s_ladd, s_lsub, s_lmul, s_land, s_lor, s_lxor, s_ldiv, s_lshl, s_lshr, s_lushr, s_i2l, s_l2i, s_lcmp, s_goto, s_ieq, s_ine, s_ilt, s_ige, s_igt, s_ile, s_zeq, s_zne, s_zlt, s_zge, s_zgt, s_zle, s_ifnull, s_ifnullN, s_ifnonnull, s_ifnonnullN, s_tableswitch, s_lookupswitch, s_getfield, s_putfield, s_getstatic, s_iaload, s_laload, s_baload, s_aaload, s_iastore, s_lastore, s_bastore, s_aastore, s_arraylength, s_newI, s_newJ, s_newZ, s_anewarray, s_new, s_copy, s_max, s_min, s_invokestatic, s_objinit, s_invokespecial, kf_isr_r, s_invokevirtual, s_ireturn, s_lreturn, s_areturn, s_areturnN, s_return, lI_0, lI_s, lJ_0, lJ_s, lA_0, lA_0N, lA_s, lS1_0, lS1_1, lS1_2, lS2_0, lS2_1, lS2_2, lK_n, lK_i, lK_j, lK_a, lK_N, d_C', kf_w_0, kf_w_i, kf_w_a, kf_w_n, kf_w_j, c_0, c_1, c_2, c_3, c_4, c_5, c_6, tl_0, tl_1, Option.bind_some, Option.bind_none, Option.map_some, Nat.reduceAdd, Nat.reduceMul, Nat.reduceDiv, Nat.reduceMod, Int.reduceToNat, Fin.val_zero, Fin.isValue, Fin.val_one, Fin.val_two, fv_0, fv_1, fv_2, fv_3, fw_0, fw_1, d_ite, true_or, or_true, and_false, false_and, or_self, and_self, g1, f21, ep, l21, kf_fit, ← e2, g2, r19, gc, pj, pk, r6, em]
    · rw [if_neg hc]
      have em : (nI k.2.2.2 = -1) = False := by rw [em]; exact eq_false hc
      obtain ⟨M3, fs3, k3, n3, f3, q3, b3, l3, o3⟩ := R191 (found := 0) (x := fl) n2 f2 q2 hk hc w4 w3 (by decide)
      rw [nI_0] at k3
      have lk : (asrK ks j k).length = ks.length := by unfold asrK; rw [List.length_set]
      unfold sAsr
      rw [ekk, ← w1, ← w2]
      refine ⟨M3, st47.trans ((e193_47 _ _ _).trans ?_), ⟨fs3, fl, wd, n3, by show MF fs3 tl _ V tc (asrK ks j k).length _ _ _; rw [lk]; exact f3, q3, (fun _ => ⟨rfl, rfl, w3, w4⟩), ⟨l3, b3⟩, hv, htc, by show wr.length ≤ 10; omega⟩, (o12.cm (by decide)).tr (o3.cm (by decide))⟩
      simp only [cl_193, e193_0, e193_1, e193_4, e193_7, e193_9, e193_10, e193_11, e193_14, e193_15, e193_16, e193_17, e193_18, e193_19, e193_20, e193_21, e193_24, e193_27, e193_28, e193_31, e193_32, e193_33, e193_34, e193_35, e193_38, e193_39, e193_40, e193_41, e193_44, e193_48, e193_49, e193_52, e193_53, e193_54, e193_57, e193_58, e193_61, e193_62, e193_63, e193_64, e193_67, e193_69, e193_70, e193_71, e193_72, e193_73, e193_76, e193_77, e193_78, e193_81, e193_82, e193_85, e193_86, ow_193, Int32.reduceOfInt, Int32.reduceOfNat, Int32.reduceToNatClampNeg, Int32.reduceLT, Int32.reduceLE, Int32.reduceAdd, Int32.reduceSub, Int32.reduceMul, Int64.reduceOfNat, Int64.reduceOfInt, Nat.reduceLeDiff, Nat.reduceLT, Nat.reduceEqDiff, Nat.reduceSub, cs_0, cs_1, cs_2, cs_3, cs_4, cs_5, cs_6, cs_7, cs_8, or_false, false_or, not_false_eq_true, and_true, true_and, if_true, if_false, List.length_cons, List.length_nil, List.getElem?_cons_succ, List.getElem?_cons_zero, List.set_cons_succ, List.set_cons_zero, reduceIte, d_G, d_R, s_aload, s_aload_n, s_iload, s_iload_n, s_lload, s_lload_n, s_istore, s_istore_n, s_astore, s_astoreN, s_astore_n, s_astore_nN, s_lstore, s_lstore_n, s_iinc, s_iconst, s_bipush, s_sipush, s_lconst, s_ldc2_w, s_aconst_null, s_dupA, s_dupI, s_dup2, s_iadd, s_isub, s_imul, s_iand, s_ior, s_ixor, s_ishl, s_ishr, s_iushr, s_ineg, s_idiv, s_irem, s_ladd, s_lsub, s_lmul, s_land, s_lor, s_lxor, s_ldiv, s_lshl, s_lshr, s_lushr, s_i2l, s_l2i, s_lcmp, s_goto, s_ieq, s_ine, s_ilt, s_ige, s_igt, s_ile, s_zeq, s_zne, s_zlt, s_zge, s_zgt, s_zle, s_ifnull, s_ifnullN, s_ifnonnull, s_ifnonnullN, s_tableswitch, s_lookupswitch, s_getfield, s_putfield, s_getstatic, s_iaload, s_laload, s_baload, s_aaload, s_iastore, s_lastore, s_bastore, s_aastore, s_arraylength, s_newI, s_newJ, s_newZ, s_anewarray, s_new, s_copy, s_max, s_min, s_invokestatic, s_objinit, s_invokespecial, kf_isr_r, s_invokevirtual, s_ireturn, s_lreturn, s_areturn, s_areturnN, s_return, lI_0, lI_s, lJ_0, lJ_s, lA_0, lA_0N, lA_s, lS1_0, lS1_1, lS1_2, lS2_0, lS2_1, lS2_2, lK_n, lK_i, lK_j, lK_a, lK_N, d_C', kf_w_0, kf_w_i, kf_w_a, kf_w_n, kf_w_j, c_0, c_1, c_2, c_3, c_4, c_5, c_6, tl_0, tl_1, Option.bind_some, Option.bind_none, Option.map_some, Nat.reduceAdd, Nat.reduceMul, Nat.reduceDiv, Nat.reduceMod, Int.reduceToNat, Fin.val_zero, Fin.isValue, Fin.val_one, Fin.val_two, fv_0, fv_1, fv_2, fv_3, fw_0, fw_1, d_ite, true_or, or_true, and_false, false_and, or_self, and_self, ow_191, g1, f21, ep, l21, kf_fit, ← e2, g2, r19, gc, pj, pk, r6, em, r23, f24, rc2, k3]
end MNXT
