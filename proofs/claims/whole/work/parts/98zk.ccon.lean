/-! The class: the curve's constructor -/
section CCON
variable {M M' : kf_M}
theorem rwL_len {m : Nat} : (rwL m).length = 65 := by
  unfold rwL
  rw [List.length_cons, pl_len (w := 4) (fun j => rfl)]
theorem rwL_0 {m : Nat} {L : kf_M} : (rwL m ++ L)[0]? = some (oR 4 (cref m)) := rfl
theorem rwL_pt {m j c : Nat} {L : kf_M} (hj : j < 16) (hc : c < 4) : (rwL m ++ L)[1 + (4 * j + c)]? = (ptL (m + 1 + 4 * j))[c]? := by
  rw [List.getElem?_append_left (by rw [rwL_len]; omega)]
  unfold rwL
  rw [Nat.add_comm 1, List.getElem?_cons_succ]
  exact pl_at (f := fun j => ptL (m + 1 + 4 * j)) (w := 4) (fun j => rfl) hc 16 hj
theorem rwL_r {m i : Nat} {L : kf_M} : (rwL m ++ L)[65 + i]? = L[i]? := by
  rw [List.getElem?_append_right (by rw [rwL_len]; omega), rwL_len, Nat.add_sub_cancel_left]
/-- a row of points, new -/
theorem rwL_ok {m : Nat} {L2 : kf_M} (h : ∀ i, M[m + i]? = (rwL m ++ L2)[i]?) : M[m]? = some (oR 4 (cref m)) ∧ ∀ j, j < 16 → PtJ M (m + 1 + 4 * j) := by
  refine ⟨(h 0).trans rwL_0, fun j hj => ?_⟩
  have e : ∀ c, c < 4 → M[m + 1 + 4 * j + c]? = (ptL (m + 1 + 4 * j))[c]? := fun c hc => by
    have := h (1 + (4 * j + c))
    rw [rwL_pt hj hc] at this
    rw [← this]
    congr 1
    omega
  exact ⟨e 0 (by decide), ⟨_, e 1 (by decide), List.length_replicate⟩, ⟨_, e 2 (by decide), List.length_replicate⟩, ⟨_, e 3 (by decide), List.length_replicate⟩⟩
theorem Kn.put {t : Nat} {S : List Nat} (h : Kn M 113 Gpt S) (ht : t < 16) (o : Off [113 + 1 + 4 * t + 1, 113 + 1 + 4 * t + 2, 113 + 1 + 4 * t + 3] M M') (hS : t ∉ S) (hr : RepM M' (113 + 1 + 4 * t) (pmul (cw t) Gpt)) : Kn M' 113 Gpt (t :: S) := by
  refine ⟨o.at (by simp; omega) h.1, ?_, ?_, h.2.2.2⟩
  · intro j hj
    by_cases e : j = t
    · subst e
      exact hr.j
    · exact (h.2.1 j hj).off o (by simp; omega) (by simp; omega) (by simp; omega) (by simp; omega)
  · intro j hj
    rw [List.mem_cons] at hj
    by_cases e : j = t
    · subst e
      exact ⟨ht, hr⟩
    · obtain ⟨w1, w2⟩ := h.2.2.1 j (hj.resolve_left e)
      exact ⟨w1, w2.off o (by simp; omega) (by simp; omega) (by simp; omega) (by simp; omega)⟩
/-- one tooth -/
theorem l0s {t X Y f1 : Nat} {S : List Nat} (hC : CvIs M) (hF : FldIs M 106 pP) (hK : Kn M 113 Gpt S) (g6 : M[6]? = some (oI sx_6)) (ht : t < 16) (hS : t ∉ S) (hf : f1 + 16 ≤ 64) (d1 : ∀ j, j < 64 → (sx_6.getD (f1 + 7 - j / 8) 0 >>> (((4 : Int32) * nI (j % 8)) &&& 31)) &&& 15 = nI (X / 16 ^ j % 16)) (d2 : ∀ j, j < 64 → (sx_6.getD (f1 + 8 + 7 - j / 8) 0 >>> (((4 : Int32) * nI (j % 8)) &&& 31)) &&& 15 = nI (Y / 16 ^ j % 16)) (hX : X < pP) (hY : Y < pP) (hP : pmul (cw t) Gpt = some ((X : Int), (Y : Int))) : ∃ M1 M2 M3, kf_cl 8 [.ref (113 + 1 + 4 * t + 1), .ref 6, .int (nI f1)] M = some (none, M1) ∧ kf_cl 8 [.ref (113 + 1 + 4 * t + 2), .ref 6, .int (nI (f1 + 8))] M1 = some (none, M2) ∧ kf_cl 5 [.ref 105, .ref (113 + 1 + 4 * t)] M2 = some (none, M3) ∧ gO M (113 + 1 + 4 * t) = some (4, [.ref (113 + 1 + 4 * t + 1), .ref (113 + 1 + 4 * t + 2), .ref (113 + 1 + 4 * t + 3)]) ∧ gO M1 (113 + 1 + 4 * t) = some (4, [.ref (113 + 1 + 4 * t + 1), .ref (113 + 1 + 4 * t + 2), .ref (113 + 1 + 4 * t + 3)]) ∧ kf_rcv M2 0 (some (.ref 105)) = true ∧ CvIs M3 ∧ FldIs M3 106 pP ∧ Kn M3 113 Gpt (t :: S) ∧ Off [113 + 1 + 4 * t + 1, 113 + 1 + 4 * t + 2, 113 + 1 + 4 * t + 3] M M3 := by
  have hp := pP_lt
  obtain ⟨hO, jx, jy, jz⟩ := hK.2.1 t ht
  obtain ⟨a, ea⟩ : ∃ a, a = 113 + 1 + 4 * t := ⟨_, rfl⟩
  have hput := fun (M3 : kf_M) (o : Off [113 + 1 + 4 * t + 1, 113 + 1 + 4 * t + 2, 113 + 1 + 4 * t + 3] M M3) (hr : RepM M3 (113 + 1 + 4 * t) (pmul (cw t) Gpt)) => hK.put ht o hS hr
  rw [← ea] at hO jx jy jz hput ⊢
  have ls : sx_6.length = 64 := rfl
  obtain ⟨M1, k1, n1, o1⟩ := f8 (f := f1) (N := X) jx (by omega) (by omega) g6 (by omega) (by rw [ls]; decide) d1 (by omega)
  obtain ⟨M2, k2, n2, o2⟩ := f8 (f := f1 + 8) (N := Y) (jy.off o1 (by simp)) (by omega) (by omega) (o1.at (by simp; omega) g6) (by omega) (by rw [ls]; decide) d2 (by omega)
  have o12 : Off [a + 1, a + 2] M M2 := (o1.wk (by simp)).tr (o2.wk (by simp))
  have hC2 := hC.off o12 (by intro z hz; simp at hz; omega)
  have hF2 := hF.off o12 (by simp; omega) (by simp; omega) (by simp; omega) (by simp; omega) (by simp; omega) (by simp; omega)
  obtain ⟨M3, k3, r3, o3⟩ := f5 hC2 hF2 (o12.at (by simp) hO) (n1.off o2 (by simp)) n2 (jz.off o12 (by simp)) (by unfold okp; omega) ⟨by omega, by omega⟩ ⟨by omega, by omega⟩
  have o13 : Off [a + 1, a + 2, a + 3] M M3 := (o12.wk (by simp)).tr o3
  refine ⟨M1, M2, M3, k1, k2, k3, gO_of hO, gO_of (o1.at (by simp) hO), hC2.rc, hC.off o13 (by intro z hz; simp at hz; omega), hF.off o13 (by simp; omega) (by simp; omega) (by simp; omega) (by simp; omega) (by simp; omega) (by simp; omega), hput M3 o13 ?_, o13⟩
  rw [hP]
  exact r3
set_option maxHeartbeats 8000000 in
set_option maxRecDepth 100000 in
theorem f0 (hl : M.length = 105) (g2 : M[2]? = some (oI sx_2)) (g3 : M[3]? = some (oI sx_3)) (g4 : M[4]? = some (oJ sx_4)) (g5 : M[5]? = some (oI sx_5)) (g6 : M[6]? = some (oI sx_6)) : ∃ M', kf_cl 0 [.ref 105] (M ++ [oO 0 [.null, .null, .null, .null, .null, .null, .null, .null, .null, .null, .null, .null]]) = some (none, M') ∧ CvIs M' ∧ FldIs M' 106 pP ∧ Comb M' 113 Gpt ∧ (∀ j, j < 16 → PtJ M' (113 + 1 + 4 * j)) ∧ M'.length = 187 ∧ Gr [] M M' := by
  have hp := pP_lt
  obtain ⟨Ma, ea⟩ : ∃ X, X = M ++ [oO 0 [.null, .null, .null, .null, .null, .null, .null, .null, .null, .null, .null, .null]] := ⟨_, rfl⟩
  have Ga : Gr [] M Ma := by rw [ea]; exact Gr.app
  have la : Ma.length = 106 := by rw [ea, List.length_append, hl]; rfl
  have oa : Ma[105]? = some (oO 0 [.null, .null, .null, .null, .null, .null, .null, .null, .null, .null, .null, .null]) := by rw [ea, List.getElem?_append_right (by omega), hl]; rfl
  obtain ⟨M1, k1, F1, l1, G1⟩ := f7 (N := pP) (R := 5300541192278272292002603978141723034813090596484190879485740580486840320) (inv := 1) (w := 6901746343576687700413352987558608998254641115104330755028450260550400) la (by decide) (Ga.at (by simp) g2) (Ga.at (by simp) g3) rfl rfl (by decide +kernel) (by decide +kernel) (by omega) (by decide +kernel) (by decide +kernel) (by decide +kernel) (by unfold cg; decide +kernel) (by unfold cg; decide +kernel) (Ga.at (by simp) g4)
  have o1 := G1.at (by simp) oa
  have gA := gO_of o1
  -- room
  have nG : ∀ (F : List Value) (L : kf_M), gO (M1.set 105 (oO 0 F) ++ L) 105 = some (0, F) := fun F L => gO_of (by rw [List.getElem?_append_left (by rw [List.length_set]; omega), List.getElem?_set_self (by omega)])
  have nS : ∀ (x y : kf_Ob) (L : kf_M), (M1.set 105 x ++ L).set 105 y = M1.set 105 y ++ L := fun x y L => by rw [List.set_append_left _ _ (by rw [List.length_set]; omega), List.set_set]
  have k35 := z35 (M := M1.set 105 (oO 0 [.ref 106, .ref 112, .null, .null, .null, .null, .null, .null, .null, .null, .null, .null]) ++ [oJ (List.replicate 10 0)]) (n := 113) (by rw [List.length_append, List.length_set, l1]; rfl) (by decide)
  rw [List.append_assoc] at k35
  obtain ⟨M2, e2⟩ : ∃ X, X = M1.set 105 (oO 0 [.ref 106, .ref 112, .ref 113, .ref 178, .ref 179, .ref 180, .ref 181, .ref 182, .ref 183, .ref 184, .ref 185, .ref 186]) ++ (oJ (List.replicate 10 0) :: (rwL 113 ++ [oJ (List.replicate 10 0), oJ (List.replicate 10 0), oJ (List.replicate 10 0), oJ (List.replicate 10 0), oJ (List.replicate 10 0), oJ (List.replicate 10 0), oJ (List.replicate 10 0), oJ (List.replicate 10 0), oJ (List.replicate 10 0)])) := ⟨_, rfl⟩
  have pre : kf_cl 0 [.ref 105] Ma = kf_ev 0 111 [some (.ref 105), none, none] [] M2 := by
    simp only [cl_0, e0_0, e0_1, e0_4, e0_5, e0_8, e0_9, e0_12, e0_15, e0_16, e0_19, e0_22, e0_23, e0_25, e0_27, e0_30, e0_31, e0_33, e0_36, e0_39, e0_40, e0_42, e0_44, e0_47, e0_48, e0_50, e0_52, e0_55, e0_56, e0_58, e0_60, e0_63, e0_64, e0_66, e0_68, e0_71, e0_72, e0_74, e0_76, e0_79, e0_80, e0_82, e0_84, e0_87, e0_88, e0_90, e0_92, e0_95, e0_96, e0_98, e0_100, e0_103, e0_104, e0_106, e0_108, e0_112, e0_115, e0_118, e0_119, e0_122, e0_123, e0_126, e0_127, e0_130, e0_131, e0_134, e0_137, e0_138, e0_140, e0_141, e0_144, e0_145, e0_148, e0_149, e0_150, e0_151, e0_152, e0_153, e0_154, e0_157, e0_160, e0_162, e0_163, e0_164, e0_167, e0_168, e0_171, e0_174, e0_176, e0_177, e0_178, e0_180, e0_181, e0_184, e0_185, e0_186, e0_189, e0_192, e0_196, e0_197, e0_200, e0_203, ow_0, Int32.reduceOfInt, Int32.reduceOfNat, Int32.reduceToNatClampNeg, Int32.reduceLT, Int32.reduceLE, Int32.reduceAdd, Int32.reduceSub, Int32.reduceMul, Int64.reduceOfNat, Int64.reduceOfInt, Nat.reduceLeDiff, Nat.reduceLT, Nat.reduceEqDiff, Nat.reduceSub, cs_0, cs_1, cs_2, cs_3, cs_4, cs_5, cs_6, cs_7, cs_8, or_false, false_or, not_false_eq_true, and_true, true_and, if_true, if_false, List.length_cons, List.length_nil, List.getElem?_cons_succ, List.getElem?_cons_zero, List.set_cons_succ, List.set_cons_zero, reduceIte, d_G, d_R, s_aload, s_aload_n, s_iload, s_iload_n, s_lload, s_lload_n, s_istore, s_istore_n, s_astore, s_astoreN, s_astore_n, s_astore_nN, s_lstore, s_lstore_n, s_iinc, s_iconst, s_bipush, s_sipush, s_lconst, s_ldc2_w, s_aconst_null, s_dupA, s_dupI, s_dup2, s_iadd, s_isub, s_imul, s_iand, s_ior, s_ixor, s_ishl, s_ishr, s_iushr, s_ineg, s_idiv, s_irem, s_ladd, s_lsub, s_lmul, s_land, s_lor, s_lxor, s_ldiv, s_lshl, s_lshr, s_lushr, s_i2l, s_l2i, s_lcmp, s_goto, s_ieq, s_ine, s_ilt, s_ige, s_igt, s_ile, s_zeq, s_zne, s_zlt, s_zge, s_zgt, s_zle, s_ifnull, s_ifnullN, s_ifnonnull, s_ifnonnullN, s_tableswitch, s_lookupswitch, s_getfield, s_putfield, s_getstatic, s_iaload, s_laload, s_baload, s_aaload, s_iastore, s_lastore, s_bastore, s_aastore, s_arraylength, s_newI, s_newJ, s_newZ, s_anewarray, s_new, s_copy, s_max, s_min, s_invokestatic, s_objinit, s_invokespecial, kf_isr_r, s_invokevirtual, s_ireturn, s_lreturn, s_areturn, s_areturnN, s_return, lI_0, lI_s, lJ_0, lJ_s, lA_0, lA_0N, lA_s, lS1_0, lS1_1, lS1_2, lS2_0, lS2_1, lS2_2, lK_n, lK_i, lK_j, lK_a, lK_N, d_C', kf_w_0, kf_w_i, kf_w_a, kf_w_n, kf_w_j, c_0, c_1, c_2, c_3, c_4, c_5, c_6, tl_0, tl_1, Option.bind_some, Option.bind_none, Option.map_some, Nat.reduceAdd, Nat.reduceMul, Nat.reduceDiv, Nat.reduceMod, Int.reduceToNat, Fin.val_zero, Fin.isValue, Fin.val_one, Fin.val_two, fv_0, fv_1, fv_2, fv_3, fw_0, fw_1, d_ite, true_or, or_true, and_false, false_and, or_self, and_self, kf_fit, nwf_1, la, k1, gA, List.length_set, l1, nG, nS, k35, List.append_assoc, List.cons_append, List.nil_append, List.length_append, rwL_len, e2]
  have l2 : M2.length = 187 := by rw [e2, List.length_append, List.length_set, l1, List.length_cons, List.length_append, rwL_len]; rfl
  have at2 : ∀ k, M2[112 + k]? = (oJ (List.replicate 10 0) :: (rwL 113 ++ [oJ (List.replicate 10 0), oJ (List.replicate 10 0), oJ (List.replicate 10 0), oJ (List.replicate 10 0), oJ (List.replicate 10 0), oJ (List.replicate 10 0), oJ (List.replicate 10 0), oJ (List.replicate 10 0), oJ (List.replicate 10 0)]))[k]? := fun k => by rw [e2, List.getElem?_append_right (by rw [List.length_set]; omega), List.length_set, l1, Nat.add_sub_cancel_left]
  have G2 : Gr [105] M1 M2 := by
    rw [e2]
    exact (Off.set (M := M1) (by simp : 105 ∈ [105])).gr.tr Gr.app
  have c2 : CvO M2 := by
    unfold CvO
    rw [e2, List.getElem?_append_left (by rw [List.length_set]; omega), List.getElem?_set_self (by omega)]
  have F2 := F1.gr2 G2 (by decide)
  obtain ⟨r2, p2⟩ := rwL_ok (M := M2) (m := 113) (L2 := [oJ (List.replicate 10 0), oJ (List.replicate 10 0), oJ (List.replicate 10 0), oJ (List.replicate 10 0), oJ (List.replicate 10 0), oJ (List.replicate 10 0), oJ (List.replicate 10 0), oJ (List.replicate 10 0), oJ (List.replicate 10 0)]) (fun i => by
    have := at2 (i + 1)
    rw [List.getElem?_cons_succ] at this
    rw [← this]
    congr 1
    omega)
  have jj : ∀ i, i < 9 → Jar M2 (178 + i) := fun i hi => by
    have h1 := at2 (66 + i)
    rw [show 66 + i = (65 + i) + 1 by omega, List.getElem?_cons_succ, rwL_r, show 112 + ((65 + i) + 1) = 178 + i by omega] at h1
    have h2 : [oJ (List.replicate 10 0), oJ (List.replicate 10 0), oJ (List.replicate 10 0), oJ (List.replicate 10 0), oJ (List.replicate 10 0), oJ (List.replicate 10 0), oJ (List.replicate 10 0), oJ (List.replicate 10 0), oJ (List.replicate 10 0)][i]? = some (oJ (List.replicate 10 (0 : Int64))) := by
      have : [oJ (List.replicate 10 0), oJ (List.replicate 10 0), oJ (List.replicate 10 0), oJ (List.replicate 10 0), oJ (List.replicate 10 0), oJ (List.replicate 10 0), oJ (List.replicate 10 0), oJ (List.replicate 10 0), oJ (List.replicate 10 0)] = List.replicate 9 (oJ (List.replicate 10 (0 : Int64))) := rfl
      rw [this, List.getElem?_replicate, if_pos hi]
    exact ⟨_, h1.trans h2, List.length_replicate⟩
  have j112 : Jar M2 112 := ⟨_, at2 0, List.length_replicate⟩
  have g5' := G2.at (by decide) (G1.at (by simp) (Ga.at (by simp) g5))
  have g6' := G2.at (by decide) (G1.at (by simp) (Ga.at (by simp) g6))
  -- the curve's number
  have gc2 := gO_of c2
  have j186 : Jar M2 186 := jj 8 (by decide)
  obtain ⟨M3, k3, n3, o3⟩ := f8 (f := 0) (N := cBn) j186 (by decide) (by decide) g5' (by decide) (by decide) (by decide +kernel) (by decide +kernel)
  rw [nI_0] at k3
  have F3 := F2.off2 o3 (by decide)
  have gc3 := gO_of (o3.at (by decide) c2)
  obtain ⟨M4, v, k4, n4, q4, s4, o4⟩ := f18 F3 n3 (j112.off o3 (by decide)) (by decide) (by unfold bgi; decide +kernel)
  have rc3 := F3.1.rc
  have o24 : Off [186, 112] M2 M4 := (o3.wk (by decide)).tr (o4.wk (by decide))
  have F4 := F3.off2 o4 (by decide)
  have C4 : CvIs M4 := ⟨o24.at (by decide) c2, F4.1, ⟨v, n4, cg_canR (by rw [Int.mul_assoc, ← Int.pow_add]; exact q4), s4⟩, (jj 0 (by decide)).off o24 (by decide), (jj 1 (by decide)).off o24 (by decide), (jj 2 (by decide)).off o24 (by decide), (jj 3 (by decide)).off o24 (by decide), (jj 4 (by decide)).off o24 (by decide), (jj 5 (by decide)).off o24 (by decide), (jj 6 (by decide)).off o24 (by decide), (jj 7 (by decide)).off o24 (by decide), n3.jar.off o4 (by decide)⟩
  have s111 : kf_ev 0 111 [some (.ref 105), none, none] [] M2 = kf_ev 0 139 [some (.ref 105), some (.int 0), none] [] M4 := by
    refine (e0_111 _ _ _).trans ?_
    simp only [cl_0, e0_0, e0_1, e0_4, e0_5, e0_8, e0_9, e0_12, e0_15, e0_16, e0_19, e0_22, e0_23, e0_25, e0_27, e0_30, e0_31, e0_33, e0_36, e0_39, e0_40, e0_42, e0_44, e0_47, e0_48, e0_50, e0_52, e0_55, e0_56, e0_58, e0_60, e0_63, e0_64, e0_66, e0_68, e0_71, e0_72, e0_74, e0_76, e0_79, e0_80, e0_82, e0_84, e0_87, e0_88, e0_90, e0_92, e0_95, e0_96, e0_98, e0_100, e0_103, e0_104, e0_106, e0_108, e0_112, e0_115, e0_118, e0_119, e0_122, e0_123, e0_126, e0_127, e0_130, e0_131, e0_134, e0_137, e0_138, e0_140, e0_141, e0_144, e0_145, e0_148, e0_149, e0_150, e0_151, e0_152, e0_153, e0_154, e0_157, e0_160, e0_162, e0_163, e0_164, e0_167, e0_168, e0_171, e0_174, e0_176, e0_177, e0_178, e0_180, e0_181, e0_184, e0_185, e0_186, e0_189, e0_192, e0_196, e0_197, e0_200, e0_203, ow_0, Int32.reduceOfInt, Int32.reduceOfNat, Int32.reduceToNatClampNeg, Int32.reduceLT, Int32.reduceLE, Int32.reduceAdd, Int32.reduceSub, Int32.reduceMul, Int64.reduceOfNat, Int64.reduceOfInt, Nat.reduceLeDiff, Nat.reduceLT, Nat.reduceEqDiff, Nat.reduceSub, cs_0, cs_1, cs_2, cs_3, cs_4, cs_5, cs_6, cs_7, cs_8, or_false, false_or, not_false_eq_true, and_true, true_and, if_true, if_false, List.length_cons, List.length_nil, List.getElem?_cons_succ, List.getElem?_cons_zero, List.set_cons_succ, List.set_cons_zero, reduceIte, d_G, d_R, s_aload, s_aload_n, s_iload, s_iload_n, s_lload, s_lload_n, s_istore, s_istore_n, s_astore, s_astoreN, s_astore_n, s_astore_nN, s_lstore, s_lstore_n, s_iinc, s_iconst, s_bipush, s_sipush, s_lconst, s_ldc2_w, s_aconst_null, s_dupA, s_dupI, s_dup2, s_iadd, s_isub, s_imul, s_iand, s_ior, s_ixor, s_ishl, s_ishr, s_iushr, s_ineg, s_idiv, s_irem, s_ladd, s_lsub, s_lmul, s_land, s_lor, s_lxor, s_ldiv, s_lshl, s_lshr, s_lushr, s_i2l, s_l2i, s_lcmp, s_goto, s_ieq, s_ine, s_ilt, s_ige, s_igt, s_ile, s_zeq, s_zne, s_zlt, s_zge, s_zgt, s_zle, s_ifnull, s_ifnullN, s_ifnonnull, s_ifnonnullN, s_tableswitch, s_lookupswitch, s_getfield, s_putfield, s_getstatic, s_iaload, s_laload, s_baload, s_aaload, s_iastore, s_lastore, s_bastore, s_aastore, s_arraylength, s_newI, s_newJ, s_newZ, s_anewarray, s_new, s_copy, s_max, s_min, s_invokestatic, s_objinit, s_invokespecial, kf_isr_r, s_invokevirtual, s_ireturn, s_lreturn, s_areturn, s_areturnN, s_return, lI_0, lI_s, lJ_0, lJ_s, lA_0, lA_0N, lA_s, lS1_0, lS1_1, lS1_2, lS2_0, lS2_1, lS2_2, lK_n, lK_i, lK_j, lK_a, lK_N, d_C', kf_w_0, kf_w_i, kf_w_a, kf_w_n, kf_w_j, c_0, c_1, c_2, c_3, c_4, c_5, c_6, tl_0, tl_1, Option.bind_some, Option.bind_none, Option.map_some, Nat.reduceAdd, Nat.reduceMul, Nat.reduceDiv, Nat.reduceMod, Int.reduceToNat, Fin.val_zero, Fin.isValue, Fin.val_one, Fin.val_two, fv_0, fv_1, fv_2, fv_3, fw_0, fw_1, d_ite, true_or, or_true, and_false, false_and, or_self, and_self, ow_18, gc2, k3, gc3, rc3, k4]
  have K4 : Kn M4 113 Gpt [] := ⟨o24.at (by decide) r2, fun j hj => (p2 j hj).off o24 (by simp; omega) (by simp; omega) (by simp; omega) (by simp; omega), (fun j hj => by cases hj), Or.inl rfl⟩
  have t6_4 := o24.at (by decide) g6'
  obtain ⟨Mx5, My5, M5, kx5, ky5, kz5, gx5, gy5, rz5, C5, F5, K5, o5⟩ := l0s (t := 1) (X := 48439561293906451759052585252797914202762949526041747995844080717082404635286) (Y := 36134250956749795798585127919587881956611106672985015071877198253568414405109) (f1 := 0) C4 F4 K4 t6_4 (by decide) (by decide) (by decide) (by decide +kernel) (by decide +kernel) (by decide +kernel) (by decide +kernel) (by rw [show cw 1 = 1 from by decide, pmul_1 Gpt_v]; exact gXY)
  rw [show nI 0 = 0 from rfl] at kx5
  rw [show nI (0 + 8) = 8 from rfl] at ky5
  have kx5 : kf_cl 8 [.ref 119, .ref 6, .int 0] M4 = some (none, Mx5) := kx5
  have ky5 : kf_cl 8 [.ref 120, .ref 6, .int 8] Mx5 = some (none, My5) := ky5
  have kz5 : kf_cl 5 [.ref 105, .ref 118] My5 = some (none, M5) := kz5
  have gx5 : gO M4 118 = some (4, [.ref 119, .ref 120, .ref 121]) := gx5
  have gy5 : gO Mx5 118 = some (4, [.ref 119, .ref 120, .ref 121]) := gy5
  have t6_5 := o5.at (by decide) t6_4
  have gb5 := gR_of K4.1
  have go5 := gO_of C4.1
  have cr5 : (cref 113)[1]? = some (some 118) := cref_get (c := 113) (j := 1) (by decide)
  have sh5 : (1 : Int32) <<< ((0 : Int32) &&& 31) = 1 := by decide
  have cl5 : (1 : Int32).toNatClampNeg = 1 := by decide
  have ps5 : ¬ (1 : Int32) < 0 := by decide
  have lt5 : ¬ (4 : Int32) ≤ 0 := by decide
  have s5 : ∀ v2 : Option Value, kf_ev 0 139 [some (.ref 105), some (.int 0), v2] [] M4 = kf_ev 0 139 [some (.ref 105), some (.int 1), some (.ref 118)] [] M5 := by
    intro v2
    refine (e0_139 _ _ _).trans ?_
    simp only [cl_0, e0_0, e0_1, e0_4, e0_5, e0_8, e0_9, e0_12, e0_15, e0_16, e0_19, e0_22, e0_23, e0_25, e0_27, e0_30, e0_31, e0_33, e0_36, e0_39, e0_40, e0_42, e0_44, e0_47, e0_48, e0_50, e0_52, e0_55, e0_56, e0_58, e0_60, e0_63, e0_64, e0_66, e0_68, e0_71, e0_72, e0_74, e0_76, e0_79, e0_80, e0_82, e0_84, e0_87, e0_88, e0_90, e0_92, e0_95, e0_96, e0_98, e0_100, e0_103, e0_104, e0_106, e0_108, e0_112, e0_115, e0_118, e0_119, e0_122, e0_123, e0_126, e0_127, e0_130, e0_131, e0_134, e0_137, e0_138, e0_140, e0_141, e0_144, e0_145, e0_148, e0_149, e0_150, e0_151, e0_152, e0_153, e0_154, e0_157, e0_160, e0_162, e0_163, e0_164, e0_167, e0_168, e0_171, e0_174, e0_176, e0_177, e0_178, e0_180, e0_181, e0_184, e0_185, e0_186, e0_189, e0_192, e0_196, e0_197, e0_200, e0_203, ow_0, Int32.reduceOfInt, Int32.reduceOfNat, Int32.reduceToNatClampNeg, Int32.reduceLT, Int32.reduceLE, Int32.reduceAdd, Int32.reduceSub, Int32.reduceMul, Int64.reduceOfNat, Int64.reduceOfInt, Nat.reduceLeDiff, Nat.reduceLT, Nat.reduceEqDiff, Nat.reduceSub, cs_0, cs_1, cs_2, cs_3, cs_4, cs_5, cs_6, cs_7, cs_8, or_false, false_or, not_false_eq_true, and_true, true_and, if_true, if_false, List.length_cons, List.length_nil, List.getElem?_cons_succ, List.getElem?_cons_zero, List.set_cons_succ, List.set_cons_zero, reduceIte, d_G, d_R, s_aload, s_aload_n, s_iload, s_iload_n, s_lload, s_lload_n, s_istore, s_istore_n, s_astore, s_astoreN, s_astore_n, s_astore_nN, s_lstore, s_lstore_n, s_iinc, s_iconst, s_bipush, s_sipush, s_lconst, s_ldc2_w, s_aconst_null, s_dupA, s_dupI, s_dup2, s_iadd, s_isub, s_imul, s_iand, s_ior, s_ixor, s_ishl, s_ishr, s_iushr, s_ineg, s_idiv, s_irem, s_ladd, s_lsub, s_lmul, s_land, s_lor, s_lxor, s_ldiv, s_lshl, s_lshr, s_lushr, s_i2l, s_l2i, s_lcmp, s_goto, s_ieq, s_ine, s_ilt, s_ige, s_igt, s_ile, s_zeq, s_zne, s_zlt, s_zge, s_zgt, s_zle, s_ifnull, s_ifnullN, s_ifnonnull, s_ifnonnullN, s_tableswitch, s_lookupswitch, s_getfield, s_putfield, s_getstatic, s_iaload, s_laload, s_baload, s_aaload, s_iastore, s_lastore, s_bastore, s_aastore, s_arraylength, s_newI, s_newJ, s_newZ, s_anewarray, s_new, s_copy, s_max, s_min, s_invokestatic, s_objinit, s_invokespecial, kf_isr_r, s_invokevirtual, s_ireturn, s_lreturn, s_areturn, s_areturnN, s_return, lI_0, lI_s, lJ_0, lJ_s, lA_0, lA_0N, lA_s, lS1_0, lS1_1, lS1_2, lS2_0, lS2_1, lS2_2, lK_n, lK_i, lK_j, lK_a, lK_N, d_C', kf_w_0, kf_w_i, kf_w_a, kf_w_n, kf_w_j, c_0, c_1, c_2, c_3, c_4, c_5, c_6, tl_0, tl_1, Option.bind_some, Option.bind_none, Option.map_some, Nat.reduceAdd, Nat.reduceMul, Nat.reduceDiv, Nat.reduceMod, Int.reduceToNat, Fin.val_zero, Fin.isValue, Fin.val_one, Fin.val_two, fv_0, fv_1, fv_2, fv_3, fw_0, fw_1, d_ite, true_or, or_true, and_false, false_and, or_self, and_self, ow_5, lt5, go5, gb5, sh5, ps5, cl5, cr5, vR, gx5, kx5, gy5, ky5, rz5, kz5]
  obtain ⟨Mx6, My6, M6, kx6, ky6, kz6, gx6, gy6, rz6, C6, F6, K6, o6⟩ := l0s (t := 2) (X := 7081762767697287976009771493310263771290289599581147299482766892475312560995) (Y := 86823381773038968119624426030239743822549553315161612703449942820586000887527) (f1 := 16) C5 F5 K5 t6_5 (by decide) (by decide) (by decide) (by decide +kernel) (by decide +kernel) (by decide +kernel) (by decide +kernel) (by rw [show cw 2 = 2 ^ 64 from by decide +kernel]; exact tooth1)
  rw [show nI 16 = 16 from rfl] at kx6
  rw [show nI (16 + 8) = 24 from rfl] at ky6
  have kx6 : kf_cl 8 [.ref 123, .ref 6, .int 16] M5 = some (none, Mx6) := kx6
  have ky6 : kf_cl 8 [.ref 124, .ref 6, .int 24] Mx6 = some (none, My6) := ky6
  have kz6 : kf_cl 5 [.ref 105, .ref 122] My6 = some (none, M6) := kz6
  have gx6 : gO M5 122 = some (4, [.ref 123, .ref 124, .ref 125]) := gx6
  have gy6 : gO Mx6 122 = some (4, [.ref 123, .ref 124, .ref 125]) := gy6
  have t6_6 := o6.at (by decide) t6_5
  have gb6 := gR_of K5.1
  have go6 := gO_of C5.1
  have cr6 : (cref 113)[2]? = some (some 122) := cref_get (c := 113) (j := 2) (by decide)
  have sh6 : (1 : Int32) <<< ((1 : Int32) &&& 31) = 2 := by decide
  have cl6 : (2 : Int32).toNatClampNeg = 2 := by decide
  have ps6 : ¬ (2 : Int32) < 0 := by decide
  have lt6 : ¬ (4 : Int32) ≤ 1 := by decide
  have s6 : ∀ v2 : Option Value, kf_ev 0 139 [some (.ref 105), some (.int 1), v2] [] M5 = kf_ev 0 139 [some (.ref 105), some (.int 2), some (.ref 122)] [] M6 := by
    intro v2
    refine (e0_139 _ _ _).trans ?_
    simp only [cl_0, e0_0, e0_1, e0_4, e0_5, e0_8, e0_9, e0_12, e0_15, e0_16, e0_19, e0_22, e0_23, e0_25, e0_27, e0_30, e0_31, e0_33, e0_36, e0_39, e0_40, e0_42, e0_44, e0_47, e0_48, e0_50, e0_52, e0_55, e0_56, e0_58, e0_60, e0_63, e0_64, e0_66, e0_68, e0_71, e0_72, e0_74, e0_76, e0_79, e0_80, e0_82, e0_84, e0_87, e0_88, e0_90, e0_92, e0_95, e0_96, e0_98, e0_100, e0_103, e0_104, e0_106, e0_108, e0_112, e0_115, e0_118, e0_119, e0_122, e0_123, e0_126, e0_127, e0_130, e0_131, e0_134, e0_137, e0_138, e0_140, e0_141, e0_144, e0_145, e0_148, e0_149, e0_150, e0_151, e0_152, e0_153, e0_154, e0_157, e0_160, e0_162, e0_163, e0_164, e0_167, e0_168, e0_171, e0_174, e0_176, e0_177, e0_178, e0_180, e0_181, e0_184, e0_185, e0_186, e0_189, e0_192, e0_196, e0_197, e0_200, e0_203, ow_0, Int32.reduceOfInt, Int32.reduceOfNat, Int32.reduceToNatClampNeg, Int32.reduceLT, Int32.reduceLE, Int32.reduceAdd, Int32.reduceSub, Int32.reduceMul, Int64.reduceOfNat, Int64.reduceOfInt, Nat.reduceLeDiff, Nat.reduceLT, Nat.reduceEqDiff, Nat.reduceSub, cs_0, cs_1, cs_2, cs_3, cs_4, cs_5, cs_6, cs_7, cs_8, or_false, false_or, not_false_eq_true, and_true, true_and, if_true, if_false, List.length_cons, List.length_nil, List.getElem?_cons_succ, List.getElem?_cons_zero, List.set_cons_succ, List.set_cons_zero, reduceIte, d_G, d_R, s_aload, s_aload_n, s_iload, s_iload_n, s_lload, s_lload_n, s_istore, s_istore_n, s_astore, s_astoreN, s_astore_n, s_astore_nN, s_lstore, s_lstore_n, s_iinc, s_iconst, s_bipush, s_sipush, s_lconst, s_ldc2_w, s_aconst_null, s_dupA, s_dupI, s_dup2, s_iadd, s_isub, s_imul, s_iand, s_ior, s_ixor, s_ishl, s_ishr, s_iushr, s_ineg, s_idiv, s_irem, s_ladd, s_lsub, s_lmul, s_land, s_lor, s_lxor, s_ldiv, s_lshl, s_lshr, s_lushr, s_i2l, s_l2i, s_lcmp, s_goto, s_ieq, s_ine, s_ilt, s_ige, s_igt, s_ile, s_zeq, s_zne, s_zlt, s_zge, s_zgt, s_zle, s_ifnull, s_ifnullN, s_ifnonnull, s_ifnonnullN, s_tableswitch, s_lookupswitch, s_getfield, s_putfield, s_getstatic, s_iaload, s_laload, s_baload, s_aaload, s_iastore, s_lastore, s_bastore, s_aastore, s_arraylength, s_newI, s_newJ, s_newZ, s_anewarray, s_new, s_copy, s_max, s_min, s_invokestatic, s_objinit, s_invokespecial, kf_isr_r, s_invokevirtual, s_ireturn, s_lreturn, s_areturn, s_areturnN, s_return, lI_0, lI_s, lJ_0, lJ_s, lA_0, lA_0N, lA_s, lS1_0, lS1_1, lS1_2, lS2_0, lS2_1, lS2_2, lK_n, lK_i, lK_j, lK_a, lK_N, d_C', kf_w_0, kf_w_i, kf_w_a, kf_w_n, kf_w_j, c_0, c_1, c_2, c_3, c_4, c_5, c_6, tl_0, tl_1, Option.bind_some, Option.bind_none, Option.map_some, Nat.reduceAdd, Nat.reduceMul, Nat.reduceDiv, Nat.reduceMod, Int.reduceToNat, Fin.val_zero, Fin.isValue, Fin.val_one, Fin.val_two, fv_0, fv_1, fv_2, fv_3, fw_0, fw_1, d_ite, true_or, or_true, and_false, false_and, or_self, and_self, ow_5, lt6, go6, gb6, sh6, ps6, cl6, cr6, vR, gx6, kx6, gy6, ky6, rz6, kz6]
  obtain ⟨Mx7, My7, M7, kx7, ky7, kz7, gx7, gy7, rz7, C7, F7, K7, o7⟩ := l0s (t := 4) (X := 30978927491535595270285342502287618780579786685182435011955893029189825707397) (Y := 20481551163499472379222416201371726725754635744576161296521936142531318405938) (f1 := 32) C6 F6 K6 t6_6 (by decide) (by decide) (by decide) (by decide +kernel) (by decide +kernel) (by decide +kernel) (by decide +kernel) (by rw [show cw 4 = 2 ^ 128 from by decide +kernel]; exact tooth2)
  rw [show nI 32 = 32 from rfl] at kx7
  rw [show nI (32 + 8) = 40 from rfl] at ky7
  have kx7 : kf_cl 8 [.ref 131, .ref 6, .int 32] M6 = some (none, Mx7) := kx7
  have ky7 : kf_cl 8 [.ref 132, .ref 6, .int 40] Mx7 = some (none, My7) := ky7
  have kz7 : kf_cl 5 [.ref 105, .ref 130] My7 = some (none, M7) := kz7
  have gx7 : gO M6 130 = some (4, [.ref 131, .ref 132, .ref 133]) := gx7
  have gy7 : gO Mx7 130 = some (4, [.ref 131, .ref 132, .ref 133]) := gy7
  have t6_7 := o7.at (by decide) t6_6
  have gb7 := gR_of K6.1
  have go7 := gO_of C6.1
  have cr7 : (cref 113)[4]? = some (some 130) := cref_get (c := 113) (j := 4) (by decide)
  have sh7 : (1 : Int32) <<< ((2 : Int32) &&& 31) = 4 := by decide
  have cl7 : (4 : Int32).toNatClampNeg = 4 := by decide
  have ps7 : ¬ (4 : Int32) < 0 := by decide
  have lt7 : ¬ (4 : Int32) ≤ 2 := by decide
  have s7 : ∀ v2 : Option Value, kf_ev 0 139 [some (.ref 105), some (.int 2), v2] [] M6 = kf_ev 0 139 [some (.ref 105), some (.int 3), some (.ref 130)] [] M7 := by
    intro v2
    refine (e0_139 _ _ _).trans ?_
    simp only [cl_0, e0_0, e0_1, e0_4, e0_5, e0_8, e0_9, e0_12, e0_15, e0_16, e0_19, e0_22, e0_23, e0_25, e0_27, e0_30, e0_31, e0_33, e0_36, e0_39, e0_40, e0_42, e0_44, e0_47, e0_48, e0_50, e0_52, e0_55, e0_56, e0_58, e0_60, e0_63, e0_64, e0_66, e0_68, e0_71, e0_72, e0_74, e0_76, e0_79, e0_80, e0_82, e0_84, e0_87, e0_88, e0_90, e0_92, e0_95, e0_96, e0_98, e0_100, e0_103, e0_104, e0_106, e0_108, e0_112, e0_115, e0_118, e0_119, e0_122, e0_123, e0_126, e0_127, e0_130, e0_131, e0_134, e0_137, e0_138, e0_140, e0_141, e0_144, e0_145, e0_148, e0_149, e0_150, e0_151, e0_152, e0_153, e0_154, e0_157, e0_160, e0_162, e0_163, e0_164, e0_167, e0_168, e0_171, e0_174, e0_176, e0_177, e0_178, e0_180, e0_181, e0_184, e0_185, e0_186, e0_189, e0_192, e0_196, e0_197, e0_200, e0_203, ow_0, Int32.reduceOfInt, Int32.reduceOfNat, Int32.reduceToNatClampNeg, Int32.reduceLT, Int32.reduceLE, Int32.reduceAdd, Int32.reduceSub, Int32.reduceMul, Int64.reduceOfNat, Int64.reduceOfInt, Nat.reduceLeDiff, Nat.reduceLT, Nat.reduceEqDiff, Nat.reduceSub, cs_0, cs_1, cs_2, cs_3, cs_4, cs_5, cs_6, cs_7, cs_8, or_false, false_or, not_false_eq_true, and_true, true_and, if_true, if_false, List.length_cons, List.length_nil, List.getElem?_cons_succ, List.getElem?_cons_zero, List.set_cons_succ, List.set_cons_zero, reduceIte, d_G, d_R, s_aload, s_aload_n, s_iload, s_iload_n, s_lload, s_lload_n, s_istore, s_istore_n, s_astore, s_astoreN, s_astore_n, s_astore_nN, s_lstore, s_lstore_n, s_iinc, s_iconst, s_bipush, s_sipush, s_lconst, s_ldc2_w, s_aconst_null, s_dupA, s_dupI, s_dup2, s_iadd, s_isub, s_imul, s_iand, s_ior, s_ixor, s_ishl, s_ishr, s_iushr, s_ineg, s_idiv, s_irem, s_ladd, s_lsub, s_lmul, s_land, s_lor, s_lxor, s_ldiv, s_lshl, s_lshr, s_lushr, s_i2l, s_l2i, s_lcmp, s_goto, s_ieq, s_ine, s_ilt, s_ige, s_igt, s_ile, s_zeq, s_zne, s_zlt, s_zge, s_zgt, s_zle, s_ifnull, s_ifnullN, s_ifnonnull, s_ifnonnullN, s_tableswitch, s_lookupswitch, s_getfield, s_putfield, s_getstatic, s_iaload, s_laload, s_baload, s_aaload, s_iastore, s_lastore, s_bastore, s_aastore, s_arraylength, s_newI, s_newJ, s_newZ, s_anewarray, s_new, s_copy, s_max, s_min, s_invokestatic, s_objinit, s_invokespecial, kf_isr_r, s_invokevirtual, s_ireturn, s_lreturn, s_areturn, s_areturnN, s_return, lI_0, lI_s, lJ_0, lJ_s, lA_0, lA_0N, lA_s, lS1_0, lS1_1, lS1_2, lS2_0, lS2_1, lS2_2, lK_n, lK_i, lK_j, lK_a, lK_N, d_C', kf_w_0, kf_w_i, kf_w_a, kf_w_n, kf_w_j, c_0, c_1, c_2, c_3, c_4, c_5, c_6, tl_0, tl_1, Option.bind_some, Option.bind_none, Option.map_some, Nat.reduceAdd, Nat.reduceMul, Nat.reduceDiv, Nat.reduceMod, Int.reduceToNat, Fin.val_zero, Fin.isValue, Fin.val_one, Fin.val_two, fv_0, fv_1, fv_2, fv_3, fw_0, fw_1, d_ite, true_or, or_true, and_false, false_and, or_self, and_self, ow_5, lt7, go7, gb7, sh7, ps7, cl7, cr7, vR, gx7, kx7, gy7, ky7, rz7, kz7]
  obtain ⟨Mx8, My8, M8, kx8, ky8, kz8, gx8, gy8, rz8, C8, F8, K8, o8⟩ := l0s (t := 8) (X := 75457776083317821252662798697757590755920885718289763058263534551782236039358) (Y := 46728718496393669138731607516029863508010621830530871863089645384465424840180) (f1 := 48) C7 F7 K7 t6_7 (by decide) (by decide) (by decide) (by decide +kernel) (by decide +kernel) (by decide +kernel) (by decide +kernel) (by rw [show cw 8 = 2 ^ 192 from by decide +kernel]; exact tooth3)
  rw [show nI 48 = 48 from rfl] at kx8
  rw [show nI (48 + 8) = 56 from rfl] at ky8
  have kx8 : kf_cl 8 [.ref 147, .ref 6, .int 48] M7 = some (none, Mx8) := kx8
  have ky8 : kf_cl 8 [.ref 148, .ref 6, .int 56] Mx8 = some (none, My8) := ky8
  have kz8 : kf_cl 5 [.ref 105, .ref 146] My8 = some (none, M8) := kz8
  have gx8 : gO M7 146 = some (4, [.ref 147, .ref 148, .ref 149]) := gx8
  have gy8 : gO Mx8 146 = some (4, [.ref 147, .ref 148, .ref 149]) := gy8
  have t6_8 := o8.at (by decide) t6_7
  have gb8 := gR_of K7.1
  have go8 := gO_of C7.1
  have cr8 : (cref 113)[8]? = some (some 146) := cref_get (c := 113) (j := 8) (by decide)
  have sh8 : (1 : Int32) <<< ((3 : Int32) &&& 31) = 8 := by decide
  have cl8 : (8 : Int32).toNatClampNeg = 8 := by decide
  have ps8 : ¬ (8 : Int32) < 0 := by decide
  have lt8 : ¬ (4 : Int32) ≤ 3 := by decide
  have s8 : ∀ v2 : Option Value, kf_ev 0 139 [some (.ref 105), some (.int 3), v2] [] M7 = kf_ev 0 139 [some (.ref 105), some (.int 4), some (.ref 146)] [] M8 := by
    intro v2
    refine (e0_139 _ _ _).trans ?_
    simp only [cl_0, e0_0, e0_1, e0_4, e0_5, e0_8, e0_9, e0_12, e0_15, e0_16, e0_19, e0_22, e0_23, e0_25, e0_27, e0_30, e0_31, e0_33, e0_36, e0_39, e0_40, e0_42, e0_44, e0_47, e0_48, e0_50, e0_52, e0_55, e0_56, e0_58, e0_60, e0_63, e0_64, e0_66, e0_68, e0_71, e0_72, e0_74, e0_76, e0_79, e0_80, e0_82, e0_84, e0_87, e0_88, e0_90, e0_92, e0_95, e0_96, e0_98, e0_100, e0_103, e0_104, e0_106, e0_108, e0_112, e0_115, e0_118, e0_119, e0_122, e0_123, e0_126, e0_127, e0_130, e0_131, e0_134, e0_137, e0_138, e0_140, e0_141, e0_144, e0_145, e0_148, e0_149, e0_150, e0_151, e0_152, e0_153, e0_154, e0_157, e0_160, e0_162, e0_163, e0_164, e0_167, e0_168, e0_171, e0_174, e0_176, e0_177, e0_178, e0_180, e0_181, e0_184, e0_185, e0_186, e0_189, e0_192, e0_196, e0_197, e0_200, e0_203, ow_0, Int32.reduceOfInt, Int32.reduceOfNat, Int32.reduceToNatClampNeg, Int32.reduceLT, Int32.reduceLE, Int32.reduceAdd, Int32.reduceSub, Int32.reduceMul, Int64.reduceOfNat, Int64.reduceOfInt, Nat.reduceLeDiff, Nat.reduceLT, Nat.reduceEqDiff, Nat.reduceSub, cs_0, cs_1, cs_2, cs_3, cs_4, cs_5, cs_6, cs_7, cs_8, or_false, false_or, not_false_eq_true, and_true, true_and, if_true, if_false, List.length_cons, List.length_nil, List.getElem?_cons_succ, List.getElem?_cons_zero, List.set_cons_succ, List.set_cons_zero, reduceIte, d_G, d_R, s_aload, s_aload_n, s_iload, s_iload_n, s_lload, s_lload_n, s_istore, s_istore_n, s_astore, s_astoreN, s_astore_n, s_astore_nN, s_lstore, s_lstore_n, s_iinc, s_iconst, s_bipush, s_sipush, s_lconst, s_ldc2_w, s_aconst_null, s_dupA, s_dupI, s_dup2, s_iadd, s_isub, s_imul, s_iand, s_ior, s_ixor, s_ishl, s_ishr, s_iushr, s_ineg, s_idiv, s_irem, s_ladd, s_lsub, s_lmul, s_land, s_lor, s_lxor, s_ldiv, s_lshl, s_lshr, s_lushr, s_i2l, s_l2i, s_lcmp, s_goto, s_ieq, s_ine, s_ilt, s_ige, s_igt, s_ile, s_zeq, s_zne, s_zlt, s_zge, s_zgt, s_zle, s_ifnull, s_ifnullN, s_ifnonnull, s_ifnonnullN, s_tableswitch, s_lookupswitch, s_getfield, s_putfield, s_getstatic, s_iaload, s_laload, s_baload, s_aaload, s_iastore, s_lastore, s_bastore, s_aastore, s_arraylength, s_newI, s_newJ, s_newZ, s_anewarray, s_new, s_copy, s_max, s_min, s_invokestatic, s_objinit, s_invokespecial, kf_isr_r, s_invokevirtual, s_ireturn, s_lreturn, s_areturn, s_areturnN, s_return, lI_0, lI_s, lJ_0, lJ_s, lA_0, lA_0N, lA_s, lS1_0, lS1_1, lS1_2, lS2_0, lS2_1, lS2_2, lK_n, lK_i, lK_j, lK_a, lK_N, d_C', kf_w_0, kf_w_i, kf_w_a, kf_w_n, kf_w_j, c_0, c_1, c_2, c_3, c_4, c_5, c_6, tl_0, tl_1, Option.bind_some, Option.bind_none, Option.map_some, Nat.reduceAdd, Nat.reduceMul, Nat.reduceDiv, Nat.reduceMod, Int.reduceToNat, Fin.val_zero, Fin.isValue, Fin.val_one, Fin.val_two, fv_0, fv_1, fv_2, fv_3, fw_0, fw_1, d_ite, true_or, or_true, and_false, false_and, or_self, and_self, ow_5, lt8, go8, gb8, sh8, ps8, cl8, cr8, vR, gx8, kx8, gy8, ky8, rz8, kz8]
  obtain ⟨M9, k9, B9, J9, C9, o9⟩ := f6 Gpt_v K8 C8
  have go8 := gO_of C8.1
  have rc8 := C8.rc
  have le4 : (4 : Int32) ≤ 4 := by decide
  have fin : kf_ev 0 139 [some (.ref 105), some (.int 4), some (.ref 146)] [] M8 = some (none, M9) := by
    refine (e0_139 _ _ _).trans ?_
    simp only [cl_0, e0_0, e0_1, e0_4, e0_5, e0_8, e0_9, e0_12, e0_15, e0_16, e0_19, e0_22, e0_23, e0_25, e0_27, e0_30, e0_31, e0_33, e0_36, e0_39, e0_40, e0_42, e0_44, e0_47, e0_48, e0_50, e0_52, e0_55, e0_56, e0_58, e0_60, e0_63, e0_64, e0_66, e0_68, e0_71, e0_72, e0_74, e0_76, e0_79, e0_80, e0_82, e0_84, e0_87, e0_88, e0_90, e0_92, e0_95, e0_96, e0_98, e0_100, e0_103, e0_104, e0_106, e0_108, e0_112, e0_115, e0_118, e0_119, e0_122, e0_123, e0_126, e0_127, e0_130, e0_131, e0_134, e0_137, e0_138, e0_140, e0_141, e0_144, e0_145, e0_148, e0_149, e0_150, e0_151, e0_152, e0_153, e0_154, e0_157, e0_160, e0_162, e0_163, e0_164, e0_167, e0_168, e0_171, e0_174, e0_176, e0_177, e0_178, e0_180, e0_181, e0_184, e0_185, e0_186, e0_189, e0_192, e0_195, e0_196, e0_197, e0_200, e0_203, ow_0, Int32.reduceOfInt, Int32.reduceOfNat, Int32.reduceToNatClampNeg, Int32.reduceLT, Int32.reduceLE, Int32.reduceAdd, Int32.reduceSub, Int32.reduceMul, Int64.reduceOfNat, Int64.reduceOfInt, Nat.reduceLeDiff, Nat.reduceLT, Nat.reduceEqDiff, Nat.reduceSub, cs_0, cs_1, cs_2, cs_3, cs_4, cs_5, cs_6, cs_7, cs_8, or_false, false_or, not_false_eq_true, and_true, true_and, if_true, if_false, List.length_cons, List.length_nil, List.getElem?_cons_succ, List.getElem?_cons_zero, List.set_cons_succ, List.set_cons_zero, reduceIte, d_G, d_R, s_aload, s_aload_n, s_iload, s_iload_n, s_lload, s_lload_n, s_istore, s_istore_n, s_astore, s_astoreN, s_astore_n, s_astore_nN, s_lstore, s_lstore_n, s_iinc, s_iconst, s_bipush, s_sipush, s_lconst, s_ldc2_w, s_aconst_null, s_dupA, s_dupI, s_dup2, s_iadd, s_isub, s_imul, s_iand, s_ior, s_ixor, s_ishl, s_ishr, s_iushr, s_ineg, s_idiv, s_irem, s_ladd, s_lsub, s_lmul, s_land, s_lor, s_lxor, s_ldiv, s_lshl, s_lshr, s_lushr, s_i2l, s_l2i, s_lcmp, s_goto, s_ieq, s_ine, s_ilt, s_ige, s_igt, s_ile, s_zeq, s_zne, s_zlt, s_zge, s_zgt, s_zle, s_ifnull, s_ifnullN, s_ifnonnull, s_ifnonnullN, s_tableswitch, s_lookupswitch, s_getfield, s_putfield, s_getstatic, s_iaload, s_laload, s_baload, s_aaload, s_iastore, s_lastore, s_bastore, s_aastore, s_arraylength, s_newI, s_newJ, s_newZ, s_anewarray, s_new, s_copy, s_max, s_min, s_invokestatic, s_objinit, s_invokespecial, kf_isr_r, s_invokevirtual, s_ireturn, s_lreturn, s_areturn, s_areturnN, s_return, lI_0, lI_s, lJ_0, lJ_s, lA_0, lA_0N, lA_s, lS1_0, lS1_1, lS1_2, lS2_0, lS2_1, lS2_2, lK_n, lK_i, lK_j, lK_a, lK_N, d_C', kf_w_0, kf_w_i, kf_w_a, kf_w_n, kf_w_j, c_0, c_1, c_2, c_3, c_4, c_5, c_6, tl_0, tl_1, Option.bind_some, Option.bind_none, Option.map_some, Nat.reduceAdd, Nat.reduceMul, Nat.reduceDiv, Nat.reduceMod, Int.reduceToNat, Fin.val_zero, Fin.isValue, Fin.val_one, Fin.val_two, fv_0, fv_1, fv_2, fv_3, fw_0, fw_1, d_ite, true_or, or_true, and_false, false_and, or_self, and_self, ow_6, le4, go8, rc8, k9]
  have o48 : Off (List.range' 113 65) M4 M8 := (((o5.wk (by decide)).tr (o6.wk (by decide))).tr (o7.wk (by decide))).tr (o8.wk (by decide))
  have o29 : Off (112 :: 186 :: List.range' 113 74) M2 M9 := ((o24.wk (by decide)).tr (o48.wk (by decide))).tr (o9.wk (by decide))
  rw [ea] at pre
  refine ⟨M9, pre.trans (s111.trans ((s5 none).trans ((s6 _).trans ((s7 _).trans ((s8 _).trans fin))))), C9, F8.off2 o9 (by decide), B9, J9, by rw [o29.1, l2], ?_⟩
  have G2' : Gr [] M M2 := fun b _ ob hm => by
    have hb := (List.getElem?_eq_some_iff.mp hm).1
    exact G2.at (by simp; omega) (G1.at (by simp) (Ga.at (by simp) hm))
  exact G2'.new o29 (fun x hx => by
    rw [hl]
    simp only [List.mem_cons, List.mem_range'_1] at hx
    omega)
end CCON
