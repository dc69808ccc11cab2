/-! The class: the signer's constructor -/
section SCON
variable {M M' : kf_M}
theorem hash_new {a : Nat} (h0 : M[a]? = some (oO 2 [.ref (a + 1), .ref (a + 2), .int 0])) (h1 : M[a + 1]? = some (oI (List.replicate 8 0))) (h2 : M[a + 2]? = some (oI (List.replicate 64 0))) : HA M a := ⟨(List.replicate 8 0, List.replicate 64 0, 0), ⟨h0, h1, h2⟩, ⟨List.length_replicate, List.length_replicate⟩⟩
set_option maxHeartbeats 8000000 in
set_option maxRecDepth 100000 in
theorem f57 (hl : M.length = 104) (g2 : M[2]? = some (oI sx_2)) (g3 : M[3]? = some (oI sx_3)) (g4 : M[4]? = some (oJ sx_4)) (g5 : M[5]? = some (oI sx_5)) (g6 : M[6]? = some (oI sx_6)) (g7 : M[7]? = some (oI sx_7)) (g8 : M[8]? = some (oI sx_8)) : ∃ M', kf_cl 57 [.ref 104] (M ++ [oO 8 [.null, .null, .null, .null, .int 0, .null, .null, .null, .int 0, .null, .null, .null, .null, .null, .null, .null, .null]]) = some (none, M') ∧ SgAll M' (0, none) ∧ (∀ j, j < 16 → PtJ M' (113 + 1 + 4 * j)) ∧ M'.length = 278 ∧ Gr [] M M' := by
  obtain ⟨Ma, ea⟩ : ∃ X, X = M ++ [oO 8 [.null, .null, .null, .null, .int 0, .null, .null, .null, .int 0, .null, .null, .null, .null, .null, .null, .null, .null]] := ⟨_, rfl⟩
  have Ga : Gr [] M Ma := by rw [ea]; exact Gr.app
  have la : Ma.length = 105 := by rw [ea, List.length_append, hl]; rfl
  have oa : Ma[104]? = some (oO 8 [.null, .null, .null, .null, .int 0, .null, .null, .null, .int 0, .null, .null, .null, .null, .null, .null, .null, .null]) := by rw [ea, List.getElem?_append_right (by omega), hl]; rfl
  have sG : ∀ {b : Nat} {ob : kf_Ob}, M[b]? = some ob → Ma[b]? = some ob := fun h => Ga.at (by simp) h
  obtain ⟨M1, k1, C1, P1, B1, J1, l1, G1⟩ := f0 la (sG g2) (sG g3) (sG g4) (sG g5) (sG g6)
  have o1 := G1.at (by simp) oa
  have gA := gO_of o1
  -- the order's field
  obtain ⟨Mb, eb⟩ : ∃ X, X = M1.set 104 (oO 8 [.ref 105, .null, .null, .null, .int 0, .null, .null, .null, .int 0, .null, .null, .null, .null, .null, .null, .null, .null]) := ⟨_, rfl⟩
  have lb : Mb.length = 187 := by rw [eb, List.length_set, l1]
  have ob : Off [104] M1 Mb := by rw [eb]; exact Off.set (by simp)
  have ab : Mb[104]? = some (oO 8 [.ref 105, .null, .null, .null, .int 0, .null, .null, .null, .int 0, .null, .null, .null, .null, .null, .null, .null, .null]) := by rw [eb]; exact m_self (m_lt o1)
  have sB : ∀ {b : Nat} {x : kf_Ob}, b ≠ 104 → M[b]? = some x → Mb[b]? = some x := fun hb h => ob.at (by simp; exact hb) (G1.at (by simp) (sG h))
  obtain ⟨M2, k2, F2, l2, G2⟩ := f7 (N := nN) (R := 59572976554797506761781148841384420819205349494130419031961421630761824643366) (inv := 234929231) (w := 31784414902932020803566699927781346176320253474371992036415315179848356486735) lb (by decide) (sB (by decide) g7) (sB (by decide) g8) rfl rfl (by decide +kernel) (by decide +kernel) (by decide +kernel) (by decide +kernel) (by decide +kernel) (by decide +kernel) (by unfold cg; decide +kernel) (by unfold cg; decide +kernel) (sB (by decide) g4)
  have o2 := G2.at (by simp) ab
  have gB := gO_of o2
  -- room
  have nG : ∀ (F : List Value) (L : kf_M), gO (M2.set 104 (oO 8 F) ++ L) 104 = some (8, F) := fun F L => gO_of (by rw [List.getElem?_append_left (by rw [List.length_set]; omega), List.getElem?_set_self (by omega)])
  have nS : ∀ (x y : kf_Ob) (L : kf_M), (M2.set 104 x ++ L).set 104 y = M2.set 104 y ++ L := fun x y L => by rw [List.set_append_left _ _ (by rw [List.length_set]; omega), List.set_set]
  have k24 := z24 (M := M2.set 104 (oO 8 [.ref 105, .ref 187, .null, .null, .int 0, .null, .null, .null, .int 0, .null, .null, .null, .null, .null, .null, .null, .null])) (n := 193) (by rw [List.length_set, l2])
  have k35 := z35 (M := M2.set 104 (oO 8 [.ref 105, .ref 187, .ref 193, .ref 196, .int 0, .ref 197, .ref 198, .null, .int 0, .null, .null, .null, .null, .null, .null, .null, .null]) ++ [oO 2 [.ref 194, .ref 195, .int 0], oI (List.replicate 8 0), oI (List.replicate 64 0), oI (List.replicate 64 0), oI (List.replicate 32 0), oI (List.replicate 64 0)]) (n := 199) (by rw [List.length_append, List.length_set, l2]; rfl) (by decide)
  have k34a := z34 (M := M2.set 104 (oO 8 [.ref 105, .ref 187, .ref 193, .ref 196, .int 0, .ref 197, .ref 198, .ref 199, .int 0, .ref 264, .null, .null, .null, .null, .null, .null, .null]) ++ ([oO 2 [.ref 194, .ref 195, .int 0], oI (List.replicate 8 0), oI (List.replicate 64 0), oI (List.replicate 64 0), oI (List.replicate 32 0), oI (List.replicate 64 0)] ++ (rwL 199 ++ [oI (List.replicate 64 0)]))) (n := 265) (by rw [List.length_append, List.length_set, l2, List.length_append, List.length_append, rwL_len]; rfl)
  have k34b := z34 (M := M2.set 104 (oO 8 [.ref 105, .ref 187, .ref 193, .ref 196, .int 0, .ref 197, .ref 198, .ref 199, .int 0, .ref 264, .ref 265, .null, .null, .null, .null, .null, .null]) ++ ([oO 2 [.ref 194, .ref 195, .int 0], oI (List.replicate 8 0), oI (List.replicate 64 0), oI (List.replicate 64 0), oI (List.replicate 32 0), oI (List.replicate 64 0)] ++ (rwL 199 ++ [oI (List.replicate 64 0), oO 4 [.ref 266, .ref 267, .ref 268], oJ (List.replicate 10 0), oJ (List.replicate 10 0), oJ (List.replicate 10 0)]))) (n := 269) (by rw [List.length_append, List.length_set, l2, List.length_append, List.length_append, rwL_len]; rfl)
  simp only [List.append_assoc, List.cons_append, List.nil_append, Nat.reduceAdd] at k24 k35 k34a k34b
  obtain ⟨M3, e3⟩ : ∃ X, X = M2.set 104 (oO 8 (sgF 0 0)) ++ ([oO 2 [.ref 194, .ref 195, .int 0], oI (List.replicate 8 0), oI (List.replicate 64 0), oI (List.replicate 64 0), oI (List.replicate 32 0), oI (List.replicate 64 0)] ++ (rwL 199 ++ [oI (List.replicate 64 0), oO 4 [.ref 266, .ref 267, .ref 268], oJ (List.replicate 10 0), oJ (List.replicate 10 0), oJ (List.replicate 10 0), oO 4 [.ref 270, .ref 271, .ref 272], oJ (List.replicate 10 0), oJ (List.replicate 10 0), oJ (List.replicate 10 0), oJ (List.replicate 10 0), oJ (List.replicate 10 0), oJ (List.replicate 10 0), oJ (List.replicate 10 0), oJ (List.replicate 10 0)])) := ⟨_, rfl⟩
  have cs6 : kf_cs[6]? = some 234929231 := rfl
  have run : kf_cl 57 [.ref 104] Ma = some (none, M3) := by
    simp only [cl_57, e57_0, e57_1, e57_4, e57_5, e57_8, e57_9, e57_12, e57_15, e57_16, e57_19, e57_20, e57_23, e57_26, e57_29, e57_32, e57_35, e57_36, e57_39, e57_40, e57_43, e57_46, e57_47, e57_49, e57_51, e57_54, e57_55, e57_57, e57_59, e57_62, e57_63, e57_65, e57_67, e57_70, e57_71, e57_73, e57_76, e57_79, e57_80, e57_82, e57_84, e57_87, e57_88, e57_91, e57_92, e57_95, e57_98, e57_99, e57_102, e57_103, e57_106, e57_109, e57_110, e57_112, e57_114, e57_117, e57_118, e57_120, e57_122, e57_125, e57_126, e57_128, e57_130, e57_133, e57_134, e57_136, e57_138, e57_141, e57_142, e57_144, e57_146, e57_149, ow_57, Int32.reduceOfInt, Int32.reduceOfNat, Int32.reduceToNatClampNeg, Int32.reduceLT, Int32.reduceLE, Int32.reduceAdd, Int32.reduceSub, Int32.reduceMul, Int64.reduceOfNat, Int64.reduceOfInt, Nat.reduceLeDiff, Nat.reduceLT, Nat.reduceEqDiff, Nat.reduceSub, cs_0, cs_1, cs_2, cs_3, cs_4, cs_5, cs_6, cs_7, cs_8, or_false, false_or, not_false_eq_true, and_true, true_and, if_true, if_false, List.length_cons, List.length_nil, List.getElem?_cons_succ, List.getElem?_cons_zero, List.set_cons_succ, List.set_cons_zero, reduceIte, d_G, d_R, s_aload, s_aload_n, s_iload, s_iload_n, s_lload, s_lload_n, s_istore, s_istore_n, s_astore, s_astoreN, s_astore_n, s_astore_nN, s_lstore, s_lstore_n, s_iinc, s_iconst, s_bipush, s_sipush, s_lconst, s_ldc2_w, s_aconst_null, s_dupA, s_dupI, s_dup2, s_iadd, s_isub, s_imul, s_iand, s_ior, s_ixor, s_ishl, s_ishr, s_iushr, s_ineg, s_idiv, s_irem, s_ladd, s_lsub, s_lmul, s_land, s_lor, s_lxor, s_ldiv, s_lshl, s_lshr, s_lushr, s_i2l, s_l2i, s_lcmp, s_goto, s_ieq, s_ine, s_ilt, s_ige, s_igt, s_ile, s_zeq, s_zne, s_zlt, s_zge, s_zgt, s_zle, s_ifnull, s_ifnullN, s_ifnonnull, s_ifnonnullN, s_tableswitch, s_lookupswitch, s_getfield, s_putfield, s_getstatic, s_iaload, s_laload, s_baload, s_aaload, s_iastore, s_lastore, s_bastore, s_aastore, s_arraylength, s_newI, s_newJ, s_newZ, s_anewarray, s_new, s_copy, s_max, s_min, s_invokestatic, s_objinit, s_invokespecial, kf_isr_r, s_invokevirtual, s_ireturn, s_lreturn, s_areturn, s_areturnN, s_return, lI_0, lI_s, lJ_0, lJ_s, lA_0, lA_0N, lA_s, lS1_0, lS1_1, lS1_2, lS2_0, lS2_1, lS2_2, lK_n, lK_i, lK_j, lK_a, lK_N, d_C', kf_w_0, kf_w_i, kf_w_a, kf_w_n, kf_w_j, c_0, c_1, c_2, c_3, c_4, c_5, c_6, tl_0, tl_1, Option.bind_some, Option.bind_none, Option.map_some, Nat.reduceAdd, Nat.reduceMul, Nat.reduceDiv, Nat.reduceMod, Int.reduceToNat, Fin.val_zero, Fin.isValue, Fin.val_one, Fin.val_two, fv_0, fv_1, fv_2, fv_3, fw_0, fw_1, d_ite, true_or, or_true, and_false, false_and, or_self, and_self, kf_fit, nwf_0, nwf_1, nwf_2, nwf_4, la, k1, gA, ← eb, lb, cs6, k2, gB, List.length_set, l2, nG, nS, k24, k35, k34a, k34b, List.append_assoc, List.cons_append, List.nil_append, List.length_append, rwL_len, e3, sgF]
  have l3 : M3.length = 278 := by rw [e3, List.length_append, List.length_set, l2, List.length_append, List.length_append, rwL_len]; rfl
  have at3 : ∀ k, M3[193 + k]? = ([oO 2 [.ref 194, .ref 195, .int 0], oI (List.replicate 8 0), oI (List.replicate 64 0), oI (List.replicate 64 0), oI (List.replicate 32 0), oI (List.replicate 64 0)] ++ (rwL 199 ++ [oI (List.replicate 64 0), oO 4 [.ref 266, .ref 267, .ref 268], oJ (List.replicate 10 0), oJ (List.replicate 10 0), oJ (List.replicate 10 0), oO 4 [.ref 270, .ref 271, .ref 272], oJ (List.replicate 10 0), oJ (List.replicate 10 0), oJ (List.replicate 10 0), oJ (List.replicate 10 0), oJ (List.replicate 10 0), oJ (List.replicate 10 0), oJ (List.replicate 10 0), oJ (List.replicate 10 0)]))[k]? := fun k => by rw [e3, List.getElem?_append_right (by rw [List.length_set]; omega), List.length_set, l2, Nat.add_sub_cancel_left]
  have atl : ∀ k, M3[264 + k]? = [oI (List.replicate 64 0), oO 4 [.ref 266, .ref 267, .ref 268], oJ (List.replicate 10 0), oJ (List.replicate 10 0), oJ (List.replicate 10 0), oO 4 [.ref 270, .ref 271, .ref 272], oJ (List.replicate 10 0), oJ (List.replicate 10 0), oJ (List.replicate 10 0), oJ (List.replicate 10 0), oJ (List.replicate 10 0), oJ (List.replicate 10 0), oJ (List.replicate 10 0), oJ (List.replicate 10 0)][k]? := fun k => by
    have := at3 (71 + k)
    rw [List.getElem?_append_right (by show 6 ≤ _; omega), show 71 + k - [oO 2 [.ref 194, .ref 195, .int 0], oI (List.replicate 8 0), oI (List.replicate 64 0), oI (List.replicate 64 0), oI (List.replicate 32 0), oI (List.replicate 64 0)].length = 65 + k by show 71 + k - 6 = _; omega, rwL_r] at this
    rw [← this]
    congr 1
    omega
  have G3 : Gr [104] M2 M3 := by
    rw [e3]
    exact (Off.set (M := M2) (by simp : 104 ∈ [104])).gr.tr Gr.app
  have c3 : SgO M3 0 0 := by
    unfold SgO
    rw [e3, List.getElem?_append_left (by rw [List.length_set]; omega), List.getElem?_set_self (by omega)]
  obtain ⟨r3, p3⟩ := rwL_ok (M := M3) (m := 199) (L2 := [oI (List.replicate 64 0), oO 4 [.ref 266, .ref 267, .ref 268], oJ (List.replicate 10 0), oJ (List.replicate 10 0), oJ (List.replicate 10 0), oO 4 [.ref 270, .ref 271, .ref 272], oJ (List.replicate 10 0), oJ (List.replicate 10 0), oJ (List.replicate 10 0), oJ (List.replicate 10 0), oJ (List.replicate 10 0), oJ (List.replicate 10 0), oJ (List.replicate 10 0), oJ (List.replicate 10 0)]) (fun i => by
    have := at3 (6 + i)
    rw [List.getElem?_append_right (by show 6 ≤ _; omega), show 6 + i - [oO 2 [.ref 194, .ref 195, .int 0], oI (List.replicate 8 0), oI (List.replicate 64 0), oI (List.replicate 64 0), oI (List.replicate 32 0), oI (List.replicate 64 0)].length = i by show 6 + i - 6 = _; omega] at this
    rw [← this]
    congr 1
    omega)
  have H3 : HA M3 193 := hash_new (at3 0) (at3 1) (at3 2)
  have G13 : Gr [104] M1 M3 := (ob.gr.tr (G2.wk (by simp))).tr G3
  have pa : PtJ M3 265 := ⟨atl 1, ⟨_, atl 2, List.length_replicate⟩, ⟨_, atl 3, List.length_replicate⟩, ⟨_, atl 4, List.length_replicate⟩⟩
  have pb : PtJ M3 269 := ⟨atl 5, ⟨_, atl 6, List.length_replicate⟩, ⟨_, atl 7, List.length_replicate⟩, ⟨_, atl 8, List.length_replicate⟩⟩
  have G0 : Gr [] M M3 := fun b _ x hm => by
    have hb := (List.getElem?_eq_some_iff.mp hm).1
    exact G13.at (by simp; omega) (G1.at (by simp) (sG hm))
  have K3 : SgK M3 := ⟨C1.gr G13 (by decide), P1.gr2 G13 (by decide), B1.gr G13 (by decide), F2.gr2 G3 (by decide), pa, pb, ⟨_, atl 9, List.length_replicate⟩, ⟨_, atl 10, List.length_replicate⟩, ⟨_, atl 11, List.length_replicate⟩, ⟨_, atl 12, List.length_replicate⟩, ⟨_, atl 13, List.length_replicate⟩, G0.at (by simp) g4⟩
  rw [ea] at run
  exact ⟨M3, run, ⟨0, List.replicate 64 0, List.replicate 32 0, List.replicate 64 0, c3, K3, ⟨r3, p3, (fun w => absurd w (by decide)), Or.inl rfl⟩, H3, ⟨at3 3, List.length_replicate⟩, ⟨at3 4, List.length_replicate⟩, ⟨at3 5, List.length_replicate⟩, ⟨_, atl 0, List.length_replicate⟩, rfl⟩, fun j hj => (J1 j hj).gr G13 (by simp; omega) (by simp; omega) (by simp; omega) (by simp; omega), l3, G0⟩
end SCON
