/-! The class: the vault's constructor, the fob's constructor -/
section VCON
variable {M : kf_M}
/-- the vault as it is at first -/
def V0 : Vs := (sha [0], List.replicate 16 0, frs (sha [0]) 0, 1, 8, 0, 0)
theorem isB_0 {n : Nat} : isB (List.replicate n (0 : Int32)) := fun x hx => ⟨0, by decide, List.eq_of_mem_replicate hx⟩
theorem V0_ok : VB V0 := ⟨isB_sha, isB_0, isB_frs, Or.inl rfl, 8, Nat.le_refl _, rfl⟩
set_option maxHeartbeats 4000000 in
theorem f86 (hl : M.length = 32) (g0 : M[0]? = some (oI sx_0)) (g1 : M[1]? = some (oI sx_1)) : ∃ M', kf_cl 86 [.ref 32] (M ++ [oO 10 [.null, .null, .null, .null, .null, .int 0, .int 0, .int 0, .int 0]]) = some (none, M') ∧ VV M' V0 ∧ M'.length = 40 ∧ Gr [] M M' := by
  have s1 : ∀ (c : Nat) (fs : List Value) (L : kf_M), gO (M ++ (oO c fs :: L)) 32 = some (c, fs) := fun c fs L => al_self hl
  have s2 : ∀ (x y : kf_Ob) (L : kf_M), (M ++ (x :: L)).set 32 y = M ++ (y :: L) := fun x y L => al_sets hl
  have k24 := z24 (M := M ++ [oO 10 [.null, .null, .null, .null, .null, .int 0, .int 0, .int 0, .int 0]]) (n := 33) (by rw [List.length_append, hl]; rfl)
  simp only [List.append_assoc, List.cons_append, List.nil_append, Nat.reduceAdd] at k24
  obtain ⟨M1, e1⟩ : ∃ X, X = M ++ [oO 10 [.ref 33, .ref 36, .ref 37, .ref 38, .ref 39, .int 0, .int 0, .int 0, .int 0], oO 2 [.ref 34, .ref 35, .int 0], oI (List.replicate 8 0), oI (List.replicate 64 0), oI (List.replicate 32 0), oI (List.replicate 16 0), oI (List.replicate 32 0), oI (List.replicate 32 0)] := ⟨_, rfl⟩
  have pre : kf_cl 86 [.ref 32] (M ++ [oO 10 [.null, .null, .null, .null, .null, .int 0, .int 0, .int 0, .int 0]]) = kf_ev 86 47 [some (.ref 32)] [] M1 := by
    simp only [cl_86, e86_0, e86_1, e86_4, e86_5, e86_8, e86_9, e86_12, e86_15, e86_16, e86_18, e86_20, e86_23, e86_24, e86_26, e86_28, e86_31, e86_32, e86_34, e86_36, e86_39, e86_40, e86_42, e86_44, e86_48, e86_51, e86_54, e86_55, e86_58, e86_59, e86_62, e86_63, e86_66, e86_67, e86_70, e86_73, e86_74, e86_77, ow_86, Int32.reduceOfInt, Int32.reduceOfNat, Int32.reduceToNatClampNeg, Int32.reduceLT, Int32.reduceLE, Int32.reduceAdd, Int32.reduceSub, Int32.reduceMul, Int64.reduceOfNat, Int64.reduceOfInt, Nat.reduceLeDiff, Nat.reduceLT, Nat.reduceEqDiff, Nat.reduceSub, cs_0, cs_1, cs_2, cs_3, cs_4, cs_5, cs_6, cs_7, cs_8, or_false, false_or, not_false_eq_true, and_true, true_and, if_true, if_false, List.length_cons, List.length_nil, List.getElem?_cons_succ, List.getElem?_cons_zero, List.set_cons_succ, List.set_cons_zero, reduceIte, d_G, d_R, s_aload, s_aload_n, s_iload, s_iload_n, s_lload, s_lload_n, s_istore, s_istore_n, s_astore, s_astoreN, s_astore_n, s_astore_nN, s_lstore, s_lstore_n, s_iinc, s_iconst, s_bipush, s_sipush, s_lconst, s_ldc2_w, s_aconst_null, s_dupA, s_dupI, s_dup2, s_iadd, s_isub, s_imul, s_iand, s_ior, s_ixor, s_ishl, s_ishr, s_iushr, s_ineg, s_idiv, s_irem, s_ladd, s_lsub, s_lmul, s_land, s_lor, s_lxor, s_ldiv, s_lshl, s_lshr, s_lushr, s_i2l, s_l2i, s_lcmp, s_goto, s_ieq, s_ine, s_ilt, s_ige, s_igt, s_ile, s_zeq, s_zne, s_zlt, s_zge, s_zgt, s_zle, s_ifnull, s_ifnullN, s_ifnonnull, s_ifnonnullN, s_tableswitch, s_lookupswitch, s_getfield, s_putfield, s_getstatic, s_iaload, s_laload, s_baload, s_aaload, s_iastore, s_lastore, s_bastore, s_aastore, s_arraylength, s_newI, s_newJ, s_newZ, s_anewarray, s_new, s_copy, s_max, s_min, s_invokestatic, s_objinit, s_invokespecial, kf_isr_r, s_invokevirtual, s_ireturn, s_lreturn, s_areturn, s_areturnN, s_return, lI_0, lI_s, lJ_0, lJ_s, lA_0, lA_0N, lA_s, lS1_0, lS1_1, lS1_2, lS2_0, lS2_1, lS2_2, lK_n, lK_i, lK_j, lK_a, lK_N, d_C', kf_w_0, kf_w_i, kf_w_a, kf_w_n, kf_w_j, c_0, c_1, c_2, c_3, c_4, c_5, c_6, tl_0, tl_1, Option.bind_some, Option.bind_none, Option.map_some, Nat.reduceAdd, Nat.reduceMul, Nat.reduceDiv, Nat.reduceMod, Int.reduceToNat, Fin.val_zero, Fin.isValue, Fin.val_one, Fin.val_two, fv_0, fv_1, fv_2, fv_3, fw_0, fw_1, d_ite, true_or, or_true, and_false, false_and, or_self, and_self, kf_fit, nwf_2, List.append_assoc, List.cons_append, List.nil_append, List.length_append, hl, s1, s2, k24, e1]
  have at1 : ∀ k, M1[32 + k]? = [oO 10 [.ref 33, .ref 36, .ref 37, .ref 38, .ref 39, .int 0, .int 0, .int 0, .int 0], oO 2 [.ref 34, .ref 35, .int 0], oI (List.replicate 8 0), oI (List.replicate 64 0), oI (List.replicate 32 0), oI (List.replicate 16 0), oI (List.replicate 32 0), oI (List.replicate 32 0)][k]? := fun k => by rw [e1, List.getElem?_append_right (by omega), hl, Nat.add_sub_cancel_left]
  have l1 : M1.length = 40 := by rw [e1, List.length_append, hl]; rfl
  have G1 : Gr [] M M1 := by rw [e1]; exact Gr.app
  have H1 : HA M1 33 := hash_new (at1 1) (at1 2) (at1 3)
  have a0 : M1[32]? = some (oO 10 [.ref 33, .ref 36, .ref 37, .ref 38, .ref 39, .int 0, .int 0, .int 0, .int 0]) := at1 0
  have a1 : ArI M1 36 32 (List.replicate 32 0) := ⟨at1 4, List.length_replicate⟩
  have a2 : ArI M1 37 16 (List.replicate 16 0) := ⟨at1 5, List.length_replicate⟩
  have a3 : ArI M1 38 32 (List.replicate 32 0) := ⟨at1 6, List.length_replicate⟩
  have a4 : ArI M1 39 32 (List.replicate 32 0) := ⟨at1 7, List.length_replicate⟩
  have b0 := G1.at (by simp) g0
  have b1 := G1.at (by simp) g1
  have gv1 := gO_of a0
  have r1 := H1.rc
  obtain ⟨M2, k2, H2, o2⟩ := h25 H1 b0 (by decide)
  have gv2 := gO_of (o2.at (by decide) a0)
  have r2 := H2.ha.rc
  obtain ⟨M3, k3, H3, o3⟩ := h26 0 H2 (by decide) (o2.at (by decide) b1) (by decide)
  have o13 := o2.tr o3
  have gv3 := gO_of (o13.at (by decide) a0)
  have r3 := H3.ha.rc
  have a13 := a1.off o13 (by decide)
  obtain ⟨M4, k4, H4, m4, o4⟩ := h28 H3 (by decide) (o13.at (by decide) b1) a13.1 (by rw [a13.2]; decide) (by rw [a13.2]; decide) (by decide) (by decide) (by decide)
  rw [show byt ([] ++ [(0 : Int32)]) = [0] from by decide, List.drop_of_length_le (by rw [List.length_replicate]; decide), List.append_nil] at m4
  have o14 : Off [33, 34, 35, 36] M1 M4 := (o13.wk (by decide)).tr (o4.wk (by decide))
  have V4 : VtIs M4 (sha [0]) (List.replicate 16 0) (List.replicate 32 0) 0 0 0 0 := ⟨o14.at (by decide) a0, ⟨m4, sha_len⟩, a2.off o14 (by decide), ⟨_, a3.off o14 (by decide)⟩, a4.off o14 (by decide), H4⟩
  have S4 : SH M4 := ⟨o14.at (by decide) b0, o14.at (by decide) b1⟩
  obtain ⟨M5, k5, V5, o5⟩ := c93 V4 S4
  have r4 := kf_rcv_ok (gO_of V4.1)
  have o15 : Off [32, 33, 34, 35, 36, 39] M1 M5 := (o14.wk (by decide)).tr (o5.wk (by decide))
  have s47 : kf_ev 86 47 [some (.ref 32)] [] M1 = some (none, M5) := by
    refine (e86_47 _ _ _).trans ?_
    simp only [cl_86, e86_0, e86_1, e86_4, e86_5, e86_8, e86_9, e86_12, e86_15, e86_16, e86_18, e86_20, e86_23, e86_24, e86_26, e86_28, e86_31, e86_32, e86_34, e86_36, e86_39, e86_40, e86_42, e86_44, e86_48, e86_51, e86_54, e86_55, e86_58, e86_59, e86_62, e86_63, e86_66, e86_67, e86_70, e86_73, e86_74, e86_77, ow_86, Int32.reduceOfInt, Int32.reduceOfNat, Int32.reduceToNatClampNeg, Int32.reduceLT, Int32.reduceLE, Int32.reduceAdd, Int32.reduceSub, Int32.reduceMul, Int64.reduceOfNat, Int64.reduceOfInt, Nat.reduceLeDiff, Nat.reduceLT, Nat.reduceEqDiff, Nat.reduceSub, cs_0, cs_1, cs_2, cs_3, cs_4, cs_5, cs_6, cs_7, cs_8, or_false, false_or, not_false_eq_true, and_true, true_and, if_true, if_false, List.length_cons, List.length_nil, List.getElem?_cons_succ, List.getElem?_cons_zero, List.set_cons_succ, List.set_cons_zero, reduceIte, d_G, d_R, s_aload, s_aload_n, s_iload, s_iload_n, s_lload, s_lload_n, s_istore, s_istore_n, s_astore, s_astoreN, s_astore_n, s_astore_nN, s_lstore, s_lstore_n, s_iinc, s_iconst, s_bipush, s_sipush, s_lconst, s_ldc2_w, s_aconst_null, s_dupA, s_dupI, s_dup2, s_iadd, s_isub, s_imul, s_iand, s_ior, s_ixor, s_ishl, s_ishr, s_iushr, s_ineg, s_idiv, s_irem, s_ladd, s_lsub, s_lmul, s_land, s_lor, s_lxor, s_ldiv, s_lshl, s_lshr, s_lushr, s_i2l, s_l2i, s_lcmp, s_goto, s_ieq, s_ine, s_ilt, s_ige, s_igt, s_ile, s_zeq, s_zne, s_zlt, s_zge, s_zgt, s_zle, s_ifnull, s_ifnullN, s_ifnonnull, s_ifnonnullN, s_tableswitch, s_lookupswitch, s_getfield, s_putfield, s_getstatic, s_iaload, s_laload, s_baload, s_aaload, s_iastore, s_lastore, s_bastore, s_aastore, s_arraylength, s_newI, s_newJ, s_newZ, s_anewarray, s_new, s_copy, s_max, s_min, s_invokestatic, s_objinit, s_invokespecial, kf_isr_r, s_invokevirtual, s_ireturn, s_lreturn, s_areturn, s_areturnN, s_return, lI_0, lI_s, lJ_0, lJ_s, lA_0, lA_0N, lA_s, lS1_0, lS1_1, lS1_2, lS2_0, lS2_1, lS2_2, lK_n, lK_i, lK_j, lK_a, lK_N, d_C', kf_w_0, kf_w_i, kf_w_a, kf_w_n, kf_w_j, c_0, c_1, c_2, c_3, c_4, c_5, c_6, tl_0, tl_1, Option.bind_some, Option.bind_none, Option.map_some, Nat.reduceAdd, Nat.reduceMul, Nat.reduceDiv, Nat.reduceMod, Int.reduceToNat, Fin.val_zero, Fin.isValue, Fin.val_one, Fin.val_two, fv_0, fv_1, fv_2, fv_3, fw_0, fw_1, d_ite, true_or, or_true, and_false, false_and, or_self, and_self, ow_25, ow_26, ow_28, ow_93, gv1, r1, k2, gv2, r2, k3, gv3, r3, k4, r4, k5]
  exact ⟨M5, pre.trans s47, ⟨V5, V0_ok⟩, by rw [o15.1, l1], G1.new o15 (fun x hx => by rw [hl]; simp at hx; omega)⟩
theorem rgL_len {m : Nat} : (rgL m).length = 62 := by
  unfold rgL
  rw [List.length_cons, List.length_cons, pl_len (w := 6) (fun j => rfl)]
theorem rgL_ky {m j c : Nat} {L : kf_M} (hj : j < 10) (hc : c < 6) : (rgL m ++ L)[2 + (6 * j + c)]? = (kyL (m + 2 + 6 * j))[c]? := by
  rw [List.getElem?_append_left (by rw [rgL_len]; omega)]
  unfold rgL
  rw [Nat.add_comm 2, List.getElem?_cons_succ, List.getElem?_cons_succ]
  exact pl_at (f := fun j => kyL (m + 2 + 6 * j)) (w := 6) (fun j => rfl) hc 10 hj
theorem kyL_ok {j : Nat} {L : kf_M} (h : ∀ i, M[40 + i]? = (rgL 40 ++ L)[i]?) (hj : j < 10) : KyJ M (42 + 6 * j) := by
  have e : ∀ c, c < 6 → M[42 + 6 * j + c]? = (kyL (40 + 2 + 6 * j))[c]? := fun c hc => by
    have := h (2 + (6 * j + c))
    rw [rgL_ky hj hc] at this
    rw [← this]
    congr 1
    omega
  exact ⟨0, 0, _, _, _, _, _, e 0 (by decide), ⟨e 1 (by decide), List.length_replicate⟩, ⟨e 2 (by decide), List.length_replicate⟩, ⟨e 3 (by decide), List.length_replicate⟩, ⟨e 4 (by decide), List.length_replicate⟩, ⟨e 5 (by decide), List.length_replicate⟩⟩
set_option maxHeartbeats 8000000 in
set_option maxRecDepth 100000 in
theorem f95 (hl : M.length = 19) (g0 : M[0]? = some (oI sx_0)) (g1 : M[1]? = some (oI sx_1)) (g2 : M[2]? = some (oI sx_2)) (g3 : M[3]? = some (oI sx_3)) (g4 : M[4]? = some (oJ sx_4)) (g5 : M[5]? = some (oI sx_5)) (g6 : M[6]? = some (oI sx_6)) (g7 : M[7]? = some (oI sx_7)) (g8 : M[8]? = some (oI sx_8)) (g9 : M[9]? = some (oI sx_9)) (g10 : M[10]? = some (oI sx_10)) (g11 : M[11]? = some (oI sx_11)) : ∃ M', kf_cl 95 [.ref 19] (M ++ [oO 11 [.null, .null, .null, .null, .null, .null, .null, .null, .null, .null, .null, .int 0, .int 0]]) = some (none, M') ∧ CI M' [] [] V0 0 [] W0 (0, none) ∧ PtJ M' 114 ∧ (∀ j, j < 10 → KyJ M' (42 + 6 * j)) ∧ M'.length = 284 ∧ Gr [] M M' := by
  have s1 : ∀ (c : Nat) (fs : List Value) (L : kf_M), gO (M ++ (oO c fs :: L)) 19 = some (c, fs) := fun c fs L => al_self hl
  have s2 : ∀ (x y : kf_Ob) (L : kf_M), (M ++ (x :: L)).set 19 y = M ++ (y :: L) := fun x y L => al_sets hl
  have k66 := z66 (M := M ++ [oO 11 [.null, .null, .null, .null, .null, .null, .null, .null, .null, .null, .null, .int 0, .int 0]]) (n := 20) (by rw [List.length_append, hl]; rfl)
  have k47a := z47_200 (M := M ++ (oO 11 [.ref 20, .null, .null, .null, .null, .null, .null, .null, .null, .null, .null, .int 0, .int 0] :: [oO 9 [.ref 21, .ref 23, .ref 24, .ref 25, .ref 26, .ref 27, .int 0, .int 0], oO 7 [.ref 22, .int 0], oI (List.replicate 400 0), oI (List.replicate 24 0), oI (List.replicate 24 0), oI (List.replicate 24 0), oI (List.replicate 225 0), oI (List.replicate 225 0)])) (n := 28) (by rw [List.length_append, hl]; rfl)
  have k47b := z47_200 (M := M ++ (oO 11 [.ref 20, .ref 28, .null, .null, .null, .null, .null, .null, .null, .null, .null, .int 0, .int 0] :: [oO 9 [.ref 21, .ref 23, .ref 24, .ref 25, .ref 26, .ref 27, .int 0, .int 0], oO 7 [.ref 22, .int 0], oI (List.replicate 400 0), oI (List.replicate 24 0), oI (List.replicate 24 0), oI (List.replicate 24 0), oI (List.replicate 225 0), oI (List.replicate 225 0), oO 7 [.ref 29, .int 0], oI (List.replicate 200 0)])) (n := 30) (by rw [List.length_append, hl]; rfl)
  simp only [List.append_assoc, List.cons_append, List.nil_append, Nat.reduceAdd] at k66 k47a k47b
  obtain ⟨MA, eA⟩ : ∃ X, X = M ++ (oO 11 [.ref 20, .ref 28, .ref 30, .null, .null, .null, .null, .null, .null, .null, .null, .int 0, .int 0] :: [oO 9 [.ref 21, .ref 23, .ref 24, .ref 25, .ref 26, .ref 27, .int 0, .int 0], oO 7 [.ref 22, .int 0], oI (List.replicate 400 0), oI (List.replicate 24 0), oI (List.replicate 24 0), oI (List.replicate 24 0), oI (List.replicate 225 0), oI (List.replicate 225 0), oO 7 [.ref 29, .int 0], oI (List.replicate 200 0), oO 7 [.ref 31, .int 0], oI (List.replicate 200 0)]) := ⟨_, rfl⟩
  have lA : MA.length = 32 := by rw [eA, List.length_append, hl]; rfl
  have GA : Gr [] M MA := by rw [eA]; exact Gr.app
  have atA : ∀ k, MA[19 + k]? = (oO 11 [.ref 20, .ref 28, .ref 30, .null, .null, .null, .null, .null, .null, .null, .null, .int 0, .int 0] :: [oO 9 [.ref 21, .ref 23, .ref 24, .ref 25, .ref 26, .ref 27, .int 0, .int 0], oO 7 [.ref 22, .int 0], oI (List.replicate 400 0), oI (List.replicate 24 0), oI (List.replicate 24 0), oI (List.replicate 24 0), oI (List.replicate 225 0), oI (List.replicate 225 0), oO 7 [.ref 29, .int 0], oI (List.replicate 200 0), oO 7 [.ref 31, .int 0], oI (List.replicate 200 0)])[k]? := fun k => by rw [eA, List.getElem?_append_right (by omega), hl, Nat.add_sub_cancel_left]
  have oA : MA[19]? = some (oO 11 [.ref 20, .ref 28, .ref 30, .null, .null, .null, .null, .null, .null, .null, .null, .int 0, .int 0]) := atA 0
  have sA : ∀ {b : Nat} {ob : kf_Ob}, M[b]? = some ob → MA[b]? = some ob := fun h => GA.at (by simp) h
  obtain ⟨M1, k86, V1, l1, G1⟩ := f86 lA (sA g0) (sA g1)
  have o1 := G1.at (by simp) oA
  have gA := gO_of o1
  -- the ring and the queue
  have nG : ∀ (F : List Value) (L : kf_M), gO (M1.set 19 (oO 11 F) ++ L) 19 = some (11, F) := fun F L => gO_of (by rw [List.getElem?_append_left (by rw [List.length_set]; omega), List.getElem?_set_self (by omega)])
  have nS : ∀ (x y : kf_Ob) (L : kf_M), (M1.set 19 x ++ L).set 19 y = M1.set 19 y ++ L := fun x y L => by rw [List.set_append_left _ _ (by rw [List.length_set]; omega), List.set_set]
  have k42 := z42 (M := M1.set 19 (oO 11 [.ref 20, .ref 28, .ref 30, .ref 32, .null, .null, .null, .null, .null, .null, .null, .int 0, .int 0])) (n := 40) (by rw [List.length_set, l1]) (by decide)
  have k36 := z36 (M := M1.set 19 (oO 11 [.ref 20, .ref 28, .ref 30, .ref 32, .ref 40, .null, .null, .null, .null, .null, .null, .int 0, .int 0]) ++ rgL 40) (n := 102) (by rw [List.length_append, List.length_set, l1, rgL_len])
  simp only [List.append_assoc, List.cons_append, List.nil_append, Nat.reduceAdd] at k36
  obtain ⟨MB, eB⟩ : ∃ X, X = M1.set 19 (oO 11 [.ref 20, .ref 28, .ref 30, .ref 32, .ref 40, .ref 102, .null, .null, .null, .null, .null, .int 0, .int 0]) ++ (rgL 40 ++ [oO 5 [.ref 103, .int 0, .int 0], oR 3 (List.replicate 10 none)]) := ⟨_, rfl⟩
  have lB : MB.length = 104 := by rw [eB, List.length_append, List.length_set, l1, List.length_append, rgL_len]; rfl
  have GB : Gr [19] M1 MB := by
    rw [eB]
    exact (Off.set (M := M1) (by simp : 19 ∈ [19])).gr.tr Gr.app
  have atB : ∀ k, MB[40 + k]? = (rgL 40 ++ [oO 5 [.ref 103, .int 0, .int 0], oR 3 (List.replicate 10 none)])[k]? := fun k => by rw [eB, List.getElem?_append_right (by rw [List.length_set]; omega), List.length_set, l1, Nat.add_sub_cancel_left]
  have oB : MB[19]? = some (oO 11 [.ref 20, .ref 28, .ref 30, .ref 32, .ref 40, .ref 102, .null, .null, .null, .null, .null, .int 0, .int 0]) := by rw [eB, List.getElem?_append_left (by rw [List.length_set]; omega), List.getElem?_set_self (by omega)]
  have sB : ∀ {b : Nat} {ob : kf_Ob}, M[b]? = some ob → MB[b]? = some ob := fun {b ob} h => by
    have hb := (List.getElem?_eq_some_iff.mp h).1
    exact GB.at (by simp; omega) (G1.at (by simp) (sA h))
  obtain ⟨M2, k57, S2, J2, l2, G2⟩ := f57 lB (sB g2) (sB g3) (sB g4) (sB g5) (sB g6) (sB g7) (sB g8)
  have o2 := G2.at (by simp) oB
  have gB := gO_of o2
  -- the last
  have mG : ∀ (F : List Value) (L : kf_M), gO (M2.set 19 (oO 11 F) ++ L) 19 = some (11, F) := fun F L => gO_of (by rw [List.getElem?_append_left (by rw [List.length_set]; omega), List.getElem?_set_self (by omega)])
  have mS : ∀ (x y : kf_Ob) (L : kf_M), (M2.set 19 x ++ L).set 19 y = M2.set 19 y ++ L := fun x y L => by rw [List.set_append_left _ _ (by rw [List.length_set]; omega), List.set_set]
  have k24 := z24 (M := M2.set 19 (oO 11 [.ref 20, .ref 28, .ref 30, .ref 32, .ref 40, .ref 102, .ref 104, .null, .null, .null, .null, .int 0, .int 0])) (n := 278) (by rw [List.length_set, l2])
  simp only [Nat.reduceAdd] at k24
  obtain ⟨M3, e3⟩ : ∃ X, X = M2.set 19 (oO 11 (fobF 0 0)) ++ [oO 2 [.ref 279, .ref 280, .int 0], oI (List.replicate 8 0), oI (List.replicate 64 0), oI (List.replicate 32 0), oI (List.replicate 32 0), oI (List.replicate 32 0)] := ⟨_, rfl⟩
  rw [eA] at k86
  simp only [List.append_assoc, List.cons_append, List.nil_append, Nat.reduceAdd] at k86
  rw [eB] at k57
  simp only [List.append_assoc, List.cons_append, List.nil_append, Nat.reduceAdd] at k57
  have run : kf_cl 95 [.ref 19] (M ++ [oO 11 [.null, .null, .null, .null, .null, .null, .null, .null, .null, .null, .null, .int 0, .int 0]]) = some (none, M3) := by
    simp only [cl_95, e95_0, e95_1, e95_4, e95_5, e95_8, e95_9, e95_12, e95_15, e95_16, e95_19, e95_20, e95_23, e95_26, e95_29, e95_30, e95_33, e95_34, e95_37, e95_40, e95_43, e95_44, e95_47, e95_48, e95_51, e95_54, e95_55, e95_58, e95_59, e95_62, e95_65, e95_66, e95_69, e95_70, e95_73, e95_76, e95_77, e95_80, e95_81, e95_84, e95_87, e95_88, e95_91, e95_92, e95_95, e95_98, e95_99, e95_101, e95_103, e95_106, e95_107, e95_109, e95_111, e95_114, e95_115, e95_117, e95_119, e95_122, ow_95, Int32.reduceOfInt, Int32.reduceOfNat, Int32.reduceToNatClampNeg, Int32.reduceLT, Int32.reduceLE, Int32.reduceAdd, Int32.reduceSub, Int32.reduceMul, Int64.reduceOfNat, Int64.reduceOfInt, Nat.reduceLeDiff, Nat.reduceLT, Nat.reduceEqDiff, Nat.reduceSub, cs_0, cs_1, cs_2, cs_3, cs_4, cs_5, cs_6, cs_7, cs_8, or_false, false_or, not_false_eq_true, and_true, true_and, if_true, if_false, List.length_cons, List.length_nil, List.getElem?_cons_succ, List.getElem?_cons_zero, List.set_cons_succ, List.set_cons_zero, reduceIte, d_G, d_R, s_aload, s_aload_n, s_iload, s_iload_n, s_lload, s_lload_n, s_istore, s_istore_n, s_astore, s_astoreN, s_astore_n, s_astore_nN, s_lstore, s_lstore_n, s_iinc, s_iconst, s_bipush, s_sipush, s_lconst, s_ldc2_w, s_aconst_null, s_dupA, s_dupI, s_dup2, s_iadd, s_isub, s_imul, s_iand, s_ior, s_ixor, s_ishl, s_ishr, s_iushr, s_ineg, s_idiv, s_irem, s_ladd, s_lsub, s_lmul, s_land, s_lor, s_lxor, s_ldiv, s_lshl, s_lshr, s_lushr, s_i2l, s_l2i, s_lcmp, s_goto, s_ieq, s_ine, s_ilt, s_ige, s_igt, s_ile, s_zeq, s_zne, s_zlt, s_zge, s_zgt, s_zle, s_ifnull, s_ifnullN, s_ifnonnull, s_ifnonnullN, s_tableswitch, s_lookupswitch, s_getfield, s_putfield, s_getstatic, s_iaload, s_laload, s_baload, s_aaload, s_iastore, s_lastore, s_bastore, s_aastore, s_arraylength, s_newI, s_newJ, s_newZ, s_anewarray, s_new, s_copy, s_max, s_min, s_invokestatic, s_objinit, s_invokespecial, kf_isr_r, s_invokevirtual, s_ireturn, s_lreturn, s_areturn, s_areturnN, s_return, lI_0, lI_s, lJ_0, lJ_s, lA_0, lA_0N, lA_s, lS1_0, lS1_1, lS1_2, lS2_0, lS2_1, lS2_2, lK_n, lK_i, lK_j, lK_a, lK_N, d_C', kf_w_0, kf_w_i, kf_w_a, kf_w_n, kf_w_j, c_0, c_1, c_2, c_3, c_4, c_5, c_6, tl_0, tl_1, Option.bind_some, Option.bind_none, Option.map_some, Nat.reduceAdd, Nat.reduceMul, Nat.reduceDiv, Nat.reduceMod, Int.reduceToNat, Fin.val_zero, Fin.isValue, Fin.val_one, Fin.val_two, fv_0, fv_1, fv_2, fv_3, fw_0, fw_1, d_ite, true_or, or_true, and_false, false_and, or_self, and_self, kf_fit, nwf_2, nwf_5, nwf_6, nwf_7, nwf_8, nwf_9, nwf_10, List.append_assoc, List.cons_append, List.nil_append, List.length_append, List.length_set, hl, s1, s2, k66, k47a, k47b, k86, gA, l1, nG, nS, k42, rgL_len, k36, k57, gB, l2, mG, mS, k24, e3, fobF]
  have l3 : M3.length = 284 := by rw [e3, List.length_append, List.length_set, l2]; rfl
  have at3 : ∀ k, M3[278 + k]? = [oO 2 [.ref 279, .ref 280, .int 0], oI (List.replicate 8 0), oI (List.replicate 64 0), oI (List.replicate 32 0), oI (List.replicate 32 0), oI (List.replicate 32 0)][k]? := fun k => by rw [e3, List.getElem?_append_right (by rw [List.length_set]; omega), List.length_set, l2, Nat.add_sub_cancel_left]
  have G3 : Gr [19] M2 M3 := by
    rw [e3]
    exact (Off.set (M := M2) (by simp : 19 ∈ [19])).gr.tr Gr.app
  have GB3 : Gr [19] MB M3 := (G2.wk (by simp)).tr G3
  have G13 : Gr [19] M1 M3 := GB.tr GB3
  have GA3 : Gr [19] MA M3 := (G1.wk (by simp)).tr G13
  have G0 : Gr [] M M3 := fun b _ x hm => by
    have hb := (List.getElem?_eq_some_iff.mp hm).1
    exact GA3.at (by simp; omega) (sA hm)
  have sM : ∀ {b : Nat} {ob : kf_Ob}, M[b]? = some ob → M3[b]? = some ob := fun h => G0.at (by simp) h
  have cA : ∀ k, 1 ≤ k → ∀ ob, (oO 11 [.ref 20, .ref 28, .ref 30, .null, .null, .null, .null, .null, .null, .null, .null, .int 0, .int 0] :: [oO 9 [.ref 21, .ref 23, .ref 24, .ref 25, .ref 26, .ref 27, .int 0, .int 0], oO 7 [.ref 22, .int 0], oI (List.replicate 400 0), oI (List.replicate 24 0), oI (List.replicate 24 0), oI (List.replicate 24 0), oI (List.replicate 225 0), oI (List.replicate 225 0), oO 7 [.ref 29, .int 0], oI (List.replicate 200 0), oO 7 [.ref 31, .int 0], oI (List.replicate 200 0)])[k]? = some ob → M3[19 + k]? = some ob := fun k hk ob h => GA3.at (by simp; omega) ((atA k).trans h)
  have c19 : FbO M3 0 0 := by
    unfold FbO
    rw [e3, List.getElem?_append_left (by rw [List.length_set]; omega), List.getElem?_set_self (by omega)]
  have T3 : TJ M3 [] := ⟨_, _, _, _, _, 0, 0, ⟨cA 1 (by decide) _ rfl, cA 4 (by decide) _ rfl, cA 5 (by decide) _ rfl, cA 6 (by decide) _ rfl, cA 7 (by decide) _ rfl, cA 8 (by decide) _ rfl, List.length_replicate, List.length_replicate, List.length_replicate, List.length_replicate, List.length_replicate, Nat.zero_le _, Nat.zero_le _⟩, ⟨_, cA 2 (by decide) _ rfl, cA 3 (by decide) _ rfl, List.length_replicate, rfl⟩⟩
  have R3 : RowIs M3 28 200 [] := ⟨_, cA 9 (by decide) _ rfl, cA 10 (by decide) _ rfl, List.length_replicate, rfl⟩
  have D3 : RowIs M3 30 200 [] := ⟨_, cA 11 (by decide) _ rfl, cA 12 (by decide) _ rfl, List.length_replicate, rfl⟩
  have Rg : RgIs MB 40 0 ([42, 48, 54, 60, 66, 72, 78, 84, 90, 96].map some) := ⟨atB 0, atB 1, rfl, Nat.zero_le _⟩
  have Qu : QIs MB 102 0 0 (List.replicate 10 none) := ⟨atB 62, atB 63, rfl, Nat.le_refl _, Nat.zero_le _⟩
  have hσ : ∀ a ∈ [42, 48, 54, 60, 66, 72, 78, 84, 90, 96], ∃ j, j < 10 ∧ a = 42 + 6 * j := by
    intro a ha
    simp only [List.mem_cons, List.not_mem_nil, or_false] at ha
    rcases ha with h | h | h | h | h | h | h | h | h | h <;> subst h
    · exact ⟨0, by decide, rfl⟩
    · exact ⟨1, by decide, rfl⟩
    · exact ⟨2, by decide, rfl⟩
    · exact ⟨3, by decide, rfl⟩
    · exact ⟨4, by decide, rfl⟩
    · exact ⟨5, by decide, rfl⟩
    · exact ⟨6, by decide, rfl⟩
    · exact ⟨7, by decide, rfl⟩
    · exact ⟨8, by decide, rfl⟩
    · exact ⟨9, by decide, rfl⟩
  have dst : ∀ i, i < 10 → ∀ j, j < 10 → i ≠ j → [42, 48, 54, 60, 66, 72, 78, 84, 90, 96].getD i 0 ≠ [42, 48, 54, 60, 66, 72, 78, 84, 90, 96].getD j 0 := by decide
  have Kb : KS MB [42, 48, 54, 60, 66, 72, 78, 84, 90, 96] [] := ⟨rfl, fun i j hi hj => dst i hi j hj, hσ, fun a ha => by
    obtain ⟨j, hj, e⟩ := hσ a ha
    rw [e]
    exact kyL_ok atB hj, (fun j k hk => by cases hk), Nat.zero_le _⟩
  refine ⟨M3, run, ⟨0, [42, 48, 54, 60, 66, 72, 78, 84, 90, 96], [], List.replicate 32 0, List.replicate 32 0, List.replicate 32 0, ⟨⟨sM g0, sM g1⟩, sM g9, sM g10, sM g11⟩, c19, ⟨T3, isB_nil⟩, ⟨R3, isB_nil⟩, D3, V1.gr G13 (by decide), Rg.gr GB3 (by decide) (by decide), Kb.gr GB3 (by decide), ⟨0, 0, _, Qu.gr GB3 (by decide) (by decide), rfl, fun i w hw => by cases hw⟩, S2.gr G3 (by decide), hash_new (at3 0) (at3 1) (at3 2), ⟨at3 3, List.length_replicate⟩, ⟨at3 4, List.length_replicate⟩, ⟨at3 5, List.length_replicate⟩, CW0, Or.inl rfl⟩, ?_, fun j hj => (kyL_ok atB hj).gr GB3 (fun x hx => by simp at hx; omega), l3, G0⟩
  exact (J2 0 (by decide)).gr G3 (by decide) (by decide) (by decide) (by decide)
end VCON
