/-! The class: usePin -/
theorem nI_b {c : Nat} (h : c < 256) : nI c &&& 255 = nI c := by rw [pk_andN (by omega) (m := 255) 8 rfl, Nat.mod_eq_of_lt (by omega)]
section CPIN
variable {M : kf_M} {fl tc : Int32} {ou da : List Int32} {V : Vs} {σ : List Nat} {rn : Nat} {ks : List Ky} {wt : List Nat} {hs sd wd : List Int32} {G : Gs} {cs K S Z I J : List Int32} {it pl : Nat} {m : PM}
def pinO (cs : List Int32) (m : PM) (V : Vs) : List Int32 := if pinA cs m V = 0 then (if numOf m 1 = 1 then [161, 1, V.2.2.2.2.1] else if numOf m 1 = 4 then [161, 2, 88, 32] ++ V.2.2.1 else []) else []
def pinW (cs : List Int32) (m : PM) (V : Vs) : Vs := if pinA cs m V = 0 ∧ (numOf m 1 = 2 ∨ numOf m 1 = 3) then (V.1, rowOf cs m 3, frs V.1 V.2.2.2.1, V.2.2.2.1 + 1, (pinV cs m V).2.2.2.2.1, (pinV cs m V).2.2.2.2.2.1, 1) else pinV cs m V
theorem pinV_id {cs : List Int32} {m : PM} {V : Vs} : (pinV cs m V).1 = V.1 ∧ (pinV cs m V).2.1 = V.2.1 ∧ (pinV cs m V).2.2.1 = V.2.2.1 ∧ (pinV cs m V).2.2.2.1 = V.2.2.2.1 ∧ (pinV cs m V).2.2.2.2.2.2 = V.2.2.2.2.2.2 := by
  unfold pinV
  split
  · exact ⟨rfl, rfl, rfl, rfl, rfl⟩
  · split
    · exact ⟨rfl, rfl, rfl, rfl, rfl⟩
    · split
      · exact ⟨rfl, rfl, rfl, rfl, rfl⟩
      · exact ⟨rfl, rfl, rfl, rfl, rfl⟩
def A116 : List Nat := [28, 29, 32, 33, 34, 35, 37, 39]
theorem isB_lit {xs : List Int32} (h : xs.all (fun x => decide (uw x < 256)) = true) : isB xs := by
  intro x hx
  have := of_decide_eq_true (List.all_eq_true.mp h x hx)
  exact ⟨uw x, this, uw_inj (by rw [uw_nI (by omega)])⟩
set_option maxHeartbeats 4000000 in
theorem C116 (h : TT M cs K S Z I J it pl) (hR : TR K S Z I J it m) (ho : okM cs m) (hf : fltS m tbP = 0) (bcs : isB cs) (hE : CE M fl tc [] da V σ rn ks wt hs sd wd G) : ∃ M', kf_cl 116 [.ref 19] M = some (some (.int (pinA cs m V)), M') ∧ CE M' fl tc (pinO cs m V) da (pinW cs m V) σ rn ks wt hs sd wd G ∧ isB (pinO cs m V) ∧ TT M' cs K S Z I J it pl ∧ Off A116 M M' := by
  obtain ⟨M1, k1, E1, T1, o1⟩ := C117 h hR ho hf hE
  have g0 := gO_of hE.2.1
  have rc0 : kf_rcv M 11 (some (.ref 19)) = true := hE.2.1.rc
  have rcT := h.1.rc
  have p1_ := (flt_e hf (e := (1, 1, 1, 0, 0)) (by decide)).2.1 rfl
  obtain ⟨v, v1, v2⟩ := kdm_some p1_
  have v1 : m.getD 1 none = some v := v1
  have en : numOf m 1 = v.2.2.1 := by unfold numOf; rw [v1]
  have ks1 := siz_k (n := 1) h hR (by decide) v1
  rw [← en, show nI 1 = 1 from rfl] at ks1
  obtain ⟨i1, i2, i3, i4, i5⟩ := pinV_id (cs := cs) (m := m) (V := V)
  have z1 : ¬ (1 : Int32) = 0 := by decide
  have V0 := hE.2.2.2.2.1
  by_cases cA : pinA cs m V = 0
  case neg =>
    have eO : pinO cs m V = [] := by unfold pinO; rw [if_neg cA]
    have eW : pinW cs m V = pinV cs m V := by unfold pinW; rw [if_neg (fun w => cA w.1)]
    rw [eO, eW]
    refine ⟨M1, ?_, E1, (fun x hx => by cases hx), T1, o1.wk (by decide)⟩
    simp only [cl_116, e116_0, e116_1, e116_4, e116_5, e116_8, e116_9, e116_10, e116_11, e116_14, e116_15, e116_16, e116_19, e116_20, e116_21, e116_22, e116_48, e116_49, e116_52, e116_53, e116_56, e116_57, e116_60, e116_61, e116_62, e116_65, e116_68, e116_71, e116_74, e116_75, e116_78, e116_79, e116_82, e116_83, e116_86, e116_87, e116_88, e116_91, e116_94, e116_96, e116_99, e116_102, e116_103, e116_106, e116_107, e116_110, e116_111, e116_114, e116_115, ow_116, Int32.reduceOfInt, Int32.reduceOfNat, Int32.reduceToNatClampNeg, Int32.reduceLT, Int32.reduceLE, Int32.reduceAdd, Int32.reduceSub, Int32.reduceMul, Int64.reduceOfNat, Int64.reduceOfInt, Nat.reduceLeDiff, Nat.reduceLT, Nat.reduceEqDiff, Nat.reduceSub, cs_0, cs_1, cs_2, cs_3, cs_4, cs_5, cs_6, cs_7, cs_8, or_false, false_or, not_false_eq_true, and_true, true_and, if_true, if_false, List.length_cons, List.length_nil, List.getElem?_cons_succ, List.getElem?_cons_zero, List.set_cons_succ, List.set_cons_zero, reduceIte, d_G, d_R, s_aload, s_aload_n, s_iload, s_iload_n, s_lload, s_lload_n, s_istore, s_istore_n, s_astore, s_astoreN, s_astore_n, s_astore_nN, s_lstore, s_lstore_n, s_iinc, s_iconst, s_bipush, s_sipush, s_lconst, s_ldc2_w, s_aconst_null, s_dupA, s_dupI, s_dup2, s_iadd, s_isub, s_imul, s_iand, s_ior, s_ixor, s_ishl, s_ishr, s_iushr, s_ineg, s_idiv, s_irem, s_ladd, s_lsub, s_lmul, s_land, s_lor, s_lxor, s_ldiv, s_lshl, s_lshr, s_lushr, s_i2l, s_l2i, s_lcmp, s_goto, s_ieq, s_ine, s_ilt, s_ige, s_igt, s_ile, s_zeq, s_zne, s_zlt, s_zge, s_zgt, s_zle, s_ifnull, s_ifnullN, s_ifnonnull, s_ifnonnullN, s_tableswitch, s_lookupswitch, s_getfield, s_putfield, s_getstatic, s_iaload, s_laload, s_baload, s_aaload, s_iastore, s_lastore, s_bastore, s_aastore, s_arraylength, s_newI, s_newJ, s_newZ, s_anewarray, s_new, s_copy, s_max, s_min, s_invokestatic, s_objinit, s_invokespecial, kf_isr_r, s_invokevirtual, s_ireturn, s_lreturn, s_areturn, s_areturnN, s_return, lI_0, lI_s, lJ_0, lJ_s, lA_0, lA_0N, lA_s, lS1_0, lS1_1, lS1_2, lS2_0, lS2_1, lS2_2, lK_n, lK_i, lK_j, lK_a, lK_N, d_C', kf_w_0, kf_w_i, kf_w_a, kf_w_n, kf_w_j, c_0, c_1, c_2, c_3, c_4, c_5, c_6, tl_0, tl_1, Option.bind_some, Option.bind_none, Option.map_some, Nat.reduceAdd, Nat.reduceMul, Nat.reduceDiv, Nat.reduceMod, Int.reduceToNat, Fin.val_zero, Fin.isValue, Fin.val_one, Fin.val_two, fv_0, fv_1, fv_2, fv_3, fw_0, fw_1, d_ite, true_or, or_true, and_false, false_and, or_self, and_self, ow_71, ow_117, fobF, g0, rc0, rcT, ks1, k1, cA]
  rw [cA] at k1 ⊢
  obtain ⟨b1, b2, b4, b5, b6, b7, b8, b9, b10, b11, b12, b13, b14⟩ := E1
  have g1 := gO_of b2
  have gv1 := gO_of b6.1.1
  have rr := b4.rc
  -- the kind lies in 1 .. 4
  have kc : numOf m 1 = 1 ∨ numOf m 1 = 2 ∨ numOf m 1 = 3 ∨ numOf m 1 = 4 := by
    apply Classical.byContradiction
    intro w
    have : pinA cs m V = 2 := by unfold pinA; rw [if_pos (by omega)]
    rw [this] at cA
    exact absurd cA (by decide)
  have setp : numOf m 1 = 2 ∨ numOf m 1 = 3 → ∃ M', kf_cl 90 [.ref 32, .ref 20, .int 3] M1 = some (none, M') ∧ CE M' fl tc [] da (pinW cs m V) σ rn ks wt hs sd wd G ∧ TT M' cs K S Z I J it pl ∧ Off [32, 33, 34, 35, 37, 39] M1 M' := by
    intro q
    have q3 : kdm m 3 ≠ 0 := by
      intro w
      have : pinA cs m V = 20 := by unfold pinA; rw [if_neg (by omega), if_pos (by omega)]
      rw [this] at cA
      exact absurd cA (by decide)
    obtain ⟨x, x1, x2, x3, x4⟩ := flt_r hf (e := (3, 2, 0, 16, 16)) (by decide) (Or.inl rfl) q3
    have x1 : m.getD 3 none = some x := x1
    have x2 : x.1 = 2 := x2
    have x3 : 16 ≤ x.2.2.1 := x3
    have x4 : x.2.2.1 ≤ 16 := x4
    have hz : x.2.2.1 = 16 := by omega
    have er : rowOf cs m 3 = (cs.drop x.2.1).take 16 := by
      unfold rowOf
      rw [x1, ← hz]
    obtain ⟨M2, k2, V2, T2, o2⟩ := t90 T1 hR ho b6.1 b1.1 (by decide) x1 x2 hz
    rw [show nI 3 = 3 from rfl] at k2
    have eW : pinW cs m V = (V.1, rowOf cs m 3, frs V.1 V.2.2.2.1, V.2.2.2.1 + 1, (pinV cs m V).2.2.2.2.1, (pinV cs m V).2.2.2.2.2.1, 1) := by unfold pinW; rw [if_pos ⟨cA, q⟩]
    rw [← er] at V2
    rw [i1, i4] at V2
    rw [eW]
    have br : isB (rowOf cs m 3) := by
      rw [er]
      exact isB_sub bcs (fun _ w => List.mem_of_mem_drop (List.mem_of_mem_take w))
    exact ⟨M2, k2, ⟨b1.off o2 (by decide), b2.off o2 (by decide), b4.off o2 (by decide) (by decide), b5.off o2 (by decide) (by decide), ⟨V2, by rw [← i1]; exact b6.2.1, br, isB_frs, Or.inr rfl, b6.2.2.2.2.2⟩, b7.off o2 (by decide) (by decide), b8.off o2 (by decide), b9.off o2 (by decide) (by decide), b10.off o2 (by decide), b11.off o2 (by decide) (by decide) (by decide), b12.off o2 (by decide), b13.off o2 (by decide), b14.off o2 (by decide)⟩, T2, o2⟩
  rcases kc with k_ | k_ | k_ | k_
  · -- tries
    obtain ⟨M2, k2, r2, o2⟩ := c54 (x := 1) b4 (by decide) (by decide) (by decide)
    have g2 := gO_of (b2.off o2 (by decide))
    have V2 := b6.off o2 (by decide)
    have gv2 := gO_of V2.1.1
    have rr2 := r2.rc
    obtain ⟨M3, k3, r3, o3⟩ := c55 (x := 1) (y := (pinV cs m V).2.2.2.2.1) r2 (by decide) (by decide) (by decide)
    have ev : pinV cs m V = V := by unfold pinV; rw [if_neg (by omega), if_neg (by omega), if_neg (by omega)]
    rw [ev] at k3 r3 gv2
    obtain ⟨j, j1, j2⟩ := V0.2.2.2.2.2
    have eO : pinO cs m V = [161, 1, V.2.2.2.2.1] := by unfold pinO; rw [if_pos cA, if_pos k_]
    have er : ([] ++ [((160 : Int32) + 1) &&& 255] ++ [(1 : Int32) &&& 255, V.2.2.2.2.1 &&& 255] : List Int32) = [161, 1, V.2.2.2.2.1] := by
      rw [j2, nI_b (by omega)]
      rfl
    rw [er] at r3
    have eW : pinW cs m V = V := by unfold pinW; rw [if_neg (by omega)]; exact ev
    rw [eO, eW]
    rw [ev] at b6
    have oo : Off [28, 29] M1 M3 := o2.tr o3
    have T3 := T1.vt oo (by decide)
    have lsw : ∀ (ls : kf_L) (r : List Value) (M : kf_M), kf_do kf_ev kf_mx 116 (aG (Op.lookupswitch.offset (#[(1, 48), (4, 74)] : Array (Int × Int)).toList 102 (nI 1).toInt).toNat ls r M) = kf_ev 116 48 ls r M := fun _ _ _ => rfl
    refine ⟨M3, ?_, ⟨b1.off oo (by decide), b2.off oo (by decide), r3, b5.off oo (by decide) (by decide), b6.off oo (by decide), b7.off oo (by decide) (by decide), b8.off oo (by decide), b9.off oo (by decide) (by decide), b10.off oo (by decide), b11.off oo (by decide) (by decide) (by decide), b12.off oo (by decide), b13.off oo (by decide), b14.off oo (by decide)⟩, ?_, T3, (o1.wk (by decide)).tr (oo.wk (by decide))⟩
    · rw [k_] at ks1 k1
      simp only [cl_116, e116_0, e116_1, e116_4, e116_5, e116_8, e116_9, e116_10, e116_11, e116_14, e116_15, e116_16, e116_19, e116_20, e116_21, e116_22, e116_48, e116_49, e116_52, e116_53, e116_56, e116_57, e116_60, e116_61, e116_62, e116_65, e116_68, e116_71, e116_74, e116_75, e116_78, e116_79, e116_82, e116_83, e116_86, e116_87, e116_88, e116_91, e116_94, e116_96, e116_99, e116_102, e116_103, e116_106, e116_107, e116_110, e116_111, e116_114, e116_115, ow_116, Int32.reduceOfInt, Int32.reduceOfNat, Int32.reduceToNatClampNeg, Int32.reduceLT, Int32.reduceLE, Int32.reduceAdd, Int32.reduceSub, Int32.reduceMul, Int64.reduceOfNat, Int64.reduceOfInt, Nat.reduceLeDiff, Nat.reduceLT, Nat.reduceEqDiff, Nat.reduceSub, cs_0, cs_1, cs_2, cs_3, cs_4, cs_5, cs_6, cs_7, cs_8, or_false, false_or, not_false_eq_true, and_true, true_and, if_true, if_false, List.length_cons, List.length_nil, List.getElem?_cons_succ, List.getElem?_cons_zero, List.set_cons_succ, List.set_cons_zero, reduceIte, d_G, d_R, s_aload, s_aload_n, s_iload, s_iload_n, s_lload, s_lload_n, s_istore, s_istore_n, s_astore, s_astoreN, s_astore_n, s_astore_nN, s_lstore, s_lstore_n, s_iinc, s_iconst, s_bipush, s_sipush, s_lconst, s_ldc2_w, s_aconst_null, s_dupA, s_dupI, s_dup2, s_iadd, s_isub, s_imul, s_iand, s_ior, s_ixor, s_ishl, s_ishr, s_iushr, s_ineg, s_idiv, s_irem, s_ladd, s_lsub, s_lmul, s_land, s_lor, s_lxor, s_ldiv, s_lshl, s_lshr, s_lushr, s_i2l, s_l2i, s_lcmp, s_goto, s_ieq, s_ine, s_ilt, s_ige, s_igt, s_ile, s_zeq, s_zne, s_zlt, s_zge, s_zgt, s_zle, s_ifnull, s_ifnullN, s_ifnonnull, s_ifnonnullN, s_tableswitch, s_lookupswitch, s_getfield, s_putfield, s_getstatic, s_iaload, s_laload, s_baload, s_aaload, s_iastore, s_lastore, s_bastore, s_aastore, s_arraylength, s_newI, s_newJ, s_newZ, s_anewarray, s_new, s_copy, s_max, s_min, s_invokestatic, s_objinit, s_invokespecial, kf_isr_r, s_invokevirtual, s_ireturn, s_lreturn, s_areturn, s_areturnN, s_return, lI_0, lI_s, lJ_0, lJ_s, lA_0, lA_0N, lA_s, lS1_0, lS1_1, lS1_2, lS2_0, lS2_1, lS2_2, lK_n, lK_i, lK_j, lK_a, lK_N, d_C', kf_w_0, kf_w_i, kf_w_a, kf_w_n, kf_w_j, c_0, c_1, c_2, c_3, c_4, c_5, c_6, tl_0, tl_1, Option.bind_some, Option.bind_none, Option.map_some, Nat.reduceAdd, Nat.reduceMul, Nat.reduceDiv, Nat.reduceMod, Int.reduceToNat, Fin.val_zero, Fin.isValue, Fin.val_one, Fin.val_two, fv_0, fv_1, fv_2, fv_3, fw_0, fw_1, d_ite, true_or, or_true, and_false, false_and, or_self, and_self, ow_71, ow_117, ow_54, ow_55, fobF, g0, rc0, rcT, ks1, k1, lsw, g1, rr, k2, g2, gv2, rr2, k3]
    · intro y hy
      simp only [List.mem_cons, List.not_mem_nil, or_false] at hy
      rcases hy with rfl | rfl | rfl
      · exact ⟨161, by decide, rfl⟩
      · exact ⟨1, by decide, rfl⟩
      · exact ⟨j, by omega, j2⟩
  · obtain ⟨M2, k2, E2, T2, o2⟩ := setp (Or.inl k_)
    have eO : pinO cs m V = [] := by unfold pinO; rw [if_pos cA, if_neg (by omega), if_neg (by omega)]
    rw [eO]
    have rv := b6.1.rc
    have lsw : ∀ (ls : kf_L) (r : List Value) (M : kf_M), kf_do kf_ev kf_mx 116 (aG (Op.lookupswitch.offset (#[(1, 48), (4, 74)] : Array (Int × Int)).toList 102 (nI 2).toInt).toNat ls r M) = kf_ev 116 102 ls r M := fun _ _ _ => rfl
    refine ⟨M2, ?_, E2, (fun x hx => by cases hx), T2, (o1.wk (by decide)).tr (o2.wk (by decide))⟩
    rw [k_] at ks1 k1
    simp only [cl_116, e116_0, e116_1, e116_4, e116_5, e116_8, e116_9, e116_10, e116_11, e116_14, e116_15, e116_16, e116_19, e116_20, e116_21, e116_22, e116_48, e116_49, e116_52, e116_53, e116_56, e116_57, e116_60, e116_61, e116_62, e116_65, e116_68, e116_71, e116_74, e116_75, e116_78, e116_79, e116_82, e116_83, e116_86, e116_87, e116_88, e116_91, e116_94, e116_96, e116_99, e116_102, e116_103, e116_106, e116_107, e116_110, e116_111, e116_114, e116_115, ow_116, Int32.reduceOfInt, Int32.reduceOfNat, Int32.reduceToNatClampNeg, Int32.reduceLT, Int32.reduceLE, Int32.reduceAdd, Int32.reduceSub, Int32.reduceMul, Int64.reduceOfNat, Int64.reduceOfInt, Nat.reduceLeDiff, Nat.reduceLT, Nat.reduceEqDiff, Nat.reduceSub, cs_0, cs_1, cs_2, cs_3, cs_4, cs_5, cs_6, cs_7, cs_8, or_false, false_or, not_false_eq_true, and_true, true_and, if_true, if_false, List.length_cons, List.length_nil, List.getElem?_cons_succ, List.getElem?_cons_zero, List.set_cons_succ, List.set_cons_zero, reduceIte, d_G, d_R, s_aload, s_aload_n, s_iload, s_iload_n, s_lload, s_lload_n, s_istore, s_istore_n, s_astore, s_astoreN, s_astore_n, s_astore_nN, s_lstore, s_lstore_n, s_iinc, s_iconst, s_bipush, s_sipush, s_lconst, s_ldc2_w, s_aconst_null, s_dupA, s_dupI, s_dup2, s_iadd, s_isub, s_imul, s_iand, s_ior, s_ixor, s_ishl, s_ishr, s_iushr, s_ineg, s_idiv, s_irem, s_ladd, s_lsub, s_lmul, s_land, s_lor, s_lxor, s_ldiv, s_lshl, s_lshr, s_lushr, s_i2l, s_l2i, s_lcmp, s_goto, s_ieq, s_ine, s_ilt, s_ige, s_igt, s_ile, s_zeq, s_zne, s_zlt, s_zge, s_zgt, s_zle, s_ifnull, s_ifnullN, s_ifnonnull, s_ifnonnullN, s_tableswitch, s_lookupswitch, s_getfield, s_putfield, s_getstatic, s_iaload, s_laload, s_baload, s_aaload, s_iastore, s_lastore, s_bastore, s_aastore, s_arraylength, s_newI, s_newJ, s_newZ, s_anewarray, s_new, s_copy, s_max, s_min, s_invokestatic, s_objinit, s_invokespecial, kf_isr_r, s_invokevirtual, s_ireturn, s_lreturn, s_areturn, s_areturnN, s_return, lI_0, lI_s, lJ_0, lJ_s, lA_0, lA_0N, lA_s, lS1_0, lS1_1, lS1_2, lS2_0, lS2_1, lS2_2, lK_n, lK_i, lK_j, lK_a, lK_N, d_C', kf_w_0, kf_w_i, kf_w_a, kf_w_n, kf_w_j, c_0, c_1, c_2, c_3, c_4, c_5, c_6, tl_0, tl_1, Option.bind_some, Option.bind_none, Option.map_some, Nat.reduceAdd, Nat.reduceMul, Nat.reduceDiv, Nat.reduceMod, Int.reduceToNat, Fin.val_zero, Fin.isValue, Fin.val_one, Fin.val_two, fv_0, fv_1, fv_2, fv_3, fw_0, fw_1, d_ite, true_or, or_true, and_false, false_and, or_self, and_self, ow_71, ow_117, ow_90, fobF, g0, rc0, rcT, ks1, k1, lsw, g1, rv, k2]
  · obtain ⟨M2, k2, E2, T2, o2⟩ := setp (Or.inr k_)
    have eO : pinO cs m V = [] := by unfold pinO; rw [if_pos cA, if_neg (by omega), if_neg (by omega)]
    rw [eO]
    have rv := b6.1.rc
    have lsw : ∀ (ls : kf_L) (r : List Value) (M : kf_M), kf_do kf_ev kf_mx 116 (aG (Op.lookupswitch.offset (#[(1, 48), (4, 74)] : Array (Int × Int)).toList 102 (nI 3).toInt).toNat ls r M) = kf_ev 116 102 ls r M := fun _ _ _ => rfl
    refine ⟨M2, ?_, E2, (fun x hx => by cases hx), T2, (o1.wk (by decide)).tr (o2.wk (by decide))⟩
    rw [k_] at ks1 k1
    simp only [cl_116, e116_0, e116_1, e116_4, e116_5, e116_8, e116_9, e116_10, e116_11, e116_14, e116_15, e116_16, e116_19, e116_20, e116_21, e116_22, e116_48, e116_49, e116_52, e116_53, e116_56, e116_57, e116_60, e116_61, e116_62, e116_65, e116_68, e116_71, e116_74, e116_75, e116_78, e116_79, e116_82, e116_83, e116_86, e116_87, e116_88, e116_91, e116_94, e116_96, e116_99, e116_102, e116_103, e116_106, e116_107, e116_110, e116_111, e116_114, e116_115, ow_116, Int32.reduceOfInt, Int32.reduceOfNat, Int32.reduceToNatClampNeg, Int32.reduceLT, Int32.reduceLE, Int32.reduceAdd, Int32.reduceSub, Int32.reduceMul, Int64.reduceOfNat, Int64.reduceOfInt, Nat.reduceLeDiff, Nat.reduceLT, Nat.reduceEqDiff, Nat.reduceSub, cs_0, cs_1, cs_2, cs_3, cs_4, cs_5, cs_6, cs_7, cs_8, or_false, false_or, not_false_eq_true, and_true, true_and, if_true, if_false, List.length_cons, List.length_nil, List.getElem?_cons_succ, List.getElem?_cons_zero, List.set_cons_succ, List.set_cons_zero, reduceIte, d_G, d_R, s_aload, s_aload_n, s_iload, s_iload_n, s_lload, s_lload_n, s_istore, s_istore_n, s_astore, s_astoreN, s_astore_n, s_astore_nN, s_lstore, s_lstore_n, s_iinc, s_iconst, s_bipush, s_sipush, s_lconst, s_ldc2_w, s_aconst_null, s_dupA, s_dupI, s_dup2, s_iadd, s_isub, s_imul, s_iand, s_ior, s_ixor, s_ishl, s_ishr, s_iushr, s_ineg, s_idiv, s_irem, s_ladd, s_lsub, s_lmul, s_land, s_lor, s_lxor, s_ldiv, s_lshl, s_lshr, s_lushr, s_i2l, s_l2i, s_lcmp, s_goto, s_ieq, s_ine, s_ilt, s_ige, s_igt, s_ile, s_zeq, s_zne, s_zlt, s_zge, s_zgt, s_zle, s_ifnull, s_ifnullN, s_ifnonnull, s_ifnonnullN, s_tableswitch, s_lookupswitch, s_getfield, s_putfield, s_getstatic, s_iaload, s_laload, s_baload, s_aaload, s_iastore, s_lastore, s_bastore, s_aastore, s_arraylength, s_newI, s_newJ, s_newZ, s_anewarray, s_new, s_copy, s_max, s_min, s_invokestatic, s_objinit, s_invokespecial, kf_isr_r, s_invokevirtual, s_ireturn, s_lreturn, s_areturn, s_areturnN, s_return, lI_0, lI_s, lJ_0, lJ_s, lA_0, lA_0N, lA_s, lS1_0, lS1_1, lS1_2, lS2_0, lS2_1, lS2_2, lK_n, lK_i, lK_j, lK_a, lK_N, d_C', kf_w_0, kf_w_i, kf_w_a, kf_w_n, kf_w_j, c_0, c_1, c_2, c_3, c_4, c_5, c_6, tl_0, tl_1, Option.bind_some, Option.bind_none, Option.map_some, Nat.reduceAdd, Nat.reduceMul, Nat.reduceDiv, Nat.reduceMod, Int.reduceToNat, Fin.val_zero, Fin.isValue, Fin.val_one, Fin.val_two, fv_0, fv_1, fv_2, fv_3, fw_0, fw_1, d_ite, true_or, or_true, and_false, false_and, or_self, and_self, ow_71, ow_117, ow_90, fobF, g0, rc0, rcT, ks1, k1, lsw, g1, rv, k2]
  · -- the token
    obtain ⟨M2, k2, r2, o2⟩ := c54 (x := 1) b4 (by decide) (by decide) (by decide)
    have g2 := gO_of (b2.off o2 (by decide))
    have V2 := b6.off o2 (by decide)
    have gv2 := gO_of V2.1.1
    have rr2 := r2.rc
    have tk2 := V2.1.2.2.2.2.1
    rw [i3] at tk2
    obtain ⟨M3, k3, r3, o3⟩ := c56 (b := 39) (n := 32) (x := 2) r2 (by decide) tk2.1 (by decide) (by decide) (by rw [tk2.2]; decide) (by rw [tk2.2]; decide) (by decide) (by decide)
    rw [List.take_of_length_le (by rw [tk2.2]; decide)] at r3
    rw [show nI 32 = 32 from rfl] at k3
    have eO : pinO cs m V = [161, 2, 88, 32] ++ V.2.2.1 := by unfold pinO; rw [if_pos cA, if_neg (by omega), if_pos k_]
    have er : ([] ++ [((160 : Int32) + 1) &&& 255] ++ ([(2 : Int32) &&& 255] ++ rowHead 32 ++ V.2.2.1) : List Int32) = [161, 2, 88, 32] ++ V.2.2.1 := rfl
    rw [er] at r3
    have eW : pinW cs m V = pinV cs m V := by unfold pinW; rw [if_neg (by omega)]
    rw [eO, eW]
    have oo : Off [28, 29] M1 M3 := o2.tr o3
    have T3 := T1.vt oo (by decide)
    have lsw : ∀ (ls : kf_L) (r : List Value) (M : kf_M), kf_do kf_ev kf_mx 116 (aG (Op.lookupswitch.offset (#[(1, 48), (4, 74)] : Array (Int × Int)).toList 102 (nI 4).toInt).toNat ls r M) = kf_ev 116 74 ls r M := fun _ _ _ => rfl
    refine ⟨M3, ?_, ⟨b1.off oo (by decide), b2.off oo (by decide), r3, b5.off oo (by decide) (by decide), b6.off oo (by decide), b7.off oo (by decide) (by decide), b8.off oo (by decide), b9.off oo (by decide) (by decide), b10.off oo (by decide), b11.off oo (by decide) (by decide) (by decide), b12.off oo (by decide), b13.off oo (by decide), b14.off oo (by decide)⟩, isB_app (isB_lit (by decide)) V0.2.2.2.1, T3, (o1.wk (by decide)).tr (oo.wk (by decide))⟩
    rw [k_] at ks1 k1
    simp only [cl_116, e116_0, e116_1, e116_4, e116_5, e116_8, e116_9, e116_10, e116_11, e116_14, e116_15, e116_16, e116_19, e116_20, e116_21, e116_22, e116_48, e116_49, e116_52, e116_53, e116_56, e116_57, e116_60, e116_61, e116_62, e116_65, e116_68, e116_71, e116_74, e116_75, e116_78, e116_79, e116_82, e116_83, e116_86, e116_87, e116_88, e116_91, e116_94, e116_96, e116_99, e116_102, e116_103, e116_106, e116_107, e116_110, e116_111, e116_114, e116_115, ow_116, Int32.reduceOfInt, Int32.reduceOfNat, Int32.reduceToNatClampNeg, Int32.reduceLT, Int32.reduceLE, Int32.reduceAdd, Int32.reduceSub, Int32.reduceMul, Int64.reduceOfNat, Int64.reduceOfInt, Nat.reduceLeDiff, Nat.reduceLT, Nat.reduceEqDiff, Nat.reduceSub, cs_0, cs_1, cs_2, cs_3, cs_4, cs_5, cs_6, cs_7, cs_8, or_false, false_or, not_false_eq_true, and_true, true_and, if_true, if_false, List.length_cons, List.length_nil, List.getElem?_cons_succ, List.getElem?_cons_zero, List.set_cons_succ, List.set_cons_zero, reduceIte, d_G, d_R, s_aload, s_aload_n, s_iload, s_iload_n, s_lload, s_lload_n, s_istore, s_istore_n, s_astore, s_astoreN, s_astore_n, s_astore_nN, s_lstore, s_lstore_n, s_iinc, s_iconst, s_bipush, s_sipush, s_lconst, s_ldc2_w, s_aconst_null, s_dupA, s_dupI, s_dup2, s_iadd, s_isub, s_imul, s_iand, s_ior, s_ixor, s_ishl, s_ishr, s_iushr, s_ineg, s_idiv, s_irem, s_ladd, s_lsub, s_lmul, s_land, s_lor, s_lxor, s_ldiv, s_lshl, s_lshr, s_lushr, s_i2l, s_l2i, s_lcmp, s_goto, s_ieq, s_ine, s_ilt, s_ige, s_igt, s_ile, s_zeq, s_zne, s_zlt, s_zge, s_zgt, s_zle, s_ifnull, s_ifnullN, s_ifnonnull, s_ifnonnullN, s_tableswitch, s_lookupswitch, s_getfield, s_putfield, s_getstatic, s_iaload, s_laload, s_baload, s_aaload, s_iastore, s_lastore, s_bastore, s_aastore, s_arraylength, s_newI, s_newJ, s_newZ, s_anewarray, s_new, s_copy, s_max, s_min, s_invokestatic, s_objinit, s_invokespecial, kf_isr_r, s_invokevirtual, s_ireturn, s_lreturn, s_areturn, s_areturnN, s_return, lI_0, lI_s, lJ_0, lJ_s, lA_0, lA_0N, lA_s, lS1_0, lS1_1, lS1_2, lS2_0, lS2_1, lS2_2, lK_n, lK_i, lK_j, lK_a, lK_N, d_C', kf_w_0, kf_w_i, kf_w_a, kf_w_n, kf_w_j, c_0, c_1, c_2, c_3, c_4, c_5, c_6, tl_0, tl_1, Option.bind_some, Option.bind_none, Option.map_some, Nat.reduceAdd, Nat.reduceMul, Nat.reduceDiv, Nat.reduceMod, Int.reduceToNat, Fin.val_zero, Fin.isValue, Fin.val_one, Fin.val_two, fv_0, fv_1, fv_2, fv_3, fw_0, fw_1, d_ite, true_or, or_true, and_false, false_and, or_self, and_self, ow_71, ow_117, ow_54, ow_56, fobF, g0, rc0, rcT, ks1, k1, lsw, g1, rr, k2, g2, gv2, rr2, k3]
end CPIN
