/-! The class: readHouse, find, renew -/
section CMK
variable {M : kf_M} {fl tc : Int32} {ou da : List Int32} {V : Vs} {σ : List Nat} {rn : Nat} {ks : List Ky} {wt : List Nat} {hs sd wd : List Int32} {G : Gs} {cs K S Z I J : List Int32} {it pl : Nat} {m : PM}
theorem rowOf_eq {k : Nat} {v : PV} (h : m.getD k none = some v) : rowOf cs m k = (cs.drop v.2.1).take v.2.2.1 := by unfold rowOf; rw [h]
theorem rowOf_b {k : Nat} (hb : isB cs) : isB (rowOf cs m k) := by
  unfold rowOf
  cases m.getD k none with
  | none => intro x hx; cases hx
  | some v => exact isB_sub hb (fun _ w => List.mem_of_mem_drop (List.mem_of_mem_take w))
theorem C109 {nm : Nat} {v : PV} (h : TT M cs K S Z I J it pl) (hR : TR K S Z I J it m) (ho : okM cs m) (bcs : isB cs) (hE : CE M fl tc ou da V σ rn ks wt hs sd wd G) (hn : nm < 24) (hm : m.getD nm none = some v) (hk : v.1 = 2 ∨ v.1 = 3) (hz : v.2.2.1 ≤ 32) : ∃ M', kf_cl 109 [.ref 19, .int (nI nm)] M = some (none, M') ∧ CE M' fl tc ou da V σ rn ks wt (sha (rowOf cs m nm)) sd wd G ∧ TT M' cs K S Z I J it pl ∧ Off [278, 279, 280, 281] M M' := by
  obtain ⟨b1, b2, b4, b5, b6, b7, b8, b9, b10, b11, b12, b13, b14⟩ := hE
  have g := gO_of b2
  obtain ⟨M1, k1, H1, o1⟩ := h25 b11 b1.1.1 (by decide)
  have g1 := gO_of (b2.off o1 (by decide))
  have T1 := h.vt o1 (by decide)
  have gt1 := gO_of T1.1.1
  have rt1 := T1.1.rc
  obtain ⟨bs, y1_, y2_, y3_, y4_⟩ := T1.2.1
  have gr1 := gO_of y1_
  have hle := h.2.1.le
  have hr := hR.2 nm hn
  rw [hm] at hr
  have ks1 := c71 T1.1 hn
  have kt1 := c70 T1.1 hn
  rw [hr.2.1] at ks1
  rw [hr.2.2.1 hk] at kt1
  have hv := (ho.2 nm v (mG_some hm)).2.2.1 hk
  obtain ⟨M2, k2, H2, o2⟩ := h27 (b := 22) (f := v.2.1) (n := v.2.2.1) H1 (by show 0 + _ < _; omega) (o1.at (by decide) b1.1.2) y2_ (by omega) (by omega) (by decide) (by decide)
  rw [List.nil_append, seg_eq y4_ hv, ← rowOf_eq hm] at H2
  have o12 := o1.tr o2
  have g2 := gO_of (b2.off o12 (by decide))
  have a12 := b12.off o12 (by decide)
  have lr : (rowOf cs m nm).length ≤ 32 := by rw [rowOf_eq hm, List.length_take]; omega
  obtain ⟨M3, k3, H3, a3, o3⟩ := h28 (b := 281) H2 (by omega) (o12.at (by decide) b1.1.2) a12.1 (by rw [a12.2]; decide) (by rw [a12.2]; decide) (by decide) (by decide) (by decide)
  rw [byt_id (rowOf_b bcs), List.drop_of_length_le (by rw [a12.2]; decide), List.append_nil] at a3
  have oo : Off [278, 279, 280, 281] M M3 := (o12.wk (by decide)).tr (o3.wk (by decide))
  have rh := b11.rc
  have rh1 := H1.ha.rc
  have rh2 := H2.ha.rc
  refine ⟨M3, ?_, ⟨b1.off oo (by decide), b2.off oo (by decide), b4.off oo (by decide) (by decide), b5.off oo (by decide) (by decide), b6.off oo (by decide), b7.off oo (by decide) (by decide), b8.off oo (by decide), b9.off oo (by decide) (by decide), b10.off oo (by decide), H3, ⟨a3, sha_len⟩, b13.off oo (by decide), b14.off oo (by decide)⟩, h.vt oo (by decide), oo⟩
  simp only [cl_109, e109_0, e109_1, e109_4, e109_7, e109_8, e109_11, e109_12, e109_15, e109_18, e109_21, e109_22, e109_25, e109_26, e109_29, e109_30, e109_33, e109_34, e109_37, e109_40, e109_41, e109_44, e109_45, e109_48, e109_51, ow_109, Int32.reduceOfInt, Int32.reduceOfNat, Int32.reduceToNatClampNeg, Int32.reduceLT, Int32.reduceLE, Int32.reduceAdd, Int32.reduceSub, Int32.reduceMul, Int64.reduceOfNat, Int64.reduceOfInt, Nat.reduceLeDiff, Nat.reduceLT, Nat.reduceEqDiff, Nat.reduceSub, cs_0, cs_1, cs_2, cs_3, cs_4, cs_5, cs_6, cs_7, cs_8, or_false, false_or, not_false_eq_true, and_true, true_and, if_true, if_false, List.length_cons, List.length_nil, List.getElem?_cons_succ, List.getElem?_cons_zero, List.set_cons_succ, List.set_cons_zero, reduceIte, d_G, d_R, s_aload, s_aload_n, s_iload, s_iload_n, s_lload, s_lload_n, s_istore, s_istore_n, s_astore, s_astoreN, s_astore_n, s_astore_nN, s_lstore, s_lstore_n, s_iinc, s_iconst, s_bipush, s_sipush, s_lconst, s_ldc2_w, s_aconst_null, s_dupA, s_dupI, s_dup2, s_iadd, s_isub, s_imul, s_iand, s_ior, s_ixor, s_ishl, s_ishr, s_iushr, s_ineg, s_idiv, s_irem, s_ladd, s_lsub, s_lmul, s_land, s_lor, s_lxor, s_ldiv, s_lshl, s_lshr, s_lushr, s_i2l, s_l2i, s_lcmp, s_goto, s_ieq, s_ine, s_ilt, s_ige, s_igt, s_ile, s_zeq, s_zne, s_zlt, s_zge, s_zgt, s_zle, s_ifnull, s_ifnullN, s_ifnonnull, s_ifnonnullN, s_tableswitch, s_lookupswitch, s_getfield, s_putfield, s_getstatic, s_iaload, s_laload, s_baload, s_aaload, s_iastore, s_lastore, s_bastore, s_aastore, s_arraylength, s_newI, s_newJ, s_newZ, s_anewarray, s_new, s_copy, s_max, s_min, s_invokestatic, s_objinit, s_invokespecial, kf_isr_r, s_invokevirtual, s_ireturn, s_lreturn, s_areturn, s_areturnN, s_return, lI_0, lI_s, lJ_0, lJ_s, lA_0, lA_0N, lA_s, lS1_0, lS1_1, lS1_2, lS2_0, lS2_1, lS2_2, lK_n, lK_i, lK_j, lK_a, lK_N, d_C', kf_w_0, kf_w_i, kf_w_a, kf_w_n, kf_w_j, c_0, c_1, c_2, c_3, c_4, c_5, c_6, tl_0, tl_1, Option.bind_some, Option.bind_none, Option.map_some, Nat.reduceAdd, Nat.reduceMul, Nat.reduceDiv, Nat.reduceMod, Int.reduceToNat, Fin.val_zero, Fin.isValue, Fin.val_one, Fin.val_two, fv_0, fv_1, fv_2, fv_3, fw_0, fw_1, d_ite, true_or, or_true, and_false, false_and, or_self, and_self, ow_25, ow_27, ow_28, ow_70, ow_71, fobF, g, rh, k1, g1, gt1, gr1, rt1, kt1, ks1, rh1, k2, g2, rh2, k3]
def fidx (h u : List Int32) : List Ky → Nat → Option Nat
  | [], _ => none
  | k :: t, i => if k.1 = h ∧ k.2.1 = u then some i else fidx h u t (i + 1)
def fI : Option Nat → Int32
  | none => -1
  | some j => nI j
theorem fidx_lt {h u : List Int32} : ∀ (l : List Ky) (i j : Nat), fidx h u l i = some j → i ≤ j ∧ j < i + l.length
  | [], i, j, w => by cases w
  | k :: t, i, j, w => by
    unfold fidx at w
    by_cases c : k.1 = h ∧ k.2.1 = u
    · rw [if_pos c] at w
      cases w
      exact ⟨Nat.le_refl _, by simp⟩
    · rw [if_neg c] at w
      have := fidx_lt t (i + 1) j w
      simp only [List.length_cons]
      omega
theorem c45l {v : PV} (h : TT M cs K S Z I J it pl) (hR : TR K S Z I J it m) (ho : okM cs m) (b7 : RgIs M 40 ks.length (σ.map some)) (b8 : KS M σ ks) (b12 : ArI M 281 32 hs) (hm : m.getD 3 none = some v) (hk : v.1 = 2) : ∀ (n i : Nat) (u5 : Option Value), i + n = ks.length → kf_ev 45 3 [some (.ref 40), some (.ref 281), some (.ref 20), some (.int 3), some (.int (nI i)), u5] [] M = some (some (.int (fI (fidx hs (rowOf cs m 3) (ks.drop i) i))), M) := by
  intro n
  have g := gO_of b7.1
  have gR1 := gR_of b7.2.1
  have hl := b8.2.2.2.2.2
  have rcT := h.1.rc
  have z1 : ¬ (1 : Int32) = 0 := by decide
  have hv := (ho.2 3 v (mG_some hm)).2.2.1 (Or.inl hk)
  induction n with
  | zero =>
    intro i u5 hi
    have e : nI ks.length ≤ nI i := nI_le (by omega) (by omega)
    have hd : ks.drop i = [] := List.drop_of_length_le (by omega)
    rw [hd]
    exact (e45_3 _ _ _).trans (by simp only [cl_45, e45_0, e45_1, e45_5, e45_6, e45_9, e45_12, e45_14, e45_16, e45_19, e45_20, e45_23, e45_25, e45_26, e45_28, e45_30, e45_31, e45_34, e45_37, e45_38, e45_39, e45_41, e45_44, e45_46, e45_49, e45_52, e45_55, e45_57, e45_58, e45_61, e45_64, e45_65, ow_45, Int32.reduceOfInt, Int32.reduceOfNat, Int32.reduceToNatClampNeg, Int32.reduceLT, Int32.reduceLE, Int32.reduceAdd, Int32.reduceSub, Int32.reduceMul, Int64.reduceOfNat, Int64.reduceOfInt, Nat.reduceLeDiff, Nat.reduceLT, Nat.reduceEqDiff, Nat.reduceSub, cs_0, cs_1, cs_2, cs_3, cs_4, cs_5, cs_6, cs_7, cs_8, or_false, false_or, not_false_eq_true, and_true, true_and, if_true, if_false, List.length_cons, List.length_nil, List.getElem?_cons_succ, List.getElem?_cons_zero, List.set_cons_succ, List.set_cons_zero, reduceIte, d_G, d_R, s_aload, s_aload_n, s_iload, s_iload_n, s_lload, s_lload_n, s_istore, s_istore_n, s_astore, s_astoreN, s_astore_n, s_astore_nN, s_lstore, s_lstore_n, s_iinc, s_iconst, s_bipush, s_sipush, s_lconst, s_ldc2_w, s_aconst_null, s_dupA, s_dupI, s_dup2, s_iadd, s_isub, s_imul, s_iand, s_ior, s_ixor, s_ishl, s_ishr, s_iushr, s_ineg, s_idiv, s_irem, s_ladd, s_lsub, s_lmul, s_land, s_lor, s_lxor, s_ldiv, s_lshl, s_lshr, s_lushr, s_i2l, s_l2i, s_lcmp, s_goto, s_ieq, s_ine, s_ilt, s_ige, s_igt, s_ile, s_zeq, s_zne, s_zlt, s_zge, s_zgt, s_zle, s_ifnull, s_ifnullN, s_ifnonnull, s_ifnonnullN, s_tableswitch, s_lookupswitch, s_getfield, s_putfield, s_getstatic, s_iaload, s_laload, s_baload, s_aaload, s_iastore, s_lastore, s_bastore, s_aastore, s_arraylength, s_newI, s_newJ, s_newZ, s_anewarray, s_new, s_copy, s_max, s_min, s_invokestatic, s_objinit, s_invokespecial, kf_isr_r, s_invokevirtual, s_ireturn, s_lreturn, s_areturn, s_areturnN, s_return, lI_0, lI_s, lJ_0, lJ_s, lA_0, lA_0N, lA_s, lS1_0, lS1_1, lS1_2, lS2_0, lS2_1, lS2_2, lK_n, lK_i, lK_j, lK_a, lK_N, d_C', kf_w_0, kf_w_i, kf_w_a, kf_w_n, kf_w_j, c_0, c_1, c_2, c_3, c_4, c_5, c_6, tl_0, tl_1, Option.bind_some, Option.bind_none, Option.map_some, Nat.reduceAdd, Nat.reduceMul, Nat.reduceDiv, Nat.reduceMod, Int.reduceToNat, Fin.val_zero, Fin.isValue, Fin.val_one, Fin.val_two, fv_0, fv_1, fv_2, fv_3, fw_0, fw_1, d_ite, true_or, or_true, and_false, false_and, or_self, and_self, g, e]; rfl)
  | succ n ih =>
    intro i u5 hi
    have hil : i < ks.length := by omega
    have e : ¬ nI ks.length ≤ nI i := nI_ge (by omega) (by omega)
    have e10 : ¬ (10 : Int32) ≤ nI i := nI_ge (b := 10) (by omega) (by omega)
    have p0 : ¬ nI i < 0 := nI_pos (by omega)
    have p1 : (nI i).toNatClampNeg = i := nI_clamp (by omega)
    obtain ⟨s1, -⟩ := b8.get (j := i) (by omega)
    obtain ⟨ka, ok⟩ := b8.2.2.2.2.1 i _ (List.getElem?_eq_getElem hil)
    have rk : kf_rcv M 3 (some (.ref (σ.getD i 0))) = true := kf_rcv_ok (gO_of ka.1)
    have gk := gO_of ka.1
    have k31 := c31 ka.1 ka.2.1.1 b12.1 ka.2.1.2 b12.2
    obtain ⟨ua, u1, u2⟩ := ka.2.2.1
    have lu := ok.2.2.1
    have k72 := t72 (n := ks[i].2.1.length) h hR ho (by decide) hm (Or.inl hk) u1.1 (by rw [u1.2]; omega) (by rw [u1.2]; decide)
    rw [u2, show nI 3 = 3 from rfl] at k72
    have er : rowOf cs m 3 = (cs.drop v.2.1).take v.2.2.1 := rowOf_eq hm
    have eu : (v.2.2.1 = ks[i].2.1.length ∧ ks[i].2.1 = (cs.drop v.2.1).take ks[i].2.1.length) = (ks[i].2.1 = rowOf cs m 3) := by
      apply propext
      constructor
      · intro w
        rw [er, w.1]
        exact w.2
      · intro w
        have hll := congrArg List.length w
        rw [er, List.length_take, List.length_drop] at hll
        have h1 : v.2.2.1 = ks[i].2.1.length := by omega
        refine ⟨h1, ?_⟩
        rw [← h1, ← er]
        exact w
    simp only [eu] at k72
    have hd : ks.drop i = ks[i] :: ks.drop (i + 1) := List.drop_eq_getElem_cons hil
    rw [hd]
    have ih' := ih (i + 1) (some (.ref (σ.getD i 0))) (by omega)
    refine (e45_3 _ _ _).trans ?_
    unfold fidx
    by_cases c1 : ks[i].1 = hs
    · rw [if_pos c1] at k31
      by_cases c2 : ks[i].2.1 = rowOf cs m 3
      · rw [if_pos c2] at k72
        rw [if_pos ⟨c1, c2⟩]
        simp only [cl_45, e45_0, e45_1, e45_5, e45_6, e45_9, e45_12, e45_14, e45_16, e45_19, e45_20, e45_23, e45_25, e45_26, e45_28, e45_30, e45_31, e45_34, e45_37, e45_38, e45_39, e45_41, e45_44, e45_46, e45_49, e45_52, e45_55, e45_57, e45_58, e45_61, e45_64, e45_65, ow_45, Int32.reduceOfInt, Int32.reduceOfNat, Int32.reduceToNatClampNeg, Int32.reduceLT, Int32.reduceLE, Int32.reduceAdd, Int32.reduceSub, Int32.reduceMul, Int64.reduceOfNat, Int64.reduceOfInt, Nat.reduceLeDiff, Nat.reduceLT, Nat.reduceEqDiff, Nat.reduceSub, cs_0, cs_1, cs_2, cs_3, cs_4, cs_5, cs_6, cs_7, cs_8, or_false, false_or, not_false_eq_true, and_true, true_and, if_true, if_false, List.length_cons, List.length_nil, List.getElem?_cons_succ, List.getElem?_cons_zero, List.set_cons_succ, List.set_cons_zero, reduceIte, d_G, d_R, s_aload, s_aload_n, s_iload, s_iload_n, s_lload, s_lload_n, s_istore, s_istore_n, s_astore, s_astoreN, s_astore_n, s_astore_nN, s_lstore, s_lstore_n, s_iinc, s_iconst, s_bipush, s_sipush, s_lconst, s_ldc2_w, s_aconst_null, s_dupA, s_dupI, s_dup2, s_iadd, s_isub, s_imul, s_iand, s_ior, s_ixor, s_ishl, s_ishr, s_iushr, s_ineg, s_idiv, s_irem, s_ladd, s_lsub, s_lmul, s_land, s_lor, s_lxor, s_ldiv, s_lshl, s_lshr, s_lushr, s_i2l, s_l2i, s_lcmp, s_goto, s_ieq, s_ine, s_ilt, s_ige, s_igt, s_ile, s_zeq, s_zne, s_zlt, s_zge, s_zgt, s_zle, s_ifnull, s_ifnullN, s_ifnonnull, s_ifnonnullN, s_tableswitch, s_lookupswitch, s_getfield, s_putfield, s_getstatic, s_iaload, s_laload, s_baload, s_aaload, s_iastore, s_lastore, s_bastore, s_aastore, s_arraylength, s_newI, s_newJ, s_newZ, s_anewarray, s_new, s_copy, s_max, s_min, s_invokestatic, s_objinit, s_invokespecial, kf_isr_r, s_invokevirtual, s_ireturn, s_lreturn, s_areturn, s_areturnN, s_return, lI_0, lI_s, lJ_0, lJ_s, lA_0, lA_0N, lA_s, lS1_0, lS1_1, lS1_2, lS2_0, lS2_1, lS2_2, lK_n, lK_i, lK_j, lK_a, lK_N, d_C', kf_w_0, kf_w_i, kf_w_a, kf_w_n, kf_w_j, c_0, c_1, c_2, c_3, c_4, c_5, c_6, tl_0, tl_1, Option.bind_some, Option.bind_none, Option.map_some, Nat.reduceAdd, Nat.reduceMul, Nat.reduceDiv, Nat.reduceMod, Int.reduceToNat, Fin.val_zero, Fin.isValue, Fin.val_one, Fin.val_two, fv_0, fv_1, fv_2, fv_3, fw_0, fw_1, d_ite, true_or, or_true, and_false, false_and, or_self, and_self, ow_31, ow_72, g, e, e10, gR1, p0, p1, s1, vR, rk, k31, z1, gk, rcT, k72]
        rfl
      · rw [if_neg c2] at k72
        rw [if_neg (fun w => c2 w.2)]
        simp only [cl_45, e45_0, e45_1, e45_5, e45_6, e45_9, e45_12, e45_14, e45_16, e45_19, e45_20, e45_23, e45_25, e45_26, e45_28, e45_30, e45_31, e45_34, e45_37, e45_38, e45_39, e45_41, e45_44, e45_46, e45_49, e45_52, e45_55, e45_57, e45_58, e45_61, e45_64, e45_65, ow_45, Int32.reduceOfInt, Int32.reduceOfNat, Int32.reduceToNatClampNeg, Int32.reduceLT, Int32.reduceLE, Int32.reduceAdd, Int32.reduceSub, Int32.reduceMul, Int64.reduceOfNat, Int64.reduceOfInt, Nat.reduceLeDiff, Nat.reduceLT, Nat.reduceEqDiff, Nat.reduceSub, cs_0, cs_1, cs_2, cs_3, cs_4, cs_5, cs_6, cs_7, cs_8, or_false, false_or, not_false_eq_true, and_true, true_and, if_true, if_false, List.length_cons, List.length_nil, List.getElem?_cons_succ, List.getElem?_cons_zero, List.set_cons_succ, List.set_cons_zero, reduceIte, d_G, d_R, s_aload, s_aload_n, s_iload, s_iload_n, s_lload, s_lload_n, s_istore, s_istore_n, s_astore, s_astoreN, s_astore_n, s_astore_nN, s_lstore, s_lstore_n, s_iinc, s_iconst, s_bipush, s_sipush, s_lconst, s_ldc2_w, s_aconst_null, s_dupA, s_dupI, s_dup2, s_iadd, s_isub, s_imul, s_iand, s_ior, s_ixor, s_ishl, s_ishr, s_iushr, s_ineg, s_idiv, s_irem, s_ladd, s_lsub, s_lmul, s_land, s_lor, s_lxor, s_ldiv, s_lshl, s_lshr, s_lushr, s_i2l, s_l2i, s_lcmp, s_goto, s_ieq, s_ine, s_ilt, s_ige, s_igt, s_ile, s_zeq, s_zne, s_zlt, s_zge, s_zgt, s_zle, s_ifnull, s_ifnullN, s_ifnonnull, s_ifnonnullN, s_tableswitch, s_lookupswitch, s_getfield, s_putfield, s_getstatic, s_iaload, s_laload, s_baload, s_aaload, s_iastore, s_lastore, s_bastore, s_aastore, s_arraylength, s_newI, s_newJ, s_newZ, s_anewarray, s_new, s_copy, s_max, s_min, s_invokestatic, s_objinit, s_invokespecial, kf_isr_r, s_invokevirtual, s_ireturn, s_lreturn, s_areturn, s_areturnN, s_return, lI_0, lI_s, lJ_0, lJ_s, lA_0, lA_0N, lA_s, lS1_0, lS1_1, lS1_2, lS2_0, lS2_1, lS2_2, lK_n, lK_i, lK_j, lK_a, lK_N, d_C', kf_w_0, kf_w_i, kf_w_a, kf_w_n, kf_w_j, c_0, c_1, c_2, c_3, c_4, c_5, c_6, tl_0, tl_1, Option.bind_some, Option.bind_none, Option.map_some, Nat.reduceAdd, Nat.reduceMul, Nat.reduceDiv, Nat.reduceMod, Int.reduceToNat, Fin.val_zero, Fin.isValue, Fin.val_one, Fin.val_two, fv_0, fv_1, fv_2, fv_3, fw_0, fw_1, d_ite, true_or, or_true, and_false, false_and, or_self, and_self, ow_31, ow_72, g, e, e10, gR1, p0, p1, s1, vR, rk, k31, z1, gk, rcT, k72, nI_1, ih']
    · rw [if_neg c1] at k31
      rw [if_neg (fun w => c1 w.1)]
      simp only [cl_45, e45_0, e45_1, e45_5, e45_6, e45_9, e45_12, e45_14, e45_16, e45_19, e45_20, e45_23, e45_25, e45_26, e45_28, e45_30, e45_31, e45_34, e45_37, e45_38, e45_39, e45_41, e45_44, e45_46, e45_49, e45_52, e45_55, e45_57, e45_58, e45_61, e45_64, e45_65, ow_45, Int32.reduceOfInt, Int32.reduceOfNat, Int32.reduceToNatClampNeg, Int32.reduceLT, Int32.reduceLE, Int32.reduceAdd, Int32.reduceSub, Int32.reduceMul, Int64.reduceOfNat, Int64.reduceOfInt, Nat.reduceLeDiff, Nat.reduceLT, Nat.reduceEqDiff, Nat.reduceSub, cs_0, cs_1, cs_2, cs_3, cs_4, cs_5, cs_6, cs_7, cs_8, or_false, false_or, not_false_eq_true, and_true, true_and, if_true, if_false, List.length_cons, List.length_nil, List.getElem?_cons_succ, List.getElem?_cons_zero, List.set_cons_succ, List.set_cons_zero, reduceIte, d_G, d_R, s_aload, s_aload_n, s_iload, s_iload_n, s_lload, s_lload_n, s_istore, s_istore_n, s_astore, s_astoreN, s_astore_n, s_astore_nN, s_lstore, s_lstore_n, s_iinc, s_iconst, s_bipush, s_sipush, s_lconst, s_ldc2_w, s_aconst_null, s_dupA, s_dupI, s_dup2, s_iadd, s_isub, s_imul, s_iand, s_ior, s_ixor, s_ishl, s_ishr, s_iushr, s_ineg, s_idiv, s_irem, s_ladd, s_lsub, s_lmul, s_land, s_lor, s_lxor, s_ldiv, s_lshl, s_lshr, s_lushr, s_i2l, s_l2i, s_lcmp, s_goto, s_ieq, s_ine, s_ilt, s_ige, s_igt, s_ile, s_zeq, s_zne, s_zlt, s_zge, s_zgt, s_zle, s_ifnull, s_ifnullN, s_ifnonnull, s_ifnonnullN, s_tableswitch, s_lookupswitch, s_getfield, s_putfield, s_getstatic, s_iaload, s_laload, s_baload, s_aaload, s_iastore, s_lastore, s_bastore, s_aastore, s_arraylength, s_newI, s_newJ, s_newZ, s_anewarray, s_new, s_copy, s_max, s_min, s_invokestatic, s_objinit, s_invokespecial, kf_isr_r, s_invokevirtual, s_ireturn, s_lreturn, s_areturn, s_areturnN, s_return, lI_0, lI_s, lJ_0, lJ_s, lA_0, lA_0N, lA_s, lS1_0, lS1_1, lS1_2, lS2_0, lS2_1, lS2_2, lK_n, lK_i, lK_j, lK_a, lK_N, d_C', kf_w_0, kf_w_i, kf_w_a, kf_w_n, kf_w_j, c_0, c_1, c_2, c_3, c_4, c_5, c_6, tl_0, tl_1, Option.bind_some, Option.bind_none, Option.map_some, Nat.reduceAdd, Nat.reduceMul, Nat.reduceDiv, Nat.reduceMod, Int.reduceToNat, Fin.val_zero, Fin.isValue, Fin.val_one, Fin.val_two, fv_0, fv_1, fv_2, fv_3, fw_0, fw_1, d_ite, true_or, or_true, and_false, false_and, or_self, and_self, ow_31, g, e, e10, gR1, p0, p1, s1, vR, rk, k31, nI_1, ih']
theorem c45 {v : PV} (h : TT M cs K S Z I J it pl) (hR : TR K S Z I J it m) (ho : okM cs m) (b7 : RgIs M 40 ks.length (σ.map some)) (b8 : KS M σ ks) (b12 : ArI M 281 32 hs) (hm : m.getD 3 none = some v) (hk : v.1 = 2) : kf_cl 45 [.ref 40, .ref 281, .ref 20, .int 3] M = some (some (.int (fI (fidx hs (rowOf cs m 3) ks 0))), M) := by
  have k := c45l h hR ho b7 b8 b12 hm hk ks.length 0 none (by omega)
  rw [nI_0, List.drop_zero] at k
  simp only [cl_45, e45_0, e45_1, e45_5, e45_6, e45_9, e45_12, e45_14, e45_16, e45_19, e45_20, e45_23, e45_25, e45_26, e45_28, e45_30, e45_31, e45_34, e45_37, e45_38, e45_39, e45_41, e45_44, e45_46, e45_49, e45_52, e45_55, e45_57, e45_58, e45_61, e45_64, e45_65, ow_45, Int32.reduceOfInt, Int32.reduceOfNat, Int32.reduceToNatClampNeg, Int32.reduceLT, Int32.reduceLE, Int32.reduceAdd, Int32.reduceSub, Int32.reduceMul, Int64.reduceOfNat, Int64.reduceOfInt, Nat.reduceLeDiff, Nat.reduceLT, Nat.reduceEqDiff, Nat.reduceSub, cs_0, cs_1, cs_2, cs_3, cs_4, cs_5, cs_6, cs_7, cs_8, or_false, false_or, not_false_eq_true, and_true, true_and, if_true, if_false, List.length_cons, List.length_nil, List.getElem?_cons_succ, List.getElem?_cons_zero, List.set_cons_succ, List.set_cons_zero, reduceIte, d_G, d_R, s_aload, s_aload_n, s_iload, s_iload_n, s_lload, s_lload_n, s_istore, s_istore_n, s_astore, s_astoreN, s_astore_n, s_astore_nN, s_lstore, s_lstore_n, s_iinc, s_iconst, s_bipush, s_sipush, s_lconst, s_ldc2_w, s_aconst_null, s_dupA, s_dupI, s_dup2, s_iadd, s_isub, s_imul, s_iand, s_ior, s_ixor, s_ishl, s_ishr, s_iushr, s_ineg, s_idiv, s_irem, s_ladd, s_lsub, s_lmul, s_land, s_lor, s_lxor, s_ldiv, s_lshl, s_lshr, s_lushr, s_i2l, s_l2i, s_lcmp, s_goto, s_ieq, s_ine, s_ilt, s_ige, s_igt, s_ile, s_zeq, s_zne, s_zlt, s_zge, s_zgt, s_zle, s_ifnull, s_ifnullN, s_ifnonnull, s_ifnonnullN, s_tableswitch, s_lookupswitch, s_getfield, s_putfield, s_getstatic, s_iaload, s_laload, s_baload, s_aaload, s_iastore, s_lastore, s_bastore, s_aastore, s_arraylength, s_newI, s_newJ, s_newZ, s_anewarray, s_new, s_copy, s_max, s_min, s_invokestatic, s_objinit, s_invokespecial, kf_isr_r, s_invokevirtual, s_ireturn, s_lreturn, s_areturn, s_areturnN, s_return, lI_0, lI_s, lJ_0, lJ_s, lA_0, lA_0N, lA_s, lS1_0, lS1_1, lS1_2, lS2_0, lS2_1, lS2_2, lK_n, lK_i, lK_j, lK_a, lK_N, d_C', kf_w_0, kf_w_i, kf_w_a, kf_w_n, kf_w_j, c_0, c_1, c_2, c_3, c_4, c_5, c_6, tl_0, tl_1, Option.bind_some, Option.bind_none, Option.map_some, Nat.reduceAdd, Nat.reduceMul, Nat.reduceDiv, Nat.reduceMod, Int.reduceToNat, Fin.val_zero, Fin.isValue, Fin.val_one, Fin.val_two, fv_0, fv_1, fv_2, fv_3, fw_0, fw_1, d_ite, true_or, or_true, and_false, false_and, or_self, and_self, k]
/-! renew -/
theorem rmap_set {σ : List Nat} {k a : Nat} : (σ.map some).set k (some a) = (σ.set k a).map some := by rw [List.map_set]
theorem sD_self {σ : List Nat} {i a : Nat} (h : i < σ.length) : (σ.set i a).getD i 0 = a := by rw [List.getD_eq_getElem?_getD, List.getElem?_set_self h]; rfl
theorem sD_ne {σ : List Nat} {i j a : Nat} (h : i ≠ j) : (σ.set i a).getD j 0 = σ.getD j 0 := by rw [List.getD_eq_getElem?_getD, List.getElem?_set_ne h, List.getD_eq_getElem?_getD]
theorem c46l {j n a : Nat} (hg : gO M 40 = some (6, [.ref 41, .int (nI n)])) (hl : 41 < M.length) (hn : n ≤ 10) (hO : ∀ i, i < 10 → ∃ fs, gO M (σ.getD i 0) = some (3, fs)) (ho : ∀ i, i < 10 → σ.getD i 0 ≠ 41) : ∀ (q k : Nat) (ρ : List Nat), k + 1 + q = n → j ≤ k → ρ.length = 10 → (∀ i, ρ.getD i 0 = if j ≤ i ∧ i < k then σ.getD (i + 1) 0 else σ.getD i 0) → ∃ ρ' : List Nat, kf_ev 46 47 [some (.ref 40), some (.int (nI j)), some (.ref a), some (.int (nI k))] [] (M.set 41 (oR 3 (ρ.map some))) = kf_ev 46 77 [some (.ref 40), some (.int (nI j)), some (.ref a), some (.int (nI (n - 1)))] [] (M.set 41 (oR 3 (ρ'.map some))) ∧ ρ'.length = 10 ∧ (∀ i, ρ'.getD i 0 = if j ≤ i ∧ i < n - 1 then σ.getD (i + 1) 0 else σ.getD i 0) := by
  intro q
  induction q with
  | zero =>
    intro k ρ hk hj hr hp
    have hk : k = n - 1 := by omega
    have g1 : gO (M.set 41 (oR 3 (ρ.map some))) 40 = some (6, [.ref 41, .int (nI n)]) := by rw [gO_ne (by decide)]; exact hg
    have e : nI n ≤ nI (k + 1) := nI_le (by omega) (by omega)
    subst hk
    refine ⟨ρ, (e46_47 _ _ _).trans ?_, hr, hp⟩
    simp only [cl_46, e46_0, e46_1, e46_4, e46_5, e46_6, e46_9, e46_12, e46_13, e46_14, e46_17, e46_18, e46_19, e46_21, e46_24, e46_27, e46_28, e46_29, e46_32, e46_33, e46_34, e46_37, e46_38, e46_39, e46_42, e46_43, e46_44, e46_45, e46_46, e46_48, e46_49, e46_50, e46_51, e46_54, e46_57, e46_58, e46_61, e46_62, e46_63, e46_66, e46_67, e46_68, e46_69, e46_70, e46_71, e46_74, e46_78, e46_81, e46_82, e46_85, e46_86, e46_87, e46_88, e46_89, e46_90, ow_46, Int32.reduceOfInt, Int32.reduceOfNat, Int32.reduceToNatClampNeg, Int32.reduceLT, Int32.reduceLE, Int32.reduceAdd, Int32.reduceSub, Int32.reduceMul, Int64.reduceOfNat, Int64.reduceOfInt, Nat.reduceLeDiff, Nat.reduceLT, Nat.reduceEqDiff, Nat.reduceSub, cs_0, cs_1, cs_2, cs_3, cs_4, cs_5, cs_6, cs_7, cs_8, or_false, false_or, not_false_eq_true, and_true, true_and, if_true, if_false, List.length_cons, List.length_nil, List.getElem?_cons_succ, List.getElem?_cons_zero, List.set_cons_succ, List.set_cons_zero, reduceIte, d_G, d_R, s_aload, s_aload_n, s_iload, s_iload_n, s_lload, s_lload_n, s_istore, s_istore_n, s_astore, s_astoreN, s_astore_n, s_astore_nN, s_lstore, s_lstore_n, s_iinc, s_iconst, s_bipush, s_sipush, s_lconst, s_ldc2_w, s_aconst_null, s_dupA, s_dupI, s_dup2, s_iadd, s_isub, s_imul, s_iand, s_ior, s_ixor, s_ishl, s_ishr, s_iushr, s_ineg, s_idiv, s_irem, s_ladd, s_lsub, s_lmul, s_land, s_lor, s_lxor, s_ldiv, s_lshl, s_lshr, s_lushr, s_i2l, s_l2i, s_lcmp, s_goto, s_ieq, s_ine, s_ilt, s_ige, s_igt, s_ile, s_zeq, s_zne, s_zlt, s_zge, s_zgt, s_zle, s_ifnull, s_ifnullN, s_ifnonnull, s_ifnonnullN, s_tableswitch, s_lookupswitch, s_getfield, s_putfield, s_getstatic, s_iaload, s_laload, s_baload, s_aaload, s_iastore, s_lastore, s_bastore, s_aastore, s_arraylength, s_newI, s_newJ, s_newZ, s_anewarray, s_new, s_copy, s_max, s_min, s_invokestatic, s_objinit, s_invokespecial, kf_isr_r, s_invokevirtual, s_ireturn, s_lreturn, s_areturn, s_areturnN, s_return, lI_0, lI_s, lJ_0, lJ_s, lA_0, lA_0N, lA_s, lS1_0, lS1_1, lS1_2, lS2_0, lS2_1, lS2_2, lK_n, lK_i, lK_j, lK_a, lK_N, d_C', kf_w_0, kf_w_i, kf_w_a, kf_w_n, kf_w_j, c_0, c_1, c_2, c_3, c_4, c_5, c_6, tl_0, tl_1, Option.bind_some, Option.bind_none, Option.map_some, Nat.reduceAdd, Nat.reduceMul, Nat.reduceDiv, Nat.reduceMod, Int.reduceToNat, Fin.val_zero, Fin.isValue, Fin.val_one, Fin.val_two, fv_0, fv_1, fv_2, fv_3, fw_0, fw_1, d_ite, true_or, or_true, and_false, false_and, or_self, and_self, g1, nI_1, e]
  | succ q ih =>
    intro k ρ hk hj hr hp
    have g1 : gO (M.set 41 (oR 3 (ρ.map some))) 40 = some (6, [.ref 41, .int (nI n)]) := by rw [gO_ne (by decide)]; exact hg
    have e : ¬ nI n ≤ nI (k + 1) := nI_ge (by omega) (by omega)
    have gr : gR (M.set 41 (oR 3 (ρ.map some))) 41 = some (3, ρ.map some) := gR_self hl
    have p0 : ¬ nI (k + 1) < 0 := nI_pos (by omega)
    have p1 : (nI (k + 1)).toNatClampNeg = k + 1 := nI_clamp (by omega)
    have p2 : ¬ nI k < 0 := nI_pos (by omega)
    have p3 : (nI k).toNatClampNeg = k := nI_clamp (by omega)
    have w1 : (ρ.map some)[k + 1]? = some (some (σ.getD (k + 1) 0)) := by
      have := hp (k + 1)
      rw [if_neg (by omega)] at this
      rw [List.getElem?_map, ← this, List.getD_eq_getElem?_getD, List.getElem?_eq_getElem (by omega)]
      rfl
    obtain ⟨fs, hfs⟩ := hO (k + 1) (by omega)
    have gv : gO (M.set 41 (oR 3 (ρ.map some))) (σ.getD (k + 1) 0) = some (3, fs) := by rw [gO_ne (Ne.symm (ho (k + 1) (by omega)))]; exact hfs
    have n1 : ¬ 41 < 19 := by decide
    have n2 : ¬ (ρ.map some).length ≤ k := by rw [List.length_map]; omega
    obtain ⟨ρ', k', r1, r2⟩ := ih (k + 1) (ρ.set k (σ.getD (k + 1) 0)) (by omega) (by omega) (by rw [List.length_set]; exact hr) (fun i => by
      by_cases c : k = i
      · subst c
        rw [sD_self (by omega), if_pos (by omega)]
      · rw [sD_ne c, hp i]
        by_cases d : j ≤ i ∧ i < k
        · rw [if_pos d, if_pos (by omega)]
        · rw [if_neg d, if_neg (by omega)])
    refine ⟨ρ', (e46_47 _ _ _).trans (Eq.trans ?_ k'), r1, r2⟩
    simp only [cl_46, e46_0, e46_1, e46_4, e46_5, e46_6, e46_9, e46_12, e46_13, e46_14, e46_17, e46_18, e46_19, e46_21, e46_24, e46_27, e46_28, e46_29, e46_32, e46_33, e46_34, e46_37, e46_38, e46_39, e46_42, e46_43, e46_44, e46_45, e46_46, e46_48, e46_49, e46_50, e46_51, e46_54, e46_57, e46_58, e46_61, e46_62, e46_63, e46_66, e46_67, e46_68, e46_69, e46_70, e46_71, e46_74, e46_78, e46_81, e46_82, e46_85, e46_86, e46_87, e46_88, e46_89, e46_90, ow_46, Int32.reduceOfInt, Int32.reduceOfNat, Int32.reduceToNatClampNeg, Int32.reduceLT, Int32.reduceLE, Int32.reduceAdd, Int32.reduceSub, Int32.reduceMul, Int64.reduceOfNat, Int64.reduceOfInt, Nat.reduceLeDiff, Nat.reduceLT, Nat.reduceEqDiff, Nat.reduceSub, cs_0, cs_1, cs_2, cs_3, cs_4, cs_5, cs_6, cs_7, cs_8, or_false, false_or, not_false_eq_true, and_true, true_and, if_true, if_false, List.length_cons, List.length_nil, List.getElem?_cons_succ, List.getElem?_cons_zero, List.set_cons_succ, List.set_cons_zero, reduceIte, d_G, d_R, s_aload, s_aload_n, s_iload, s_iload_n, s_lload, s_lload_n, s_istore, s_istore_n, s_astore, s_astoreN, s_astore_n, s_astore_nN, s_lstore, s_lstore_n, s_iinc, s_iconst, s_bipush, s_sipush, s_lconst, s_ldc2_w, s_aconst_null, s_dupA, s_dupI, s_dup2, s_iadd, s_isub, s_imul, s_iand, s_ior, s_ixor, s_ishl, s_ishr, s_iushr, s_ineg, s_idiv, s_irem, s_ladd, s_lsub, s_lmul, s_land, s_lor, s_lxor, s_ldiv, s_lshl, s_lshr, s_lushr, s_i2l, s_l2i, s_lcmp, s_goto, s_ieq, s_ine, s_ilt, s_ige, s_igt, s_ile, s_zeq, s_zne, s_zlt, s_zge, s_zgt, s_zle, s_ifnull, s_ifnullN, s_ifnonnull, s_ifnonnullN, s_tableswitch, s_lookupswitch, s_getfield, s_putfield, s_getstatic, s_iaload, s_laload, s_baload, s_aaload, s_iastore, s_lastore, s_bastore, s_aastore, s_arraylength, s_newI, s_newJ, s_newZ, s_anewarray, s_new, s_copy, s_max, s_min, s_invokestatic, s_objinit, s_invokespecial, kf_isr_r, s_invokevirtual, s_ireturn, s_lreturn, s_areturn, s_areturnN, s_return, lI_0, lI_s, lJ_0, lJ_s, lA_0, lA_0N, lA_s, lS1_0, lS1_1, lS1_2, lS2_0, lS2_1, lS2_2, lK_n, lK_i, lK_j, lK_a, lK_N, d_C', kf_w_0, kf_w_i, kf_w_a, kf_w_n, kf_w_j, c_0, c_1, c_2, c_3, c_4, c_5, c_6, tl_0, tl_1, Option.bind_some, Option.bind_none, Option.map_some, Nat.reduceAdd, Nat.reduceMul, Nat.reduceDiv, Nat.reduceMod, Int.reduceToNat, Fin.val_zero, Fin.isValue, Fin.val_one, Fin.val_two, fv_0, fv_1, fv_2, fv_3, fw_0, fw_1, d_ite, true_or, or_true, and_false, false_and, or_self, and_self, g1, nI_1, e, gr, p0, p1, p2, p3, w1, vR, gv, n1, n2, kf_NS, List.set_set, rmap_set, not_true_eq_false]
theorem C46n (b7 : RgIs M 40 ks.length (σ.map some)) (b8 : KS M σ ks) (hn : ks.length < 10) : ∃ M', kf_cl 46 [.ref 40, .int (-1)] M = some (some (.ref (σ.getD ks.length 0)), M') ∧ RgIs M' 40 (ks.length + 1) (σ.map some) ∧ Off [40, 41] M M' := by
  have g := gO_of b7.1
  have m1 : ((-1 : Int32) < 0) = True := eq_true (by decide)
  have en : nI ks.length + 1 = nI (ks.length + 1) := nI_1 _
  have mn : ¬ (10 : Int32) < nI (ks.length + 1) := nI_nlt (a := 10) (by omega) (by omega)
  obtain ⟨M1, e1⟩ : ∃ X, X = M.set 40 (oO 6 [.ref 41, .int (nI (ks.length + 1))]) := ⟨_, rfl⟩
  have o1 : Off [40, 41] M M1 := by rw [e1]; exact Off.set (by simp)
  have R1 : RgIs M1 40 (ks.length + 1) (σ.map some) := ⟨by rw [e1]; exact m_self (m_lt b7.1), by rw [e1, m_ne (by decide)]; exact b7.2.1, b7.2.2.1, by omega⟩
  have g1 := gO_of R1.1
  have k44 := c44 (x := nI ks.length) R1
  rw [if_neg (nI_pos (by omega)), if_neg (nI_ge (by omega) (by omega)), nI_clamp (by omega), (b8.get (j := ks.length) hn).1] at k44
  have rr := R1.rc
  have es : nI (ks.length + 1) - 1 = nI ks.length := nI_pred _
  refine ⟨M1, ?_, R1, o1⟩
  simp only [cl_46, e46_0, e46_1, e46_4, e46_5, e46_6, e46_9, e46_12, e46_13, e46_14, e46_17, e46_18, e46_19, e46_21, e46_24, e46_27, e46_28, e46_29, e46_32, e46_33, e46_34, e46_37, e46_38, e46_39, e46_42, e46_43, e46_44, e46_45, e46_46, e46_47, e46_48, e46_49, e46_50, e46_51, e46_54, e46_57, e46_58, e46_61, e46_62, e46_63, e46_66, e46_67, e46_68, e46_69, e46_70, e46_71, e46_74, e46_77, e46_78, e46_81, e46_82, e46_85, e46_86, e46_87, e46_88, e46_89, e46_90, ow_46, Int32.reduceOfInt, Int32.reduceOfNat, Int32.reduceToNatClampNeg, Int32.reduceLT, Int32.reduceLE, Int32.reduceAdd, Int32.reduceSub, Int32.reduceMul, Int64.reduceOfNat, Int64.reduceOfInt, Nat.reduceLeDiff, Nat.reduceLT, Nat.reduceEqDiff, Nat.reduceSub, cs_0, cs_1, cs_2, cs_3, cs_4, cs_5, cs_6, cs_7, cs_8, or_false, false_or, not_false_eq_true, and_true, true_and, if_true, if_false, List.length_cons, List.length_nil, List.getElem?_cons_succ, List.getElem?_cons_zero, List.set_cons_succ, List.set_cons_zero, reduceIte, d_G, d_R, s_aload, s_aload_n, s_iload, s_iload_n, s_lload, s_lload_n, s_istore, s_istore_n, s_astore, s_astoreN, s_astore_n, s_astore_nN, s_lstore, s_lstore_n, s_iinc, s_iconst, s_bipush, s_sipush, s_lconst, s_ldc2_w, s_aconst_null, s_dupA, s_dupI, s_dup2, s_iadd, s_isub, s_imul, s_iand, s_ior, s_ixor, s_ishl, s_ishr, s_iushr, s_ineg, s_idiv, s_irem, s_ladd, s_lsub, s_lmul, s_land, s_lor, s_lxor, s_ldiv, s_lshl, s_lshr, s_lushr, s_i2l, s_l2i, s_lcmp, s_goto, s_ieq, s_ine, s_ilt, s_ige, s_igt, s_ile, s_zeq, s_zne, s_zlt, s_zge, s_zgt, s_zle, s_ifnull, s_ifnullN, s_ifnonnull, s_ifnonnullN, s_tableswitch, s_lookupswitch, s_getfield, s_putfield, s_getstatic, s_iaload, s_laload, s_baload, s_aaload, s_iastore, s_lastore, s_bastore, s_aastore, s_arraylength, s_newI, s_newJ, s_newZ, s_anewarray, s_new, s_copy, s_max, s_min, s_invokestatic, s_objinit, s_invokespecial, kf_isr_r, s_invokevirtual, s_ireturn, s_lreturn, s_areturn, s_areturnN, s_return, lI_0, lI_s, lJ_0, lJ_s, lA_0, lA_0N, lA_s, lS1_0, lS1_1, lS1_2, lS2_0, lS2_1, lS2_2, lK_n, lK_i, lK_j, lK_a, lK_N, d_C', kf_w_0, kf_w_i, kf_w_a, kf_w_n, kf_w_j, c_0, c_1, c_2, c_3, c_4, c_5, c_6, tl_0, tl_1, Option.bind_some, Option.bind_none, Option.map_some, Nat.reduceAdd, Nat.reduceMul, Nat.reduceDiv, Nat.reduceMod, Int.reduceToNat, Fin.val_zero, Fin.isValue, Fin.val_one, Fin.val_two, fv_0, fv_1, fv_2, fv_3, fw_0, fw_1, d_ite, true_or, or_true, and_false, false_and, or_self, and_self, ow_44, g, m1, en, mn, kf_fit, ← e1, g1, rr, es, k44, vR, Option.getD_some]
theorem C46y {j : Nat} (b7 : RgIs M 40 ks.length (σ.map some)) (b8 : KS M σ ks) (hj : j < ks.length) : ∃ M' τ, kf_cl 46 [.ref 40, .int (nI j)] M = some (some (.ref (τ.getD (ks.length - 1) 0)), M') ∧ RgIs M' 40 ks.length (τ.map some) ∧ KS M' τ (ks.eraseIdx j) ∧ Off [40, 41] M M' := by
  have g := gO_of b7.1
  have hl := b8.2.2.2.2.2
  have gr := gR_of b7.2.1
  have p0 : ¬ nI j < 0 := nI_pos (by omega)
  have p1 : (nI j).toNatClampNeg = j := nI_clamp (by omega)
  have lt1 : nI j < nI ks.length := nI_lt hj (by omega)
  obtain ⟨s1, -, ⟨jj, jj1, jj2⟩, -⟩ := b8.get (j := j) (by omega)
  have gO3 : ∀ i, i < 10 → ∃ fs, gO M (σ.getD i 0) = some (3, fs) := by
    intro i hi
    obtain ⟨-, -, -, ul, ct, hh, u, s, ii, p, h1, -⟩ := b8.get (j := i) hi
    exact ⟨_, gO_of h1⟩
  have n41 : ∀ i, i < 10 → σ.getD i 0 ≠ 41 := by
    intro i hi
    obtain ⟨-, -, ⟨x, x1, x2⟩, -⟩ := b8.get (j := i) hi
    omega
  obtain ⟨ρ, k1, r1, r2⟩ := c46l (j := j) (a := σ.getD j 0) (n := ks.length) g (m_lt b7.2.1) hl gO3 n41 (ks.length - 1 - j) j σ (by omega) (Nat.le_refl _) b8.1 (fun i => by rw [if_neg (by omega)])
  rw [set_id b7.2.1] at k1
  obtain ⟨τ, et⟩ : ∃ τ, τ = ρ.set (ks.length - 1) (σ.getD j 0) := ⟨_, rfl⟩
  have lt : τ.length = 10 := by rw [et, List.length_set]; exact r1
  have tD : ∀ i, i < 10 → τ.getD i 0 = if i < j then σ.getD i 0 else if i + 1 < ks.length then σ.getD (i + 1) 0 else if i + 1 = ks.length then σ.getD j 0 else σ.getD i 0 := by
    intro i hi
    rw [et]
    by_cases c : ks.length - 1 = i
    · subst c
      rw [sD_self (by omega), if_neg (by omega), if_neg (by omega), if_pos (by omega)]
    · rw [sD_ne c, r2 i]
      by_cases d : i < j
      · rw [if_neg (by omega), if_pos d]
      · rw [if_neg d]
        by_cases e : i + 1 < ks.length
        · rw [if_pos (by omega), if_pos e]
        · rw [if_neg (by omega), if_neg e, if_neg (by omega)]
  obtain ⟨M2, e2⟩ : ∃ X, X = (M.set 41 (oR 3 (ρ.map some))).set 41 (oR 3 (τ.map some)) := ⟨_, rfl⟩
  have o2 : Off [41] M M2 := by rw [e2]; exact (Off.set (by simp)).tr (Off.set (by simp))
  have src : ∀ i, i < 10 → ∃ i', i' < 10 ∧ τ.getD i 0 = σ.getD i' 0 := by
    intro i hi
    rw [tD i hi]
    by_cases d : i < j
    · exact ⟨i, hi, if_pos d⟩
    · rw [if_neg d]
      by_cases e : i + 1 < ks.length
      · exact ⟨i + 1, by omega, if_pos e⟩
      · rw [if_neg e]
        by_cases f : i + 1 = ks.length
        · exact ⟨j, by omega, if_pos f⟩
        · exact ⟨i, hi, if_neg f⟩
  have memτ : ∀ a ∈ τ, ∃ i, i < 10 ∧ a = τ.getD i 0 := by
    intro a ha
    obtain ⟨i, hi, rfl⟩ := List.getElem_of_mem ha
    exact ⟨i, by omega, by rw [List.getD_eq_getElem?_getD, List.getElem?_eq_getElem hi]; rfl⟩
  have KS2 : KS M2 τ (ks.eraseIdx j) := by
    refine ⟨lt, ?_, ?_, ?_, ?_, by rw [List.length_eraseIdx]; split <;> omega⟩
    · intro i i' hi hi' hne
      rw [tD i hi, tD i' hi']
      have inj := b8.2.1
      by_cases a1 : i < j
      · rw [if_pos a1]
        by_cases b1 : i' < j
        · rw [if_pos b1]; exact inj _ _ (by omega) (by omega) (by omega)
        · rw [if_neg b1]
          by_cases b2 : i' + 1 < ks.length
          · rw [if_pos b2]; exact inj _ _ (by omega) (by omega) (by omega)
          · rw [if_neg b2]
            by_cases b3 : i' + 1 = ks.length
            · rw [if_pos b3]; exact inj _ _ (by omega) (by omega) (by omega)
            · rw [if_neg b3]; exact inj _ _ (by omega) (by omega) (by omega)
      · rw [if_neg a1]
        by_cases a2 : i + 1 < ks.length
        · rw [if_pos a2]
          by_cases b1 : i' < j
          · rw [if_pos b1]; exact inj _ _ (by omega) (by omega) (by omega)
          · rw [if_neg b1]
            by_cases b2 : i' + 1 < ks.length
            · rw [if_pos b2]; exact inj _ _ (by omega) (by omega) (by omega)
            · rw [if_neg b2]
              by_cases b3 : i' + 1 = ks.length
              · rw [if_pos b3]; exact inj _ _ (by omega) (by omega) (by omega)
              · rw [if_neg b3]; exact inj _ _ (by omega) (by omega) (by omega)
        · rw [if_neg a2]
          by_cases a3 : i + 1 = ks.length
          · rw [if_pos a3]
            by_cases b1 : i' < j
            · rw [if_pos b1]; exact inj _ _ (by omega) (by omega) (by omega)
            · rw [if_neg b1]
              by_cases b2 : i' + 1 < ks.length
              · rw [if_pos b2]; exact inj _ _ (by omega) (by omega) (by omega)
              · rw [if_neg b2]
                by_cases b3 : i' + 1 = ks.length
                · omega
                · rw [if_neg b3]; exact inj _ _ (by omega) (by omega) (by omega)
          · rw [if_neg a3]
            by_cases b1 : i' < j
            · rw [if_pos b1]; exact inj _ _ (by omega) (by omega) (by omega)
            · rw [if_neg b1]
              by_cases b2 : i' + 1 < ks.length
              · rw [if_pos b2]; exact inj _ _ (by omega) (by omega) (by omega)
              · rw [if_neg b2]
                by_cases b3 : i' + 1 = ks.length
                · rw [if_pos b3]; exact inj _ _ (by omega) (by omega) (by omega)
                · rw [if_neg b3]; exact inj _ _ (by omega) (by omega) (by omega)
    · intro a ha
      obtain ⟨i, hi, e⟩ := memτ a ha
      obtain ⟨i', hi', e'⟩ := src i hi
      rw [e, e']
      exact (b8.get hi').2.2.1
    · intro a ha
      obtain ⟨i, hi, e⟩ := memτ a ha
      obtain ⟨i', hi', e'⟩ := src i hi
      rw [e, e']
      obtain ⟨-, -, ⟨x, x1, x2⟩, hJ⟩ := b8.get hi'
      exact hJ.off o2 (fun y hy => by rw [List.mem_singleton] at hy; omega)
    · intro i k hk
      have hlen : i < (ks.eraseIdx j).length := (List.getElem?_eq_some_iff.mp hk).1
      rw [List.length_eraseIdx, if_pos hj] at hlen
      rw [List.getElem?_eraseIdx] at hk
      have fin : ∀ i', ks[i']? = some k → τ.getD i 0 = σ.getD i' 0 → i' < 10 → KyAt M2 (τ.getD i 0) k ∧ okKy k := by
        intro i' h1 h2 h3
        rw [h2]
        obtain ⟨-, -, ⟨x, x1, x2⟩, -⟩ := b8.get h3
        obtain ⟨y1, y2⟩ := b8.2.2.2.2.1 i' k h1
        exact ⟨y1.off o2 (fun y hy => by rw [List.mem_singleton] at hy; omega), y2⟩
      by_cases c : i < j
      · rw [if_pos c] at hk
        exact fin i hk (by rw [tD i (by omega), if_pos c]) (by omega)
      · rw [if_neg c] at hk
        exact fin (i + 1) hk (by rw [tD i (by omega), if_neg c, if_pos (by omega)]) (by omega)
  have R2 : RgIs M2 40 ks.length (τ.map some) := ⟨o2.at (by decide) b7.1, by rw [e2, List.set_set]; exact m_self (m_lt b7.2.1), by rw [List.length_map]; exact lt, hl⟩
  have tl : τ.getD (ks.length - 1) 0 = σ.getD j 0 := by rw [et, sD_self (by omega)]
  refine ⟨M2, τ, ?_, R2, KS2, o2.wk (by decide)⟩
  rw [tl]
  have ga : gO (M.set 41 (oR 3 (ρ.map some))) 40 = some (6, [.ref 41, .int (nI ks.length)]) := by rw [gO_ne (by decide)]; exact g
  have gra : gR (M.set 41 (oR 3 (ρ.map some))) 41 = some (3, ρ.map some) := gR_self (m_lt b7.2.1)
  obtain ⟨fs3, hfs3⟩ := gO3 j (by omega)
  have gva : gO (M.set 41 (oR 3 (ρ.map some))) (σ.getD j 0) = some (3, fs3) := by rw [gO_ne (Ne.symm (n41 j (by omega)))]; exact hfs3
  have es : nI ks.length - 1 = nI (ks.length - 1) := pk_sub (b := 1) (by omega)
  have q0 : ¬ nI (ks.length - 1) < 0 := nI_pos (by omega)
  have q1 : (nI (ks.length - 1)).toNatClampNeg = ks.length - 1 := nI_clamp (by omega)
  have q2 : ¬ (ρ.map some).length ≤ ks.length - 1 := by rw [List.length_map]; omega
  have n1 : ¬ 41 < 19 := by decide
  have e2' : M.set 41 (oR 3 (τ.map some)) = M2 := by rw [e2, List.set_set]
  have em : (ρ.map some).set (ks.length - 1) (some (σ.getD j 0)) = τ.map some := by rw [rmap_set, ← et]
  simp only [cl_46, e46_0, e46_1, e46_4, e46_5, e46_6, e46_9, e46_12, e46_13, e46_14, e46_17, e46_18, e46_19, e46_21, e46_24, e46_27, e46_28, e46_29, e46_32, e46_33, e46_34, e46_37, e46_38, e46_39, e46_42, e46_43, e46_44, e46_45, e46_46, e46_48, e46_49, e46_50, e46_51, e46_54, e46_57, e46_58, e46_61, e46_62, e46_63, e46_66, e46_67, e46_68, e46_69, e46_70, e46_71, e46_74, e46_78, e46_81, e46_82, e46_85, e46_86, e46_87, e46_88, e46_89, e46_90, ow_46, Int32.reduceOfInt, Int32.reduceOfNat, Int32.reduceToNatClampNeg, Int32.reduceLT, Int32.reduceLE, Int32.reduceAdd, Int32.reduceSub, Int32.reduceMul, Int64.reduceOfNat, Int64.reduceOfInt, Nat.reduceLeDiff, Nat.reduceLT, Nat.reduceEqDiff, Nat.reduceSub, cs_0, cs_1, cs_2, cs_3, cs_4, cs_5, cs_6, cs_7, cs_8, or_false, false_or, not_false_eq_true, and_true, true_and, if_true, if_false, List.length_cons, List.length_nil, List.getElem?_cons_succ, List.getElem?_cons_zero, List.set_cons_succ, List.set_cons_zero, reduceIte, d_G, d_R, s_aload, s_aload_n, s_iload, s_iload_n, s_lload, s_lload_n, s_istore, s_istore_n, s_astore, s_astoreN, s_astore_n, s_astore_nN, s_lstore, s_lstore_n, s_iinc, s_iconst, s_bipush, s_sipush, s_lconst, s_ldc2_w, s_aconst_null, s_dupA, s_dupI, s_dup2, s_iadd, s_isub, s_imul, s_iand, s_ior, s_ixor, s_ishl, s_ishr, s_iushr, s_ineg, s_idiv, s_irem, s_ladd, s_lsub, s_lmul, s_land, s_lor, s_lxor, s_ldiv, s_lshl, s_lshr, s_lushr, s_i2l, s_l2i, s_lcmp, s_goto, s_ieq, s_ine, s_ilt, s_ige, s_igt, s_ile, s_zeq, s_zne, s_zlt, s_zge, s_zgt, s_zle, s_ifnull, s_ifnullN, s_ifnonnull, s_ifnonnullN, s_tableswitch, s_lookupswitch, s_getfield, s_putfield, s_getstatic, s_iaload, s_laload, s_baload, s_aaload, s_iastore, s_lastore, s_bastore, s_aastore, s_arraylength, s_newI, s_newJ, s_newZ, s_anewarray, s_new, s_copy, s_max, s_min, s_invokestatic, s_objinit, s_invokespecial, kf_isr_r, s_invokevirtual, s_ireturn, s_lreturn, s_areturn, s_areturnN, s_return, lI_0, lI_s, lJ_0, lJ_s, lA_0, lA_0N, lA_s, lS1_0, lS1_1, lS1_2, lS2_0, lS2_1, lS2_2, lK_n, lK_i, lK_j, lK_a, lK_N, d_C', kf_w_0, kf_w_i, kf_w_a, kf_w_n, kf_w_j, c_0, c_1, c_2, c_3, c_4, c_5, c_6, tl_0, tl_1, Option.bind_some, Option.bind_none, Option.map_some, Nat.reduceAdd, Nat.reduceMul, Nat.reduceDiv, Nat.reduceMod, Int.reduceToNat, Fin.val_zero, Fin.isValue, Fin.val_one, Fin.val_two, fv_0, fv_1, fv_2, fv_3, fw_0, fw_1, d_ite, true_or, or_true, and_false, false_and, or_self, and_self, g, p0, p1, lt1, gr, s1, vR, k1]
  refine (e46_77 _ _ _).trans ?_
  simp only [cl_46, e46_0, e46_1, e46_4, e46_5, e46_6, e46_9, e46_12, e46_13, e46_14, e46_17, e46_18, e46_19, e46_21, e46_24, e46_27, e46_28, e46_29, e46_32, e46_33, e46_34, e46_37, e46_38, e46_39, e46_42, e46_43, e46_44, e46_45, e46_46, e46_48, e46_49, e46_50, e46_51, e46_54, e46_57, e46_58, e46_61, e46_62, e46_63, e46_66, e46_67, e46_68, e46_69, e46_70, e46_71, e46_74, e46_78, e46_81, e46_82, e46_85, e46_86, e46_87, e46_88, e46_89, e46_90, ow_46, Int32.reduceOfInt, Int32.reduceOfNat, Int32.reduceToNatClampNeg, Int32.reduceLT, Int32.reduceLE, Int32.reduceAdd, Int32.reduceSub, Int32.reduceMul, Int64.reduceOfNat, Int64.reduceOfInt, Nat.reduceLeDiff, Nat.reduceLT, Nat.reduceEqDiff, Nat.reduceSub, cs_0, cs_1, cs_2, cs_3, cs_4, cs_5, cs_6, cs_7, cs_8, or_false, false_or, not_false_eq_true, and_true, true_and, if_true, if_false, List.length_cons, List.length_nil, List.getElem?_cons_succ, List.getElem?_cons_zero, List.set_cons_succ, List.set_cons_zero, reduceIte, d_G, d_R, s_aload, s_aload_n, s_iload, s_iload_n, s_lload, s_lload_n, s_istore, s_istore_n, s_astore, s_astoreN, s_astore_n, s_astore_nN, s_lstore, s_lstore_n, s_iinc, s_iconst, s_bipush, s_sipush, s_lconst, s_ldc2_w, s_aconst_null, s_dupA, s_dupI, s_dup2, s_iadd, s_isub, s_imul, s_iand, s_ior, s_ixor, s_ishl, s_ishr, s_iushr, s_ineg, s_idiv, s_irem, s_ladd, s_lsub, s_lmul, s_land, s_lor, s_lxor, s_ldiv, s_lshl, s_lshr, s_lushr, s_i2l, s_l2i, s_lcmp, s_goto, s_ieq, s_ine, s_ilt, s_ige, s_igt, s_ile, s_zeq, s_zne, s_zlt, s_zge, s_zgt, s_zle, s_ifnull, s_ifnullN, s_ifnonnull, s_ifnonnullN, s_tableswitch, s_lookupswitch, s_getfield, s_putfield, s_getstatic, s_iaload, s_laload, s_baload, s_aaload, s_iastore, s_lastore, s_bastore, s_aastore, s_arraylength, s_newI, s_newJ, s_newZ, s_anewarray, s_new, s_copy, s_max, s_min, s_invokestatic, s_objinit, s_invokespecial, kf_isr_r, s_invokevirtual, s_ireturn, s_lreturn, s_areturn, s_areturnN, s_return, lI_0, lI_s, lJ_0, lJ_s, lA_0, lA_0N, lA_s, lS1_0, lS1_1, lS1_2, lS2_0, lS2_1, lS2_2, lK_n, lK_i, lK_j, lK_a, lK_N, d_C', kf_w_0, kf_w_i, kf_w_a, kf_w_n, kf_w_j, c_0, c_1, c_2, c_3, c_4, c_5, c_6, tl_0, tl_1, Option.bind_some, Option.bind_none, Option.map_some, Nat.reduceAdd, Nat.reduceMul, Nat.reduceDiv, Nat.reduceMod, Int.reduceToNat, Fin.val_zero, Fin.isValue, Fin.val_one, Fin.val_two, fv_0, fv_1, fv_2, fv_3, fw_0, fw_1, d_ite, true_or, or_true, and_false, false_and, or_self, and_self, ga, gra, gva, es, q0, q1, q2, n1, kf_NS, em, List.set_set, e2', not_true_eq_false]
end CMK
