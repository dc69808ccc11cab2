/-! Signer.verdict -/
theorem nBL_inj {L n n' : Nat} (h : nBL L n = nBL L n') (h1 : n < 256 ^ L) (h2 : n' < 256 ^ L) : n = n' := by
  have hd : ∀ j, j < L → n / 256 ^ j % 256 = n' / 256 ^ j % 256 := by
    intro j hj
    have e1 := nBL_get (L := L) (n := n) (k := L - 1 - j) (by omega)
    have e2 := nBL_get (L := L) (n := n') (k := L - 1 - j) (by omega)
    rw [h, e2, show L - 1 - (L - 1 - j) = j by omega] at e1
    injection e1 with e1
    exact ((nI_eq (by omega) (by omega)).mp e1).symm
  have hm : ∀ j, j ≤ L → n % 256 ^ j = n' % 256 ^ j := by
    intro j
    induction j with
    | zero => intro _; rw [Nat.pow_zero, Nat.mod_one, Nat.mod_one]
    | succ j ih => intro hj; rw [Nat.mod_pow_succ, Nat.mod_pow_succ, ih (by omega), hd j (by omega)]
  have := hm L (Nat.le_refl _)
  rwa [Nat.mod_eq_of_lt h1, Nat.mod_eq_of_lt h2] at this
def SgQ (M : kf_M) (cf : Int32) (own : List Int32) : Prop := M[199]? = some (oR 4 (cref 199)) ∧ (∀ j, j < 16 → PtJ M (199 + 1 + 4 * j)) ∧ (cf = 1 → ∀ x y : Nat, own = nBL 32 x ++ nBL 32 y → x < 2 ^ 256 → y < 2 ^ 256 → vP (some ((x : Int), (y : Int))) → Comb M 199 (some ((x : Int), (y : Int)))) ∧ (cf = 0 ∨ cf = 1)
theorem SgQ.off {M M' : kf_M} {A : List Nat} {cf : Int32} {own : List Int32} (h : SgQ M cf own) (ho : Off A M M') (hA : ∀ x ∈ A, x < 199 ∨ 199 + 64 < x) : SgQ M' cf own := by
  have n : ∀ y, 199 ≤ y → y ≤ 199 + 64 → y ∉ A := fun y h1 h2 q => by have := hA y q; omega
  exact ⟨ho.at (n _ (by omega) (by omega)) h.1, fun j hj => (h.2.1 j hj).off ho (n _ (by omega) (by omega)) (n _ (by omega) (by omega)) (n _ (by omega) (by omega)) (n _ (by omega) (by omega)), fun hc x y e1 e2 e3 e4 => (h.2.2.1 hc x y e1 e2 e3 e4).off ho hA, h.2.2.2⟩
/-- t times the inverse of s, modulo the order -/
noncomputable def vU (s t : Int) : Int := (t * s ^ (nN - 2)) % nN
theorem vU_un {s t : Int} {u : Nat} (c0 : 0 < s) (c1 : s < nN) (h1 : u < nN) (h : cg nN (u * s) t) : (u : Int) = vU s t := by
  have e := aS_un (K := s) (v := (u : Int)) (X := 0) (D := 0) (H := 0) c0 c1
  apply cg_md (by omega) (by omega)
  have hnd : ¬ (nN : Int) ∣ s := by
    intro q
    have := Int.le_of_dvd c0 q
    omega
  have h2 := pw_inv nN_prm hnd
  have h3 : cg nN ((u : Int) * (s * s ^ (nN - 2))) ((u : Int) * 1) := cg_ml cg_rf h2
  rw [Int.mul_one] at h3
  have h4 : cg nN ((u : Int) * s * s ^ (nN - 2)) (t * s ^ (nN - 2)) := cg_ml h cg_rf
  rw [Int.mul_assoc] at h4
  exact cg_tr (cg_sy h3) h4
/-- the verdict on the numbers r and s, over a hash and a point -/
def vrd (H r s : Int) (Q : Pt) : Prop := (r ≠ 0 ∧ r < nN) ∧ (s ≠ 0 ∧ s < nN) ∧ fpx (padd (pmul (vU s H).toNat Gpt) (pmul (vU s r).toNat Q)) % nN = r
def A61 : List Nat := [178, 179, 180, 181, 182, 183, 184, 185, 186, 111, 192, 266, 267, 268, 270, 271, 272, 273, 274, 275]
noncomputable def vrI (H r s : Int) (Q : Pt) : Int32 := @ite _ (vrd H r s Q) (Classical.propDecidable _) 1 0
theorem vrI_1 {H r s : Int} {Q : Pt} (h : vrd H r s Q) : vrI H r s Q = 1 := by unfold vrI; rw [if_pos h]
theorem vrI_0 {H r s : Int} {Q : Pt} (h : ¬ vrd H r s Q) : vrI H r s Q = 0 := by unfold vrI; rw [if_neg h]
set_option maxRecDepth 100000 in
set_option maxHeartbeats 4000000 in
/-- the end of verdict: the comb is filled -/
theorem f61e {M : kf_M} {made cf : Int32} {H r s x y : Nat} {dig : List Int32} {bt : Int32} (hO : SgO M made cf) (hK : SgK M) (gd : ArI M 197 32 dig) (hd : dig = nBL 32 H) (hH : H < 2 ^ 256) (hQ : Comb M 199 (some ((x : Int), (y : Int)))) (vQ : vP (some ((x : Int), (y : Int)))) (nr : Num M 276 (r : Int)) (ns : Num M 277 (s : Int)) (r0 : r ≠ 0) (r1 : r < nN) (s0 : s ≠ 0) (s1 : s < nN) : ∃ M', kf_ev 61 136 [some (.ref 104), some (.int bt)] [] M = some (some (.int (vrI H r s (some ((x : Int), (y : Int))))), M') ∧ SgK M' ∧ Off A61 M M' := by
  have hnl := nN_lt
  have hpl := pP_lt
  obtain ⟨Q, hQe⟩ : ∃ Q, Q = some ((x : Int), (y : Int)) := ⟨_, rfl⟩
  rw [← hQe] at hQ vQ ⊢
  have g0 := gO_of hO
  have rO := hO.rc
  obtain ⟨a1, a2, a3, a4, a5, a6, a7, a8, a9, a10, a11, a12⟩ := hK
  obtain ⟨M1, u1, u2, k1, b1, c1, b2, c2, x1, p1, p2, C1, f1_, F1, j1, j2, j3, o1⟩ := f65 hO a1 a2 a3 hQ Gpt_v vQ a4 a12 gd.1 hd hH a5 a6 ns (by omega) (by omega) nr (by omega) (by omega) a7 a8 a9
  have e1 := vU_un (by omega) (by omega) b1 c1
  have e2 := vU_un (by omega) (by omega) b2 c2
  have vW : vP (padd (pmul u1 Gpt) (pmul u2 Q)) := padd_v (Gm_v u1) (pm_v Q vQ u2)
  have fb := fp_b vW
  have hvr : vrd H r s Q ↔ fpx (padd (pmul u1 Gpt) (pmul u2 Q)) % nN = (r : Int) := by
    unfold vrd
    rw [← e1, ← e2, Int.toNat_natCast, Int.toNat_natCast]
    constructor
    · intro h
      exact h.2.2
    · intro h
      exact ⟨⟨by omega, by omega⟩, ⟨by omega, by omega⟩, h⟩
  generalize padd (pmul u1 Gpt) (pmul u2 Q) = W at *
  have hO1 := o1.at (by decide) hO
  have g1 := gO_of hO1
  have gp1 := gO_of p1.1
  obtain ⟨M2, X2, k2, n2, d2, s2, o2⟩ := f18 F1 x1 j3 (by decide) (bN_ fb.1 (by omega))
  have F2 := F1.off2 o2 (by decide)
  have hO2 := o2.at (by decide) hO1
  have g2 := gO_of hO2
  have g42 : M2[4]? = some (oJ sx_4) := o2.at (by decide) (o1.at (by decide) a12)
  obtain ⟨M3, v3, k3, n3, d3, q0, q1, o3⟩ := f19 F2.1 g42 n2 n2.jar (by decide) (by decide) (by decide) (sml_b s2)
  have st := stq_l sN_ok (stq_e sN_ok d2) d3
  have ev := cg_md q0 q1 st
  have nr3 := ((nr.off o1 (by decide)).off o2 (by decide)).off o3 (by decide)
  have hO3 := o3.at (by decide) hO2
  have g3 := gO_of hO3
  have k4 := f12 n3 nr3
  have o23 : Off [275] M1 M3 := o2.tr o3
  have rf1 := F1.1.rc
  have rf2 := F2.1.rc
  have oo : Off A61 M M3 := (o1.wk (by decide)).tr (o23.wk (by decide))
  have K3 : SgK M3 := ⟨C1.off o23 (by decide), f1_.off2 o23 (by decide), a3.off oo (by decide), F1.off2 o23 (by decide), p1.off o23 (by decide) (by decide) (by decide) (by decide), p2.off o23 (by decide) (by decide) (by decide) (by decide), j1.off o23 (by decide), j2.off o23 (by decide), n3.jar, nr3.jar, (ns.jar.off oo (by decide)), oo.at (by decide) a12⟩
  have h10 : ¬ (1 : Int32) = 0 := by decide
  refine ⟨M3, (e61_136 _ _ _).trans ?_, K3, oo⟩
  by_cases q : fpx W % nN = (r : Int)
  · rw [vrI_1 (hvr.mpr q)]
    rw [if_pos (by rw [ev]; exact q)] at k4
    simp only [cl_61, e61_0, e61_1, e61_4, e61_7, e61_8, e61_9, e61_10, e61_13, e61_14, e61_15, e61_18, e61_19, e61_21, e61_24, e61_25, e61_28, e61_29, e61_32, e61_35, e61_36, e61_39, e61_40, e61_41, e61_42, e61_43, e61_44, e61_47, e61_48, e61_50, e61_51, e61_52, e61_53, e61_54, e61_55, e61_58, e61_59, e61_62, e61_63, e61_66, e61_67, e61_70, e61_71, e61_74, e61_76, e61_79, e61_80, e61_83, e61_84, e61_87, e61_90, e61_93, e61_94, e61_97, e61_98, e61_101, e61_104, e61_107, e61_108, e61_109, e61_110, e61_113, e61_116, e61_117, e61_120, e61_121, e61_124, e61_125, e61_128, e61_131, e61_132, e61_133, e61_137, e61_140, e61_141, e61_144, e61_145, e61_148, e61_149, e61_152, e61_155, e61_158, e61_159, e61_162, e61_163, e61_166, e61_167, e61_170, e61_173, e61_174, e61_177, e61_178, e61_181, e61_184, e61_187, e61_188, e61_191, e61_192, ow_61, Int32.reduceOfInt, Int32.reduceOfNat, Int32.reduceToNatClampNeg, Int32.reduceLT, Int32.reduceLE, Int32.reduceAdd, Int32.reduceSub, Int32.reduceMul, Int64.reduceOfNat, Int64.reduceOfInt, Nat.reduceLeDiff, Nat.reduceLT, Nat.reduceEqDiff, Nat.reduceSub, cs_0, cs_1, cs_2, cs_3, cs_4, cs_5, cs_6, cs_7, cs_8, or_false, false_or, not_false_eq_true, and_true, true_and, if_true, if_false, List.length_cons, List.length_nil, List.getElem?_cons_succ, List.getElem?_cons_zero, List.set_cons_succ, List.set_cons_zero, reduceIte, d_G, d_R, s_aload, s_aload_n, s_iload, s_iload_n, s_lload, s_lload_n, s_istore, s_istore_n, s_astore, s_astoreN, s_astore_n, s_astore_nN, s_lstore, s_lstore_n, s_iinc, s_iconst, s_bipush, s_sipush, s_lconst, s_ldc2_w, s_aconst_null, s_dupA, s_dupI, s_dup2, s_iadd, s_isub, s_imul, s_iand, s_ior, s_ixor, s_ishl, s_ishr, s_iushr, s_ineg, s_idiv, s_irem, s_ladd, s_lsub, s_lmul, s_land, s_lor, s_lxor, s_ldiv, s_lshl, s_lshr, s_lushr, s_i2l, s_l2i, s_lcmp, s_goto, s_ieq, s_ine, s_ilt, s_ige, s_igt, s_ile, s_zeq, s_zne, s_zlt, s_zge, s_zgt, s_zle, s_ifnull, s_ifnullN, s_ifnonnull, s_ifnonnullN, s_tableswitch, s_lookupswitch, s_getfield, s_putfield, s_getstatic, s_iaload, s_laload, s_baload, s_aaload, s_iastore, s_lastore, s_bastore, s_aastore, s_arraylength, s_newI, s_newJ, s_newZ, s_anewarray, s_new, s_copy, s_max, s_min, s_invokestatic, s_objinit, s_invokespecial, kf_isr_r, s_invokevirtual, s_ireturn, s_lreturn, s_areturn, s_areturnN, s_return, lI_0, lI_s, lJ_0, lJ_s, lA_0, lA_0N, lA_s, lS1_0, lS1_1, lS1_2, lS2_0, lS2_1, lS2_2, lK_n, lK_i, lK_j, lK_a, lK_N, d_C', kf_w_0, kf_w_i, kf_w_a, kf_w_n, kf_w_j, c_0, c_1, c_2, c_3, c_4, c_5, c_6, tl_0, tl_1, Option.bind_some, Option.bind_none, Option.map_some, Nat.reduceAdd, Nat.reduceMul, Nat.reduceDiv, Nat.reduceMod, Int.reduceToNat, Fin.val_zero, Fin.isValue, Fin.val_one, Fin.val_two, fv_0, fv_1, fv_2, fv_3, fw_0, fw_1, d_ite, true_or, or_true, and_false, false_and, or_self, and_self, ow_65, ow_18, ow_19, sgF, g0, g1, g2, g3, gp1, rO, rf1, rf2, k1, k2, k3, k4, h10]
  · rw [vrI_0 (fun h => q (hvr.mp h))]
    rw [if_neg (by rw [ev]; exact q)] at k4
    simp only [cl_61, e61_0, e61_1, e61_4, e61_7, e61_8, e61_9, e61_10, e61_13, e61_14, e61_15, e61_18, e61_19, e61_21, e61_24, e61_25, e61_28, e61_29, e61_32, e61_35, e61_36, e61_39, e61_40, e61_41, e61_42, e61_43, e61_44, e61_47, e61_48, e61_50, e61_51, e61_52, e61_53, e61_54, e61_55, e61_58, e61_59, e61_62, e61_63, e61_66, e61_67, e61_70, e61_71, e61_74, e61_76, e61_79, e61_80, e61_83, e61_84, e61_87, e61_90, e61_93, e61_94, e61_97, e61_98, e61_101, e61_104, e61_107, e61_108, e61_109, e61_110, e61_113, e61_116, e61_117, e61_120, e61_121, e61_124, e61_125, e61_128, e61_131, e61_132, e61_133, e61_137, e61_140, e61_141, e61_144, e61_145, e61_148, e61_149, e61_152, e61_155, e61_158, e61_159, e61_162, e61_163, e61_166, e61_167, e61_170, e61_173, e61_174, e61_177, e61_178, e61_181, e61_184, e61_187, e61_188, e61_191, e61_192, ow_61, Int32.reduceOfInt, Int32.reduceOfNat, Int32.reduceToNatClampNeg, Int32.reduceLT, Int32.reduceLE, Int32.reduceAdd, Int32.reduceSub, Int32.reduceMul, Int64.reduceOfNat, Int64.reduceOfInt, Nat.reduceLeDiff, Nat.reduceLT, Nat.reduceEqDiff, Nat.reduceSub, cs_0, cs_1, cs_2, cs_3, cs_4, cs_5, cs_6, cs_7, cs_8, or_false, false_or, not_false_eq_true, and_true, true_and, if_true, if_false, List.length_cons, List.length_nil, List.getElem?_cons_succ, List.getElem?_cons_zero, List.set_cons_succ, List.set_cons_zero, reduceIte, d_G, d_R, s_aload, s_aload_n, s_iload, s_iload_n, s_lload, s_lload_n, s_istore, s_istore_n, s_astore, s_astoreN, s_astore_n, s_astore_nN, s_lstore, s_lstore_n, s_iinc, s_iconst, s_bipush, s_sipush, s_lconst, s_ldc2_w, s_aconst_null, s_dupA, s_dupI, s_dup2, s_iadd, s_isub, s_imul, s_iand, s_ior, s_ixor, s_ishl, s_ishr, s_iushr, s_ineg, s_idiv, s_irem, s_ladd, s_lsub, s_lmul, s_land, s_lor, s_lxor, s_ldiv, s_lshl, s_lshr, s_lushr, s_i2l, s_l2i, s_lcmp, s_goto, s_ieq, s_ine, s_ilt, s_ige, s_igt, s_ile, s_zeq, s_zne, s_zlt, s_zge, s_zgt, s_zle, s_ifnull, s_ifnullN, s_ifnonnull, s_ifnonnullN, s_tableswitch, s_lookupswitch, s_getfield, s_putfield, s_getstatic, s_iaload, s_laload, s_baload, s_aaload, s_iastore, s_lastore, s_bastore, s_aastore, s_arraylength, s_newI, s_newJ, s_newZ, s_anewarray, s_new, s_copy, s_max, s_min, s_invokestatic, s_objinit, s_invokespecial, kf_isr_r, s_invokevirtual, s_ireturn, s_lreturn, s_areturn, s_areturnN, s_return, lI_0, lI_s, lJ_0, lJ_s, lA_0, lA_0N, lA_s, lS1_0, lS1_1, lS1_2, lS2_0, lS2_1, lS2_2, lK_n, lK_i, lK_j, lK_a, lK_N, d_C', kf_w_0, kf_w_i, kf_w_a, kf_w_n, kf_w_j, c_0, c_1, c_2, c_3, c_4, c_5, c_6, tl_0, tl_1, Option.bind_some, Option.bind_none, Option.map_some, Nat.reduceAdd, Nat.reduceMul, Nat.reduceDiv, Nat.reduceMod, Int.reduceToNat, Fin.val_zero, Fin.isValue, Fin.val_one, Fin.val_two, fv_0, fv_1, fv_2, fv_3, fw_0, fw_1, d_ite, true_or, or_true, and_false, false_and, or_self, and_self, ow_65, ow_18, ow_19, sgF, g0, g1, g2, g3, gp1, rO, rf1, rf2, k1, k2, k3, k4]
