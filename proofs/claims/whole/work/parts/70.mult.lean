/-! multiply, within -/
theorem wv_word {l : List Int32} {j : Nat} (hj : j < 8) : uw (l.getD j 0) = wv l 0 8 / 4294967296 ^ j % 4294967296 := by
  have h1 := wv_app (l := l) (8 - j) j 0
  rw [show j + (8 - j) = 8 by omega, Nat.zero_add] at h1
  have h3 := wv_lt (l := l) j 0
  have h2 : wv l j (8 - j) = uw (l.getD j 0) + 4294967296 * wv l (j + 1) (7 - j) := by
    rw [show 8 - j = (7 - j) + 1 by omega]
    rfl
  rw [h1, Nat.add_comm, Nat.mul_add_div (Nat.pos_of_ne_zero (by simp)), Nat.div_eq_of_lt h3, h2]
  have := uw_lt (l.getD j 0)
  omega
theorem dgb32 {n j s : Nat} (hs : s < 32) : n / 2 ^ (32 * j) % 2 ^ 32 / 2 ^ s % 2 = n / 2 ^ (32 * j + s) % 2 := by
  rw [show (2 : Nat) ^ 32 = 2 ^ s * 2 ^ (32 - s) by rw [← Nat.pow_add]; congr 1; omega, Nat.mod_mul_right_div_self, Nat.div_div_eq_div_mul, ← Nat.pow_add]
  rw [show 32 - s = (31 - s) + 1 by omega, Nat.pow_succ]
  exact Nat.mod_mod_of_dvd _ (Nat.dvd_mul_left _ _)
theorem bit_w (x : Int32) {s : Nat} (hs : s < 32) : (x >>> (nI s &&& 31)) &&& 1 = nI (uw x / 2 ^ s % 2) := by
  have hsm : ∀ s, s < 32 → ((nI s &&& 31).toBitVec.smod 32).toNat = s := by decide +kernel
  rw [and1]
  congr 1
  have h1 := uw_int (x >>> (nI s &&& 31))
  rw [pk_shr x _ _ (hsm s hs), Int.shiftRight_eq_div_pow] at h1
  have h2 := uw_int x
  obtain ⟨t, ht⟩ : ∃ t : Int, x.toInt = (uw x : Int) + 2 ^ s * (2 * 2 ^ (31 - s) * t) := by
    refine ⟨x.toInt / 4294967296, ?_⟩
    rw [← Int.mul_assoc, show (2 : Int) ^ s * (2 * 2 ^ (31 - s)) = 4294967296 by
      rw [show (2 : Int) * 2 ^ (31 - s) = 2 ^ (31 - s + 1) by rw [Int.pow_succ, Int.mul_comm], ← Int.pow_add, show s + (31 - s + 1) = 32 by omega]; rfl]
    omega
  have hp : (2 : Int) ^ s ≠ 0 := Int.ne_of_gt (Int.pow_pos (by decide))
  rw [show ((2 ^ s : Nat) : Int) = 2 ^ s from Int.natCast_pow 2 s, ht, Int.add_mul_ediv_left _ _ hp, Int.mul_assoc] at h1
  have h3 : ((uw x / 2 ^ s : Nat) : Int) = (uw x : Int) / 2 ^ s := by
    rw [Int.natCast_ediv, Int.natCast_pow]
    rfl
  rw [← h3] at h1
  generalize (2 : Int) ^ (31 - s) * t = z at *
  generalize uw x / 2 ^ s = y at *
  omega
theorem c157l {kr xr yr K : Nat} {x y : Int} (hv : vP (some (x, y))) (hkr : 321 < kr) : ∀ n, n ≤ 256 → ∀ (M : kf_M) (fs : List Value), MdIs M fs → Cal M → Wd M kr K → Wd M 320 x.toNat → Wd M 321 y.toNat → PtM M fs (pmul (K / 2 ^ n) (some (x, y))) → ∃ (M' : kf_M) (fs' : List Value), kf_ev 157 26 [some (.ref 284), some (.ref kr), some (.ref xr), some (.ref yr), some (.int (nI n + -1))] [] M = some (none, M') ∧ MdIs M' fs' ∧ Cal M' ∧ PtM M' fs' (pmul K (some (x, y))) ∧ fs43 fs fs' ∧ Off A154 M M' := by
  intro n
  have z1 : ¬ (1 : Int32) = 0 := by decide
  have z32 : ¬ (32 : Int32) = 0 := by decide
  induction n with
  | zero =>
    intro _ M fs hM hC hk hx hy hp
    have e : nI 0 + -1 = -1 := by decide
    have e2 : (-1 : Int32) < 0 := by decide
    rw [Nat.pow_zero, Nat.div_one] at hp
    refine ⟨M, fs, ?_, hM, hC, hp, fs43.rf, Off.rf⟩
    rw [e]
    refine (e157_26 _ _ _).trans ?_
    simp only [cl_157, e157_0, e157_1, e157_4, e157_5, e157_8, e157_9, e157_12, e157_13, e157_16, e157_17, e157_18, e157_21, e157_24, e157_28, e157_31, e157_32, e157_35, e157_38, e157_39, e157_42, e157_43, e157_45, e157_47, e157_48, e157_49, e157_51, e157_53, e157_54, e157_55, e157_56, e157_57, e157_58, e157_61, e157_62, e157_63, e157_66, e157_67, e157_70, e157_73, e157_76, e157_79, ow_157, Int32.reduceOfInt, Int32.reduceOfNat, Int32.reduceToNatClampNeg, Int32.reduceLT, Int32.reduceLE, Int32.reduceAdd, Int32.reduceSub, Int32.reduceMul, Int64.reduceOfNat, Int64.reduceOfInt, Nat.reduceLeDiff, Nat.reduceLT, Nat.reduceEqDiff, Nat.reduceSub, cs_0, cs_1, cs_2, cs_3, cs_4, cs_5, cs_6, cs_7, cs_8, or_false, false_or, not_false_eq_true, and_true, true_and, if_true, if_false, List.length_cons, List.length_nil, List.getElem?_cons_succ, List.getElem?_cons_zero, List.set_cons_succ, List.set_cons_zero, reduceIte, d_G, d_R, s_aload, s_aload_n, s_iload, s_iload_n, s_lload, s_lload_n, s_istore, s_istore_n, s_astore, s_astoreN, s_astore_n, s_astore_nN, s_lstore, s_lstore_n, s_iinc, s_iconst, s_bipush, s_sipush, s_lconst, s_ldc2_w, s_aconst_null, s_dupA, s_dupI, s_dup2, s_iadd, s_isub, s_imul, s_iand, s_ior, s_ixor, s_ishl, s_ishr, s_iushr, s_ineg, s_idiv, s_irem, s_ladd, s_lsub, s_lmul, s_land, s_lor, s_lxor, s_ldiv, s_lshl, s_lshr, s_lushr, s_i2l, s_l2i, s_lcmp, s_goto, s_ieq, s_ine, s_ilt, s_ige, s_igt, s_ile, s_zeq, s_zne, s_zlt, s_zge, s_zgt, s_zle, s_ifnull, s_ifnullN, s_ifnonnull, s_ifnonnullN, s_tableswitch, s_lookupswitch, s_getfield, s_putfield, s_getstatic, s_iaload, s_laload, s_baload, s_aaload, s_iastore, s_lastore, s_bastore, s_aastore, s_arraylength, s_newI, s_newJ, s_newZ, s_anewarray, s_new, s_copy, s_max, s_min, s_invokestatic, s_objinit, s_invokespecial, kf_isr_r, s_invokevirtual, s_ireturn, s_lreturn, s_areturn, s_areturnN, s_return, lI_0, lI_s, lJ_0, lJ_s, lA_0, lA_0N, lA_s, lS1_0, lS1_1, lS1_2, lS2_0, lS2_1, lS2_2, lK_n, lK_i, lK_j, lK_a, lK_N, d_C', kf_w_0, kf_w_i, kf_w_a, kf_w_n, kf_w_j, c_0, c_1, c_2, c_3, c_4, c_5, c_6, tl_0, tl_1, Option.bind_some, Option.bind_none, Option.map_some, Nat.reduceAdd, Nat.reduceMul, Nat.reduceDiv, Nat.reduceMod, Int.reduceToNat, Fin.val_zero, Fin.isValue, Fin.val_one, Fin.val_two, fv_0, fv_1, fv_2, fv_3, fw_0, fw_1, d_ite, true_or, or_true, and_false, false_and, or_self, and_self, e2]
  | succ n ih =>
    intro hn M fs hM hC hk hx hy hp
    have e : nI (n + 1) + -1 = nI n := nI_dec n
    have e2 : ¬ nI n < 0 := nI_pos (by omega)
    have g := gO_of hM.1
    have rc := hM.rc
    have vq := pmul_v hv (K / 2 ^ (n + 1))
    obtain ⟨M1, k1, p1, C1, o1⟩ : ∃ M1 : kf_M, kf_ev 157 26 [some (.ref 284), some (.ref kr), some (.ref xr), some (.ref yr), some (.int (nI n))] [] M = kf_ev 157 42 [some (.ref 284), some (.ref kr), some (.ref xr), some (.ref yr), some (.int (nI n))] [] M1 ∧ PtM M1 fs (pmul (K / 2 ^ (n + 1) + K / 2 ^ (n + 1)) (some (x, y))) ∧ Cal M1 ∧ Off A156 M M1 := by
      rw [pmul_add hv]
      cases hq : pmul (K / 2 ^ (n + 1)) (some (x, y)) with
      | none =>
        rw [hq] at hp
        have hn : fs[43]? = some (.int 1) := hp
        refine ⟨M, (e157_26 _ _ _).trans ?_, ?_, hC, Off.rf⟩
        · simp only [cl_157, e157_0, e157_1, e157_4, e157_5, e157_8, e157_9, e157_12, e157_13, e157_16, e157_17, e157_18, e157_21, e157_24, e157_28, e157_31, e157_32, e157_35, e157_38, e157_39, e157_43, e157_45, e157_47, e157_48, e157_49, e157_51, e157_53, e157_54, e157_55, e157_56, e157_57, e157_58, e157_61, e157_62, e157_63, e157_66, e157_67, e157_70, e157_73, e157_76, e157_79, ow_157, Int32.reduceOfInt, Int32.reduceOfNat, Int32.reduceToNatClampNeg, Int32.reduceLT, Int32.reduceLE, Int32.reduceAdd, Int32.reduceSub, Int32.reduceMul, Int64.reduceOfNat, Int64.reduceOfInt, Nat.reduceLeDiff, Nat.reduceLT, Nat.reduceEqDiff, Nat.reduceSub, cs_0, cs_1, cs_2, cs_3, cs_4, cs_5, cs_6, cs_7, cs_8, or_false, false_or, not_false_eq_true, and_true, true_and, if_true, if_false, List.length_cons, List.length_nil, List.getElem?_cons_succ, List.getElem?_cons_zero, List.set_cons_succ, List.set_cons_zero, reduceIte, d_G, d_R, s_aload, s_aload_n, s_iload, s_iload_n, s_lload, s_lload_n, s_istore, s_istore_n, s_astore, s_astoreN, s_astore_n, s_astore_nN, s_lstore, s_lstore_n, s_iinc, s_iconst, s_bipush, s_sipush, s_lconst, s_ldc2_w, s_aconst_null, s_dupA, s_dupI, s_dup2, s_iadd, s_isub, s_imul, s_iand, s_ior, s_ixor, s_ishl, s_ishr, s_iushr, s_ineg, s_idiv, s_irem, s_ladd, s_lsub, s_lmul, s_land, s_lor, s_lxor, s_ldiv, s_lshl, s_lshr, s_lushr, s_i2l, s_l2i, s_lcmp, s_goto, s_ieq, s_ine, s_ilt, s_ige, s_igt, s_ile, s_zeq, s_zne, s_zlt, s_zge, s_zgt, s_zle, s_ifnull, s_ifnullN, s_ifnonnull, s_ifnonnullN, s_tableswitch, s_lookupswitch, s_getfield, s_putfield, s_getstatic, s_iaload, s_laload, s_baload, s_aaload, s_iastore, s_lastore, s_bastore, s_aastore, s_arraylength, s_newI, s_newJ, s_newZ, s_anewarray, s_new, s_copy, s_max, s_min, s_invokestatic, s_objinit, s_invokespecial, kf_isr_r, s_invokevirtual, s_ireturn, s_lreturn, s_areturn, s_areturnN, s_return, lI_0, lI_s, lJ_0, lJ_s, lA_0, lA_0N, lA_s, lS1_0, lS1_1, lS1_2, lS2_0, lS2_1, lS2_2, lK_n, lK_i, lK_j, lK_a, lK_N, d_C', kf_w_0, kf_w_i, kf_w_a, kf_w_n, kf_w_j, c_0, c_1, c_2, c_3, c_4, c_5, c_6, tl_0, tl_1, Option.bind_some, Option.bind_none, Option.map_some, Nat.reduceAdd, Nat.reduceMul, Nat.reduceDiv, Nat.reduceMod, Int.reduceToNat, Fin.val_zero, Fin.isValue, Fin.val_one, Fin.val_two, fv_0, fv_1, fv_2, fv_3, fw_0, fw_1, d_ite, true_or, or_true, and_false, false_and, or_self, and_self, e2, g, hn, z1]
        · rw [padd_0 (P := none) trivial]
          exact hn
      | some xy =>
        obtain ⟨a, b⟩ := xy
        rw [hq] at hp vq
        obtain ⟨M1, k1, p1, C1, o1⟩ := n155 hM hC hp vq
        have hn := hp.1
        refine ⟨M1, (e157_26 _ _ _).trans ?_, p1, C1, o1⟩
        simp only [cl_157, e157_0, e157_1, e157_4, e157_5, e157_8, e157_9, e157_12, e157_13, e157_16, e157_17, e157_18, e157_21, e157_24, e157_28, e157_31, e157_32, e157_35, e157_38, e157_39, e157_43, e157_45, e157_47, e157_48, e157_49, e157_51, e157_53, e157_54, e157_55, e157_56, e157_57, e157_58, e157_61, e157_62, e157_63, e157_66, e157_67, e157_70, e157_73, e157_76, e157_79, ow_157, Int32.reduceOfInt, Int32.reduceOfNat, Int32.reduceToNatClampNeg, Int32.reduceLT, Int32.reduceLE, Int32.reduceAdd, Int32.reduceSub, Int32.reduceMul, Int64.reduceOfNat, Int64.reduceOfInt, Nat.reduceLeDiff, Nat.reduceLT, Nat.reduceEqDiff, Nat.reduceSub, cs_0, cs_1, cs_2, cs_3, cs_4, cs_5, cs_6, cs_7, cs_8, or_false, false_or, not_false_eq_true, and_true, true_and, if_true, if_false, List.length_cons, List.length_nil, List.getElem?_cons_succ, List.getElem?_cons_zero, List.set_cons_succ, List.set_cons_zero, reduceIte, d_G, d_R, s_aload, s_aload_n, s_iload, s_iload_n, s_lload, s_lload_n, s_istore, s_istore_n, s_astore, s_astoreN, s_astore_n, s_astore_nN, s_lstore, s_lstore_n, s_iinc, s_iconst, s_bipush, s_sipush, s_lconst, s_ldc2_w, s_aconst_null, s_dupA, s_dupI, s_dup2, s_iadd, s_isub, s_imul, s_iand, s_ior, s_ixor, s_ishl, s_ishr, s_iushr, s_ineg, s_idiv, s_irem, s_ladd, s_lsub, s_lmul, s_land, s_lor, s_lxor, s_ldiv, s_lshl, s_lshr, s_lushr, s_i2l, s_l2i, s_lcmp, s_goto, s_ieq, s_ine, s_ilt, s_ige, s_igt, s_ile, s_zeq, s_zne, s_zlt, s_zge, s_zgt, s_zle, s_ifnull, s_ifnullN, s_ifnonnull, s_ifnonnullN, s_tableswitch, s_lookupswitch, s_getfield, s_putfield, s_getstatic, s_iaload, s_laload, s_baload, s_aaload, s_iastore, s_lastore, s_bastore, s_aastore, s_arraylength, s_newI, s_newJ, s_newZ, s_anewarray, s_new, s_copy, s_max, s_min, s_invokestatic, s_objinit, s_invokespecial, kf_isr_r, s_invokevirtual, s_ireturn, s_lreturn, s_areturn, s_areturnN, s_return, lI_0, lI_s, lJ_0, lJ_s, lA_0, lA_0N, lA_s, lS1_0, lS1_1, lS1_2, lS2_0, lS2_1, lS2_2, lK_n, lK_i, lK_j, lK_a, lK_N, d_C', kf_w_0, kf_w_i, kf_w_a, kf_w_n, kf_w_j, c_0, c_1, c_2, c_3, c_4, c_5, c_6, tl_0, tl_1, Option.bind_some, Option.bind_none, Option.map_some, Nat.reduceAdd, Nat.reduceMul, Nat.reduceDiv, Nat.reduceMod, Int.reduceToNat, Fin.val_zero, Fin.isValue, Fin.val_one, Fin.val_two, fv_0, fv_1, fv_2, fv_3, fw_0, fw_1, d_ite, true_or, or_true, and_false, false_and, or_self, and_self, e2, g, hn, rc, ow_155, k1]
    have hM1 := hM.off o1 (by decide)
    have g1 := gO_of hM1.1
    have rc1 := hM1.rc
    have hA : ∀ z ∈ A156, z < 320 := by decide
    have hk1 := hk.off o1 (fun h => by have := hA _ h; omega)
    have hx1 := hx.off o1 (by decide)
    have hy1 := hy.off o1 (by decide)
    have r49 := hM.rf 49 320 (by decide)
    have r50 := hM.rf 50 321 (by decide)
    have wk1 := hk1
    obtain ⟨lk, gk, lk8, ek⟩ := wk1
    have gki := gI_of gk
    have e4 : nI n / 32 = nI (n / 32) := pk_div (d := 32) (by omega) (by omega) (by omega)
    have e3 : nI n - nI (n / 32) * 32 = nI (n % 32) := by rw [← e4]; exact pk_rem (d := 32) (by omega) (by omega) (by omega)
    have p0 : ¬ nI (n / 32) < 0 := nI_pos (by omega)
    have p2 : (nI (n / 32)).toNatClampNeg = n / 32 := nI_clamp (by omega)
    have w0 := getD_of (xs := lk) (i := n / 32) (by omega)
    have hb : (lk.getD (n / 32) 0 >>> (nI (n % 32) &&& 31)) &&& 1 = nI (K / 2 ^ n % 2) := by
      rw [bit_w _ (by omega), wv_word (by omega), ek, show (4294967296 : Nat) ^ (n / 32) = 2 ^ (32 * (n / 32)) by rw [Nat.pow_mul], show (4294967296 : Nat) = 2 ^ 32 from rfl, dgb32 (by omega), show 32 * (n / 32) + n % 32 = n by omega]
    have hK : K / 2 ^ n = K / 2 ^ (n + 1) + K / 2 ^ (n + 1) + K / 2 ^ n % 2 := by
      rw [Nat.pow_succ, ← Nat.div_div_eq_div_mul]
      omega
    have vq2 := pmul_v hv (K / 2 ^ (n + 1) + K / 2 ^ (n + 1))
    by_cases q : K / 2 ^ n % 2 = 1
    · rw [q] at hb hK
      obtain ⟨M2, fs2, k2, hM2, p2', C2, f2, o2⟩ := n154 (xr := 320) (yr := 321) hM1 C1 p1 vq2 hx1 hy1 hv (by decide) (by decide)
      have hp2 : PtM M2 fs2 (pmul (K / 2 ^ n) (some (x, y))) := by
        rw [hK, pmul_add hv _ 1, pmul_1 hv]
        exact p2'
      have hA2 : ∀ z ∈ A154, z < 320 := by decide
      obtain ⟨M3, fs3, k3, hM3, C3, p3, f3, o3⟩ := ih (by omega) M2 fs2 hM2 C2 (hk1.off o2 (fun h => by have := hA2 _ h; omega)) (hx1.off o2 (by decide)) (hy1.off o2 (by decide)) hp2
      refine ⟨M3, fs3, ?_, hM3, C3, p3, f2.tr f3, ((o1.wk (by decide)).tr o2).tr o3⟩
      rw [e]
      refine k1.trans ((e157_42 _ _ _).trans (Eq.trans ?_ k3))
      have n1 : (nI 1 = 1) = True := eq_true rfl
      simp only [cl_157, e157_0, e157_1, e157_4, e157_5, e157_8, e157_9, e157_12, e157_13, e157_16, e157_17, e157_18, e157_21, e157_24, e157_28, e157_31, e157_32, e157_35, e157_38, e157_39, e157_43, e157_45, e157_47, e157_48, e157_49, e157_51, e157_53, e157_54, e157_55, e157_56, e157_57, e157_58, e157_61, e157_62, e157_63, e157_66, e157_67, e157_70, e157_73, e157_76, e157_79, ow_157, Int32.reduceOfInt, Int32.reduceOfNat, Int32.reduceToNatClampNeg, Int32.reduceLT, Int32.reduceLE, Int32.reduceAdd, Int32.reduceSub, Int32.reduceMul, Int64.reduceOfNat, Int64.reduceOfInt, Nat.reduceLeDiff, Nat.reduceLT, Nat.reduceEqDiff, Nat.reduceSub, cs_0, cs_1, cs_2, cs_3, cs_4, cs_5, cs_6, cs_7, cs_8, or_false, false_or, not_false_eq_true, and_true, true_and, if_true, if_false, List.length_cons, List.length_nil, List.getElem?_cons_succ, List.getElem?_cons_zero, List.set_cons_succ, List.set_cons_zero, reduceIte, d_G, d_R, s_aload, s_aload_n, s_iload, s_iload_n, s_lload, s_lload_n, s_istore, s_istore_n, s_astore, s_astoreN, s_astore_n, s_astore_nN, s_lstore, s_lstore_n, s_iinc, s_iconst, s_bipush, s_sipush, s_lconst, s_ldc2_w, s_aconst_null, s_dupA, s_dupI, s_dup2, s_iadd, s_isub, s_imul, s_iand, s_ior, s_ixor, s_ishl, s_ishr, s_iushr, s_ineg, s_idiv, s_irem, s_ladd, s_lsub, s_lmul, s_land, s_lor, s_lxor, s_ldiv, s_lshl, s_lshr, s_lushr, s_i2l, s_l2i, s_lcmp, s_goto, s_ieq, s_ine, s_ilt, s_ige, s_igt, s_ile, s_zeq, s_zne, s_zlt, s_zge, s_zgt, s_zle, s_ifnull, s_ifnullN, s_ifnonnull, s_ifnonnullN, s_tableswitch, s_lookupswitch, s_getfield, s_putfield, s_getstatic, s_iaload, s_laload, s_baload, s_aaload, s_iastore, s_lastore, s_bastore, s_aastore, s_arraylength, s_newI, s_newJ, s_newZ, s_anewarray, s_new, s_copy, s_max, s_min, s_invokestatic, s_objinit, s_invokespecial, kf_isr_r, s_invokevirtual, s_ireturn, s_lreturn, s_areturn, s_areturnN, s_return, lI_0, lI_s, lJ_0, lJ_s, lA_0, lA_0N, lA_s, lS1_0, lS1_1, lS1_2, lS2_0, lS2_1, lS2_2, lK_n, lK_i, lK_j, lK_a, lK_N, d_C', kf_w_0, kf_w_i, kf_w_a, kf_w_n, kf_w_j, c_0, c_1, c_2, c_3, c_4, c_5, c_6, tl_0, tl_1, Option.bind_some, Option.bind_none, Option.map_some, Nat.reduceAdd, Nat.reduceMul, Nat.reduceDiv, Nat.reduceMod, Int.reduceToNat, Fin.val_zero, Fin.isValue, Fin.val_one, Fin.val_two, fv_0, fv_1, fv_2, fv_3, fw_0, fw_1, d_ite, true_or, or_true, and_false, false_and, or_self, and_self, gki, e4, e3, p0, p2, w0, z32, hb, n1, g1, rc1, ow_154, r49, r50, k2]
    · have q0 : K / 2 ^ n % 2 = 0 := by omega
      rw [q0] at hb hK
      rw [Nat.add_zero] at hK
      obtain ⟨M3, fs3, k3, hM3, C3, p3, f3, o3⟩ := ih (by omega) M1 fs hM1 C1 hk1 hx1 hy1 (by rw [hK]; exact p1)
      refine ⟨M3, fs3, ?_, hM3, C3, p3, f3, (o1.wk (by decide)).tr o3⟩
      rw [e]
      refine k1.trans ((e157_42 _ _ _).trans (Eq.trans ?_ k3))
      have n1 : (nI 0 = 1) = False := eq_false (by decide)
      simp only [cl_157, e157_0, e157_1, e157_4, e157_5, e157_8, e157_9, e157_12, e157_13, e157_16, e157_17, e157_18, e157_21, e157_24, e157_28, e157_31, e157_32, e157_35, e157_38, e157_39, e157_43, e157_45, e157_47, e157_48, e157_49, e157_51, e157_53, e157_54, e157_55, e157_56, e157_57, e157_58, e157_61, e157_62, e157_63, e157_66, e157_67, e157_70, e157_73, e157_76, e157_79, ow_157, Int32.reduceOfInt, Int32.reduceOfNat, Int32.reduceToNatClampNeg, Int32.reduceLT, Int32.reduceLE, Int32.reduceAdd, Int32.reduceSub, Int32.reduceMul, Int64.reduceOfNat, Int64.reduceOfInt, Nat.reduceLeDiff, Nat.reduceLT, Nat.reduceEqDiff, Nat.reduceSub, cs_0, cs_1, cs_2, cs_3, cs_4, cs_5, cs_6, cs_7, cs_8, or_false, false_or, not_false_eq_true, and_true, true_and, if_true, if_false, List.length_cons, List.length_nil, List.getElem?_cons_succ, List.getElem?_cons_zero, List.set_cons_succ, List.set_cons_zero, reduceIte, d_G, d_R, s_aload, s_aload_n, s_iload, s_iload_n, s_lload, s_lload_n, s_istore, s_istore_n, s_astore, s_astoreN, s_astore_n, s_astore_nN, s_lstore, s_lstore_n, s_iinc, s_iconst, s_bipush, s_sipush, s_lconst, s_ldc2_w, s_aconst_null, s_dupA, s_dupI, s_dup2, s_iadd, s_isub, s_imul, s_iand, s_ior, s_ixor, s_ishl, s_ishr, s_iushr, s_ineg, s_idiv, s_irem, s_ladd, s_lsub, s_lmul, s_land, s_lor, s_lxor, s_ldiv, s_lshl, s_lshr, s_lushr, s_i2l, s_l2i, s_lcmp, s_goto, s_ieq, s_ine, s_ilt, s_ige, s_igt, s_ile, s_zeq, s_zne, s_zlt, s_zge, s_zgt, s_zle, s_ifnull, s_ifnullN, s_ifnonnull, s_ifnonnullN, s_tableswitch, s_lookupswitch, s_getfield, s_putfield, s_getstatic, s_iaload, s_laload, s_baload, s_aaload, s_iastore, s_lastore, s_bastore, s_aastore, s_arraylength, s_newI, s_newJ, s_newZ, s_anewarray, s_new, s_copy, s_max, s_min, s_invokestatic, s_objinit, s_invokespecial, kf_isr_r, s_invokevirtual, s_ireturn, s_lreturn, s_areturn, s_areturnN, s_return, lI_0, lI_s, lJ_0, lJ_s, lA_0, lA_0N, lA_s, lS1_0, lS1_1, lS1_2, lS2_0, lS2_1, lS2_2, lK_n, lK_i, lK_j, lK_a, lK_N, d_C', kf_w_0, kf_w_i, kf_w_a, kf_w_n, kf_w_j, c_0, c_1, c_2, c_3, c_4, c_5, c_6, tl_0, tl_1, Option.bind_some, Option.bind_none, Option.map_some, Nat.reduceAdd, Nat.reduceMul, Nat.reduceDiv, Nat.reduceMod, Int.reduceToNat, Fin.val_zero, Fin.isValue, Fin.val_one, Fin.val_two, fv_0, fv_1, fv_2, fv_3, fw_0, fw_1, d_ite, true_or, or_true, and_false, false_and, or_self, and_self, gki, e4, e3, p0, p2, w0, z32, hb, n1]
def A157 : List Nat := [284, 308, 309, 310, 311, 312, 313, 314, 315, 316, 317, 318, 319, 320, 321]
theorem n157 {M : kf_M} {fs : List Value} {kr xr yr K : Nat} {x y : Int} (hM : MdIs M fs) (hC : Cal M) (hk : Wd M kr K) (hx : Wd M xr x.toNat) (hy : Wd M yr y.toNat) (hv : vP (some (x, y))) (hkr : 321 < kr) (hxr : xr < 284 ∨ 321 < xr) (hyr : yr < 284 ∨ 321 < yr) : ∃ (M' : kf_M) (fs' : List Value), kf_cl 157 [.ref 284, .ref kr, .ref xr, .ref yr] M = some (none, M') ∧ MdIs M' fs' ∧ Cal M' ∧ PtM M' fs' (pmul K (some (x, y))) ∧ fs43 fs fs' ∧ Off A157 M M' := by
  have r49 := hM.rf 49 320 (by decide)
  have r50 := hM.rf 50 321 (by decide)
  have g := gO_of hM.1
  obtain ⟨M1, k1, w1, C1, o1⟩ := q140 (to := 320) hC hx (by decide) (by omega)
  have hM1 := hM.off o1 (by decide)
  have g1 := gO_of hM1.1
  obtain ⟨M2, k2, w2, C2, o2⟩ := q140 (to := 321) C1 (hy.off o1 (by simp; omega)) (by decide) (by omega)
  have hM2 := hM1.off o2 (by decide)
  have g2 := gO_of hM2.1
  have l43 : 43 < fs.length := by rw [hM.2.1]; decide
  have b1 : (((1 : Int32) == 0) || ((1 : Int32) == 1)) = true := by decide
  have o3 : Off [284] M2 (M2.set 284 (oO 12 (fs.set 43 (.int 1)))) := Off.set (by simp)
  have hK : K / 2 ^ 256 = 0 := Nat.div_eq_of_lt hk.lt
  have hk2 := (hk.off o1 (by simp; omega)).off o2 (by simp; omega)
  obtain ⟨M4, fs4, k4, hM4, C4, p4, f4, o4⟩ := c157l (xr := xr) (yr := yr) hv hkr 256 (Nat.le_refl _) _ _ hM2.s43 (C2.off' o3 (by decide)) (hk2.off o3 (by simp; omega)) ((w1.off o2 (by decide)).off o3 (by decide)) (w2.off o3 (by decide)) (by rw [hK]; exact List.getElem?_set_self l43)
  rw [show nI 256 + -1 = 255 by decide] at k4
  refine ⟨M4, fs4, ?_, hM4, C4, p4, fs43.tr fs43.set f4, (((o1.wk (by decide)).tr (o2.wk (by decide))).tr (o3.wk (by decide))).tr (o4.wk (by decide))⟩
  simp only [cl_157, e157_0, e157_1, e157_4, e157_5, e157_8, e157_9, e157_12, e157_13, e157_16, e157_17, e157_18, e157_21, e157_24, e157_28, e157_31, e157_32, e157_35, e157_38, e157_39, e157_42, e157_43, e157_45, e157_47, e157_48, e157_49, e157_51, e157_53, e157_54, e157_55, e157_56, e157_57, e157_58, e157_61, e157_62, e157_63, e157_66, e157_67, e157_70, e157_73, e157_76, e157_79, ow_157, Int32.reduceOfInt, Int32.reduceOfNat, Int32.reduceToNatClampNeg, Int32.reduceLT, Int32.reduceLE, Int32.reduceAdd, Int32.reduceSub, Int32.reduceMul, Int64.reduceOfNat, Int64.reduceOfInt, Nat.reduceLeDiff, Nat.reduceLT, Nat.reduceEqDiff, Nat.reduceSub, cs_0, cs_1, cs_2, cs_3, cs_4, cs_5, cs_6, cs_7, cs_8, or_false, false_or, not_false_eq_true, and_true, true_and, if_true, if_false, List.length_cons, List.length_nil, List.getElem?_cons_succ, List.getElem?_cons_zero, List.set_cons_succ, List.set_cons_zero, reduceIte, d_G, d_R, s_aload, s_aload_n, s_iload, s_iload_n, s_lload, s_lload_n, s_istore, s_istore_n, s_astore, s_astoreN, s_astore_n, s_astore_nN, s_lstore, s_lstore_n, s_iinc, s_iconst, s_bipush, s_sipush, s_lconst, s_ldc2_w, s_aconst_null, s_dupA, s_dupI, s_dup2, s_iadd, s_isub, s_imul, s_iand, s_ior, s_ixor, s_ishl, s_ishr, s_iushr, s_ineg, s_idiv, s_irem, s_ladd, s_lsub, s_lmul, s_land, s_lor, s_lxor, s_ldiv, s_lshl, s_lshr, s_lushr, s_i2l, s_l2i, s_lcmp, s_goto, s_ieq, s_ine, s_ilt, s_ige, s_igt, s_ile, s_zeq, s_zne, s_zlt, s_zge, s_zgt, s_zle, s_ifnull, s_ifnullN, s_ifnonnull, s_ifnonnullN, s_tableswitch, s_lookupswitch, s_getfield, s_putfield, s_getstatic, s_iaload, s_laload, s_baload, s_aaload, s_iastore, s_lastore, s_bastore, s_aastore, s_arraylength, s_newI, s_newJ, s_newZ, s_anewarray, s_new, s_copy, s_max, s_min, s_invokestatic, s_objinit, s_invokespecial, kf_isr_r, s_invokevirtual, s_ireturn, s_lreturn, s_areturn, s_areturnN, s_return, lI_0, lI_s, lJ_0, lJ_s, lA_0, lA_0N, lA_s, lS1_0, lS1_1, lS1_2, lS2_0, lS2_1, lS2_2, lK_n, lK_i, lK_j, lK_a, lK_N, d_C', kf_w_0, kf_w_i, kf_w_a, kf_w_n, kf_w_j, c_0, c_1, c_2, c_3, c_4, c_5, c_6, tl_0, tl_1, Option.bind_some, Option.bind_none, Option.map_some, Nat.reduceAdd, Nat.reduceMul, Nat.reduceDiv, Nat.reduceMod, Int.reduceToNat, Fin.val_zero, Fin.isValue, Fin.val_one, Fin.val_two, fv_0, fv_1, fv_2, fv_3, fw_0, fw_1, d_ite, true_or, or_true, and_false, false_and, or_self, and_self, g, g1, g2, r49, r50, k1, k2, l43, kf_fit, b1, k4]
theorem n158 {M : kf_M} {fs : List Value} {to row at1 N : Nat} {rs : List Int32} (hM : MdIs M fs) (hC : Cal M) (ht : to ∈ cals) (ht2 : 318 < to) (hrt : row ≠ to) (gr : M[row]? = some (oI rs)) (hr : rs.length < 2 ^ 20) (ha : at1 + 32 ≤ rs.length) (hb : (rs.drop at1).take 32 = nBL 32 N) (hN : N < 2 ^ 256) : ∃ (M' : kf_M), kf_cl 158 [.ref 284, .ref to, .ref row, .int (nI at1)] M = some (none, M') ∧ Wd M' to (drw nN N).toNat ∧ Cal M' ∧ Off [to, 317, 318] M M' := by
  have hno := nN_o
  have r46 := hM.rf 46 317 (by decide)
  have r47 := hM.rf 47 318 (by decide)
  have g := gO_of hM.1
  have h9 := cals_ok to ht
  obtain ⟨M1, k1, w1, C1, o1⟩ := q152 hC ht hrt gr hr ha hb hN
  have hM1 := hM.off o1 (by simp; omega)
  have g1 := gO_of hM1.1
  obtain ⟨M2, k2, w2, C2, o2⟩ := q141 (v := 1) (to := 317) C1 (by decide)
  rw [show uw 1 = 1 from rfl] at w2
  have hM2 := hM1.off o2 (by decide)
  have g2 := gO_of hM2.1
  have w1_2 := w1.off o2 (by simp; omega)
  obtain ⟨M3, k3, w3, o3⟩ := n143 (to := 318) C2.2.2.2.1 w2 (C2.2.1 318 (by decide)) (by decide)
  rw [show (nN + (2 ^ 256 - 1)) % 2 ^ 256 = nN - 1 by omega] at w3
  have C3 := C2.put o3 w3.ar (by decide)
  have hM3 := hM2.off o3 (by decide)
  have g3 := gO_of hM3.1
  have w1_3 := w1_2.off o3 (by simp; omega)
  obtain ⟨M4, k4, w4, o4⟩ := n144 w1_3 w3 (by omega)
  have C4 := C3.put o4 w4.ar ht
  have hM4 := hM3.off o4 (by simp; omega)
  have g4 := gO_of hM4.1
  have w2_4 := (w2.off o3 (by decide)).off o4 (by simp; omega)
  obtain ⟨M5, k5, w5, o5⟩ := n142 w4 w2_4 w4.ar (by omega)
  have C5 := C4.put o5 w5.ar ht
  have ev : ((if N < nN - 1 then N else N - (nN - 1)) + 1) % 2 ^ 256 = (drw nN N).toNat := by
    unfold drw
    by_cases q : N < nN - 1
    · rw [if_pos q, if_pos (by omega)]
      omega
    · rw [if_neg q, if_neg (by omega)]
      omega
  rw [ev] at w5
  refine ⟨M5, ?_, w5, C5, ((((o1.wk (by simp)).tr (o2.wk (by simp))).tr (o3.wk (by simp))).tr (o4.wk (by simp))).tr (o5.wk (by simp))⟩
  simp only [cl_158, e158_0, e158_1, e158_2, e158_3, e158_6, e158_7, e158_10, e158_11, e158_14, e158_15, e158_18, e158_21, e158_22, e158_25, e158_28, e158_29, e158_30, e158_33, e158_36, e158_37, e158_38, e158_39, e158_42, e158_45, e158_47, ow_158, Int32.reduceOfInt, Int32.reduceOfNat, Int32.reduceToNatClampNeg, Int32.reduceLT, Int32.reduceLE, Int32.reduceAdd, Int32.reduceSub, Int32.reduceMul, Int64.reduceOfNat, Int64.reduceOfInt, Nat.reduceLeDiff, Nat.reduceLT, Nat.reduceEqDiff, Nat.reduceSub, cs_0, cs_1, cs_2, cs_3, cs_4, cs_5, cs_6, cs_7, cs_8, or_false, false_or, not_false_eq_true, and_true, true_and, if_true, if_false, List.length_cons, List.length_nil, List.getElem?_cons_succ, List.getElem?_cons_zero, List.set_cons_succ, List.set_cons_zero, reduceIte, d_G, d_R, s_aload, s_aload_n, s_iload, s_iload_n, s_lload, s_lload_n, s_istore, s_istore_n, s_astore, s_astoreN, s_astore_n, s_astore_nN, s_lstore, s_lstore_n, s_iinc, s_iconst, s_bipush, s_sipush, s_lconst, s_ldc2_w, s_aconst_null, s_dupA, s_dupI, s_dup2, s_iadd, s_isub, s_imul, s_iand, s_ior, s_ixor, s_ishl, s_ishr, s_iushr, s_ineg, s_idiv, s_irem, s_ladd, s_lsub, s_lmul, s_land, s_lor, s_lxor, s_ldiv, s_lshl, s_lshr, s_lushr, s_i2l, s_l2i, s_lcmp, s_goto, s_ieq, s_ine, s_ilt, s_ige, s_igt, s_ile, s_zeq, s_zne, s_zlt, s_zge, s_zgt, s_zle, s_ifnull, s_ifnullN, s_ifnonnull, s_ifnonnullN, s_tableswitch, s_lookupswitch, s_getfield, s_putfield, s_getstatic, s_iaload, s_laload, s_baload, s_aaload, s_iastore, s_lastore, s_bastore, s_aastore, s_arraylength, s_newI, s_newJ, s_newZ, s_anewarray, s_new, s_copy, s_max, s_min, s_invokestatic, s_objinit, s_invokespecial, kf_isr_r, s_invokevirtual, s_ireturn, s_lreturn, s_areturn, s_areturnN, s_return, lI_0, lI_s, lJ_0, lJ_s, lA_0, lA_0N, lA_s, lS1_0, lS1_1, lS1_2, lS2_0, lS2_1, lS2_2, lK_n, lK_i, lK_j, lK_a, lK_N, d_C', kf_w_0, kf_w_i, kf_w_a, kf_w_n, kf_w_j, c_0, c_1, c_2, c_3, c_4, c_5, c_6, tl_0, tl_1, Option.bind_some, Option.bind_none, Option.map_some, Nat.reduceAdd, Nat.reduceMul, Nat.reduceDiv, Nat.reduceMod, Int.reduceToNat, Fin.val_zero, Fin.isValue, Fin.val_one, Fin.val_two, fv_0, fv_1, fv_2, fv_3, fw_0, fw_1, d_ite, true_or, or_true, and_false, false_and, or_self, and_self, g, g1, g2, g3, g4, r46, r47, k1, k2, k3, k4, k5]
