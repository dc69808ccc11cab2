/-! divideUnsigned, divideAt -/
theorem jw_sb (p q : Int64) : jw (p - q) = (18446744073709551616 - jw q + jw p) % 18446744073709551616 := by
  unfold jw
  rw [Int64.toBitVec_sub, BitVec.toNat_sub]
theorem jw_s1 (p : Int64) : jw (kf_lush p 1) = jw p / 2 := by
  show (p.toUInt64 >>> ((1 : Int32).toInt64.toUInt64 &&& Int64.toUInt64 63)).toNat = _
  rw [UInt64.toNat_shiftRight, show ((1 : Int32).toInt64.toUInt64 &&& Int64.toUInt64 63).toNat % 64 = 1 from by decide, Nat.shiftRight_eq_div_pow]
  rfl
theorem jw_s63 (p : Int64) : jw (kf_lush p 63) = jw p >>> 63 := by
  show (p.toUInt64 >>> ((63 : Int32).toInt64.toUInt64 &&& Int64.toUInt64 63)).toNat = _
  rw [UInt64.toNat_shiftRight, show ((63 : Int32).toInt64.toUInt64 &&& Int64.toUInt64 63).toNat % 64 = 63 from by decide]
  rfl
theorem jw_l1 (p : Int64) : jw (p <<< ((1 : Int32).toInt64 &&& 63)) = jw p * 2 % 18446744073709551616 := by
  show (p.toBitVec <<< (1 : Nat)).toNat = _
  rw [BitVec.toNat_shiftLeft, Nat.shiftLeft_eq]
  rfl
theorem jw_l32 (p : Int64) : jw (p <<< ((32 : Int32).toInt64 &&& 63)) = jw p * 4294967296 % 18446744073709551616 := by
  show (p.toBitVec <<< (32 : Nat)).toNat = _
  rw [BitVec.toNat_shiftLeft, Nat.shiftLeft_eq]
  rfl
theorem jw_not (p : Int64) : jw (p ^^^ -1) = 18446744073709551615 - jw p := by
  unfold jw
  rw [Int64.toBitVec_xor, show (-1 : Int64).toBitVec = BitVec.allOnes 64 from rfl, BitVec.xor_allOnes, BitVec.toNat_not]
theorem jw_or (p q : Int64) : jw (p ||| q) = jw p ||| jw q := by
  unfold jw
  rw [Int64.toBitVec_or, BitVec.toNat_or]
theorem jw_inj {p q : Int64} (h : jw p = jw q) : p = q := Int64.toBitVec_inj.mp (BitVec.eq_of_toNat_eq h)
theorem n208 {M : kf_M} {p q : Int64} (h0 : 0 < jw q) (h1 : jw q < 4294967296) : ∃ z : Int64, kf_cl 208 [.long p, .long q] M = some (some (.long z), M) ∧ jw z = jw p / jw q := by
  have qi : q.toInt = (jw q : Int) := jw_toInt (by omega)
  have hq0 : ¬ q = 0 := fun h => by rw [h] at h0; exact absurd h0 (by decide)
  have c0 : ¬ lg_cmp q 0 < 0 := by
    have := lgN q 0
    have h : ¬ q < 0 := by
      rw [Int64.lt_iff_toInt_lt, qi]
      show ¬ ((jw q : Int) < 0)
      omega
    have h2 : 0 ≤ lg_cmp q 0 := by rw [this]; exact h
    rw [Int32.lt_iff_toInt_lt]
    have h3 := Int32.le_iff_toInt_le.mp h2
    omega
  have t1 := jw_s1 p
  have lp := jw_lt p
  have t1i : (kf_lush p 1).toInt = ((jw p / 2 : Nat) : Int) := by rw [jw_toInt (by omega), t1]
  have dv : jw (kf_lush p 1 / q) = jw p / 2 / jw q := by
    have hle := Nat.div_le_self (jw p / 2) (jw q)
    have hb := Int64.toInt_div (kf_lush p 1) q
    rw [t1i, qi, ← Int.ofNat_tdiv] at hb
    have := jw_int (kf_lush p 1 / q)
    generalize jw p / 2 / jw q = z at *
    have hc : ((z : Nat) : Int).bmod (2 ^ 64) = z := Int.bmod_eq_of_le_mul_two (by omega) (by omega)
    rw [hc] at hb
    rw [hb] at this
    have hz : z < 18446744073709551616 := Nat.lt_of_le_of_lt (Nat.le_trans hle (Nat.div_le_self _ _)) lp
    exact Int.ofNat_inj.mp (this.trans (Int.emod_eq_of_lt (Int.natCast_nonneg z) (Int.ofNat_lt.mpr hz)))
  obtain ⟨a, ha⟩ : ∃ a, a = (kf_lush p 1 / q) <<< ((1 : Int32).toInt64 &&& 63) := ⟨_, rfl⟩
  obtain ⟨r, hr⟩ : ∃ r, r = p - a * q := ⟨_, rfl⟩
  have ja : jw a = 2 * (jw p / 2 / jw q) := by
    have hle := Nat.div_le_self (jw p / 2) (jw q)
    rw [ha, jw_l1, dv]
    omega
  have hm := Nat.div_add_mod (jw p / 2) (jw q)
  have hl := Nat.mod_lt (jw p / 2) h0
  have e1 : jw a * jw q = 2 * (jw q * (jw p / 2 / jw q)) := by rw [ja, Nat.mul_assoc, Nat.mul_comm (jw q)]
  generalize hg : jw q * (jw p / 2 / jw q) = g at *
  have jr : jw r = jw p - 2 * g := by
    rw [hr, jw_sb, jw_ml, e1]
    omega
  have jr2 : jw r < 2 * jw q := by omega
  have jz : jw (kf_lush (r ||| ((r - q) ^^^ -1)) 63) = if jw r < jw q then 0 else 1 := by
    rw [jw_s63, jw_or, jw_not, jw_sb, Nat.shiftRight_or_distrib, Nat.shiftRight_eq_div_pow, Nat.shiftRight_eq_div_pow, show (2 : Nat) ^ 63 = 9223372036854775808 from rfl, show jw r / 9223372036854775808 = 0 by omega, Nat.zero_or]
    split
    · rename_i z; omega
    · rename_i z; omega
  refine ⟨a + kf_lush (r ||| ((r - q) ^^^ -1)) 63, ?_, ?_⟩
  · simp only [cl_208, e208_0, e208_1, e208_2, e208_3, e208_6, e208_7, e208_8, e208_9, e208_10, e208_11, e208_12, e208_13, e208_15, e208_16, e208_18, e208_19, e208_20, e208_21, e208_23, e208_25, e208_27, e208_29, e208_30, e208_31, e208_34, e208_35, e208_36, e208_38, e208_39, e208_40, e208_41, e208_42, e208_43, e208_44, e208_45, e208_48, e208_49, e208_50, e208_52, e208_53, ow_208, Int32.reduceOfInt, Int32.reduceOfNat, Int32.reduceToNatClampNeg, Int32.reduceLT, Int32.reduceLE, Int32.reduceAdd, Int32.reduceSub, Int32.reduceMul, Int64.reduceOfNat, Int64.reduceOfInt, Nat.reduceLeDiff, Nat.reduceLT, Nat.reduceEqDiff, Nat.reduceSub, cs_0, cs_1, cs_2, cs_3, cs_4, cs_5, cs_6, cs_7, cs_8, or_false, false_or, not_false_eq_true, and_true, true_and, if_true, if_false, List.length_cons, List.length_nil, List.getElem?_cons_succ, List.getElem?_cons_zero, List.set_cons_succ, List.set_cons_zero, reduceIte, d_G, d_R, s_aload, s_aload_n, s_iload, s_iload_n, s_lload, s_lload_n, s_istore, s_istore_n, s_astore, s_astoreN, s_astore_n, s_astore_nN, s_lstore, s_lstore_n, s_iinc, s_iconst, s_bipush, s_sipush, s_lconst, s_ldc2_w, s_aconst_null, s_dupA, s_dupI, s_dup2, s_iadd, s_isub, s_imul, s_iand, s_ior, s_ixor, s_ishl, s_ishr, s_iushr, s_ineg, s_idiv, s_irem, s_ladd, s_lsub, s_lmul, s_land, s_lor, s_lxor, s_ldiv, s_lshl, s_lshr, s_lushr, s_i2l, s_l2i, s_lcmp, s_goto, s_ieq, s_ine, s_ilt, s_ige, s_igt, s_ile, s_zeq, s_zne, s_zlt, s_zge, s_zgt, s_zle, s_ifnull, s_ifnullN, s_ifnonnull, s_ifnonnullN, s_tableswitch, s_lookupswitch, s_getfield, s_putfield, s_getstatic, s_iaload, s_laload, s_baload, s_aaload, s_iastore, s_lastore, s_bastore, s_aastore, s_arraylength, s_newI, s_newJ, s_newZ, s_anewarray, s_new, s_copy, s_max, s_min, s_invokestatic, s_objinit, s_invokespecial, kf_isr_r, s_invokevirtual, s_ireturn, s_lreturn, s_areturn, s_areturnN, s_return, lI_0, lI_s, lJ_0, lJ_s, lA_0, lA_0N, lA_s, lS1_0, lS1_1, lS1_2, lS2_0, lS2_1, lS2_2, lK_n, lK_i, lK_j, lK_a, lK_N, d_C', kf_w_0, kf_w_i, kf_w_a, kf_w_n, kf_w_j, c_0, c_1, c_2, c_3, c_4, c_5, c_6, tl_0, tl_1, Option.bind_some, Option.bind_none, Option.map_some, Nat.reduceAdd, Nat.reduceMul, Nat.reduceDiv, Nat.reduceMod, Int.reduceToNat, Fin.val_zero, Fin.isValue, Fin.val_one, Fin.val_two, fv_0, fv_1, fv_2, fv_3, fw_0, fw_1, d_ite, true_or, or_true, and_false, false_and, or_self, and_self, c0, hq0, ← ha, ← hr]
  · have hd : jw p / jw q = 2 * (jw p / 2 / jw q) + if jw r < jw q then 0 else 1 := by
      have hq : jw p = jw q * (2 * (jw p / 2 / jw q)) + jw r := by
        rw [← Nat.mul_assoc, Nat.mul_comm (jw q) 2, Nat.mul_assoc, hg]
        omega
      generalize jw p / 2 / jw q = z at *
      rw [hq, Nat.mul_add_div h0]
      congr 1
      split
      · rename_i z; exact Nat.div_eq_of_lt z
      · rename_i z
        rw [Nat.div_eq_sub_div h0 (by omega), Nat.div_eq_of_lt (by omega)]
    rw [jw_ad, ja, jz, hd]
    have hle := Nat.div_le_self (jw p / 2) (jw q)
    split <;> omega
theorem mul32 {a b : Nat} (ha : a < 4294967296) (hb : b < 4294967296) : a * b ≤ 18446744065119617025 := Nat.mul_le_mul (show a ≤ 4294967295 by omega) (show b ≤ 4294967295 by omega)
section DIV
variable {M : kf_M} {fs : List Value} {j m : Nat} {lm : List Int32} {hi top hd q : Int64}
theorem c148a (hM : MdIs M fs) (hl : 308 < M.length) (gm : gI M m = some lm) (hm : m ≠ 308) (l8 : lm.length = 8) (hj : j ≤ 8) (hq : jw q < 4294967296) : ∀ (n i : Nat) (c u : Int64) (X : List Int32) (u16 u17 : Option Value), i + n = 8 → X.length = 17 → jw c < 4294967296 → -1 ≤ u.toInt ∧ u.toInt ≤ 0 → ∃ (R : List Int32) (c' u' : Int64) (v16 v17 : Option Value), kf_ev 148 78 [some (.ref 284), some (.int (nI j)), some (.ref m), some (.long hi), none, some (.long top), none, some (.long hd), none, some (.long q), none, some (.long c), none, some (.long u), none, some (.int (nI i)), u16, u17, none] [] (M.set 308 (oI X)) = kf_ev 148 160 [some (.ref 284), some (.int (nI j)), some (.ref m), some (.long hi), none, some (.long top), none, some (.long hd), none, some (.long q), none, some (.long c'), none, some (.long u'), none, some (.int 8), v16, v17, none] [] (M.set 308 (oI R)) ∧ R.length = 17 ∧ (∀ k, k < i + j ∨ 8 + j ≤ k → R.getD k 0 = X.getD k 0) ∧ jw c' < 4294967296 ∧ (-1 ≤ u'.toInt ∧ u'.toInt ≤ 0) ∧ (wv R (i + j) n : Int) + (4294967296 ^ n : Nat) * (u'.toInt - jw c') = wv X (i + j) n - ((jw q * wv lm i n : Nat) : Int) + u.toInt - jw c := by
  intro n
  induction n with
  | zero =>
    intro i c u X u16 u17 hi hX hc hu
    have hi : i = 8 := by omega
    subst hi
    have e : (8 : Int32) ≤ nI 8 := by decide
    refine ⟨X, c, u, u16, u17, (e148_78 _ _ _).trans ?_, hX, fun _ _ => rfl, hc, hu, by simp [wv]⟩
    simp only [cl_148, e148_0, e148_1, e148_4, e148_5, e148_7, e148_8, e148_9, e148_10, e148_13, e148_14, e148_15, e148_16, e148_18, e148_19, e148_20, e148_23, e148_24, e148_26, e148_27, e148_28, e148_29, e148_32, e148_33, e148_34, e148_36, e148_37, e148_39, e148_40, e148_41, e148_44, e148_45, e148_47, e148_48, e148_50, e148_51, e148_54, e148_57, e148_60, e148_62, e148_64, e148_67, e148_69, e148_70, e148_72, e148_73, e148_75, e148_76, e148_80, e148_82, e148_85, e148_87, e148_88, e148_90, e148_91, e148_92, e148_95, e148_96, e148_97, e148_99, e148_100, e148_102, e148_104, e148_106, e148_107, e148_109, e148_111, e148_112, e148_115, e148_117, e148_118, e148_119, e148_120, e148_121, e148_124, e148_125, e148_127, e148_130, e148_131, e148_132, e148_133, e148_135, e148_136, e148_139, e148_141, e148_142, e148_143, e148_145, e148_146, e148_147, e148_149, e148_151, e148_152, e148_154, e148_157, e148_162, e148_163, e148_165, e148_166, e148_167, e148_169, e148_170, e148_173, e148_174, e148_176, e148_177, e148_179, e148_180, e148_181, e148_182, e148_184, e148_186, e148_187, e148_190, e148_192, e148_193, e148_194, e148_197, e148_198, e148_200, e148_201, e148_203, e148_205, e148_207, e148_210, e148_212, e148_213, e148_216, e148_218, e148_219, e148_220, e148_221, e148_222, e148_225, e148_226, e148_227, e148_229, e148_230, e148_231, e148_234, e148_235, e148_236, e148_237, e148_239, e148_240, e148_243, e148_245, e148_246, e148_247, e148_249, e148_250, e148_251, e148_253, e148_255, e148_256, e148_258, e148_261, e148_264, e148_266, e148_268, e148_269, e148_271, e148_272, e148_275, e148_276, e148_278, e148_279, e148_281, e148_282, e148_283, e148_286, e148_289, ow_148, Int32.reduceOfInt, Int32.reduceOfNat, Int32.reduceToNatClampNeg, Int32.reduceLT, Int32.reduceLE, Int32.reduceAdd, Int32.reduceSub, Int32.reduceMul, Int64.reduceOfNat, Int64.reduceOfInt, Nat.reduceLeDiff, Nat.reduceLT, Nat.reduceEqDiff, Nat.reduceSub, cs_0, cs_1, cs_2, cs_3, cs_4, cs_5, cs_6, cs_7, cs_8, or_false, false_or, not_false_eq_true, and_true, true_and, if_true, if_false, List.length_cons, List.length_nil, List.getElem?_cons_succ, List.getElem?_cons_zero, List.set_cons_succ, List.set_cons_zero, reduceIte, d_G, d_R, s_aload, s_aload_n, s_iload, s_iload_n, s_lload, s_lload_n, s_istore, s_istore_n, s_astore, s_astoreN, s_astore_n, s_astore_nN, s_lstore, s_lstore_n, s_iinc, s_iconst, s_bipush, s_sipush, s_lconst, s_ldc2_w, s_aconst_null, s_dupA, s_dupI, s_dup2, s_iadd, s_isub, s_imul, s_iand, s_ior, s_ixor, s_ishl, s_ishr, s_iushr, s_ineg, s_idiv, s_irem, s_ladd, s_lsub, s_lmul, s_land, s_lor, s_lxor, s_ldiv, s_lshl, s_lshr, s_lushr, s_i2l, s_l2i, s_lcmp, s_goto, s_ieq, s_ine, s_ilt, s_ige, s_igt, s_ile, s_zeq, s_zne, s_zlt, s_zge, s_zgt, s_zle, s_ifnull, s_ifnullN, s_ifnonnull, s_ifnonnullN, s_tableswitch, s_lookupswitch, s_getfield, s_putfield, s_getstatic, s_iaload, s_laload, s_baload, s_aaload, s_iastore, s_lastore, s_bastore, s_aastore, s_arraylength, s_newI, s_newJ, s_newZ, s_anewarray, s_new, s_copy, s_max, s_min, s_invokestatic, s_objinit, s_invokespecial, kf_isr_r, s_invokevirtual, s_ireturn, s_lreturn, s_areturn, s_areturnN, s_return, lI_0, lI_s, lJ_0, lJ_s, lA_0, lA_0N, lA_s, lS1_0, lS1_1, lS1_2, lS2_0, lS2_1, lS2_2, lK_n, lK_i, lK_j, lK_a, lK_N, d_C', kf_w_0, kf_w_i, kf_w_a, kf_w_n, kf_w_j, c_0, c_1, c_2, c_3, c_4, c_5, c_6, tl_0, tl_1, Option.bind_some, Option.bind_none, Option.map_some, Nat.reduceAdd, Nat.reduceMul, Nat.reduceDiv, Nat.reduceMod, Int.reduceToNat, Fin.val_zero, Fin.isValue, Fin.val_one, Fin.val_two, fv_0, fv_1, fv_2, fv_3, fw_0, fw_1, d_ite, true_or, or_true, and_false, false_and, or_self, and_self, e]
    rfl
  | succ n ih =>
    intro i c u X u16 u17 hi hX hc hu
    have e : ¬ (8 : Int32) ≤ nI i := nI_ge (a := i) (b := 8) (by omega) (by omega)
    have p0 : ¬ nI i < 0 := nI_pos (by omega)
    have p1 : (nI i).toNatClampNeg = i := nI_clamp (by omega)
    have p2 : ¬ nI (i + j) < 0 := nI_pos (by omega)
    have p3 : (nI (i + j)).toNatClampNeg = i + j := nI_clamp (by omega)
    have g : gO (M.set 308 (oI X)) 284 = some (12, fs) := by rw [gO_ne (by decide)]; exact gO_of hM.1
    have r36 := hM.rf 36 308 (by decide)
    have g1 : gI (M.set 308 (oI X)) m = some lm := by rw [gI_ne (Ne.symm hm)]; exact gm
    have g5 : gI (M.set 308 (oI X)) 308 = some X := gI_self hl
    have w0 := getD_of (xs := lm) (i := i) (by omega)
    have w1 := getD_of (xs := X) (i := i + j) (by omega)
    have n1 : ¬ 308 < 19 := by decide
    have n2 : ¬ X.length ≤ i + j := by omega
    have k1 := uw_lt (lm.getD i 0)
    have k2 := uw_lt (X.getD (i + j) 0)
    have mm := mul32 hq k1
    obtain ⟨v, hv⟩ : ∃ v : Int64, v = q * ((lm.getD i 0).toInt64 &&& 4294967295) + c := ⟨_, rfl⟩
    have jv : jw v = jw q * uw (lm.getD i 0) + jw c := by
      rw [hv, jw_ad, jw_ml, jw_x]
      omega
    have va := jw_and v
    have vi : (v &&& 4294967295).toInt = ((jw v % 4294967296 : Nat) : Int) := by rw [jw_toInt (by omega), va]
    have vs := jw_sh v
    obtain ⟨s, hs⟩ : ∃ s : Int64, s = u + (((X.getD (i + j) 0).toInt64 &&& 4294967295) - (v &&& 4294967295)) := ⟨_, rfl⟩
    have js : s.toInt = u.toInt + ((uw (X.getD (i + j) 0) : Int) - ((jw v % 4294967296 : Nat) : Int)) := by
      rw [hs]
      exact (i64_ad (B := 1) (C := 8589934592) ⟨rfl, by omega, by omega⟩ (i64_sb (B := 4294967296) (C := 4294967296) ⟨ji_x _, by omega, by omega⟩ ⟨vi, by omega, by omega⟩ (by decide)) (by decide)).1
    have k3 := ji_sr s
    have k4 := uw_l s
    obtain ⟨R, c', u', v16, v17, r1, r2, r3, r4, r5, r6⟩ := ih (i + 1) (kf_lush v 32) (s >>> ((32 : Int32).toInt64 &&& 63)) (X.set (i + j) s.toInt32) (some (.long v)) none (by omega) (by rw [List.length_set]; exact hX) (by omega) (by omega)
    refine ⟨R, c', u', v16, v17, (e148_78 _ _ _).trans (Eq.trans ?_ r1), r2, fun k hk => by rw [r3 k (by omega), gD_ne (by omega)], r4, r5, ?_⟩
    · simp only [cl_148, e148_0, e148_1, e148_4, e148_5, e148_7, e148_8, e148_9, e148_10, e148_13, e148_14, e148_15, e148_16, e148_18, e148_19, e148_20, e148_23, e148_24, e148_26, e148_27, e148_28, e148_29, e148_32, e148_33, e148_34, e148_36, e148_37, e148_39, e148_40, e148_41, e148_44, e148_45, e148_47, e148_48, e148_50, e148_51, e148_54, e148_57, e148_60, e148_62, e148_64, e148_67, e148_69, e148_70, e148_72, e148_73, e148_75, e148_76, e148_80, e148_82, e148_85, e148_87, e148_88, e148_90, e148_91, e148_92, e148_95, e148_96, e148_97, e148_99, e148_100, e148_102, e148_104, e148_106, e148_107, e148_109, e148_111, e148_112, e148_115, e148_117, e148_118, e148_119, e148_120, e148_121, e148_124, e148_125, e148_127, e148_130, e148_131, e148_132, e148_133, e148_135, e148_136, e148_139, e148_141, e148_142, e148_143, e148_145, e148_146, e148_147, e148_149, e148_151, e148_152, e148_154, e148_157, e148_162, e148_163, e148_165, e148_166, e148_167, e148_169, e148_170, e148_173, e148_174, e148_176, e148_177, e148_179, e148_180, e148_181, e148_182, e148_184, e148_186, e148_187, e148_190, e148_192, e148_193, e148_194, e148_197, e148_198, e148_200, e148_201, e148_203, e148_205, e148_207, e148_210, e148_212, e148_213, e148_216, e148_218, e148_219, e148_220, e148_221, e148_222, e148_225, e148_226, e148_227, e148_229, e148_230, e148_231, e148_234, e148_235, e148_236, e148_237, e148_239, e148_240, e148_243, e148_245, e148_246, e148_247, e148_249, e148_250, e148_251, e148_253, e148_255, e148_256, e148_258, e148_261, e148_264, e148_266, e148_268, e148_269, e148_271, e148_272, e148_275, e148_276, e148_278, e148_279, e148_281, e148_282, e148_283, e148_286, e148_289, ow_148, Int32.reduceOfInt, Int32.reduceOfNat, Int32.reduceToNatClampNeg, Int32.reduceLT, Int32.reduceLE, Int32.reduceAdd, Int32.reduceSub, Int32.reduceMul, Int64.reduceOfNat, Int64.reduceOfInt, Nat.reduceLeDiff, Nat.reduceLT, Nat.reduceEqDiff, Nat.reduceSub, cs_0, cs_1, cs_2, cs_3, cs_4, cs_5, cs_6, cs_7, cs_8, or_false, false_or, not_false_eq_true, and_true, true_and, if_true, if_false, List.length_cons, List.length_nil, List.getElem?_cons_succ, List.getElem?_cons_zero, List.set_cons_succ, List.set_cons_zero, reduceIte, d_G, d_R, s_aload, s_aload_n, s_iload, s_iload_n, s_lload, s_lload_n, s_istore, s_istore_n, s_astore, s_astoreN, s_astore_n, s_astore_nN, s_lstore, s_lstore_n, s_iinc, s_iconst, s_bipush, s_sipush, s_lconst, s_ldc2_w, s_aconst_null, s_dupA, s_dupI, s_dup2, s_iadd, s_isub, s_imul, s_iand, s_ior, s_ixor, s_ishl, s_ishr, s_iushr, s_ineg, s_idiv, s_irem, s_ladd, s_lsub, s_lmul, s_land, s_lor, s_lxor, s_ldiv, s_lshl, s_lshr, s_lushr, s_i2l, s_l2i, s_lcmp, s_goto, s_ieq, s_ine, s_ilt, s_ige, s_igt, s_ile, s_zeq, s_zne, s_zlt, s_zge, s_zgt, s_zle, s_ifnull, s_ifnullN, s_ifnonnull, s_ifnonnullN, s_tableswitch, s_lookupswitch, s_getfield, s_putfield, s_getstatic, s_iaload, s_laload, s_baload, s_aaload, s_iastore, s_lastore, s_bastore, s_aastore, s_arraylength, s_newI, s_newJ, s_newZ, s_anewarray, s_new, s_copy, s_max, s_min, s_invokestatic, s_objinit, s_invokespecial, kf_isr_r, s_invokevirtual, s_ireturn, s_lreturn, s_areturn, s_areturnN, s_return, lI_0, lI_s, lJ_0, lJ_s, lA_0, lA_0N, lA_s, lS1_0, lS1_1, lS1_2, lS2_0, lS2_1, lS2_2, lK_n, lK_i, lK_j, lK_a, lK_N, d_C', kf_w_0, kf_w_i, kf_w_a, kf_w_n, kf_w_j, c_0, c_1, c_2, c_3, c_4, c_5, c_6, tl_0, tl_1, Option.bind_some, Option.bind_none, Option.map_some, Nat.reduceAdd, Nat.reduceMul, Nat.reduceDiv, Nat.reduceMod, Int.reduceToNat, Fin.val_zero, Fin.isValue, Fin.val_one, Fin.val_two, fv_0, fv_1, fv_2, fv_3, fw_0, fw_1, d_ite, true_or, or_true, and_false, false_and, or_self, and_self, e, g, r36, g1, g5, w0, w1, n1, n2, p0, p1, p2, p3, kf_NS, nI_1, nI_add, List.set_set, ← hv, ← hs]
    · have r7 := r3 (i + j) (by omega)
      rw [gD_self (by omega)] at r7
      have cgx : wv (X.set (i + j) s.toInt32) (i + j + 1) n = wv X (i + j + 1) n := wv_cg n _ (fun k h1 h2 => gD_ne (by omega))
      rw [show i + 1 + j = i + j + 1 by omega, cgx] at r6
      show ((uw (R.getD (i + j) 0) + 4294967296 * wv R (i + j + 1) n : Nat) : Int) + _ = ((uw (X.getD (i + j) 0) + 4294967296 * wv X (i + j + 1) n : Nat) : Int) - ((jw q * (uw (lm.getD i 0) + 4294967296 * wv lm (i + 1) n) : Nat) : Int) + _ - _
      rw [r7, Nat.pow_succ, Nat.mul_comm (4294967296 ^ n) 4294967296, Int.natCast_mul, Int.mul_assoc, Nat.mul_add, ← Nat.mul_assoc (jw q) 4294967296, Nat.mul_comm (jw q) 4294967296, Nat.mul_assoc]
      generalize ((4294967296 ^ n : Nat) : Int) * (u'.toInt - jw c') = Q at *
      generalize jw q * wv lm (i + 1) n = Y at *
      generalize jw q * uw (lm.getD i 0) = Z at *
      omega
theorem c148b (hM : MdIs M fs) (hl : 308 < M.length) (gm : gI M m = some lm) (hm : m ≠ 308) (l8 : lm.length = 8) (hj : j ≤ 8) {cc uu : Int64} {kk : Int32} : ∀ (n i : Nat) (c : Int64) (X : List Int32), i + n = 8 → X.length = 17 → jw c ≤ 1 → ∃ (R : List Int32) (c' : Int64), kf_ev 148 203 [some (.ref 284), some (.int (nI j)), some (.ref m), some (.long hi), none, some (.long top), none, some (.long hd), none, some (.long q), none, some (.long cc), none, some (.long uu), none, some (.int kk), some (.long c), none, some (.int (nI i))] [] (M.set 308 (oI X)) = kf_ev 148 264 [some (.ref 284), some (.int (nI j)), some (.ref m), some (.long hi), none, some (.long top), none, some (.long hd), none, some (.long q), none, some (.long cc), none, some (.long uu), none, some (.int kk), some (.long c'), none, some (.int 8)] [] (M.set 308 (oI R)) ∧ R.length = 17 ∧ (∀ k, k < i + j ∨ 8 + j ≤ k → R.getD k 0 = X.getD k 0) ∧ jw c' ≤ 1 ∧ wv R (i + j) n + 4294967296 ^ n * jw c' = wv X (i + j) n + wv lm i n + jw c := by
  intro n
  induction n with
  | zero =>
    intro i c X hi hX hc
    have hi : i = 8 := by omega
    subst hi
    have e : (8 : Int32) ≤ nI 8 := by decide
    refine ⟨X, c, (e148_203 _ _ _).trans ?_, hX, fun _ _ => rfl, hc, by simp [wv]⟩
    simp only [cl_148, e148_0, e148_1, e148_4, e148_5, e148_7, e148_8, e148_9, e148_10, e148_13, e148_14, e148_15, e148_16, e148_18, e148_19, e148_20, e148_23, e148_24, e148_26, e148_27, e148_28, e148_29, e148_32, e148_33, e148_34, e148_36, e148_37, e148_39, e148_40, e148_41, e148_44, e148_45, e148_47, e148_48, e148_50, e148_51, e148_54, e148_57, e148_60, e148_62, e148_64, e148_67, e148_69, e148_70, e148_72, e148_73, e148_75, e148_76, e148_78, e148_80, e148_82, e148_85, e148_87, e148_88, e148_90, e148_91, e148_92, e148_95, e148_96, e148_97, e148_99, e148_100, e148_102, e148_104, e148_106, e148_107, e148_109, e148_111, e148_112, e148_115, e148_117, e148_118, e148_119, e148_120, e148_121, e148_124, e148_125, e148_127, e148_130, e148_131, e148_132, e148_133, e148_135, e148_136, e148_139, e148_141, e148_142, e148_143, e148_145, e148_146, e148_147, e148_149, e148_151, e148_152, e148_154, e148_157, e148_160, e148_162, e148_163, e148_165, e148_166, e148_167, e148_169, e148_170, e148_173, e148_174, e148_176, e148_177, e148_179, e148_180, e148_181, e148_182, e148_184, e148_186, e148_187, e148_190, e148_192, e148_193, e148_194, e148_197, e148_198, e148_200, e148_201, e148_205, e148_207, e148_210, e148_212, e148_213, e148_216, e148_218, e148_219, e148_220, e148_221, e148_222, e148_225, e148_226, e148_227, e148_229, e148_230, e148_231, e148_234, e148_235, e148_236, e148_237, e148_239, e148_240, e148_243, e148_245, e148_246, e148_247, e148_249, e148_250, e148_251, e148_253, e148_255, e148_256, e148_258, e148_261, e148_266, e148_268, e148_269, e148_271, e148_272, e148_275, e148_276, e148_278, e148_279, e148_281, e148_282, e148_283, e148_286, e148_289, ow_148, Int32.reduceOfInt, Int32.reduceOfNat, Int32.reduceToNatClampNeg, Int32.reduceLT, Int32.reduceLE, Int32.reduceAdd, Int32.reduceSub, Int32.reduceMul, Int64.reduceOfNat, Int64.reduceOfInt, Nat.reduceLeDiff, Nat.reduceLT, Nat.reduceEqDiff, Nat.reduceSub, cs_0, cs_1, cs_2, cs_3, cs_4, cs_5, cs_6, cs_7, cs_8, or_false, false_or, not_false_eq_true, and_true, true_and, if_true, if_false, List.length_cons, List.length_nil, List.getElem?_cons_succ, List.getElem?_cons_zero, List.set_cons_succ, List.set_cons_zero, reduceIte, d_G, d_R, s_aload, s_aload_n, s_iload, s_iload_n, s_lload, s_lload_n, s_istore, s_istore_n, s_astore, s_astoreN, s_astore_n, s_astore_nN, s_lstore, s_lstore_n, s_iinc, s_iconst, s_bipush, s_sipush, s_lconst, s_ldc2_w, s_aconst_null, s_dupA, s_dupI, s_dup2, s_iadd, s_isub, s_imul, s_iand, s_ior, s_ixor, s_ishl, s_ishr, s_iushr, s_ineg, s_idiv, s_irem, s_ladd, s_lsub, s_lmul, s_land, s_lor, s_lxor, s_ldiv, s_lshl, s_lshr, s_lushr, s_i2l, s_l2i, s_lcmp, s_goto, s_ieq, s_ine, s_ilt, s_ige, s_igt, s_ile, s_zeq, s_zne, s_zlt, s_zge, s_zgt, s_zle, s_ifnull, s_ifnullN, s_ifnonnull, s_ifnonnullN, s_tableswitch, s_lookupswitch, s_getfield, s_putfield, s_getstatic, s_iaload, s_laload, s_baload, s_aaload, s_iastore, s_lastore, s_bastore, s_aastore, s_arraylength, s_newI, s_newJ, s_newZ, s_anewarray, s_new, s_copy, s_max, s_min, s_invokestatic, s_objinit, s_invokespecial, kf_isr_r, s_invokevirtual, s_ireturn, s_lreturn, s_areturn, s_areturnN, s_return, lI_0, lI_s, lJ_0, lJ_s, lA_0, lA_0N, lA_s, lS1_0, lS1_1, lS1_2, lS2_0, lS2_1, lS2_2, lK_n, lK_i, lK_j, lK_a, lK_N, d_C', kf_w_0, kf_w_i, kf_w_a, kf_w_n, kf_w_j, c_0, c_1, c_2, c_3, c_4, c_5, c_6, tl_0, tl_1, Option.bind_some, Option.bind_none, Option.map_some, Nat.reduceAdd, Nat.reduceMul, Nat.reduceDiv, Nat.reduceMod, Int.reduceToNat, Fin.val_zero, Fin.isValue, Fin.val_one, Fin.val_two, fv_0, fv_1, fv_2, fv_3, fw_0, fw_1, d_ite, true_or, or_true, and_false, false_and, or_self, and_self, e]
    rfl
  | succ n ih =>
    intro i c X hi hX hc
    have e : ¬ (8 : Int32) ≤ nI i := nI_ge (a := i) (b := 8) (by omega) (by omega)
    have p0 : ¬ nI i < 0 := nI_pos (by omega)
    have p1 : (nI i).toNatClampNeg = i := nI_clamp (by omega)
    have p2 : ¬ nI (i + j) < 0 := nI_pos (by omega)
    have p3 : (nI (i + j)).toNatClampNeg = i + j := nI_clamp (by omega)
    have g : gO (M.set 308 (oI X)) 284 = some (12, fs) := by rw [gO_ne (by decide)]; exact gO_of hM.1
    have r36 := hM.rf 36 308 (by decide)
    have g1 : gI (M.set 308 (oI X)) m = some lm := by rw [gI_ne (Ne.symm hm)]; exact gm
    have g5 : gI (M.set 308 (oI X)) 308 = some X := gI_self hl
    have w0 := getD_of (xs := lm) (i := i) (by omega)
    have w1 := getD_of (xs := X) (i := i + j) (by omega)
    have n1 : ¬ 308 < 19 := by decide
    have n2 : ¬ X.length ≤ i + j := by omega
    have k1 := uw_lt (lm.getD i 0)
    have k2 := uw_lt (X.getD (i + j) 0)
    obtain ⟨s, hs⟩ : ∃ s : Int64, s = c + (((X.getD (i + j) 0).toInt64 &&& 4294967295) + ((lm.getD i 0).toInt64 &&& 4294967295)) := ⟨_, rfl⟩
    have js : jw s = jw c + uw (X.getD (i + j) 0) + uw (lm.getD i 0) := by
      rw [hs, jw_ad, jw_ad, jw_x, jw_x]
      omega
    have k3 := jw_sh s
    have k4 := uw_lj s
    obtain ⟨R, c', r1, r2, r3, r4, r5⟩ := ih (i + 1) (kf_lush s 32) (X.set (i + j) s.toInt32) (by omega) (by rw [List.length_set]; exact hX) (by omega)
    refine ⟨R, c', (e148_203 _ _ _).trans (Eq.trans ?_ r1), r2, fun k hk => by rw [r3 k (by omega), gD_ne (by omega)], r4, ?_⟩
    · simp only [cl_148, e148_0, e148_1, e148_4, e148_5, e148_7, e148_8, e148_9, e148_10, e148_13, e148_14, e148_15, e148_16, e148_18, e148_19, e148_20, e148_23, e148_24, e148_26, e148_27, e148_28, e148_29, e148_32, e148_33, e148_34, e148_36, e148_37, e148_39, e148_40, e148_41, e148_44, e148_45, e148_47, e148_48, e148_50, e148_51, e148_54, e148_57, e148_60, e148_62, e148_64, e148_67, e148_69, e148_70, e148_72, e148_73, e148_75, e148_76, e148_78, e148_80, e148_82, e148_85, e148_87, e148_88, e148_90, e148_91, e148_92, e148_95, e148_96, e148_97, e148_99, e148_100, e148_102, e148_104, e148_106, e148_107, e148_109, e148_111, e148_112, e148_115, e148_117, e148_118, e148_119, e148_120, e148_121, e148_124, e148_125, e148_127, e148_130, e148_131, e148_132, e148_133, e148_135, e148_136, e148_139, e148_141, e148_142, e148_143, e148_145, e148_146, e148_147, e148_149, e148_151, e148_152, e148_154, e148_157, e148_160, e148_162, e148_163, e148_165, e148_166, e148_167, e148_169, e148_170, e148_173, e148_174, e148_176, e148_177, e148_179, e148_180, e148_181, e148_182, e148_184, e148_186, e148_187, e148_190, e148_192, e148_193, e148_194, e148_197, e148_198, e148_200, e148_201, e148_205, e148_207, e148_210, e148_212, e148_213, e148_216, e148_218, e148_219, e148_220, e148_221, e148_222, e148_225, e148_226, e148_227, e148_229, e148_230, e148_231, e148_234, e148_235, e148_236, e148_237, e148_239, e148_240, e148_243, e148_245, e148_246, e148_247, e148_249, e148_250, e148_251, e148_253, e148_255, e148_256, e148_258, e148_261, e148_266, e148_268, e148_269, e148_271, e148_272, e148_275, e148_276, e148_278, e148_279, e148_281, e148_282, e148_283, e148_286, e148_289, ow_148, Int32.reduceOfInt, Int32.reduceOfNat, Int32.reduceToNatClampNeg, Int32.reduceLT, Int32.reduceLE, Int32.reduceAdd, Int32.reduceSub, Int32.reduceMul, Int64.reduceOfNat, Int64.reduceOfInt, Nat.reduceLeDiff, Nat.reduceLT, Nat.reduceEqDiff, Nat.reduceSub, cs_0, cs_1, cs_2, cs_3, cs_4, cs_5, cs_6, cs_7, cs_8, or_false, false_or, not_false_eq_true, and_true, true_and, if_true, if_false, List.length_cons, List.length_nil, List.getElem?_cons_succ, List.getElem?_cons_zero, List.set_cons_succ, List.set_cons_zero, reduceIte, d_G, d_R, s_aload, s_aload_n, s_iload, s_iload_n, s_lload, s_lload_n, s_istore, s_istore_n, s_astore, s_astoreN, s_astore_n, s_astore_nN, s_lstore, s_lstore_n, s_iinc, s_iconst, s_bipush, s_sipush, s_lconst, s_ldc2_w, s_aconst_null, s_dupA, s_dupI, s_dup2, s_iadd, s_isub, s_imul, s_iand, s_ior, s_ixor, s_ishl, s_ishr, s_iushr, s_ineg, s_idiv, s_irem, s_ladd, s_lsub, s_lmul, s_land, s_lor, s_lxor, s_ldiv, s_lshl, s_lshr, s_lushr, s_i2l, s_l2i, s_lcmp, s_goto, s_ieq, s_ine, s_ilt, s_ige, s_igt, s_ile, s_zeq, s_zne, s_zlt, s_zge, s_zgt, s_zle, s_ifnull, s_ifnullN, s_ifnonnull, s_ifnonnullN, s_tableswitch, s_lookupswitch, s_getfield, s_putfield, s_getstatic, s_iaload, s_laload, s_baload, s_aaload, s_iastore, s_lastore, s_bastore, s_aastore, s_arraylength, s_newI, s_newJ, s_newZ, s_anewarray, s_new, s_copy, s_max, s_min, s_invokestatic, s_objinit, s_invokespecial, kf_isr_r, s_invokevirtual, s_ireturn, s_lreturn, s_areturn, s_areturnN, s_return, lI_0, lI_s, lJ_0, lJ_s, lA_0, lA_0N, lA_s, lS1_0, lS1_1, lS1_2, lS2_0, lS2_1, lS2_2, lK_n, lK_i, lK_j, lK_a, lK_N, d_C', kf_w_0, kf_w_i, kf_w_a, kf_w_n, kf_w_j, c_0, c_1, c_2, c_3, c_4, c_5, c_6, tl_0, tl_1, Option.bind_some, Option.bind_none, Option.map_some, Nat.reduceAdd, Nat.reduceMul, Nat.reduceDiv, Nat.reduceMod, Int.reduceToNat, Fin.val_zero, Fin.isValue, Fin.val_one, Fin.val_two, fv_0, fv_1, fv_2, fv_3, fw_0, fw_1, d_ite, true_or, or_true, and_false, false_and, or_self, and_self, e, g, r36, g1, g5, w0, w1, n1, n2, p0, p1, p2, p3, kf_NS, nI_1, nI_add, List.set_set, ← hs]
    · have r7 := r3 (i + j) (by omega)
      rw [gD_self (by omega)] at r7
      have cgx : wv (X.set (i + j) s.toInt32) (i + j + 1) n = wv X (i + j + 1) n := wv_cg n _ (fun k h1 h2 => gD_ne (by omega))
      rw [show i + 1 + j = i + j + 1 by omega, cgx] at r5
      show uw (R.getD (i + j) 0) + 4294967296 * wv R (i + j + 1) n + _ = (uw (X.getD (i + j) 0) + 4294967296 * wv X (i + j + 1) n) + (uw (lm.getD i 0) + 4294967296 * wv lm (i + 1) n) + _
      rw [r7, Nat.pow_succ, Nat.mul_comm (4294967296 ^ n) 4294967296, Nat.mul_assoc]
      generalize 4294967296 ^ n * jw c' = Q at *
      omega
theorem c148c (hM : MdIs M fs) (hl : 308 < M.length) (gm : gI M m = some lm) (hm : m ≠ 308) (l8 : lm.length = 8) (hj : j ≤ 8) {cc : Int64} : ∀ (n k : Nat) (u : Int64) (X : List Int32) (u16 u17 u18 : Option Value), k + n = 3 → X.length = 17 → X.getD (8 + j) 0 = u.toInt32 → -((n : Int) * (wv lm 0 8 : Nat)) ≤ wv X j 8 + (2 : Int) ^ 256 * u.toInt → wv X j 8 + (2 : Int) ^ 256 * u.toInt < (wv lm 0 8 : Nat) → ∃ (R : List Int32) (t : Nat), kf_ev 148 184 [some (.ref 284), some (.int (nI j)), some (.ref m), some (.long hi), none, some (.long top), none, some (.long hd), none, some (.long q), none, some (.long cc), none, some (.long u), none, some (.int (nI k)), u16, u17, u18] [] (M.set 308 (oI X)) = some (none, M.set 308 (oI R)) ∧ R.length = 17 ∧ (∀ i, i < j ∨ 9 + j ≤ i → R.getD i 0 = X.getD i 0) ∧ ((wv R j 9 : Nat) : Int) = wv X j 8 + (2 : Int) ^ 256 * u.toInt + t * (wv lm 0 8 : Nat) ∧ wv R j 9 < wv lm 0 8 := by
  intro n
  have lmv := wv_lt (l := lm) 8 0
  rw [p8] at lmv
  have done : ∀ (u : Int64) (X : List Int32), X.getD (8 + j) 0 = u.toInt32 → 0 ≤ wv X j 8 + (2 : Int) ^ 256 * u.toInt → wv X j 8 + (2 : Int) ^ 256 * u.toInt < (wv lm 0 8 : Nat) → u.toInt = 0 ∧ wv X j 9 = wv X j 8 := by
    intro u X h1 h2 h3
    have lx := wv_lt (l := X) 8 j
    rw [p8] at lx
    have hu : u.toInt = 0 := by omega
    refine ⟨hu, ?_⟩
    rw [wv_top 8 j, Nat.add_comm j 8, h1]
    have := uw_l u
    rw [hu] at this
    rw [show uw u.toInt32 = 0 by omega, Nat.mul_zero, Nat.add_zero]
  induction n with
  | zero =>
    intro k u X u16 u17 u18 hk hX h1 h2 h3
    have hk : k = 3 := by omega
    subst hk
    obtain ⟨d1, d2⟩ := done u X h1 (by simpa using h2) h3
    have e : (3 : Int32) ≤ nI 3 := by decide
    refine ⟨X, 0, (e148_184 _ _ _).trans ?_, hX, fun _ _ => rfl, by rw [d2, d1]; omega, by rw [d2]; rw [d1] at h3; omega⟩
    simp only [cl_148, e148_0, e148_1, e148_4, e148_5, e148_7, e148_8, e148_9, e148_10, e148_13, e148_14, e148_15, e148_16, e148_18, e148_19, e148_20, e148_23, e148_24, e148_26, e148_27, e148_28, e148_29, e148_32, e148_33, e148_34, e148_36, e148_37, e148_39, e148_40, e148_41, e148_44, e148_45, e148_47, e148_48, e148_50, e148_51, e148_54, e148_57, e148_60, e148_62, e148_64, e148_67, e148_69, e148_70, e148_72, e148_73, e148_75, e148_76, e148_78, e148_80, e148_82, e148_85, e148_87, e148_88, e148_90, e148_91, e148_92, e148_95, e148_96, e148_97, e148_99, e148_100, e148_102, e148_104, e148_106, e148_107, e148_109, e148_111, e148_112, e148_115, e148_117, e148_118, e148_119, e148_120, e148_121, e148_124, e148_125, e148_127, e148_130, e148_131, e148_132, e148_133, e148_135, e148_136, e148_139, e148_141, e148_142, e148_143, e148_145, e148_146, e148_147, e148_149, e148_151, e148_152, e148_154, e148_157, e148_160, e148_162, e148_163, e148_165, e148_166, e148_167, e148_169, e148_170, e148_173, e148_174, e148_176, e148_177, e148_179, e148_180, e148_181, e148_182, e148_186, e148_187, e148_190, e148_192, e148_193, e148_194, e148_197, e148_198, e148_200, e148_201, e148_205, e148_207, e148_210, e148_212, e148_213, e148_216, e148_218, e148_219, e148_220, e148_221, e148_222, e148_225, e148_226, e148_227, e148_229, e148_230, e148_231, e148_234, e148_235, e148_236, e148_237, e148_239, e148_240, e148_243, e148_245, e148_246, e148_247, e148_249, e148_250, e148_251, e148_253, e148_255, e148_256, e148_258, e148_261, e148_266, e148_268, e148_269, e148_271, e148_272, e148_275, e148_276, e148_278, e148_279, e148_281, e148_282, e148_283, e148_286, e148_289, ow_148, Int32.reduceOfInt, Int32.reduceOfNat, Int32.reduceToNatClampNeg, Int32.reduceLT, Int32.reduceLE, Int32.reduceAdd, Int32.reduceSub, Int32.reduceMul, Int64.reduceOfNat, Int64.reduceOfInt, Nat.reduceLeDiff, Nat.reduceLT, Nat.reduceEqDiff, Nat.reduceSub, cs_0, cs_1, cs_2, cs_3, cs_4, cs_5, cs_6, cs_7, cs_8, or_false, false_or, not_false_eq_true, and_true, true_and, if_true, if_false, List.length_cons, List.length_nil, List.getElem?_cons_succ, List.getElem?_cons_zero, List.set_cons_succ, List.set_cons_zero, reduceIte, d_G, d_R, s_aload, s_aload_n, s_iload, s_iload_n, s_lload, s_lload_n, s_istore, s_istore_n, s_astore, s_astoreN, s_astore_n, s_astore_nN, s_lstore, s_lstore_n, s_iinc, s_iconst, s_bipush, s_sipush, s_lconst, s_ldc2_w, s_aconst_null, s_dupA, s_dupI, s_dup2, s_iadd, s_isub, s_imul, s_iand, s_ior, s_ixor, s_ishl, s_ishr, s_iushr, s_ineg, s_idiv, s_irem, s_ladd, s_lsub, s_lmul, s_land, s_lor, s_lxor, s_ldiv, s_lshl, s_lshr, s_lushr, s_i2l, s_l2i, s_lcmp, s_goto, s_ieq, s_ine, s_ilt, s_ige, s_igt, s_ile, s_zeq, s_zne, s_zlt, s_zge, s_zgt, s_zle, s_ifnull, s_ifnullN, s_ifnonnull, s_ifnonnullN, s_tableswitch, s_lookupswitch, s_getfield, s_putfield, s_getstatic, s_iaload, s_laload, s_baload, s_aaload, s_iastore, s_lastore, s_bastore, s_aastore, s_arraylength, s_newI, s_newJ, s_newZ, s_anewarray, s_new, s_copy, s_max, s_min, s_invokestatic, s_objinit, s_invokespecial, kf_isr_r, s_invokevirtual, s_ireturn, s_lreturn, s_areturn, s_areturnN, s_return, lI_0, lI_s, lJ_0, lJ_s, lA_0, lA_0N, lA_s, lS1_0, lS1_1, lS1_2, lS2_0, lS2_1, lS2_2, lK_n, lK_i, lK_j, lK_a, lK_N, d_C', kf_w_0, kf_w_i, kf_w_a, kf_w_n, kf_w_j, c_0, c_1, c_2, c_3, c_4, c_5, c_6, tl_0, tl_1, Option.bind_some, Option.bind_none, Option.map_some, Nat.reduceAdd, Nat.reduceMul, Nat.reduceDiv, Nat.reduceMod, Int.reduceToNat, Fin.val_zero, Fin.isValue, Fin.val_one, Fin.val_two, fv_0, fv_1, fv_2, fv_3, fw_0, fw_1, d_ite, true_or, or_true, and_false, false_and, or_self, and_self, e]
  | succ n ih =>
    intro k u X u16 u17 u18 hk hX h1 h2 h3
    have lx := wv_lt (l := X) 8 j
    rw [p8] at lx
    have e : ¬ (3 : Int32) ≤ nI k := nI_ge (a := k) (b := 3) (by omega) (by omega)
    by_cases q0 : u.toInt < 0
    · have c0 : ¬ 0 ≤ lg_cmp u 0 := by
        rw [lgN]
        have : u < 0 := by rw [Int64.lt_iff_toInt_lt]; exact q0
        exact fun h => h this
      have ub : -4 ≤ u.toInt := by
        have : ((n + 1 : Nat) : Int) * (wv lm 0 8 : Nat) ≤ 3 * (wv lm 0 8 : Nat) := Int.mul_le_mul_of_nonneg_right (by omega) (by omega)
        omega
      obtain ⟨R, c', r1, r2, r3, r4, r5⟩ := c148b (hi := hi) (top := top) (hd := hd) (q := q) (cc := cc) (uu := u) (kk := nI k) hM hl gm hm l8 hj 8 0 0 X (by omega) hX (by decide)
      rw [Nat.zero_add, p8, show jw 0 = 0 from rfl] at r5
      rw [nI_0] at r1
      obtain ⟨w, hw⟩ : ∃ w : Int64, w = u + c' := ⟨_, rfl⟩
      have cw1 : c'.toInt = (jw c' : Int) := jw_toInt (by omega)
      have jw1 : w.toInt = u.toInt + jw c' := by
        rw [hw]
        exact (i64_ad (B := 4) (C := 1) ⟨rfl, by omega, by omega⟩ ⟨cw1, by omega, by omega⟩ (by decide)).1
      have p2 : ¬ nI (j + 8) < 0 := nI_pos (by omega)
      have p3 : (nI (j + 8)).toNatClampNeg = j + 8 := nI_clamp (by omega)
      have p4 : nI j + 8 = nI (j + 8) := nI_add j 8
      have g : gO (M.set 308 (oI R)) 284 = some (12, fs) := by rw [gO_ne (by decide)]; exact gO_of hM.1
      have r36 := hM.rf 36 308 (by decide)
      have g5 : gI (M.set 308 (oI R)) 308 = some R := gI_self hl
      have n1 : ¬ 308 < 19 := by decide
      have n2 : ¬ R.length ≤ j + 8 := by omega
      have lr : wv (R.set (j + 8) w.toInt32) j 8 = wv R j 8 := wv_cg 8 j (fun k h1 h2 => gD_ne (by omega))
      have hmul : ((n + 1 : Nat) : Int) * (wv lm 0 8 : Nat) = n * (wv lm 0 8 : Nat) + (wv lm 0 8 : Nat) := by rw [Int.natCast_add, Int.add_mul]; omega
      rw [hmul] at h2
      have lrr := wv_lt (l := R) 8 j
      rw [p8] at lrr
      obtain ⟨R2, t, s1, s2, s3, s4, s5⟩ := ih (k + 1) w (R.set (j + 8) w.toInt32) (some (.long c')) none (some (.int 8)) (by omega) (by rw [List.length_set]; exact r2) (by rw [Nat.add_comm 8 j, gD_self (by omega)]) (by rw [lr, jw1]; omega) (by rw [lr, jw1]; omega)
      refine ⟨R2, t + 1, (e148_184 _ _ _).trans (Eq.trans ?_ s1), s2, fun i hi => by rw [s3 i hi, gD_ne (by omega), r3 i (by omega)], ?_, s5⟩
      · simp only [cl_148, e148_0, e148_1, e148_4, e148_5, e148_7, e148_8, e148_9, e148_10, e148_13, e148_14, e148_15, e148_16, e148_18, e148_19, e148_20, e148_23, e148_24, e148_26, e148_27, e148_28, e148_29, e148_32, e148_33, e148_34, e148_36, e148_37, e148_39, e148_40, e148_41, e148_44, e148_45, e148_47, e148_48, e148_50, e148_51, e148_54, e148_57, e148_60, e148_62, e148_64, e148_67, e148_69, e148_70, e148_72, e148_73, e148_75, e148_76, e148_78, e148_80, e148_82, e148_85, e148_87, e148_88, e148_90, e148_91, e148_92, e148_95, e148_96, e148_97, e148_99, e148_100, e148_102, e148_104, e148_106, e148_107, e148_109, e148_111, e148_112, e148_115, e148_117, e148_118, e148_119, e148_120, e148_121, e148_124, e148_125, e148_127, e148_130, e148_131, e148_132, e148_133, e148_135, e148_136, e148_139, e148_141, e148_142, e148_143, e148_145, e148_146, e148_147, e148_149, e148_151, e148_152, e148_154, e148_157, e148_160, e148_162, e148_163, e148_165, e148_166, e148_167, e148_169, e148_170, e148_173, e148_174, e148_176, e148_177, e148_179, e148_180, e148_181, e148_182, e148_186, e148_187, e148_190, e148_192, e148_193, e148_194, e148_197, e148_198, e148_200, e148_201, e148_205, e148_207, e148_210, e148_212, e148_213, e148_216, e148_218, e148_219, e148_220, e148_221, e148_222, e148_225, e148_226, e148_227, e148_229, e148_230, e148_231, e148_234, e148_235, e148_236, e148_237, e148_239, e148_240, e148_243, e148_245, e148_246, e148_247, e148_249, e148_250, e148_251, e148_253, e148_255, e148_256, e148_258, e148_261, e148_266, e148_268, e148_269, e148_271, e148_272, e148_275, e148_276, e148_278, e148_279, e148_281, e148_282, e148_283, e148_286, e148_289, ow_148, Int32.reduceOfInt, Int32.reduceOfNat, Int32.reduceToNatClampNeg, Int32.reduceLT, Int32.reduceLE, Int32.reduceAdd, Int32.reduceSub, Int32.reduceMul, Int64.reduceOfNat, Int64.reduceOfInt, Nat.reduceLeDiff, Nat.reduceLT, Nat.reduceEqDiff, Nat.reduceSub, cs_0, cs_1, cs_2, cs_3, cs_4, cs_5, cs_6, cs_7, cs_8, or_false, false_or, not_false_eq_true, and_true, true_and, if_true, if_false, List.length_cons, List.length_nil, List.getElem?_cons_succ, List.getElem?_cons_zero, List.set_cons_succ, List.set_cons_zero, reduceIte, d_G, d_R, s_aload, s_aload_n, s_iload, s_iload_n, s_lload, s_lload_n, s_istore, s_istore_n, s_astore, s_astoreN, s_astore_n, s_astore_nN, s_lstore, s_lstore_n, s_iinc, s_iconst, s_bipush, s_sipush, s_lconst, s_ldc2_w, s_aconst_null, s_dupA, s_dupI, s_dup2, s_iadd, s_isub, s_imul, s_iand, s_ior, s_ixor, s_ishl, s_ishr, s_iushr, s_ineg, s_idiv, s_irem, s_ladd, s_lsub, s_lmul, s_land, s_lor, s_lxor, s_ldiv, s_lshl, s_lshr, s_lushr, s_i2l, s_l2i, s_lcmp, s_goto, s_ieq, s_ine, s_ilt, s_ige, s_igt, s_ile, s_zeq, s_zne, s_zlt, s_zge, s_zgt, s_zle, s_ifnull, s_ifnullN, s_ifnonnull, s_ifnonnullN, s_tableswitch, s_lookupswitch, s_getfield, s_putfield, s_getstatic, s_iaload, s_laload, s_baload, s_aaload, s_iastore, s_lastore, s_bastore, s_aastore, s_arraylength, s_newI, s_newJ, s_newZ, s_anewarray, s_new, s_copy, s_max, s_min, s_invokestatic, s_objinit, s_invokespecial, kf_isr_r, s_invokevirtual, s_ireturn, s_lreturn, s_areturn, s_areturnN, s_return, lI_0, lI_s, lJ_0, lJ_s, lA_0, lA_0N, lA_s, lS1_0, lS1_1, lS1_2, lS2_0, lS2_1, lS2_2, lK_n, lK_i, lK_j, lK_a, lK_N, d_C', kf_w_0, kf_w_i, kf_w_a, kf_w_n, kf_w_j, c_0, c_1, c_2, c_3, c_4, c_5, c_6, tl_0, tl_1, Option.bind_some, Option.bind_none, Option.map_some, Nat.reduceAdd, Nat.reduceMul, Nat.reduceDiv, Nat.reduceMod, Int.reduceToNat, Fin.val_zero, Fin.isValue, Fin.val_one, Fin.val_two, fv_0, fv_1, fv_2, fv_3, fw_0, fw_1, d_ite, true_or, or_true, and_false, false_and, or_self, and_self, e, c0, r1]
        refine (e148_264 _ _ _).trans ?_
        simp only [cl_148, e148_0, e148_1, e148_4, e148_5, e148_7, e148_8, e148_9, e148_10, e148_13, e148_14, e148_15, e148_16, e148_18, e148_19, e148_20, e148_23, e148_24, e148_26, e148_27, e148_28, e148_29, e148_32, e148_33, e148_34, e148_36, e148_37, e148_39, e148_40, e148_41, e148_44, e148_45, e148_47, e148_48, e148_50, e148_51, e148_54, e148_57, e148_60, e148_62, e148_64, e148_67, e148_69, e148_70, e148_72, e148_73, e148_75, e148_76, e148_78, e148_80, e148_82, e148_85, e148_87, e148_88, e148_90, e148_91, e148_92, e148_95, e148_96, e148_97, e148_99, e148_100, e148_102, e148_104, e148_106, e148_107, e148_109, e148_111, e148_112, e148_115, e148_117, e148_118, e148_119, e148_120, e148_121, e148_124, e148_125, e148_127, e148_130, e148_131, e148_132, e148_133, e148_135, e148_136, e148_139, e148_141, e148_142, e148_143, e148_145, e148_146, e148_147, e148_149, e148_151, e148_152, e148_154, e148_157, e148_160, e148_162, e148_163, e148_165, e148_166, e148_167, e148_169, e148_170, e148_173, e148_174, e148_176, e148_177, e148_179, e148_180, e148_181, e148_182, e148_186, e148_187, e148_190, e148_192, e148_193, e148_194, e148_197, e148_198, e148_200, e148_201, e148_205, e148_207, e148_210, e148_212, e148_213, e148_216, e148_218, e148_219, e148_220, e148_221, e148_222, e148_225, e148_226, e148_227, e148_229, e148_230, e148_231, e148_234, e148_235, e148_236, e148_237, e148_239, e148_240, e148_243, e148_245, e148_246, e148_247, e148_249, e148_250, e148_251, e148_253, e148_255, e148_256, e148_258, e148_261, e148_266, e148_268, e148_269, e148_271, e148_272, e148_275, e148_276, e148_278, e148_279, e148_281, e148_282, e148_283, e148_286, e148_289, ow_148, Int32.reduceOfInt, Int32.reduceOfNat, Int32.reduceToNatClampNeg, Int32.reduceLT, Int32.reduceLE, Int32.reduceAdd, Int32.reduceSub, Int32.reduceMul, Int64.reduceOfNat, Int64.reduceOfInt, Nat.reduceLeDiff, Nat.reduceLT, Nat.reduceEqDiff, Nat.reduceSub, cs_0, cs_1, cs_2, cs_3, cs_4, cs_5, cs_6, cs_7, cs_8, or_false, false_or, not_false_eq_true, and_true, true_and, if_true, if_false, List.length_cons, List.length_nil, List.getElem?_cons_succ, List.getElem?_cons_zero, List.set_cons_succ, List.set_cons_zero, reduceIte, d_G, d_R, s_aload, s_aload_n, s_iload, s_iload_n, s_lload, s_lload_n, s_istore, s_istore_n, s_astore, s_astoreN, s_astore_n, s_astore_nN, s_lstore, s_lstore_n, s_iinc, s_iconst, s_bipush, s_sipush, s_lconst, s_ldc2_w, s_aconst_null, s_dupA, s_dupI, s_dup2, s_iadd, s_isub, s_imul, s_iand, s_ior, s_ixor, s_ishl, s_ishr, s_iushr, s_ineg, s_idiv, s_irem, s_ladd, s_lsub, s_lmul, s_land, s_lor, s_lxor, s_ldiv, s_lshl, s_lshr, s_lushr, s_i2l, s_l2i, s_lcmp, s_goto, s_ieq, s_ine, s_ilt, s_ige, s_igt, s_ile, s_zeq, s_zne, s_zlt, s_zge, s_zgt, s_zle, s_ifnull, s_ifnullN, s_ifnonnull, s_ifnonnullN, s_tableswitch, s_lookupswitch, s_getfield, s_putfield, s_getstatic, s_iaload, s_laload, s_baload, s_aaload, s_iastore, s_lastore, s_bastore, s_aastore, s_arraylength, s_newI, s_newJ, s_newZ, s_anewarray, s_new, s_copy, s_max, s_min, s_invokestatic, s_objinit, s_invokespecial, kf_isr_r, s_invokevirtual, s_ireturn, s_lreturn, s_areturn, s_areturnN, s_return, lI_0, lI_s, lJ_0, lJ_s, lA_0, lA_0N, lA_s, lS1_0, lS1_1, lS1_2, lS2_0, lS2_1, lS2_2, lK_n, lK_i, lK_j, lK_a, lK_N, d_C', kf_w_0, kf_w_i, kf_w_a, kf_w_n, kf_w_j, c_0, c_1, c_2, c_3, c_4, c_5, c_6, tl_0, tl_1, Option.bind_some, Option.bind_none, Option.map_some, Nat.reduceAdd, Nat.reduceMul, Nat.reduceDiv, Nat.reduceMod, Int.reduceToNat, Fin.val_zero, Fin.isValue, Fin.val_one, Fin.val_two, fv_0, fv_1, fv_2, fv_3, fw_0, fw_1, d_ite, true_or, or_true, and_false, false_and, or_self, and_self, g, r36, g5, p2, p3, p4, n1, n2, kf_NS, nI_1, List.set_set, ← hw]
      · rw [s4, lr, jw1, Int.natCast_add, Int.add_mul]
        omega
    · have c0 : 0 ≤ lg_cmp u 0 := by
        rw [lgN]
        intro h
        rw [Int64.lt_iff_toInt_lt] at h
        exact q0 h
      have hu0 : 0 ≤ wv X j 8 + (2 : Int) ^ 256 * u.toInt := by omega
      obtain ⟨d1, d2⟩ := done u X h1 hu0 h3
      refine ⟨X, 0, (e148_184 _ _ _).trans ?_, hX, fun _ _ => rfl, by rw [d2, d1]; omega, by rw [d2]; rw [d1] at h3; omega⟩
      simp only [cl_148, e148_0, e148_1, e148_4, e148_5, e148_7, e148_8, e148_9, e148_10, e148_13, e148_14, e148_15, e148_16, e148_18, e148_19, e148_20, e148_23, e148_24, e148_26, e148_27, e148_28, e148_29, e148_32, e148_33, e148_34, e148_36, e148_37, e148_39, e148_40, e148_41, e148_44, e148_45, e148_47, e148_48, e148_50, e148_51, e148_54, e148_57, e148_60, e148_62, e148_64, e148_67, e148_69, e148_70, e148_72, e148_73, e148_75, e148_76, e148_78, e148_80, e148_82, e148_85, e148_87, e148_88, e148_90, e148_91, e148_92, e148_95, e148_96, e148_97, e148_99, e148_100, e148_102, e148_104, e148_106, e148_107, e148_109, e148_111, e148_112, e148_115, e148_117, e148_118, e148_119, e148_120, e148_121, e148_124, e148_125, e148_127, e148_130, e148_131, e148_132, e148_133, e148_135, e148_136, e148_139, e148_141, e148_142, e148_143, e148_145, e148_146, e148_147, e148_149, e148_151, e148_152, e148_154, e148_157, e148_160, e148_162, e148_163, e148_165, e148_166, e148_167, e148_169, e148_170, e148_173, e148_174, e148_176, e148_177, e148_179, e148_180, e148_181, e148_182, e148_186, e148_187, e148_190, e148_192, e148_193, e148_194, e148_197, e148_198, e148_200, e148_201, e148_205, e148_207, e148_210, e148_212, e148_213, e148_216, e148_218, e148_219, e148_220, e148_221, e148_222, e148_225, e148_226, e148_227, e148_229, e148_230, e148_231, e148_234, e148_235, e148_236, e148_237, e148_239, e148_240, e148_243, e148_245, e148_246, e148_247, e148_249, e148_250, e148_251, e148_253, e148_255, e148_256, e148_258, e148_261, e148_266, e148_268, e148_269, e148_271, e148_272, e148_275, e148_276, e148_278, e148_279, e148_281, e148_282, e148_283, e148_286, e148_289, ow_148, Int32.reduceOfInt, Int32.reduceOfNat, Int32.reduceToNatClampNeg, Int32.reduceLT, Int32.reduceLE, Int32.reduceAdd, Int32.reduceSub, Int32.reduceMul, Int64.reduceOfNat, Int64.reduceOfInt, Nat.reduceLeDiff, Nat.reduceLT, Nat.reduceEqDiff, Nat.reduceSub, cs_0, cs_1, cs_2, cs_3, cs_4, cs_5, cs_6, cs_7, cs_8, or_false, false_or, not_false_eq_true, and_true, true_and, if_true, if_false, List.length_cons, List.length_nil, List.getElem?_cons_succ, List.getElem?_cons_zero, List.set_cons_succ, List.set_cons_zero, reduceIte, d_G, d_R, s_aload, s_aload_n, s_iload, s_iload_n, s_lload, s_lload_n, s_istore, s_istore_n, s_astore, s_astoreN, s_astore_n, s_astore_nN, s_lstore, s_lstore_n, s_iinc, s_iconst, s_bipush, s_sipush, s_lconst, s_ldc2_w, s_aconst_null, s_dupA, s_dupI, s_dup2, s_iadd, s_isub, s_imul, s_iand, s_ior, s_ixor, s_ishl, s_ishr, s_iushr, s_ineg, s_idiv, s_irem, s_ladd, s_lsub, s_lmul, s_land, s_lor, s_lxor, s_ldiv, s_lshl, s_lshr, s_lushr, s_i2l, s_l2i, s_lcmp, s_goto, s_ieq, s_ine, s_ilt, s_ige, s_igt, s_ile, s_zeq, s_zne, s_zlt, s_zge, s_zgt, s_zle, s_ifnull, s_ifnullN, s_ifnonnull, s_ifnonnullN, s_tableswitch, s_lookupswitch, s_getfield, s_putfield, s_getstatic, s_iaload, s_laload, s_baload, s_aaload, s_iastore, s_lastore, s_bastore, s_aastore, s_arraylength, s_newI, s_newJ, s_newZ, s_anewarray, s_new, s_copy, s_max, s_min, s_invokestatic, s_objinit, s_invokespecial, kf_isr_r, s_invokevirtual, s_ireturn, s_lreturn, s_areturn, s_areturnN, s_return, lI_0, lI_s, lJ_0, lJ_s, lA_0, lA_0N, lA_s, lS1_0, lS1_1, lS1_2, lS2_0, lS2_1, lS2_2, lK_n, lK_i, lK_j, lK_a, lK_N, d_C', kf_w_0, kf_w_i, kf_w_a, kf_w_n, kf_w_j, c_0, c_1, c_2, c_3, c_4, c_5, c_6, tl_0, tl_1, Option.bind_some, Option.bind_none, Option.map_some, Nat.reduceAdd, Nat.reduceMul, Nat.reduceDiv, Nat.reduceMod, Int.reduceToNat, Fin.val_zero, Fin.isValue, Fin.val_one, Fin.val_two, fv_0, fv_1, fv_2, fv_3, fw_0, fw_1, d_ite, true_or, or_true, and_false, false_and, or_self, and_self, e, c0]
end DIV
theorem n148 {M : kf_M} {fs : List Value} {j m vm : Nat} {X : List Int32} (hM : MdIs M fs) (gX : M[308]? = some (oI X)) (hX : X.length = 17) (wm : Wd M m vm) (hm : m ≠ 308) (hj : j ≤ 8) (h255 : 2 ^ 255 ≤ vm) (hT : wv X j 9 < vm * 4294967296) : ∃ R : List Int32, kf_cl 148 [.ref 284, .int (nI j), .ref m] M = some (none, M.set 308 (oI R)) ∧ R.length = 17 ∧ (∀ k, k < j ∨ 9 + j ≤ k → R.getD k 0 = X.getD k 0) ∧ wv R j 9 = wv X j 9 % vm := by
  obtain ⟨lm, gm, l8, em⟩ := wm
  have hl := m_lt gX
  have g := gO_of hM.1
  have r36 := hM.rf 36 308 (by decide)
  have gx := gI_of gX
  have gmm := gI_of gm
  obtain ⟨H, hH⟩ : ∃ H : Int64, H = (X.getD (j + 8) 0).toInt64 &&& 4294967295 := ⟨_, rfl⟩
  obtain ⟨D, hD⟩ : ∃ D : Int64, D = (lm.getD 7 0).toInt64 &&& 4294967295 := ⟨_, rfl⟩
  obtain ⟨T, hTp⟩ : ∃ T : Int64, T = (H <<< ((32 : Int32).toInt64 &&& 63)) ||| ((X.getD (j + 7) 0).toInt64 &&& 4294967295) := ⟨_, rfl⟩
  have jH : jw H = uw (X.getD (j + 8) 0) := by rw [hH, jw_x]
  have jD : jw D = uw (lm.getD 7 0) := by rw [hD, jw_x]
  have u8 := uw_lt (X.getD (j + 8) 0)
  have u7 := uw_lt (X.getD (j + 7) 0)
  have um := uw_lt (lm.getD 7 0)
  have jT : jw T = uw (X.getD (j + 8) 0) * 4294967296 + uw (X.getD (j + 7) 0) := by
    rw [hTp, jw_or, jw_l32, jw_x, jH, show uw (X.getD (j + 8) 0) * 4294967296 % 18446744073709551616 = 2 ^ 32 * uw (X.getD (j + 8) 0) by omega, ← Nat.two_pow_add_eq_or_of_lt (i := 32) u7]
    omega
  have wm1 := wv_top (l := lm) 7 0
  have wx1 := wv_top (l := X) 8 j
  have wx2 := wv_top (l := X) 7 j
  have lm7 := wv_lt (l := lm) 7 0
  have lx7 := wv_lt (l := X) 7 j
  rw [Nat.zero_add, show (4294967296 : Nat) ^ 7 = 2 ^ 224 by decide +kernel] at wm1
  rw [show (4294967296 : Nat) ^ 7 = 2 ^ 224 by decide +kernel] at wx2 lm7 lx7
  rw [p8] at wx1
  rw [show 7 + 1 = 8 from rfl, em] at wm1
  rw [show 7 + 1 = 8 from rfl] at wx2
  rw [show 8 + 1 = 9 from rfl] at wx1
  have hd31 : 2147483648 ≤ uw (lm.getD 7 0) := by omega
  obtain ⟨Q, hQ, q1, q2, q3⟩ : ∃ Q : Int64, (∀ ls : kf_L, kf_ev 148 47 [some (.ref 284), some (.int (nI j)), some (.ref m), some (.long H), none, some (.long T), none, some (.long D), none, none, none, none, none, none, none, none, none, none, none] [] M = kf_ev 148 69 [some (.ref 284), some (.int (nI j)), some (.ref m), some (.long H), none, some (.long T), none, some (.long D), none, some (.long Q), none, none, none, none, none, none, none, none, none] [] M) ∧ jw Q < 4294967296 ∧ jw Q * jw D ≤ jw T ∧ (jw Q = 4294967295 ∨ jw T < (jw Q + 1) * jw D) := by
    have iH : H.toInt = (jw H : Int) := jw_toInt (by omega)
    have iD : D.toInt = (jw D : Int) := jw_toInt (by omega)
    by_cases z : jw H < jw D
    · have c0 : lg_cmp H D < 0 := by
        have h1 : ¬ 0 ≤ lg_cmp H D := by
          rw [lgN]
          intro h
          apply h
          rw [Int64.lt_iff_toInt_lt, iH, iD]
          omega
        rw [Int32.le_iff_toInt_le] at h1
        rw [Int32.lt_iff_toInt_lt]
        omega
      obtain ⟨q, k1, k2⟩ := n208 (M := M) (p := T) (q := D) (by omega) (by omega)
      have hqd := Nat.div_mul_le_self (jw T) (jw D)
      have hlt : jw T < (jw T / jw D + 1) * jw D := by
        rw [Nat.mul_comm]
        exact Nat.lt_mul_div_succ _ (by omega)
      refine ⟨q, fun _ => ?_, ?_, by rw [k2]; exact hqd, Or.inr (by rw [k2]; exact hlt)⟩
      · simp only [cl_148, e148_0, e148_1, e148_4, e148_5, e148_7, e148_8, e148_9, e148_10, e148_13, e148_14, e148_15, e148_16, e148_18, e148_19, e148_20, e148_23, e148_24, e148_26, e148_27, e148_28, e148_29, e148_32, e148_33, e148_34, e148_36, e148_37, e148_39, e148_40, e148_41, e148_44, e148_45, e148_47, e148_48, e148_50, e148_51, e148_54, e148_57, e148_60, e148_62, e148_64, e148_67, e148_70, e148_72, e148_73, e148_75, e148_76, e148_78, e148_80, e148_82, e148_85, e148_87, e148_88, e148_90, e148_91, e148_92, e148_95, e148_96, e148_97, e148_99, e148_100, e148_102, e148_104, e148_106, e148_107, e148_109, e148_111, e148_112, e148_115, e148_117, e148_118, e148_119, e148_120, e148_121, e148_124, e148_125, e148_127, e148_130, e148_131, e148_132, e148_133, e148_135, e148_136, e148_139, e148_141, e148_142, e148_143, e148_145, e148_146, e148_147, e148_149, e148_151, e148_152, e148_154, e148_157, e148_160, e148_162, e148_163, e148_165, e148_166, e148_167, e148_169, e148_170, e148_173, e148_174, e148_176, e148_177, e148_179, e148_180, e148_181, e148_182, e148_184, e148_186, e148_187, e148_190, e148_192, e148_193, e148_194, e148_197, e148_198, e148_200, e148_201, e148_203, e148_205, e148_207, e148_210, e148_212, e148_213, e148_216, e148_218, e148_219, e148_220, e148_221, e148_222, e148_225, e148_226, e148_227, e148_229, e148_230, e148_231, e148_234, e148_235, e148_236, e148_237, e148_239, e148_240, e148_243, e148_245, e148_246, e148_247, e148_249, e148_250, e148_251, e148_253, e148_255, e148_256, e148_258, e148_261, e148_264, e148_266, e148_268, e148_269, e148_271, e148_272, e148_275, e148_276, e148_278, e148_279, e148_281, e148_282, e148_283, e148_286, e148_289, ow_148, Int32.reduceOfInt, Int32.reduceOfNat, Int32.reduceToNatClampNeg, Int32.reduceLT, Int32.reduceLE, Int32.reduceAdd, Int32.reduceSub, Int32.reduceMul, Int64.reduceOfNat, Int64.reduceOfInt, Nat.reduceLeDiff, Nat.reduceLT, Nat.reduceEqDiff, Nat.reduceSub, cs_0, cs_1, cs_2, cs_3, cs_4, cs_5, cs_6, cs_7, cs_8, or_false, false_or, not_false_eq_true, and_true, true_and, if_true, if_false, List.length_cons, List.length_nil, List.getElem?_cons_succ, List.getElem?_cons_zero, List.set_cons_succ, List.set_cons_zero, reduceIte, d_G, d_R, s_aload, s_aload_n, s_iload, s_iload_n, s_lload, s_lload_n, s_istore, s_istore_n, s_astore, s_astoreN, s_astore_n, s_astore_nN, s_lstore, s_lstore_n, s_iinc, s_iconst, s_bipush, s_sipush, s_lconst, s_ldc2_w, s_aconst_null, s_dupA, s_dupI, s_dup2, s_iadd, s_isub, s_imul, s_iand, s_ior, s_ixor, s_ishl, s_ishr, s_iushr, s_ineg, s_idiv, s_irem, s_ladd, s_lsub, s_lmul, s_land, s_lor, s_lxor, s_ldiv, s_lshl, s_lshr, s_lushr, s_i2l, s_l2i, s_lcmp, s_goto, s_ieq, s_ine, s_ilt, s_ige, s_igt, s_ile, s_zeq, s_zne, s_zlt, s_zge, s_zgt, s_zle, s_ifnull, s_ifnullN, s_ifnonnull, s_ifnonnullN, s_tableswitch, s_lookupswitch, s_getfield, s_putfield, s_getstatic, s_iaload, s_laload, s_baload, s_aaload, s_iastore, s_lastore, s_bastore, s_aastore, s_arraylength, s_newI, s_newJ, s_newZ, s_anewarray, s_new, s_copy, s_max, s_min, s_invokestatic, s_objinit, s_invokespecial, kf_isr_r, s_invokevirtual, s_ireturn, s_lreturn, s_areturn, s_areturnN, s_return, lI_0, lI_s, lJ_0, lJ_s, lA_0, lA_0N, lA_s, lS1_0, lS1_1, lS1_2, lS2_0, lS2_1, lS2_2, lK_n, lK_i, lK_j, lK_a, lK_N, d_C', kf_w_0, kf_w_i, kf_w_a, kf_w_n, kf_w_j, c_0, c_1, c_2, c_3, c_4, c_5, c_6, tl_0, tl_1, Option.bind_some, Option.bind_none, Option.map_some, Nat.reduceAdd, Nat.reduceMul, Nat.reduceDiv, Nat.reduceMod, Int.reduceToNat, Fin.val_zero, Fin.isValue, Fin.val_one, Fin.val_two, fv_0, fv_1, fv_2, fv_3, fw_0, fw_1, d_ite, true_or, or_true, and_false, false_and, or_self, and_self, c0, k1]
      · rw [k2]
        apply (Nat.div_lt_iff_lt_mul (by omega)).mpr
        rw [jT, ← jH]
        have := Nat.mul_le_mul_right 4294967296 (show jw H + 1 ≤ jw D from z)
        rw [Nat.mul_comm 4294967296 (jw D)]
        omega
    · have c0 : ¬ lg_cmp H D < 0 := by
        have h1 : 0 ≤ lg_cmp H D := by
          rw [lgN]
          intro h
          rw [Int64.lt_iff_toInt_lt, iH, iD] at h
          omega
        rw [Int32.le_iff_toInt_le] at h1
        rw [Int32.lt_iff_toInt_lt]
        omega
      refine ⟨4294967295, fun _ => ?_, by decide, ?_, Or.inl rfl⟩
      · simp only [cl_148, e148_0, e148_1, e148_4, e148_5, e148_7, e148_8, e148_9, e148_10, e148_13, e148_14, e148_15, e148_16, e148_18, e148_19, e148_20, e148_23, e148_24, e148_26, e148_27, e148_28, e148_29, e148_32, e148_33, e148_34, e148_36, e148_37, e148_39, e148_40, e148_41, e148_44, e148_45, e148_47, e148_48, e148_50, e148_51, e148_54, e148_57, e148_60, e148_62, e148_64, e148_67, e148_70, e148_72, e148_73, e148_75, e148_76, e148_78, e148_80, e148_82, e148_85, e148_87, e148_88, e148_90, e148_91, e148_92, e148_95, e148_96, e148_97, e148_99, e148_100, e148_102, e148_104, e148_106, e148_107, e148_109, e148_111, e148_112, e148_115, e148_117, e148_118, e148_119, e148_120, e148_121, e148_124, e148_125, e148_127, e148_130, e148_131, e148_132, e148_133, e148_135, e148_136, e148_139, e148_141, e148_142, e148_143, e148_145, e148_146, e148_147, e148_149, e148_151, e148_152, e148_154, e148_157, e148_160, e148_162, e148_163, e148_165, e148_166, e148_167, e148_169, e148_170, e148_173, e148_174, e148_176, e148_177, e148_179, e148_180, e148_181, e148_182, e148_184, e148_186, e148_187, e148_190, e148_192, e148_193, e148_194, e148_197, e148_198, e148_200, e148_201, e148_203, e148_205, e148_207, e148_210, e148_212, e148_213, e148_216, e148_218, e148_219, e148_220, e148_221, e148_222, e148_225, e148_226, e148_227, e148_229, e148_230, e148_231, e148_234, e148_235, e148_236, e148_237, e148_239, e148_240, e148_243, e148_245, e148_246, e148_247, e148_249, e148_250, e148_251, e148_253, e148_255, e148_256, e148_258, e148_261, e148_264, e148_266, e148_268, e148_269, e148_271, e148_272, e148_275, e148_276, e148_278, e148_279, e148_281, e148_282, e148_283, e148_286, e148_289, ow_148, Int32.reduceOfInt, Int32.reduceOfNat, Int32.reduceToNatClampNeg, Int32.reduceLT, Int32.reduceLE, Int32.reduceAdd, Int32.reduceSub, Int32.reduceMul, Int64.reduceOfNat, Int64.reduceOfInt, Nat.reduceLeDiff, Nat.reduceLT, Nat.reduceEqDiff, Nat.reduceSub, cs_0, cs_1, cs_2, cs_3, cs_4, cs_5, cs_6, cs_7, cs_8, or_false, false_or, not_false_eq_true, and_true, true_and, if_true, if_false, List.length_cons, List.length_nil, List.getElem?_cons_succ, List.getElem?_cons_zero, List.set_cons_succ, List.set_cons_zero, reduceIte, d_G, d_R, s_aload, s_aload_n, s_iload, s_iload_n, s_lload, s_lload_n, s_istore, s_istore_n, s_astore, s_astoreN, s_astore_n, s_astore_nN, s_lstore, s_lstore_n, s_iinc, s_iconst, s_bipush, s_sipush, s_lconst, s_ldc2_w, s_aconst_null, s_dupA, s_dupI, s_dup2, s_iadd, s_isub, s_imul, s_iand, s_ior, s_ixor, s_ishl, s_ishr, s_iushr, s_ineg, s_idiv, s_irem, s_ladd, s_lsub, s_lmul, s_land, s_lor, s_lxor, s_ldiv, s_lshl, s_lshr, s_lushr, s_i2l, s_l2i, s_lcmp, s_goto, s_ieq, s_ine, s_ilt, s_ige, s_igt, s_ile, s_zeq, s_zne, s_zlt, s_zge, s_zgt, s_zle, s_ifnull, s_ifnullN, s_ifnonnull, s_ifnonnullN, s_tableswitch, s_lookupswitch, s_getfield, s_putfield, s_getstatic, s_iaload, s_laload, s_baload, s_aaload, s_iastore, s_lastore, s_bastore, s_aastore, s_arraylength, s_newI, s_newJ, s_newZ, s_anewarray, s_new, s_copy, s_max, s_min, s_invokestatic, s_objinit, s_invokespecial, kf_isr_r, s_invokevirtual, s_ireturn, s_lreturn, s_areturn, s_areturnN, s_return, lI_0, lI_s, lJ_0, lJ_s, lA_0, lA_0N, lA_s, lS1_0, lS1_1, lS1_2, lS2_0, lS2_1, lS2_2, lK_n, lK_i, lK_j, lK_a, lK_N, d_C', kf_w_0, kf_w_i, kf_w_a, kf_w_n, kf_w_j, c_0, c_1, c_2, c_3, c_4, c_5, c_6, tl_0, tl_1, Option.bind_some, Option.bind_none, Option.map_some, Nat.reduceAdd, Nat.reduceMul, Nat.reduceDiv, Nat.reduceMod, Int.reduceToNat, Fin.val_zero, Fin.isValue, Fin.val_one, Fin.val_two, fv_0, fv_1, fv_2, fv_3, fw_0, fw_1, d_ite, true_or, or_true, and_false, false_and, or_self, and_self, c0]
      · show 4294967295 * jw D ≤ jw T
        rw [jT, ← jH]
        omega
  have hQ := hQ []
  have es := set_id gX
  obtain ⟨R, c', u', v16, v17, r1, r2, r3, r4, r5, r6⟩ := c148a (hi := H) (top := T) (hd := D) (q := Q) hM hl gmm hm l8 hj q1 8 0 0 0 X none none (by omega) hX (by decide) (by decide)
  rw [Nat.zero_add, p8, em] at r6
  rw [nI_0, es] at r1
  rw [show jw 0 = 0 from rfl, show (0 : Int64).toInt = 0 from rfl] at r6
  obtain ⟨w, hw⟩ : ∃ w : Int64, w = u' + (H - c') := ⟨_, rfl⟩
  have iH : H.toInt = (jw H : Int) := jw_toInt (by omega)
  have ic : c'.toInt = (jw c' : Int) := jw_toInt (by omega)
  have jww : w.toInt = u'.toInt + ((jw H : Int) - jw c') := by
    rw [hw]
    exact (i64_ad (B := 1) (C := 8589934592) ⟨rfl, by omega, by omega⟩ (i64_sb (B := 4294967296) (C := 4294967296) ⟨iH, by omega, by omega⟩ ⟨ic, by omega, by omega⟩ (by decide)) (by decide)).1
  have lr : wv (R.set (j + 8) w.toInt32) j 8 = wv R j 8 := wv_cg 8 j (fun k h1 h2 => gD_ne (by omega))
  have qvm : jw Q * vm = jw Q * wv lm 0 7 + 2 ^ 224 * (jw Q * uw (lm.getD 7 0)) := by rw [wm1, Nat.mul_add, ← Nat.mul_assoc, ← Nat.mul_assoc, Nat.mul_comm (jw Q) (2 ^ 224)]
  have qm' : jw Q * wv lm 0 7 ≤ 4294967295 * 2 ^ 224 := Nat.mul_le_mul (by omega) (by omega)
  have v1 : jw Q * vm ≤ wv X j 9 + 2 * vm := by
    rw [jD, jT] at q2
    rw [qvm]
    generalize jw Q * wv lm 0 7 = aa at *
    generalize jw Q * uw (lm.getD 7 0) = bb at *
    omega
  have v2 : wv X j 9 < jw Q * vm + vm := by
    rcases q3 with q3 | q3
    · rw [q3]; omega
    · rw [jD, jT, Nat.add_mul, Nat.one_mul] at q3
      rw [qvm]
      generalize jw Q * wv lm 0 7 = aa at *
      generalize jw Q * uw (lm.getD 7 0) = bb at *
      omega
  have val : (wv R j 8 : Int) + (2 : Int) ^ 256 * w.toInt = (wv X j 9 : Int) - ((jw Q * vm : Nat) : Int) := by
    rw [jww, jH, wx1]
    generalize jw Q * vm = qv at *
    omega
  obtain ⟨R2, t, s1, s2, s3, s4, s5⟩ := c148c (hi := H) (top := T) (hd := D) (q := Q) (cc := c') hM hl gmm hm l8 hj 3 0 w (R.set (j + 8) w.toInt32) v16 v17 none (by omega) (by rw [List.length_set]; exact r2) (by rw [Nat.add_comm 8 j, gD_self (by omega)]) (by rw [lr, val, em]; omega) (by rw [lr, val, em]; omega)
  refine ⟨R2, ?_, s2, fun k hk => by rw [s3 k hk, gD_ne (by omega), r3 k (by omega)], ?_⟩
  · have p2 : ¬ nI (j + 8) < 0 := nI_pos (by omega)
    have p3 : (nI (j + 8)).toNatClampNeg = j + 8 := nI_clamp (by omega)
    have p4 : nI j + 8 = nI (j + 8) := nI_add j 8
    have p5 : nI j + 7 = nI (j + 7) := nI_add j 7
    have p6 : ¬ nI (j + 7) < 0 := nI_pos (by omega)
    have p7 : (nI (j + 7)).toNatClampNeg = j + 7 := nI_clamp (by omega)
    have w8 := getD_of (xs := X) (i := j + 8) (by omega)
    have w7 := getD_of (xs := X) (i := j + 7) (by omega)
    have wm7 := getD_of (xs := lm) (i := 7) (by omega)
    have gR1 : gO (M.set 308 (oI R)) 284 = some (12, fs) := by rw [gO_ne (by decide)]; exact g
    have g5 : gI (M.set 308 (oI R)) 308 = some R := gI_self hl
    have n1 : ¬ 308 < 19 := by decide
    have n2 : ¬ R.length ≤ j + 8 := by omega
    rw [nI_0] at s1
    simp only [cl_148, e148_0, e148_1, e148_4, e148_5, e148_7, e148_8, e148_9, e148_10, e148_13, e148_14, e148_15, e148_16, e148_18, e148_19, e148_20, e148_23, e148_24, e148_26, e148_27, e148_28, e148_29, e148_32, e148_33, e148_34, e148_36, e148_37, e148_39, e148_40, e148_41, e148_44, e148_45, e148_48, e148_50, e148_51, e148_54, e148_57, e148_60, e148_62, e148_64, e148_67, e148_70, e148_72, e148_73, e148_75, e148_76, e148_80, e148_82, e148_85, e148_87, e148_88, e148_90, e148_91, e148_92, e148_95, e148_96, e148_97, e148_99, e148_100, e148_102, e148_104, e148_106, e148_107, e148_109, e148_111, e148_112, e148_115, e148_117, e148_118, e148_119, e148_120, e148_121, e148_124, e148_125, e148_127, e148_130, e148_131, e148_132, e148_133, e148_135, e148_136, e148_139, e148_141, e148_142, e148_143, e148_145, e148_146, e148_147, e148_149, e148_151, e148_152, e148_154, e148_157, e148_162, e148_163, e148_165, e148_166, e148_167, e148_169, e148_170, e148_173, e148_174, e148_176, e148_177, e148_179, e148_180, e148_181, e148_182, e148_186, e148_187, e148_190, e148_192, e148_193, e148_194, e148_197, e148_198, e148_200, e148_201, e148_203, e148_205, e148_207, e148_210, e148_212, e148_213, e148_216, e148_218, e148_219, e148_220, e148_221, e148_222, e148_225, e148_226, e148_227, e148_229, e148_230, e148_231, e148_234, e148_235, e148_236, e148_237, e148_239, e148_240, e148_243, e148_245, e148_246, e148_247, e148_249, e148_250, e148_251, e148_253, e148_255, e148_256, e148_258, e148_261, e148_264, e148_266, e148_268, e148_269, e148_271, e148_272, e148_275, e148_276, e148_278, e148_279, e148_281, e148_282, e148_283, e148_286, e148_289, ow_148, Int32.reduceOfInt, Int32.reduceOfNat, Int32.reduceToNatClampNeg, Int32.reduceLT, Int32.reduceLE, Int32.reduceAdd, Int32.reduceSub, Int32.reduceMul, Int64.reduceOfNat, Int64.reduceOfInt, Nat.reduceLeDiff, Nat.reduceLT, Nat.reduceEqDiff, Nat.reduceSub, cs_0, cs_1, cs_2, cs_3, cs_4, cs_5, cs_6, cs_7, cs_8, or_false, false_or, not_false_eq_true, and_true, true_and, if_true, if_false, List.length_cons, List.length_nil, List.getElem?_cons_succ, List.getElem?_cons_zero, List.set_cons_succ, List.set_cons_zero, reduceIte, d_G, d_R, s_aload, s_aload_n, s_iload, s_iload_n, s_lload, s_lload_n, s_istore, s_istore_n, s_astore, s_astoreN, s_astore_n, s_astore_nN, s_lstore, s_lstore_n, s_iinc, s_iconst, s_bipush, s_sipush, s_lconst, s_ldc2_w, s_aconst_null, s_dupA, s_dupI, s_dup2, s_iadd, s_isub, s_imul, s_iand, s_ior, s_ixor, s_ishl, s_ishr, s_iushr, s_ineg, s_idiv, s_irem, s_ladd, s_lsub, s_lmul, s_land, s_lor, s_lxor, s_ldiv, s_lshl, s_lshr, s_lushr, s_i2l, s_l2i, s_lcmp, s_goto, s_ieq, s_ine, s_ilt, s_ige, s_igt, s_ile, s_zeq, s_zne, s_zlt, s_zge, s_zgt, s_zle, s_ifnull, s_ifnullN, s_ifnonnull, s_ifnonnullN, s_tableswitch, s_lookupswitch, s_getfield, s_putfield, s_getstatic, s_iaload, s_laload, s_baload, s_aaload, s_iastore, s_lastore, s_bastore, s_aastore, s_arraylength, s_newI, s_newJ, s_newZ, s_anewarray, s_new, s_copy, s_max, s_min, s_invokestatic, s_objinit, s_invokespecial, kf_isr_r, s_invokevirtual, s_ireturn, s_lreturn, s_areturn, s_areturnN, s_return, lI_0, lI_s, lJ_0, lJ_s, lA_0, lA_0N, lA_s, lS1_0, lS1_1, lS1_2, lS2_0, lS2_1, lS2_2, lK_n, lK_i, lK_j, lK_a, lK_N, d_C', kf_w_0, kf_w_i, kf_w_a, kf_w_n, kf_w_j, c_0, c_1, c_2, c_3, c_4, c_5, c_6, tl_0, tl_1, Option.bind_some, Option.bind_none, Option.map_some, Nat.reduceAdd, Nat.reduceMul, Nat.reduceDiv, Nat.reduceMod, Int.reduceToNat, Fin.val_zero, Fin.isValue, Fin.val_one, Fin.val_two, fv_0, fv_1, fv_2, fv_3, fw_0, fw_1, d_ite, true_or, or_true, and_false, false_and, or_self, and_self, g, r36, gx, gmm, p2, p3, p4, p5, p6, p7, w8, w7, wm7, ← hH, ← hD, ← hTp, hQ]
    refine (e148_69 _ _ _).trans ?_
    simp only [cl_148, e148_0, e148_1, e148_4, e148_5, e148_7, e148_8, e148_9, e148_10, e148_13, e148_14, e148_15, e148_16, e148_18, e148_19, e148_20, e148_23, e148_24, e148_26, e148_27, e148_28, e148_29, e148_32, e148_33, e148_34, e148_36, e148_37, e148_39, e148_40, e148_41, e148_44, e148_45, e148_48, e148_50, e148_51, e148_54, e148_57, e148_60, e148_62, e148_64, e148_67, e148_70, e148_72, e148_73, e148_75, e148_76, e148_80, e148_82, e148_85, e148_87, e148_88, e148_90, e148_91, e148_92, e148_95, e148_96, e148_97, e148_99, e148_100, e148_102, e148_104, e148_106, e148_107, e148_109, e148_111, e148_112, e148_115, e148_117, e148_118, e148_119, e148_120, e148_121, e148_124, e148_125, e148_127, e148_130, e148_131, e148_132, e148_133, e148_135, e148_136, e148_139, e148_141, e148_142, e148_143, e148_145, e148_146, e148_147, e148_149, e148_151, e148_152, e148_154, e148_157, e148_162, e148_163, e148_165, e148_166, e148_167, e148_169, e148_170, e148_173, e148_174, e148_176, e148_177, e148_179, e148_180, e148_181, e148_182, e148_186, e148_187, e148_190, e148_192, e148_193, e148_194, e148_197, e148_198, e148_200, e148_201, e148_203, e148_205, e148_207, e148_210, e148_212, e148_213, e148_216, e148_218, e148_219, e148_220, e148_221, e148_222, e148_225, e148_226, e148_227, e148_229, e148_230, e148_231, e148_234, e148_235, e148_236, e148_237, e148_239, e148_240, e148_243, e148_245, e148_246, e148_247, e148_249, e148_250, e148_251, e148_253, e148_255, e148_256, e148_258, e148_261, e148_264, e148_266, e148_268, e148_269, e148_271, e148_272, e148_275, e148_276, e148_278, e148_279, e148_281, e148_282, e148_283, e148_286, e148_289, ow_148, Int32.reduceOfInt, Int32.reduceOfNat, Int32.reduceToNatClampNeg, Int32.reduceLT, Int32.reduceLE, Int32.reduceAdd, Int32.reduceSub, Int32.reduceMul, Int64.reduceOfNat, Int64.reduceOfInt, Nat.reduceLeDiff, Nat.reduceLT, Nat.reduceEqDiff, Nat.reduceSub, cs_0, cs_1, cs_2, cs_3, cs_4, cs_5, cs_6, cs_7, cs_8, or_false, false_or, not_false_eq_true, and_true, true_and, if_true, if_false, List.length_cons, List.length_nil, List.getElem?_cons_succ, List.getElem?_cons_zero, List.set_cons_succ, List.set_cons_zero, reduceIte, d_G, d_R, s_aload, s_aload_n, s_iload, s_iload_n, s_lload, s_lload_n, s_istore, s_istore_n, s_astore, s_astoreN, s_astore_n, s_astore_nN, s_lstore, s_lstore_n, s_iinc, s_iconst, s_bipush, s_sipush, s_lconst, s_ldc2_w, s_aconst_null, s_dupA, s_dupI, s_dup2, s_iadd, s_isub, s_imul, s_iand, s_ior, s_ixor, s_ishl, s_ishr, s_iushr, s_ineg, s_idiv, s_irem, s_ladd, s_lsub, s_lmul, s_land, s_lor, s_lxor, s_ldiv, s_lshl, s_lshr, s_lushr, s_i2l, s_l2i, s_lcmp, s_goto, s_ieq, s_ine, s_ilt, s_ige, s_igt, s_ile, s_zeq, s_zne, s_zlt, s_zge, s_zgt, s_zle, s_ifnull, s_ifnullN, s_ifnonnull, s_ifnonnullN, s_tableswitch, s_lookupswitch, s_getfield, s_putfield, s_getstatic, s_iaload, s_laload, s_baload, s_aaload, s_iastore, s_lastore, s_bastore, s_aastore, s_arraylength, s_newI, s_newJ, s_newZ, s_anewarray, s_new, s_copy, s_max, s_min, s_invokestatic, s_objinit, s_invokespecial, kf_isr_r, s_invokevirtual, s_ireturn, s_lreturn, s_areturn, s_areturnN, s_return, lI_0, lI_s, lJ_0, lJ_s, lA_0, lA_0N, lA_s, lS1_0, lS1_1, lS1_2, lS2_0, lS2_1, lS2_2, lK_n, lK_i, lK_j, lK_a, lK_N, d_C', kf_w_0, kf_w_i, kf_w_a, kf_w_n, kf_w_j, c_0, c_1, c_2, c_3, c_4, c_5, c_6, tl_0, tl_1, Option.bind_some, Option.bind_none, Option.map_some, Nat.reduceAdd, Nat.reduceMul, Nat.reduceDiv, Nat.reduceMod, Int.reduceToNat, Fin.val_zero, Fin.isValue, Fin.val_one, Fin.val_two, fv_0, fv_1, fv_2, fv_3, fw_0, fw_1, d_ite, true_or, or_true, and_false, false_and, or_self, and_self, r1]
    refine (e148_160 _ _ _).trans ?_
    simp only [cl_148, e148_0, e148_1, e148_4, e148_5, e148_7, e148_8, e148_9, e148_10, e148_13, e148_14, e148_15, e148_16, e148_18, e148_19, e148_20, e148_23, e148_24, e148_26, e148_27, e148_28, e148_29, e148_32, e148_33, e148_34, e148_36, e148_37, e148_39, e148_40, e148_41, e148_44, e148_45, e148_48, e148_50, e148_51, e148_54, e148_57, e148_60, e148_62, e148_64, e148_67, e148_70, e148_72, e148_73, e148_75, e148_76, e148_80, e148_82, e148_85, e148_87, e148_88, e148_90, e148_91, e148_92, e148_95, e148_96, e148_97, e148_99, e148_100, e148_102, e148_104, e148_106, e148_107, e148_109, e148_111, e148_112, e148_115, e148_117, e148_118, e148_119, e148_120, e148_121, e148_124, e148_125, e148_127, e148_130, e148_131, e148_132, e148_133, e148_135, e148_136, e148_139, e148_141, e148_142, e148_143, e148_145, e148_146, e148_147, e148_149, e148_151, e148_152, e148_154, e148_157, e148_162, e148_163, e148_165, e148_166, e148_167, e148_169, e148_170, e148_173, e148_174, e148_176, e148_177, e148_179, e148_180, e148_181, e148_182, e148_186, e148_187, e148_190, e148_192, e148_193, e148_194, e148_197, e148_198, e148_200, e148_201, e148_203, e148_205, e148_207, e148_210, e148_212, e148_213, e148_216, e148_218, e148_219, e148_220, e148_221, e148_222, e148_225, e148_226, e148_227, e148_229, e148_230, e148_231, e148_234, e148_235, e148_236, e148_237, e148_239, e148_240, e148_243, e148_245, e148_246, e148_247, e148_249, e148_250, e148_251, e148_253, e148_255, e148_256, e148_258, e148_261, e148_264, e148_266, e148_268, e148_269, e148_271, e148_272, e148_275, e148_276, e148_278, e148_279, e148_281, e148_282, e148_283, e148_286, e148_289, ow_148, Int32.reduceOfInt, Int32.reduceOfNat, Int32.reduceToNatClampNeg, Int32.reduceLT, Int32.reduceLE, Int32.reduceAdd, Int32.reduceSub, Int32.reduceMul, Int64.reduceOfNat, Int64.reduceOfInt, Nat.reduceLeDiff, Nat.reduceLT, Nat.reduceEqDiff, Nat.reduceSub, cs_0, cs_1, cs_2, cs_3, cs_4, cs_5, cs_6, cs_7, cs_8, or_false, false_or, not_false_eq_true, and_true, true_and, if_true, if_false, List.length_cons, List.length_nil, List.getElem?_cons_succ, List.getElem?_cons_zero, List.set_cons_succ, List.set_cons_zero, reduceIte, d_G, d_R, s_aload, s_aload_n, s_iload, s_iload_n, s_lload, s_lload_n, s_istore, s_istore_n, s_astore, s_astoreN, s_astore_n, s_astore_nN, s_lstore, s_lstore_n, s_iinc, s_iconst, s_bipush, s_sipush, s_lconst, s_ldc2_w, s_aconst_null, s_dupA, s_dupI, s_dup2, s_iadd, s_isub, s_imul, s_iand, s_ior, s_ixor, s_ishl, s_ishr, s_iushr, s_ineg, s_idiv, s_irem, s_ladd, s_lsub, s_lmul, s_land, s_lor, s_lxor, s_ldiv, s_lshl, s_lshr, s_lushr, s_i2l, s_l2i, s_lcmp, s_goto, s_ieq, s_ine, s_ilt, s_ige, s_igt, s_ile, s_zeq, s_zne, s_zlt, s_zge, s_zgt, s_zle, s_ifnull, s_ifnullN, s_ifnonnull, s_ifnonnullN, s_tableswitch, s_lookupswitch, s_getfield, s_putfield, s_getstatic, s_iaload, s_laload, s_baload, s_aaload, s_iastore, s_lastore, s_bastore, s_aastore, s_arraylength, s_newI, s_newJ, s_newZ, s_anewarray, s_new, s_copy, s_max, s_min, s_invokestatic, s_objinit, s_invokespecial, kf_isr_r, s_invokevirtual, s_ireturn, s_lreturn, s_areturn, s_areturnN, s_return, lI_0, lI_s, lJ_0, lJ_s, lA_0, lA_0N, lA_s, lS1_0, lS1_1, lS1_2, lS2_0, lS2_1, lS2_2, lK_n, lK_i, lK_j, lK_a, lK_N, d_C', kf_w_0, kf_w_i, kf_w_a, kf_w_n, kf_w_j, c_0, c_1, c_2, c_3, c_4, c_5, c_6, tl_0, tl_1, Option.bind_some, Option.bind_none, Option.map_some, Nat.reduceAdd, Nat.reduceMul, Nat.reduceDiv, Nat.reduceMod, Int.reduceToNat, Fin.val_zero, Fin.isValue, Fin.val_one, Fin.val_two, fv_0, fv_1, fv_2, fv_3, fw_0, fw_1, d_ite, true_or, or_true, and_false, false_and, or_self, and_self, gR1, r36, g5, p2, p3, p4, n1, n2, kf_NS, List.set_set, ← hw, s1]
  · rw [lr, val, em] at s4
    rw [em] at s5
    have e : wv X j 9 + t * vm = wv R2 j 9 + jw Q * vm := by
      have e1 : ((t * vm : Nat) : Int) = t * vm := Int.natCast_mul _ _
      omega
    have e2 : (wv X j 9 + t * vm) % vm = wv R2 j 9 % vm := by rw [e, Nat.add_mul_mod_self_right]
    rw [Nat.add_mul_mod_self_right, Nat.mod_eq_of_lt s5] at e2
    exact e2.symm
