/-! ten limbs of a number, nibble by nibble -/
def lim (n : Nat) : List Int64 := (List.range' 0 10).map (fun i => Int64.ofNat (n / 2 ^ (28 * i) % 2 ^ 28))
theorem lim_len {n : Nat} : (lim n).length = 10 := by simp [lim]
theorem lim_get {n i : Nat} (h : i < 10) : (lim n).getD i 0 = Int64.ofNat (n / 2 ^ (28 * i) % 2 ^ 28) := by
  rw [List.getD_eq_getElem?_getD, lim, List.getElem?_map, List.getElem?_range' h]
  simp
theorem lim_ext {l : List Int64} {n : Nat} (hl : l.length = 10) (h : ∀ i, i < 10 → l.getD i 0 = Int64.ofNat (n / 2 ^ (28 * i) % 2 ^ 28)) : l = lim n := by
  apply List.ext_getElem (by rw [hl, lim_len])
  intro i h1 h2
  have h3 := h i (by omega)
  rw [← lim_get (by omega), List.getD_eq_getElem?_getD, List.getD_eq_getElem?_getD, List.getElem?_eq_getElem h1, List.getElem?_eq_getElem h2] at h3
  exact h3
set_option maxRecDepth 100000 in
theorem lim_lmb {n : Nat} (h : n < 2 ^ 280) : lmb (lim n) (n : Int) := by
  have e : ∀ x : Nat, x < 268435456 → (Int64.ofNat x).toInt = (x : Int) := fun x hx => Int64.toInt_ofNat_of_lt (by omega)
  have e0 := e (n / 1 % 268435456) (by omega)
  have e1 := e (n / 268435456 % 268435456) (by omega)
  have e2 := e (n / 72057594037927936 % 268435456) (by omega)
  have e3 := e (n / 19342813113834066795298816 % 268435456) (by omega)
  have e4 := e (n / 5192296858534827628530496329220096 % 268435456) (by omega)
  have e5 := e (n / 1393796574908163946345982392040522594123776 % 268435456) (by omega)
  have e6 := e (n / 374144419156711147060143317175368453031918731001856 % 268435456) (by omega)
  have e7 := e (n / 100433627766186892221372630771322662657637687111424552206336 % 268435456) (by omega)
  have e8 := e (n / 26959946667150639794667015087019630673637144422540572481103610249216 % 268435456) (by omega)
  have e9 := e (n / 7237005577332262213973186563042994240829374041602535252466099000494570602496 % 268435456) (by omega)
  refine ⟨Int64.ofNat (n / 1 % 268435456), Int64.ofNat (n / 268435456 % 268435456), Int64.ofNat (n / 72057594037927936 % 268435456), Int64.ofNat (n / 19342813113834066795298816 % 268435456), Int64.ofNat (n / 5192296858534827628530496329220096 % 268435456), Int64.ofNat (n / 1393796574908163946345982392040522594123776 % 268435456), Int64.ofNat (n / 374144419156711147060143317175368453031918731001856 % 268435456), Int64.ofNat (n / 100433627766186892221372630771322662657637687111424552206336 % 268435456), Int64.ofNat (n / 26959946667150639794667015087019630673637144422540572481103610249216 % 268435456), Int64.ofNat (n / 7237005577332262213973186563042994240829374041602535252466099000494570602496 % 268435456), rfl, ?_⟩
  rw [e0, e1, e2, e3, e4, e5, e6, e7, e8, e9]
  omega
theorem lN_or {x y : Nat} (hx : x < 2 ^ 64) (hy : y < 2 ^ 64) : Int64.ofNat x ||| Int64.ofNat y = Int64.ofNat (x ||| y) := by
  apply Int64.toBitVec_inj.mp
  apply BitVec.eq_of_toNat_eq
  rw [Int64.toBitVec_or, BitVec.toNat_or]
  show x % 2 ^ 64 ||| y % 2 ^ 64 = (x ||| y) % 2 ^ 64
  rw [Nat.mod_eq_of_lt hx, Nat.mod_eq_of_lt hy, Nat.mod_eq_of_lt (Nat.or_lt_two_pow hx hy)]
theorem lN_sl (c : Nat) {k : Nat} (hk : k < 64) : Int64.ofNat c <<< ((nI k).toInt64 &&& 63) = Int64.ofNat (c * 2 ^ k) := by
  apply Int64.toBitVec_inj.mp
  apply BitVec.eq_of_toNat_eq
  rw [Int64.toBitVec_shiftLeft, BitVec.shiftLeft_eq', BitVec.toNat_shiftLeft, shcnt k hk]
  show (c % 2 ^ 64) <<< k % 2 ^ 64 = (c * 2 ^ k) % 2 ^ 64
  rw [Nat.shiftLeft_eq, Nat.mul_mod, Nat.mod_mod, ← Nat.mul_mod]
theorem pow16 (j : Nat) : (16 : Nat) ^ j = 2 ^ (28 * (j / 7)) * 2 ^ (4 * (j % 7)) := by
  rw [← Nat.pow_add, show (16 : Nat) = 2 ^ 4 by decide, ← Nat.pow_mul]
  congr 1
  omega
/-- one nibble more -/
theorem lim_step {n c j : Nat} (hn : n < 16 ^ j) (hc : c < 16) (hj : j < 64) : (lim n).set (j / 7) ((lim n).getD (j / 7) 0 ||| (Int64.ofNat c <<< ((nI (4 * (j % 7))).toInt64 &&& 63))) = lim (n + c * 16 ^ j) := by
  have hr : j % 7 < 7 := Nat.mod_lt _ (by decide)
  have hp := pow16 j
  have hd0 : (0 : Nat) < 2 ^ (28 * (j / 7)) := Nat.pow_pos (by decide)
  have hu : n / 2 ^ (28 * (j / 7)) < 2 ^ (4 * (j % 7)) := by
    rw [Nat.div_lt_iff_lt_mul hd0, Nat.mul_comm, ← hp]
    exact hn
  have h28 : (2 : Nat) ^ (4 * (j % 7)) ≤ 2 ^ 24 := Nat.pow_le_pow_right (by decide) (by omega)
  have hcu : c * 2 ^ (4 * (j % 7)) ≤ 15 * 2 ^ 24 := Nat.mul_le_mul (by omega) h28
  apply lim_ext (by rw [List.length_set, lim_len])
  intro i hi
  by_cases q : j / 7 = i
  · subst q
    rw [List.getD_eq_getElem?_getD, List.getElem?_set_self (by rw [lim_len]; omega), Option.getD_some, lim_get hi, lN_sl _ (by omega), lN_or (by omega) (by omega)]
    congr 1
    have ee : c * 16 ^ j = 2 ^ (28 * (j / 7)) * (c * 2 ^ (4 * (j % 7))) := by rw [hp, Nat.mul_left_comm]
    rw [Nat.mod_eq_of_lt (show n / 2 ^ (28 * (j / 7)) < 2 ^ 28 by omega), ee, Nat.add_mul_div_left _ _ hd0, Nat.mod_eq_of_lt (show n / 2 ^ (28 * (j / 7)) + c * 2 ^ (4 * (j % 7)) < 2 ^ 28 by omega)]
    have := Nat.shiftLeft_add_eq_or_of_lt hu c
    rw [Nat.shiftLeft_eq] at this
    rw [Nat.or_comm, ← this, Nat.add_comm]
  · rw [List.getD_eq_getElem?_getD, List.getElem?_set_ne q, ← List.getD_eq_getElem?_getD, lim_get hi]
    congr 1
    rcases Nat.lt_or_gt_of_ne q with q | q
    · have hlt : (16 : Nat) ^ (j + 1) ≤ 2 ^ (28 * i) := by
        rw [show (16 : Nat) = 2 ^ 4 by decide, ← Nat.pow_mul]
        exact Nat.pow_le_pow_right (by decide) (by omega)
      have h1 : n + c * 16 ^ j < 16 ^ (j + 1) := by
        have : c * 16 ^ j ≤ 15 * 16 ^ j := Nat.mul_le_mul_right _ (by omega)
        rw [Nat.pow_succ]
        omega
      rw [Nat.div_eq_of_lt (show n < 2 ^ (28 * i) by omega), Nat.div_eq_of_lt (show n + c * 16 ^ j < 2 ^ (28 * i) by omega)]
    · have e1 : c * 16 ^ j = 2 ^ (28 * i) * (2 ^ 28 * (c * 2 ^ (4 * j - 28 * (i + 1)))) := by
        rw [← Nat.mul_assoc, ← Nat.pow_add, Nat.mul_left_comm, ← Nat.pow_add, show (16 : Nat) = 2 ^ 4 by decide, ← Nat.pow_mul]
        congr 2
        omega
      rw [e1, Nat.add_mul_div_left _ _ (Nat.pow_pos (by decide)), Nat.add_mul_mod_self_left]
theorem nib_lt (N j : Nat) : N % 16 ^ (j + 1) = N % 16 ^ j + N / 16 ^ j % 16 * 16 ^ j := by
  rw [Nat.mod_pow_succ, Nat.mul_comm]
theorem c8l {M : kf_M} {to row f N : Nat} {rs : List Int32} (hto : 19 ≤ to) (hl : to < M.length) (hrt : row ≠ to) (gr : M[row]? = some (oI rs)) (hf : f + 8 ≤ rs.length) (hr : rs.length < 2 ^ 20) (hn : ∀ j, j < 64 → (rs.getD (f + 7 - j / 8) 0 >>> (((4 : Int32) * nI (j % 8)) &&& 31)) &&& 15 = nI (N / 16 ^ j % 16)) : ∀ (n j : Nat) (u4 u5 u6 : Option Value), j + n = 64 → kf_ev 8 6 [some (.ref to), some (.ref row), some (.int (nI f)), some (.int (nI j)), u4, u5, u6] [] (M.set to (oJ (lim (N % 16 ^ j)))) = some (none, M.set to (oJ (lim (N % 16 ^ 64)))) := by
  intro n
  induction n with
  | zero =>
    intro j u4 u5 u6 hj
    have hj : j = 64 := by omega
    subst hj
    have e : (64 : Int32) ≤ nI 64 := by decide
    refine (e8_6 _ _ _).trans ?_
    simp only [cl_8, e8_0, e8_1, e8_4, e8_5, e8_7, e8_9, e8_12, e8_13, e8_15, e8_16, e8_17, e8_18, e8_19, e8_20, e8_22, e8_24, e8_27, e8_29, e8_30, e8_31, e8_34, e8_35, e8_37, e8_38, e8_39, e8_40, e8_42, e8_43, e8_44, e8_45, e8_47, e8_48, e8_49, e8_52, e8_53, e8_55, e8_56, e8_57, e8_59, e8_60, e8_61, e8_62, e8_64, e8_65, e8_66, e8_68, e8_69, e8_70, e8_71, e8_72, e8_73, e8_76, e8_79, ow_8, Int32.reduceOfInt, Int32.reduceOfNat, Int32.reduceToNatClampNeg, Int32.reduceLT, Int32.reduceLE, Int32.reduceAdd, Int32.reduceSub, Int32.reduceMul, Int64.reduceOfNat, Int64.reduceOfInt, Nat.reduceLeDiff, Nat.reduceLT, Nat.reduceEqDiff, Nat.reduceSub, cs_0, cs_1, cs_2, cs_3, cs_4, cs_5, cs_6, cs_7, cs_8, or_false, false_or, not_false_eq_true, and_true, true_and, if_true, if_false, List.length_cons, List.length_nil, List.getElem?_cons_succ, List.getElem?_cons_zero, List.set_cons_succ, List.set_cons_zero, reduceIte, d_G, d_R, s_aload, s_aload_n, s_iload, s_iload_n, s_lload, s_lload_n, s_istore, s_istore_n, s_astore, s_astoreN, s_astore_n, s_astore_nN, s_lstore, s_lstore_n, s_iinc, s_iconst, s_bipush, s_sipush, s_lconst, s_ldc2_w, s_aconst_null, s_dupA, s_dupI, s_dup2, s_iadd, s_isub, s_imul, s_iand, s_ior, s_ixor, s_ishl, s_ishr, s_iushr, s_ineg, s_idiv, s_irem, s_ladd, s_lsub, s_lmul, s_land, s_lor, s_lxor, s_ldiv, s_lshl, s_lshr, s_lushr, s_i2l, s_l2i, s_lcmp, s_goto, s_ieq, s_ine, s_ilt, s_ige, s_igt, s_ile, s_zeq, s_zne, s_zlt, s_zge, s_zgt, s_zle, s_ifnull, s_ifnullN, s_ifnonnull, s_ifnonnullN, s_tableswitch, s_lookupswitch, s_getfield, s_putfield, s_getstatic, s_iaload, s_laload, s_baload, s_aaload, s_iastore, s_lastore, s_bastore, s_aastore, s_arraylength, s_newI, s_newJ, s_newZ, s_anewarray, s_new, s_copy, s_max, s_min, s_invokestatic, s_objinit, s_invokespecial, kf_isr_r, s_invokevirtual, s_ireturn, s_lreturn, s_areturn, s_areturnN, s_return, lI_0, lI_s, lJ_0, lJ_s, lA_0, lA_0N, lA_s, lS1_0, lS1_1, lS1_2, lS2_0, lS2_1, lS2_2, lK_n, lK_i, lK_j, lK_a, lK_N, d_C', kf_w_0, kf_w_i, kf_w_a, kf_w_n, kf_w_j, c_0, c_1, c_2, c_3, c_4, c_5, c_6, tl_0, tl_1, Option.bind_some, Option.bind_none, Option.map_some, Nat.reduceAdd, Nat.reduceMul, Nat.reduceDiv, Nat.reduceMod, Int.reduceToNat, Fin.val_zero, Fin.isValue, Fin.val_one, Fin.val_two, fv_0, fv_1, fv_2, fv_3, fw_0, fw_1, d_ite, true_or, or_true, and_false, false_and, or_self, and_self, e]
  | succ n ih =>
    intro j u4 u5 u6 hj
    have e : ¬ (64 : Int32) ≤ nI j := nI_ge (a := j) (b := 64) (by omega) (by omega)
    have g1 : gI (M.set to (oJ (lim (N % 16 ^ j)))) row = some rs := by rw [gI_ne (Ne.symm hrt)]; exact gI_of gr
    have g1' : (M.set to (oJ (lim (N % 16 ^ j))))[row]? = some (oI rs) := by rw [m_ne (Ne.symm hrt)]; exact gr
    have g2 : gJ (M.set to (oJ (lim (N % 16 ^ j)))) to = some (lim (N % 16 ^ j)) := gJ_self hl
    have s1 : nI j >>> ((3 : Int32) &&& 31) = nI (j / 8) := pk_shrN (by omega) _ 3 (by decide)
    have s2 : nI f + 7 = nI (f + 7) := nI_add f 7
    have s3 : nI (f + 7) - nI (j / 8) = nI (f + 7 - j / 8) := pk_sub (by omega)
    have p0 : ¬ nI (f + 7 - j / 8) < 0 := nI_pos (by omega)
    have p1 : ¬ nI rs.length ≤ nI (f + 7 - j / 8) := nI_ge (by omega) (by omega)
    have p2 : (nI (f + 7 - j / 8)).toNatClampNeg = f + 7 - j / 8 := nI_clamp (by omega)
    have x1 := getD_of (xs := rs) (i := f + 7 - j / 8) (by omega)
    have s4 : nI j &&& 7 = nI (j % 8) := pk_andN (by omega) 3 rfl
    have hn1 := hn j (by omega)
    have hc : N / 16 ^ j % 16 < 16 := Nat.mod_lt _ (by decide)
    have s5 : (nI (N / 16 ^ j % 16)).toInt64 = Int64.ofNat (N / 16 ^ j % 16) := nI_l (by omega)
    have d1 : nI j / 7 = nI (j / 7) := pk_div (d := 7) (by omega) (by omega) (by omega)
    have d2 : nI j - nI (j / 7) * 7 = nI (j % 7) := by rw [← d1]; exact pk_rem (d := 7) (by omega) (by omega) (by omega)
    have d3 : (4 : Int32) * nI (j % 7) = nI (4 * (j % 7)) := pk_mul 4 (j % 7)
    have p3 : ¬ nI (j / 7) < 0 := nI_pos (by omega)
    have p4 : (nI (j / 7)).toNatClampNeg = j / 7 := nI_clamp (by omega)
    have x2 := jD_of (xs := lim (N % 16 ^ j)) (i := j / 7) (by rw [lim_len]; omega)
    have n1 : ¬ to < 19 := by omega
    have n2 : ¬ 10 ≤ j / 7 := by omega
    have z7 : ¬ (7 : Int32) = 0 := by decide
    have ll := lim_len (n := N % 16 ^ j)
    have st := lim_step (n := N % 16 ^ j) (c := N / 16 ^ j % 16) (j := j) (Nat.mod_lt _ (Nat.pow_pos (by decide))) hc (by omega)
    rw [← nib_lt] at st
    have ih' := ih (j + 1) (some (.int (nI (f + 7 - j / 8)))) (some (.long (Int64.ofNat (N / 16 ^ j % 16)))) none (by omega)
    refine (e8_6 _ _ _).trans (Eq.trans ?_ ih')
    simp only [cl_8, e8_0, e8_1, e8_4, e8_5, e8_7, e8_9, e8_12, e8_13, e8_15, e8_16, e8_17, e8_18, e8_19, e8_20, e8_22, e8_24, e8_27, e8_29, e8_30, e8_31, e8_34, e8_35, e8_37, e8_38, e8_39, e8_40, e8_42, e8_43, e8_44, e8_45, e8_47, e8_48, e8_49, e8_52, e8_53, e8_55, e8_56, e8_57, e8_59, e8_60, e8_61, e8_62, e8_64, e8_65, e8_66, e8_68, e8_69, e8_70, e8_71, e8_72, e8_73, e8_76, e8_79, ow_8, Int32.reduceOfInt, Int32.reduceOfNat, Int32.reduceToNatClampNeg, Int32.reduceLT, Int32.reduceLE, Int32.reduceAdd, Int32.reduceSub, Int32.reduceMul, Int64.reduceOfNat, Int64.reduceOfInt, Nat.reduceLeDiff, Nat.reduceLT, Nat.reduceEqDiff, Nat.reduceSub, cs_0, cs_1, cs_2, cs_3, cs_4, cs_5, cs_6, cs_7, cs_8, or_false, false_or, not_false_eq_true, and_true, true_and, if_true, if_false, List.length_cons, List.length_nil, List.getElem?_cons_succ, List.getElem?_cons_zero, List.set_cons_succ, List.set_cons_zero, reduceIte, d_G, d_R, s_aload, s_aload_n, s_iload, s_iload_n, s_lload, s_lload_n, s_istore, s_istore_n, s_astore, s_astoreN, s_astore_n, s_astore_nN, s_lstore, s_lstore_n, s_iinc, s_iconst, s_bipush, s_sipush, s_lconst, s_ldc2_w, s_aconst_null, s_dupA, s_dupI, s_dup2, s_iadd, s_isub, s_imul, s_iand, s_ior, s_ixor, s_ishl, s_ishr, s_iushr, s_ineg, s_idiv, s_irem, s_ladd, s_lsub, s_lmul, s_land, s_lor, s_lxor, s_ldiv, s_lshl, s_lshr, s_lushr, s_i2l, s_l2i, s_lcmp, s_goto, s_ieq, s_ine, s_ilt, s_ige, s_igt, s_ile, s_zeq, s_zne, s_zlt, s_zge, s_zgt, s_zle, s_ifnull, s_ifnullN, s_ifnonnull, s_ifnonnullN, s_tableswitch, s_lookupswitch, s_getfield, s_putfield, s_getstatic, s_iaload, s_laload, s_baload, s_aaload, s_iastore, s_lastore, s_bastore, s_aastore, s_arraylength, s_newI, s_newJ, s_newZ, s_anewarray, s_new, s_copy, s_max, s_min, s_invokestatic, s_objinit, s_invokespecial, kf_isr_r, s_invokevirtual, s_ireturn, s_lreturn, s_areturn, s_areturnN, s_return, lI_0, lI_s, lJ_0, lJ_s, lA_0, lA_0N, lA_s, lS1_0, lS1_1, lS1_2, lS2_0, lS2_1, lS2_2, lK_n, lK_i, lK_j, lK_a, lK_N, d_C', kf_w_0, kf_w_i, kf_w_a, kf_w_n, kf_w_j, c_0, c_1, c_2, c_3, c_4, c_5, c_6, tl_0, tl_1, Option.bind_some, Option.bind_none, Option.map_some, Nat.reduceAdd, Nat.reduceMul, Nat.reduceDiv, Nat.reduceMod, Int.reduceToNat, Fin.val_zero, Fin.isValue, Fin.val_one, Fin.val_two, fv_0, fv_1, fv_2, fv_3, fw_0, fw_1, d_ite, true_or, or_true, and_false, false_and, or_self, and_self, e, g1, g1', g2, s1, s2, s3, p0, p1, p2, x1, s4, hn1, s5, d1, d2, d3, p3, p4, x2, n1, n2, z7, ll, st, oLen_I, toI, kf_NS, nI_1, List.set_set]
theorem f8 {M : kf_M} {to row f N : Nat} {rs : List Int32} (ht : Jar M to) (hto : 19 ≤ to) (hrt : row ≠ to) (gr : M[row]? = some (oI rs)) (hf : f + 8 ≤ rs.length) (hr : rs.length < 2 ^ 20) (hn : ∀ j, j < 64 → (rs.getD (f + 7 - j / 8) 0 >>> (((4 : Int32) * nI (j % 8)) &&& 31)) &&& 15 = nI (N / 16 ^ j % 16)) (hN : N < 2 ^ 256) : ∃ M', kf_cl 8 [.ref to, .ref row, .int (nI f)] M = some (none, M') ∧ Num M' to (N : Int) ∧ Off [to] M M' := by
  obtain ⟨M1, k1, ⟨l1, g1, h1⟩, o1⟩ := f13 ht hto
  have e0 : l1 = lim (N % 16 ^ 0) := by
    rw [Nat.pow_zero, Nat.mod_one]
    exact lmb_inj h1 (lim_lmb (n := 0) (by decide))
  have k2 := c8l (M := M1) (N := N) hto (m_lt g1) hrt (o1.at (by simpa using hrt) gr) hf hr hn 64 0 none none none rfl
  rw [← e0, jset_id g1, nI_0] at k2
  refine ⟨M1.set to (oJ (lim (N % 16 ^ 64))), by simp only [cl_8, e8_0, e8_1, e8_4, e8_5, e8_7, e8_9, e8_12, e8_13, e8_15, e8_16, e8_17, e8_18, e8_19, e8_20, e8_22, e8_24, e8_27, e8_29, e8_30, e8_31, e8_34, e8_35, e8_37, e8_38, e8_39, e8_40, e8_42, e8_43, e8_44, e8_45, e8_47, e8_48, e8_49, e8_52, e8_53, e8_55, e8_56, e8_57, e8_59, e8_60, e8_61, e8_62, e8_64, e8_65, e8_66, e8_68, e8_69, e8_70, e8_71, e8_72, e8_73, e8_76, e8_79, ow_8, Int32.reduceOfInt, Int32.reduceOfNat, Int32.reduceToNatClampNeg, Int32.reduceLT, Int32.reduceLE, Int32.reduceAdd, Int32.reduceSub, Int32.reduceMul, Int64.reduceOfNat, Int64.reduceOfInt, Nat.reduceLeDiff, Nat.reduceLT, Nat.reduceEqDiff, Nat.reduceSub, cs_0, cs_1, cs_2, cs_3, cs_4, cs_5, cs_6, cs_7, cs_8, or_false, false_or, not_false_eq_true, and_true, true_and, if_true, if_false, List.length_cons, List.length_nil, List.getElem?_cons_succ, List.getElem?_cons_zero, List.set_cons_succ, List.set_cons_zero, reduceIte, d_G, d_R, s_aload, s_aload_n, s_iload, s_iload_n, s_lload, s_lload_n, s_istore, s_istore_n, s_astore, s_astoreN, s_astore_n, s_astore_nN, s_lstore, s_lstore_n, s_iinc, s_iconst, s_bipush, s_sipush, s_lconst, s_ldc2_w, s_aconst_null, s_dupA, s_dupI, s_dup2, s_iadd, s_isub, s_imul, s_iand, s_ior, s_ixor, s_ishl, s_ishr, s_iushr, s_ineg, s_idiv, s_irem, s_ladd, s_lsub, s_lmul, s_land, s_lor, s_lxor, s_ldiv, s_lshl, s_lshr, s_lushr, s_i2l, s_l2i, s_lcmp, s_goto, s_ieq, s_ine, s_ilt, s_ige, s_igt, s_ile, s_zeq, s_zne, s_zlt, s_zge, s_zgt, s_zle, s_ifnull, s_ifnullN, s_ifnonnull, s_ifnonnullN, s_tableswitch, s_lookupswitch, s_getfield, s_putfield, s_getstatic, s_iaload, s_laload, s_baload, s_aaload, s_iastore, s_lastore, s_bastore, s_aastore, s_arraylength, s_newI, s_newJ, s_newZ, s_anewarray, s_new, s_copy, s_max, s_min, s_invokestatic, s_objinit, s_invokespecial, kf_isr_r, s_invokevirtual, s_ireturn, s_lreturn, s_areturn, s_areturnN, s_return, lI_0, lI_s, lJ_0, lJ_s, lA_0, lA_0N, lA_s, lS1_0, lS1_1, lS1_2, lS2_0, lS2_1, lS2_2, lK_n, lK_i, lK_j, lK_a, lK_N, d_C', kf_w_0, kf_w_i, kf_w_a, kf_w_n, kf_w_j, c_0, c_1, c_2, c_3, c_4, c_5, c_6, tl_0, tl_1, Option.bind_some, Option.bind_none, Option.map_some, Nat.reduceAdd, Nat.reduceMul, Nat.reduceDiv, Nat.reduceMod, Int.reduceToNat, Fin.val_zero, Fin.isValue, Fin.val_one, Fin.val_two, fv_0, fv_1, fv_2, fv_3, fw_0, fw_1, d_ite, true_or, or_true, and_false, false_and, or_self, and_self, k1, k2], ⟨_, m_self (m_lt g1), ?_⟩, o1.tr (Off.set (by simp))⟩
  rw [Nat.mod_eq_of_lt (show N < 16 ^ 64 by omega)]
  exact lim_lmb (by omega)
theorem c9l {M : kf_M} {to row f N : Nat} {rs : List Int32} (hto : 19 ≤ to) (hl : to < M.length) (hrt : row ≠ to) (gr : M[row]? = some (oI rs)) (hf : f + 32 ≤ rs.length) (hr : rs.length < 2 ^ 20) (hn : ∀ j, j < 64 → (rs.getD (f + 31 - j / 2) 0 >>> (((4 : Int32) * nI (j % 2)) &&& 31)) &&& 15 = nI (N / 16 ^ j % 16)) : ∀ (n j : Nat) (u4 u5 u6 : Option Value), j + n = 64 → kf_ev 9 6 [some (.ref to), some (.ref row), some (.int (nI f)), some (.int (nI j)), u4, u5, u6] [] (M.set to (oJ (lim (N % 16 ^ j)))) = some (none, M.set to (oJ (lim (N % 16 ^ 64)))) := by
  intro n
  induction n with
  | zero =>
    intro j u4 u5 u6 hj
    have hj : j = 64 := by omega
    subst hj
    have e : (64 : Int32) ≤ nI 64 := by decide
    refine (e9_6 _ _ _).trans ?_
    simp only [cl_9, e9_0, e9_1, e9_4, e9_5, e9_7, e9_9, e9_12, e9_13, e9_15, e9_16, e9_17, e9_18, e9_19, e9_20, e9_22, e9_24, e9_27, e9_29, e9_30, e9_31, e9_34, e9_35, e9_37, e9_38, e9_39, e9_40, e9_41, e9_42, e9_43, e9_44, e9_46, e9_47, e9_48, e9_51, e9_52, e9_54, e9_55, e9_56, e9_58, e9_59, e9_60, e9_61, e9_63, e9_64, e9_65, e9_67, e9_68, e9_69, e9_70, e9_71, e9_72, e9_75, e9_78, ow_9, Int32.reduceOfInt, Int32.reduceOfNat, Int32.reduceToNatClampNeg, Int32.reduceLT, Int32.reduceLE, Int32.reduceAdd, Int32.reduceSub, Int32.reduceMul, Int64.reduceOfNat, Int64.reduceOfInt, Nat.reduceLeDiff, Nat.reduceLT, Nat.reduceEqDiff, Nat.reduceSub, cs_0, cs_1, cs_2, cs_3, cs_4, cs_5, cs_6, cs_7, cs_8, or_false, false_or, not_false_eq_true, and_true, true_and, if_true, if_false, List.length_cons, List.length_nil, List.getElem?_cons_succ, List.getElem?_cons_zero, List.set_cons_succ, List.set_cons_zero, reduceIte, d_G, d_R, s_aload, s_aload_n, s_iload, s_iload_n, s_lload, s_lload_n, s_istore, s_istore_n, s_astore, s_astoreN, s_astore_n, s_astore_nN, s_lstore, s_lstore_n, s_iinc, s_iconst, s_bipush, s_sipush, s_lconst, s_ldc2_w, s_aconst_null, s_dupA, s_dupI, s_dup2, s_iadd, s_isub, s_imul, s_iand, s_ior, s_ixor, s_ishl, s_ishr, s_iushr, s_ineg, s_idiv, s_irem, s_ladd, s_lsub, s_lmul, s_land, s_lor, s_lxor, s_ldiv, s_lshl, s_lshr, s_lushr, s_i2l, s_l2i, s_lcmp, s_goto, s_ieq, s_ine, s_ilt, s_ige, s_igt, s_ile, s_zeq, s_zne, s_zlt, s_zge, s_zgt, s_zle, s_ifnull, s_ifnullN, s_ifnonnull, s_ifnonnullN, s_tableswitch, s_lookupswitch, s_getfield, s_putfield, s_getstatic, s_iaload, s_laload, s_baload, s_aaload, s_iastore, s_lastore, s_bastore, s_aastore, s_arraylength, s_newI, s_newJ, s_newZ, s_anewarray, s_new, s_copy, s_max, s_min, s_invokestatic, s_objinit, s_invokespecial, kf_isr_r, s_invokevirtual, s_ireturn, s_lreturn, s_areturn, s_areturnN, s_return, lI_0, lI_s, lJ_0, lJ_s, lA_0, lA_0N, lA_s, lS1_0, lS1_1, lS1_2, lS2_0, lS2_1, lS2_2, lK_n, lK_i, lK_j, lK_a, lK_N, d_C', kf_w_0, kf_w_i, kf_w_a, kf_w_n, kf_w_j, c_0, c_1, c_2, c_3, c_4, c_5, c_6, tl_0, tl_1, Option.bind_some, Option.bind_none, Option.map_some, Nat.reduceAdd, Nat.reduceMul, Nat.reduceDiv, Nat.reduceMod, Int.reduceToNat, Fin.val_zero, Fin.isValue, Fin.val_one, Fin.val_two, fv_0, fv_1, fv_2, fv_3, fw_0, fw_1, d_ite, true_or, or_true, and_false, false_and, or_self, and_self, e]
  | succ n ih =>
    intro j u4 u5 u6 hj
    have e : ¬ (64 : Int32) ≤ nI j := nI_ge (a := j) (b := 64) (by omega) (by omega)
    have g1 : gI (M.set to (oJ (lim (N % 16 ^ j)))) row = some rs := by rw [gI_ne (Ne.symm hrt)]; exact gI_of gr
    have g1' : (M.set to (oJ (lim (N % 16 ^ j))))[row]? = some (oI rs) := by rw [m_ne (Ne.symm hrt)]; exact gr
    have g2 : gJ (M.set to (oJ (lim (N % 16 ^ j)))) to = some (lim (N % 16 ^ j)) := gJ_self hl
    have s1 : nI j >>> ((1 : Int32) &&& 31) = nI (j / 2) := pk_shrN (by omega) _ 1 (by decide)
    have s2 : nI f + 31 = nI (f + 31) := nI_add f 31
    have s3 : nI (f + 31) - nI (j / 2) = nI (f + 31 - j / 2) := pk_sub (by omega)
    have p0 : ¬ nI (f + 31 - j / 2) < 0 := nI_pos (by omega)
    have p1 : ¬ nI rs.length ≤ nI (f + 31 - j / 2) := nI_ge (by omega) (by omega)
    have p2 : (nI (f + 31 - j / 2)).toNatClampNeg = f + 31 - j / 2 := nI_clamp (by omega)
    have x1 := getD_of (xs := rs) (i := f + 31 - j / 2) (by omega)
    have s4 : nI j &&& 1 = nI (j % 2) := pk_andN (by omega) 1 rfl
    have hn1 := hn j (by omega)
    have hc : N / 16 ^ j % 16 < 16 := Nat.mod_lt _ (by decide)
    have s5 : (nI (N / 16 ^ j % 16)).toInt64 = Int64.ofNat (N / 16 ^ j % 16) := nI_l (by omega)
    have d1 : nI j / 7 = nI (j / 7) := pk_div (d := 7) (by omega) (by omega) (by omega)
    have d2 : nI j - nI (j / 7) * 7 = nI (j % 7) := by rw [← d1]; exact pk_rem (d := 7) (by omega) (by omega) (by omega)
    have d3 : (4 : Int32) * nI (j % 7) = nI (4 * (j % 7)) := pk_mul 4 (j % 7)
    have p3 : ¬ nI (j / 7) < 0 := nI_pos (by omega)
    have p4 : (nI (j / 7)).toNatClampNeg = j / 7 := nI_clamp (by omega)
    have x2 := jD_of (xs := lim (N % 16 ^ j)) (i := j / 7) (by rw [lim_len]; omega)
    have n1 : ¬ to < 19 := by omega
    have n2 : ¬ 10 ≤ j / 7 := by omega
    have z7 : ¬ (7 : Int32) = 0 := by decide
    have ll := lim_len (n := N % 16 ^ j)
    have st := lim_step (n := N % 16 ^ j) (c := N / 16 ^ j % 16) (j := j) (Nat.mod_lt _ (Nat.pow_pos (by decide))) hc (by omega)
    rw [← nib_lt] at st
    have ih' := ih (j + 1) (some (.int (nI (f + 31 - j / 2)))) (some (.long (Int64.ofNat (N / 16 ^ j % 16)))) none (by omega)
    refine (e9_6 _ _ _).trans (Eq.trans ?_ ih')
    simp only [cl_9, e9_0, e9_1, e9_4, e9_5, e9_7, e9_9, e9_12, e9_13, e9_15, e9_16, e9_17, e9_18, e9_19, e9_20, e9_22, e9_24, e9_27, e9_29, e9_30, e9_31, e9_34, e9_35, e9_37, e9_38, e9_39, e9_40, e9_41, e9_42, e9_43, e9_44, e9_46, e9_47, e9_48, e9_51, e9_52, e9_54, e9_55, e9_56, e9_58, e9_59, e9_60, e9_61, e9_63, e9_64, e9_65, e9_67, e9_68, e9_69, e9_70, e9_71, e9_72, e9_75, e9_78, ow_9, Int32.reduceOfInt, Int32.reduceOfNat, Int32.reduceToNatClampNeg, Int32.reduceLT, Int32.reduceLE, Int32.reduceAdd, Int32.reduceSub, Int32.reduceMul, Int64.reduceOfNat, Int64.reduceOfInt, Nat.reduceLeDiff, Nat.reduceLT, Nat.reduceEqDiff, Nat.reduceSub, cs_0, cs_1, cs_2, cs_3, cs_4, cs_5, cs_6, cs_7, cs_8, or_false, false_or, not_false_eq_true, and_true, true_and, if_true, if_false, List.length_cons, List.length_nil, List.getElem?_cons_succ, List.getElem?_cons_zero, List.set_cons_succ, List.set_cons_zero, reduceIte, d_G, d_R, s_aload, s_aload_n, s_iload, s_iload_n, s_lload, s_lload_n, s_istore, s_istore_n, s_astore, s_astoreN, s_astore_n, s_astore_nN, s_lstore, s_lstore_n, s_iinc, s_iconst, s_bipush, s_sipush, s_lconst, s_ldc2_w, s_aconst_null, s_dupA, s_dupI, s_dup2, s_iadd, s_isub, s_imul, s_iand, s_ior, s_ixor, s_ishl, s_ishr, s_iushr, s_ineg, s_idiv, s_irem, s_ladd, s_lsub, s_lmul, s_land, s_lor, s_lxor, s_ldiv, s_lshl, s_lshr, s_lushr, s_i2l, s_l2i, s_lcmp, s_goto, s_ieq, s_ine, s_ilt, s_ige, s_igt, s_ile, s_zeq, s_zne, s_zlt, s_zge, s_zgt, s_zle, s_ifnull, s_ifnullN, s_ifnonnull, s_ifnonnullN, s_tableswitch, s_lookupswitch, s_getfield, s_putfield, s_getstatic, s_iaload, s_laload, s_baload, s_aaload, s_iastore, s_lastore, s_bastore, s_aastore, s_arraylength, s_newI, s_newJ, s_newZ, s_anewarray, s_new, s_copy, s_max, s_min, s_invokestatic, s_objinit, s_invokespecial, kf_isr_r, s_invokevirtual, s_ireturn, s_lreturn, s_areturn, s_areturnN, s_return, lI_0, lI_s, lJ_0, lJ_s, lA_0, lA_0N, lA_s, lS1_0, lS1_1, lS1_2, lS2_0, lS2_1, lS2_2, lK_n, lK_i, lK_j, lK_a, lK_N, d_C', kf_w_0, kf_w_i, kf_w_a, kf_w_n, kf_w_j, c_0, c_1, c_2, c_3, c_4, c_5, c_6, tl_0, tl_1, Option.bind_some, Option.bind_none, Option.map_some, Nat.reduceAdd, Nat.reduceMul, Nat.reduceDiv, Nat.reduceMod, Int.reduceToNat, Fin.val_zero, Fin.isValue, Fin.val_one, Fin.val_two, fv_0, fv_1, fv_2, fv_3, fw_0, fw_1, d_ite, true_or, or_true, and_false, false_and, or_self, and_self, e, g1, g1', g2, s1, s2, s3, p0, p1, p2, x1, s4, hn1, s5, d1, d2, d3, p3, p4, x2, n1, n2, z7, ll, st, oLen_I, toI, kf_NS, nI_1, List.set_set]
theorem f9 {M : kf_M} {to row f N : Nat} {rs : List Int32} (ht : Jar M to) (hto : 19 ≤ to) (hrt : row ≠ to) (gr : M[row]? = some (oI rs)) (hf : f + 32 ≤ rs.length) (hr : rs.length < 2 ^ 20) (hn : ∀ j, j < 64 → (rs.getD (f + 31 - j / 2) 0 >>> (((4 : Int32) * nI (j % 2)) &&& 31)) &&& 15 = nI (N / 16 ^ j % 16)) (hN : N < 2 ^ 256) : ∃ M', kf_cl 9 [.ref to, .ref row, .int (nI f)] M = some (none, M') ∧ Num M' to (N : Int) ∧ Off [to] M M' := by
  obtain ⟨M1, k1, ⟨l1, g1, h1⟩, o1⟩ := f13 ht hto
  have e0 : l1 = lim (N % 16 ^ 0) := by
    rw [Nat.pow_zero, Nat.mod_one]
    exact lmb_inj h1 (lim_lmb (n := 0) (by decide))
  have k2 := c9l (M := M1) (N := N) hto (m_lt g1) hrt (o1.at (by simpa using hrt) gr) hf hr hn 64 0 none none none rfl
  rw [← e0, jset_id g1, nI_0] at k2
  refine ⟨M1.set to (oJ (lim (N % 16 ^ 64))), by simp only [cl_9, e9_0, e9_1, e9_4, e9_5, e9_7, e9_9, e9_12, e9_13, e9_15, e9_16, e9_17, e9_18, e9_19, e9_20, e9_22, e9_24, e9_27, e9_29, e9_30, e9_31, e9_34, e9_35, e9_37, e9_38, e9_39, e9_40, e9_41, e9_42, e9_43, e9_44, e9_46, e9_47, e9_48, e9_51, e9_52, e9_54, e9_55, e9_56, e9_58, e9_59, e9_60, e9_61, e9_63, e9_64, e9_65, e9_67, e9_68, e9_69, e9_70, e9_71, e9_72, e9_75, e9_78, ow_9, Int32.reduceOfInt, Int32.reduceOfNat, Int32.reduceToNatClampNeg, Int32.reduceLT, Int32.reduceLE, Int32.reduceAdd, Int32.reduceSub, Int32.reduceMul, Int64.reduceOfNat, Int64.reduceOfInt, Nat.reduceLeDiff, Nat.reduceLT, Nat.reduceEqDiff, Nat.reduceSub, cs_0, cs_1, cs_2, cs_3, cs_4, cs_5, cs_6, cs_7, cs_8, or_false, false_or, not_false_eq_true, and_true, true_and, if_true, if_false, List.length_cons, List.length_nil, List.getElem?_cons_succ, List.getElem?_cons_zero, List.set_cons_succ, List.set_cons_zero, reduceIte, d_G, d_R, s_aload, s_aload_n, s_iload, s_iload_n, s_lload, s_lload_n, s_istore, s_istore_n, s_astore, s_astoreN, s_astore_n, s_astore_nN, s_lstore, s_lstore_n, s_iinc, s_iconst, s_bipush, s_sipush, s_lconst, s_ldc2_w, s_aconst_null, s_dupA, s_dupI, s_dup2, s_iadd, s_isub, s_imul, s_iand, s_ior, s_ixor, s_ishl, s_ishr, s_iushr, s_ineg, s_idiv, s_irem, s_ladd, s_lsub, s_lmul, s_land, s_lor, s_lxor, s_ldiv, s_lshl, s_lshr, s_lushr, s_i2l, s_l2i, s_lcmp, s_goto, s_ieq, s_ine, s_ilt, s_ige, s_igt, s_ile, s_zeq, s_zne, s_zlt, s_zge, s_zgt, s_zle, s_ifnull, s_ifnullN, s_ifnonnull, s_ifnonnullN, s_tableswitch, s_lookupswitch, s_getfield, s_putfield, s_getstatic, s_iaload, s_laload, s_baload, s_aaload, s_iastore, s_lastore, s_bastore, s_aastore, s_arraylength, s_newI, s_newJ, s_newZ, s_anewarray, s_new, s_copy, s_max, s_min, s_invokestatic, s_objinit, s_invokespecial, kf_isr_r, s_invokevirtual, s_ireturn, s_lreturn, s_areturn, s_areturnN, s_return, lI_0, lI_s, lJ_0, lJ_s, lA_0, lA_0N, lA_s, lS1_0, lS1_1, lS1_2, lS2_0, lS2_1, lS2_2, lK_n, lK_i, lK_j, lK_a, lK_N, d_C', kf_w_0, kf_w_i, kf_w_a, kf_w_n, kf_w_j, c_0, c_1, c_2, c_3, c_4, c_5, c_6, tl_0, tl_1, Option.bind_some, Option.bind_none, Option.map_some, Nat.reduceAdd, Nat.reduceMul, Nat.reduceDiv, Nat.reduceMod, Int.reduceToNat, Fin.val_zero, Fin.isValue, Fin.val_one, Fin.val_two, fv_0, fv_1, fv_2, fv_3, fw_0, fw_1, d_ite, true_or, or_true, and_false, false_and, or_self, and_self, k1, k2], ⟨_, m_self (m_lt g1), ?_⟩, o1.tr (Off.set (by simp))⟩
  rw [Nat.mod_eq_of_lt (show N < 16 ^ 64 by omega)]
  exact lim_lmb (by omega)
