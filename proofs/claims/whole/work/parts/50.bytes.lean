/-! 32 bytes and the number that they tell -/
def nBL (L n : Nat) : List Int32 := (List.range' 0 L).map (fun k => nI (n / 256 ^ (L - 1 - k) % 256))
theorem nBL_len {L n : Nat} : (nBL L n).length = L := by simp [nBL]
theorem nBL_get {L n k : Nat} (h : k < L) : (nBL L n)[k]? = some (nI (n / 256 ^ (L - 1 - k) % 256)) := by
  rw [nBL, List.getElem?_map, List.getElem?_range' h]
  simp
def isB (xs : List Int32) : Prop := ∀ x ∈ xs, ∃ c, c < 256 ∧ x = nI c
theorem isB_nBL {L n : Nat} : isB (nBL L n) := by
  intro x hx
  obtain ⟨k, -, rfl⟩ := List.mem_map.mp hx
  exact ⟨_, Nat.mod_lt _ (by decide), rfl⟩
theorem bytes_ex : ∀ xs : List Int32, isB xs → ∃ n, n < 256 ^ xs.length ∧ xs = nBL xs.length n
  | [], _ => ⟨0, by decide, rfl⟩
  | x :: t, h => by
    obtain ⟨r, hr, et⟩ := bytes_ex t (fun y hy => h y (by simp [hy]))
    obtain ⟨c, hc, ex⟩ := h x (by simp)
    have hp : (0 : Nat) < 256 ^ t.length := Nat.pow_pos (by decide)
    refine ⟨256 ^ t.length * c + r, ?_, ?_⟩
    · rw [List.length_cons, Nat.pow_succ]
      have : 256 ^ t.length * c ≤ 256 ^ t.length * 255 := Nat.mul_le_mul_left _ (by omega)
      omega
    · apply List.ext_getElem?
      intro k
      by_cases hk : k < (x :: t).length
      · rw [nBL_get hk]
        cases k with
        | zero =>
          rw [List.getElem?_cons_zero, List.length_cons, show t.length + 1 - 1 - 0 = t.length by omega, Nat.mul_add_div hp, Nat.div_eq_of_lt hr, Nat.add_zero, Nat.mod_eq_of_lt hc, ex]
        | succ k =>
          rw [List.getElem?_cons_succ, List.length_cons]
          have hk2 : k < t.length := by simpa using hk
          have e1 : t[k]? = (nBL t.length r)[k]? := by rw [← et]
          rw [e1, nBL_get hk2]
          have e2 : t.length + 1 - 1 - (k + 1) = t.length - 1 - k := by omega
          have e3 : 256 ^ t.length * c = 256 ^ (t.length - 1 - k) * (256 * (256 ^ k * c)) := by
            rw [← Nat.mul_assoc, ← Nat.mul_assoc, ← Nat.pow_succ, ← Nat.pow_add]
            congr 2
            omega
          rw [e2, e3, Nat.mul_add_div (Nat.pow_pos (by decide)), Nat.mul_add_mod]
      · rw [List.getElem?_eq_none (by omega), List.getElem?_eq_none (by rw [nBL_len]; omega)]
theorem p256 (i : Nat) : (256 : Nat) ^ i = 16 ^ (2 * i) := by rw [show (256 : Nat) = 16 ^ 2 by decide, ← Nat.pow_mul]
theorem nib_sh : ∀ c, c < 256 → ∀ s, s < 2 → (nI c >>> (((4 : Int32) * nI s) &&& 31)) &&& 15 = nI (c / 16 ^ s % 16) := by decide +kernel
theorem nib_by (n j : Nat) : n / 256 ^ (j / 2) % 256 / 16 ^ (j % 2) % 16 = n / 16 ^ j % 16 := by
  have hj : 16 ^ j = 16 ^ (2 * (j / 2)) * 16 ^ (j % 2) := by
    rw [← Nat.pow_add]
    congr 1
    omega
  rw [p256, hj, ← Nat.div_div_eq_div_mul]
  generalize n / 16 ^ (2 * (j / 2)) = u
  rcases Nat.mod_two_eq_zero_or_one j with q | q
  · rw [q, Nat.pow_zero]
    omega
  · rw [q, Nat.pow_one]
    omega
/-- readBytes -/
theorem f9b {M : kf_M} {to row f n : Nat} {rs : List Int32} (ht : Jar M to) (hto : 19 ≤ to) (hrt : row ≠ to) (gr : M[row]? = some (oI rs)) (hf : f + 32 ≤ rs.length) (hr : rs.length < 2 ^ 20) (hb : (rs.drop f).take 32 = nBL 32 n) (hn : n < 2 ^ 256) : ∃ M', kf_cl 9 [.ref to, .ref row, .int (nI f)] M = some (none, M') ∧ Num M' to (n : Int) ∧ Off [to] M M' := by
  refine f9 ht hto hrt gr hf hr (fun j hj => ?_) hn
  have e1 : rs.getD (f + 31 - j / 2) 0 = nI (n / 256 ^ (j / 2) % 256) := by
    have h1 : ((rs.drop f).take 32)[31 - j / 2]? = (nBL 32 n)[31 - j / 2]? := by rw [hb]
    rw [nBL_get (by omega), List.getElem?_take_of_lt (by omega), List.getElem?_drop, show f + (31 - j / 2) = f + 31 - j / 2 by omega, show 32 - 1 - (31 - j / 2) = j / 2 by omega] at h1
    rw [List.getD_eq_getElem?_getD, h1]
    rfl
  rw [e1, nib_sh _ (Nat.mod_lt _ (by decide)) _ (Nat.mod_lt _ (by decide)), nib_by]
theorem dgnib {n q r : Nat} (hr : r < 7) : n / 2 ^ (28 * q) % 2 ^ 28 / 2 ^ (4 * r) % 16 = n / 2 ^ (28 * q + 4 * r) % 16 := by
  rw [show (2 : Nat) ^ 28 = 2 ^ (4 * r) * 2 ^ (28 - 4 * r) by rw [← Nat.pow_add]; congr 1; omega, Nat.mod_mul_right_div_self, Nat.div_div_eq_div_mul, ← Nat.pow_add]
  rw [show (2 : Nat) ^ (28 - 4 * r) = 2 ^ (24 - 4 * r) * 16 by rw [show 28 - 4 * r = (24 - 4 * r) + 4 by omega, Nat.pow_add]]
  exact Nat.mod_mod_of_dvd _ (Nat.dvd_mul_left _ _)
theorem f23 {M : kf_M} {a j : Nat} {v : Int} (ha : Num M a v) (h0 : 0 ≤ v) (h1 : v < 2 ^ 256) (hj : j < 64) : kf_cl 23 [.ref a, .int (nI j)] M = some (some (.int (nI (v.toNat / 16 ^ j % 16))), M) := by
  obtain ⟨l, ga, hl⟩ := ha
  have g := gJ_of ga
  have p0 : ¬ nI j < 0 := nI_pos (by omega)
  have p1 : ¬ (64 : Int32) ≤ nI j := nI_ge (a := j) (b := 64) (by omega) (by omega)
  have e1 : nI j / 7 = nI (j / 7) := pk_div (d := 7) (by omega) (by omega) (by omega)
  have e2 : nI j - nI (j / 7) * 7 = nI (j % 7) := by rw [← e1]; exact pk_rem (d := 7) (by omega) (by omega) (by omega)
  have e2b : (4 : Int32) * nI (j % 7) = nI (4 * (j % 7)) := pk_mul 4 (j % 7)
  have p2 : ¬ nI (j / 7) < 0 := nI_pos (by omega)
  have p3 : (nI (j / 7)).toNatClampNeg = j / 7 := nI_clamp (by omega)
  have x1 := jD_of (xs := l) (i := j / 7) (by rw [lmb_len hl]; omega)
  have z : ¬ (7 : Int32) = 0 := by decide
  have e3 := lmb_dg hl h0 (by omega) (j := j / 7) (by omega)
  have hlt : v.toNat / 2 ^ (28 * (j / 7)) % 2 ^ 28 < 2 ^ 28 := Nat.mod_lt _ (by decide)
  have hle := Nat.div_le_self (v.toNat / 2 ^ (28 * (j / 7)) % 2 ^ 28) (2 ^ (4 * (j % 7)))
  have e4 : (l.getD (j / 7) 0 >>> ((nI (4 * (j % 7))).toInt64 &&& 63)).toInt32 = nI (v.toNat / 2 ^ (28 * (j / 7)) % 2 ^ 28 / 2 ^ (4 * (j % 7))) := by
    apply j2i
    · rw [jshr _ (by omega), e3]
      rfl
    · omega
  have e5 : nI (v.toNat / 2 ^ (28 * (j / 7)) % 2 ^ 28 / 2 ^ (4 * (j % 7))) &&& 15 = nI (v.toNat / 16 ^ j % 16) := by
    rw [pk_andN (k := 4) (by omega) rfl]
    show nI (_ % 16) = _
    rw [dgnib (Nat.mod_lt _ (by decide)), pow16 j, ← Nat.pow_add]
  simp only [cl_23, e23_0, e23_1, e23_4, e23_5, e23_7, e23_10, e23_11, e23_12, e23_14, e23_15, e23_16, e23_17, e23_18, e23_20, e23_21, e23_22, e23_23, e23_24, e23_26, e23_27, e23_30, e23_31, ow_23, Int32.reduceOfInt, Int32.reduceOfNat, Int32.reduceToNatClampNeg, Int32.reduceLT, Int32.reduceLE, Int32.reduceAdd, Int32.reduceSub, Int32.reduceMul, Int64.reduceOfNat, Int64.reduceOfInt, Nat.reduceLeDiff, Nat.reduceLT, Nat.reduceEqDiff, Nat.reduceSub, cs_0, cs_1, cs_2, cs_3, cs_4, cs_5, cs_6, cs_7, cs_8, or_false, false_or, not_false_eq_true, and_true, true_and, if_true, if_false, List.length_cons, List.length_nil, List.getElem?_cons_succ, List.getElem?_cons_zero, List.set_cons_succ, List.set_cons_zero, reduceIte, d_G, d_R, s_aload, s_aload_n, s_iload, s_iload_n, s_lload, s_lload_n, s_istore, s_istore_n, s_astore, s_astoreN, s_astore_n, s_astore_nN, s_lstore, s_lstore_n, s_iinc, s_iconst, s_bipush, s_sipush, s_lconst, s_ldc2_w, s_aconst_null, s_dupA, s_dupI, s_dup2, s_iadd, s_isub, s_imul, s_iand, s_ior, s_ixor, s_ishl, s_ishr, s_iushr, s_ineg, s_idiv, s_irem, s_ladd, s_lsub, s_lmul, s_land, s_lor, s_lxor, s_ldiv, s_lshl, s_lshr, s_lushr, s_i2l, s_l2i, s_lcmp, s_goto, s_ieq, s_ine, s_ilt, s_ige, s_igt, s_ile, s_zeq, s_zne, s_zlt, s_zge, s_zgt, s_zle, s_ifnull, s_ifnullN, s_ifnonnull, s_ifnonnullN, s_tableswitch, s_lookupswitch, s_getfield, s_putfield, s_getstatic, s_iaload, s_laload, s_baload, s_aaload, s_iastore, s_lastore, s_bastore, s_aastore, s_arraylength, s_newI, s_newJ, s_newZ, s_anewarray, s_new, s_copy, s_max, s_min, s_invokestatic, s_objinit, s_invokespecial, kf_isr_r, s_invokevirtual, s_ireturn, s_lreturn, s_areturn, s_areturnN, s_return, lI_0, lI_s, lJ_0, lJ_s, lA_0, lA_0N, lA_s, lS1_0, lS1_1, lS1_2, lS2_0, lS2_1, lS2_2, lK_n, lK_i, lK_j, lK_a, lK_N, d_C', kf_w_0, kf_w_i, kf_w_a, kf_w_n, kf_w_j, c_0, c_1, c_2, c_3, c_4, c_5, c_6, tl_0, tl_1, Option.bind_some, Option.bind_none, Option.map_some, Nat.reduceAdd, Nat.reduceMul, Nat.reduceDiv, Nat.reduceMod, Int.reduceToNat, Fin.val_zero, Fin.isValue, Fin.val_one, Fin.val_two, fv_0, fv_1, fv_2, fv_3, fw_0, fw_1, d_ite, true_or, or_true, and_false, false_and, or_self, and_self, g, p0, p1, e1, e2, e2b, p2, p3, x1, z, e4, e5]
/-! writeBytes -/
def wrx (rs bs : List Int32) (f i : Nat) : List Int32 := (List.range' 0 rs.length).map (fun k => if f + 32 - i ≤ k ∧ k < f + 32 then bs.getD (k - f) 0 else rs.getD k 0)
theorem wrx_len {rs bs : List Int32} {f i : Nat} : (wrx rs bs f i).length = rs.length := by simp [wrx]
theorem wrx_get {rs bs : List Int32} {f i k : Nat} (h : k < rs.length) : (wrx rs bs f i)[k]? = some (if f + 32 - i ≤ k ∧ k < f + 32 then bs.getD (k - f) 0 else rs.getD k 0) := by
  rw [wrx, List.getElem?_map, List.getElem?_range' h]
  simp
theorem wrx_0 {rs bs : List Int32} {f : Nat} : wrx rs bs f 0 = rs := by
  apply List.ext_getElem?
  intro k
  by_cases hk : k < rs.length
  · rw [wrx_get hk, if_neg (by omega), getD_of hk]
  · rw [List.getElem?_eq_none (by rw [wrx_len]; omega), List.getElem?_eq_none (by omega)]
theorem wrx_s {rs bs : List Int32} {f i : Nat} (hf : f + 32 ≤ rs.length) (hi : i < 32) : (wrx rs bs f i).set (f + 31 - i) (bs.getD (31 - i) 0) = wrx rs bs f (i + 1) := by
  apply List.ext_getElem?
  intro k
  by_cases hk : k < rs.length
  · rw [wrx_get hk]
    by_cases q : f + 31 - i = k
    · subst q
      rw [List.getElem?_set_self (by rw [wrx_len]; omega), if_pos (by omega), show f + 31 - i - f = 31 - i by omega]
    · rw [List.getElem?_set_ne q, wrx_get hk]
      by_cases r : f + 32 - i ≤ k ∧ k < f + 32
      · rw [if_pos r, if_pos (by omega)]
      · rw [if_neg r, if_neg (by omega)]
  · rw [List.getElem?_eq_none (by rw [List.length_set, wrx_len]; omega), List.getElem?_eq_none (by rw [wrx_len]; omega)]
theorem wrx_32 {rs bs : List Int32} {f : Nat} (hf : f + 32 ≤ rs.length) (hb : bs.length = 32) : wrx rs bs f 32 = rs.take f ++ bs ++ rs.drop (f + 32) := by
  apply List.ext_getElem?
  intro k
  by_cases hk : k < rs.length
  · rw [wrx_get hk]
    by_cases h1 : k < f
    · rw [if_neg (by omega), List.getElem?_append_left (by simp; omega), List.getElem?_append_left (by simp; omega), List.getElem?_take_of_lt h1, getD_of hk]
    · by_cases h2 : k < f + 32
      · rw [if_pos (by omega), List.getElem?_append_left (by simp; omega), List.getElem?_append_right (by simp; omega), List.length_take, Nat.min_eq_left (by omega), getD_of (by omega)]
      · rw [if_neg (by omega), List.getElem?_append_right (by simp; omega), List.getElem?_drop, List.length_append, List.length_take, Nat.min_eq_left (by omega), hb, show f + 32 + (k - (f + 32)) = k by omega, getD_of hk]
  · rw [List.getElem?_eq_none (by rw [wrx_len]; omega), List.getElem?_eq_none (by simp; omega)]
theorem nib_pk : ∀ h, h < 16 → ∀ l, l < 16 → (nI h <<< ((4 : Int32) &&& 31)) ||| nI l = nI (16 * h + l) := by decide +kernel
theorem nib2 (n i : Nat) : 16 * (n / 16 ^ (2 * i + 1) % 16) + n / 16 ^ (2 * i) % 16 = n / 256 ^ i % 256 := by
  rw [p256, Nat.pow_succ, ← Nat.div_div_eq_div_mul]
  omega
theorem c10l {M : kf_M} {row a f : Nat} {rs : List Int32} {v : Int} (hrow : 19 ≤ row) (hl : row < M.length) (hra : row ≠ a) (ha : Num M a v) (h0 : 0 ≤ v) (h1 : v < 2 ^ 256) (hf : f + 32 ≤ rs.length) (hr : rs.length < 2 ^ 20) : ∀ (n i : Nat) (u4 : Option Value), i + n = 32 → kf_ev 10 2 [some (.ref row), some (.int (nI f)), some (.ref a), some (.int (nI i)), u4] [] (M.set row (oI (wrx rs (nBL 32 v.toNat) f i))) = some (none, M.set row (oI (wrx rs (nBL 32 v.toNat) f 32))) := by
  intro n
  induction n with
  | zero =>
    intro i u4 hi
    have hi : i = 32 := by omega
    subst hi
    have e : (32 : Int32) ≤ nI 32 := by decide
    refine (e10_2 _ _ _).trans ?_
    simp only [cl_10, e10_0, e10_1, e10_3, e10_5, e10_8, e10_9, e10_11, e10_12, e10_13, e10_14, e10_16, e10_18, e10_21, e10_23, e10_24, e10_25, e10_28, e10_29, e10_31, e10_32, e10_33, e10_34, e10_35, e10_36, e10_37, e10_40, e10_41, e10_42, e10_43, e10_44, e10_45, e10_46, e10_49, e10_50, e10_51, e10_54, e10_57, ow_10, Int32.reduceOfInt, Int32.reduceOfNat, Int32.reduceToNatClampNeg, Int32.reduceLT, Int32.reduceLE, Int32.reduceAdd, Int32.reduceSub, Int32.reduceMul, Int64.reduceOfNat, Int64.reduceOfInt, Nat.reduceLeDiff, Nat.reduceLT, Nat.reduceEqDiff, Nat.reduceSub, cs_0, cs_1, cs_2, cs_3, cs_4, cs_5, cs_6, cs_7, cs_8, or_false, false_or, not_false_eq_true, and_true, true_and, if_true, if_false, List.length_cons, List.length_nil, List.getElem?_cons_succ, List.getElem?_cons_zero, List.set_cons_succ, List.set_cons_zero, reduceIte, d_G, d_R, s_aload, s_aload_n, s_iload, s_iload_n, s_lload, s_lload_n, s_istore, s_istore_n, s_astore, s_astoreN, s_astore_n, s_astore_nN, s_lstore, s_lstore_n, s_iinc, s_iconst, s_bipush, s_sipush, s_lconst, s_ldc2_w, s_aconst_null, s_dupA, s_dupI, s_dup2, s_iadd, s_isub, s_imul, s_iand, s_ior, s_ixor, s_ishl, s_ishr, s_iushr, s_ineg, s_idiv, s_irem, s_ladd, s_lsub, s_lmul, s_land, s_lor, s_lxor, s_ldiv, s_lshl, s_lshr, s_lushr, s_i2l, s_l2i, s_lcmp, s_goto, s_ieq, s_ine, s_ilt, s_ige, s_igt, s_ile, s_zeq, s_zne, s_zlt, s_zge, s_zgt, s_zle, s_ifnull, s_ifnullN, s_ifnonnull, s_ifnonnullN, s_tableswitch, s_lookupswitch, s_getfield, s_putfield, s_getstatic, s_iaload, s_laload, s_baload, s_aaload, s_iastore, s_lastore, s_bastore, s_aastore, s_arraylength, s_newI, s_newJ, s_newZ, s_anewarray, s_new, s_copy, s_max, s_min, s_invokestatic, s_objinit, s_invokespecial, kf_isr_r, s_invokevirtual, s_ireturn, s_lreturn, s_areturn, s_areturnN, s_return, lI_0, lI_s, lJ_0, lJ_s, lA_0, lA_0N, lA_s, lS1_0, lS1_1, lS1_2, lS2_0, lS2_1, lS2_2, lK_n, lK_i, lK_j, lK_a, lK_N, d_C', kf_w_0, kf_w_i, kf_w_a, kf_w_n, kf_w_j, c_0, c_1, c_2, c_3, c_4, c_5, c_6, tl_0, tl_1, Option.bind_some, Option.bind_none, Option.map_some, Nat.reduceAdd, Nat.reduceMul, Nat.reduceDiv, Nat.reduceMod, Int.reduceToNat, Fin.val_zero, Fin.isValue, Fin.val_one, Fin.val_two, fv_0, fv_1, fv_2, fv_3, fw_0, fw_1, d_ite, true_or, or_true, and_false, false_and, or_self, and_self, e]
  | succ n ih =>
    intro i u4 hi
    have e : ¬ (32 : Int32) ≤ nI i := nI_ge (a := i) (b := 32) (by omega) (by omega)
    have g1 : gI (M.set row (oI (wrx rs (nBL 32 v.toNat) f i))) row = some (wrx rs (nBL 32 v.toNat) f i) := gI_self hl
    have g1' : (M.set row (oI (wrx rs (nBL 32 v.toNat) f i)))[row]? = some (oI (wrx rs (nBL 32 v.toNat) f i)) := m_self hl
    have ha2 : Num (M.set row (oI (wrx rs (nBL 32 v.toNat) f i))) a v := ha.off (A := [row]) (Off.set (by simp)) (by simpa using Ne.symm hra)
    have kh := f23 (j := 2 * i + 1) ha2 h0 h1 (by omega)
    have kl := f23 (j := 2 * i) ha2 h0 h1 (by omega)
    have s2 : nI f + 31 = nI (f + 31) := nI_add f 31
    have s3 : nI (f + 31) - nI i = nI (f + 31 - i) := pk_sub (by omega)
    have s4 : (2 : Int32) * nI i = nI (2 * i) := pk_mul 2 i
    have p0 : ¬ nI (f + 31 - i) < 0 := nI_pos (by omega)
    have p1 : ¬ nI rs.length ≤ nI (f + 31 - i) := nI_ge (by omega) (by omega)
    have p2 : (nI (f + 31 - i)).toNatClampNeg = f + 31 - i := nI_clamp (by omega)
    have n1 : ¬ row < 19 := by omega
    have n2 : ¬ rs.length ≤ f + 31 - i := by omega
    have pk := nib_pk (v.toNat / 16 ^ (2 * i + 1) % 16) (Nat.mod_lt _ (by decide)) (v.toNat / 16 ^ (2 * i) % 16) (Nat.mod_lt _ (by decide))
    rw [nib2] at pk
    have st := wrx_s (rs := rs) (bs := nBL 32 v.toNat) (f := f) (i := i) hf (by omega)
    have eb : (nBL 32 v.toNat).getD (31 - i) 0 = nI (v.toNat / 256 ^ i % 256) := by
      rw [List.getD_eq_getElem?_getD, nBL_get (by omega), show 32 - 1 - (31 - i) = i by omega]
      rfl
    rw [eb] at st
    have ll := wrx_len (rs := rs) (bs := nBL 32 v.toNat) (f := f) (i := i)
    have ih' := ih (i + 1) (some (.int (nI (f + 31 - i)))) (by omega)
    refine (e10_2 _ _ _).trans (Eq.trans ?_ ih')
    simp only [cl_10, e10_0, e10_1, e10_3, e10_5, e10_8, e10_9, e10_11, e10_12, e10_13, e10_14, e10_16, e10_18, e10_21, e10_23, e10_24, e10_25, e10_28, e10_29, e10_31, e10_32, e10_33, e10_34, e10_35, e10_36, e10_37, e10_40, e10_41, e10_42, e10_43, e10_44, e10_45, e10_46, e10_49, e10_50, e10_51, e10_54, e10_57, ow_10, Int32.reduceOfInt, Int32.reduceOfNat, Int32.reduceToNatClampNeg, Int32.reduceLT, Int32.reduceLE, Int32.reduceAdd, Int32.reduceSub, Int32.reduceMul, Int64.reduceOfNat, Int64.reduceOfInt, Nat.reduceLeDiff, Nat.reduceLT, Nat.reduceEqDiff, Nat.reduceSub, cs_0, cs_1, cs_2, cs_3, cs_4, cs_5, cs_6, cs_7, cs_8, or_false, false_or, not_false_eq_true, and_true, true_and, if_true, if_false, List.length_cons, List.length_nil, List.getElem?_cons_succ, List.getElem?_cons_zero, List.set_cons_succ, List.set_cons_zero, reduceIte, d_G, d_R, s_aload, s_aload_n, s_iload, s_iload_n, s_lload, s_lload_n, s_istore, s_istore_n, s_astore, s_astoreN, s_astore_n, s_astore_nN, s_lstore, s_lstore_n, s_iinc, s_iconst, s_bipush, s_sipush, s_lconst, s_ldc2_w, s_aconst_null, s_dupA, s_dupI, s_dup2, s_iadd, s_isub, s_imul, s_iand, s_ior, s_ixor, s_ishl, s_ishr, s_iushr, s_ineg, s_idiv, s_irem, s_ladd, s_lsub, s_lmul, s_land, s_lor, s_lxor, s_ldiv, s_lshl, s_lshr, s_lushr, s_i2l, s_l2i, s_lcmp, s_goto, s_ieq, s_ine, s_ilt, s_ige, s_igt, s_ile, s_zeq, s_zne, s_zlt, s_zge, s_zgt, s_zle, s_ifnull, s_ifnullN, s_ifnonnull, s_ifnonnullN, s_tableswitch, s_lookupswitch, s_getfield, s_putfield, s_getstatic, s_iaload, s_laload, s_baload, s_aaload, s_iastore, s_lastore, s_bastore, s_aastore, s_arraylength, s_newI, s_newJ, s_newZ, s_anewarray, s_new, s_copy, s_max, s_min, s_invokestatic, s_objinit, s_invokespecial, kf_isr_r, s_invokevirtual, s_ireturn, s_lreturn, s_areturn, s_areturnN, s_return, lI_0, lI_s, lJ_0, lJ_s, lA_0, lA_0N, lA_s, lS1_0, lS1_1, lS1_2, lS2_0, lS2_1, lS2_2, lK_n, lK_i, lK_j, lK_a, lK_N, d_C', kf_w_0, kf_w_i, kf_w_a, kf_w_n, kf_w_j, c_0, c_1, c_2, c_3, c_4, c_5, c_6, tl_0, tl_1, Option.bind_some, Option.bind_none, Option.map_some, Nat.reduceAdd, Nat.reduceMul, Nat.reduceDiv, Nat.reduceMod, Int.reduceToNat, Fin.val_zero, Fin.isValue, Fin.val_one, Fin.val_two, fv_0, fv_1, fv_2, fv_3, fw_0, fw_1, d_ite, true_or, or_true, and_false, false_and, or_self, and_self, e, g1, g1', kh, kl, s2, s3, s4, p0, p1, p2, n1, n2, pk, st, ll, oLen_I, toI, kf_NS, nI_1, List.set_set]
theorem f10 {M : kf_M} {row a f : Nat} {rs : List Int32} {v : Int} (hrow : 19 ≤ row) (gr : M[row]? = some (oI rs)) (ha : Num M a v) (h0 : 0 ≤ v) (h1 : v < 2 ^ 256) (hf : f + 32 ≤ rs.length) (hr : rs.length < 2 ^ 20) : kf_cl 10 [.ref row, .int (nI f), .ref a] M = some (none, M.set row (oI (rs.take f ++ nBL 32 v.toNat ++ rs.drop (f + 32)))) := by
  have hra : row ≠ a := by
    intro q
    subst q
    obtain ⟨l, g, -⟩ := ha
    rw [g] at gr
    simp [oJ, oI] at gr
  have k1 := c10l hrow (m_lt gr) hra ha h0 h1 hf hr 32 0 none rfl
  rw [wrx_0, jset_id gr, nI_0, wrx_32 hf nBL_len] at k1
  simp only [cl_10, e10_0, e10_1, e10_3, e10_5, e10_8, e10_9, e10_11, e10_12, e10_13, e10_14, e10_16, e10_18, e10_21, e10_23, e10_24, e10_25, e10_28, e10_29, e10_31, e10_32, e10_33, e10_34, e10_35, e10_36, e10_37, e10_40, e10_41, e10_42, e10_43, e10_44, e10_45, e10_46, e10_49, e10_50, e10_51, e10_54, e10_57, ow_10, Int32.reduceOfInt, Int32.reduceOfNat, Int32.reduceToNatClampNeg, Int32.reduceLT, Int32.reduceLE, Int32.reduceAdd, Int32.reduceSub, Int32.reduceMul, Int64.reduceOfNat, Int64.reduceOfInt, Nat.reduceLeDiff, Nat.reduceLT, Nat.reduceEqDiff, Nat.reduceSub, cs_0, cs_1, cs_2, cs_3, cs_4, cs_5, cs_6, cs_7, cs_8, or_false, false_or, not_false_eq_true, and_true, true_and, if_true, if_false, List.length_cons, List.length_nil, List.getElem?_cons_succ, List.getElem?_cons_zero, List.set_cons_succ, List.set_cons_zero, reduceIte, d_G, d_R, s_aload, s_aload_n, s_iload, s_iload_n, s_lload, s_lload_n, s_istore, s_istore_n, s_astore, s_astoreN, s_astore_n, s_astore_nN, s_lstore, s_lstore_n, s_iinc, s_iconst, s_bipush, s_sipush, s_lconst, s_ldc2_w, s_aconst_null, s_dupA, s_dupI, s_dup2, s_iadd, s_isub, s_imul, s_iand, s_ior, s_ixor, s_ishl, s_ishr, s_iushr, s_ineg, s_idiv, s_irem, s_ladd, s_lsub, s_lmul, s_land, s_lor, s_lxor, s_ldiv, s_lshl, s_lshr, s_lushr, s_i2l, s_l2i, s_lcmp, s_goto, s_ieq, s_ine, s_ilt, s_ige, s_igt, s_ile, s_zeq, s_zne, s_zlt, s_zge, s_zgt, s_zle, s_ifnull, s_ifnullN, s_ifnonnull, s_ifnonnullN, s_tableswitch, s_lookupswitch, s_getfield, s_putfield, s_getstatic, s_iaload, s_laload, s_baload, s_aaload, s_iastore, s_lastore, s_bastore, s_aastore, s_arraylength, s_newI, s_newJ, s_newZ, s_anewarray, s_new, s_copy, s_max, s_min, s_invokestatic, s_objinit, s_invokespecial, kf_isr_r, s_invokevirtual, s_ireturn, s_lreturn, s_areturn, s_areturnN, s_return, lI_0, lI_s, lJ_0, lJ_s, lA_0, lA_0N, lA_s, lS1_0, lS1_1, lS1_2, lS2_0, lS2_1, lS2_2, lK_n, lK_i, lK_j, lK_a, lK_N, d_C', kf_w_0, kf_w_i, kf_w_a, kf_w_n, kf_w_j, c_0, c_1, c_2, c_3, c_4, c_5, c_6, tl_0, tl_1, Option.bind_some, Option.bind_none, Option.map_some, Nat.reduceAdd, Nat.reduceMul, Nat.reduceDiv, Nat.reduceMod, Int.reduceToNat, Fin.val_zero, Fin.isValue, Fin.val_one, Fin.val_two, fv_0, fv_1, fv_2, fv_3, fw_0, fw_1, d_ite, true_or, or_true, and_false, false_and, or_self, and_self, k1]
