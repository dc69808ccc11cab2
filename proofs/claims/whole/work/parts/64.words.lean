/-! The reference's numbers: eight words, the lowest first -/
def uw (x : Int32) : Nat := x.toBitVec.toNat
def jw (p : Int64) : Nat := p.toBitVec.toNat
theorem uw_lt (x : Int32) : uw x < 4294967296 := x.toBitVec.isLt
theorem jw_lt (p : Int64) : jw p < 18446744073709551616 := p.toBitVec.isLt
theorem uw_int (x : Int32) : (uw x : Int) = x.toInt % 4294967296 := by
  unfold uw
  rw [← Int32.toInt_toBitVec, BitVec.toInt_eq_toNat_cond]
  have := x.toBitVec.isLt
  split <;> omega
theorem jw_int (p : Int64) : (jw p : Int) = p.toInt % 18446744073709551616 := by
  unfold jw
  rw [← Int64.toInt_toBitVec, BitVec.toInt_eq_toNat_cond]
  have := p.toBitVec.isLt
  split <;> omega
theorem jw_toInt {p : Int64} (h : jw p < 9223372036854775808) : p.toInt = (jw p : Int) := by
  unfold jw at *
  rw [← Int64.toInt_toBitVec, BitVec.toInt_eq_toNat_cond]
  split <;> omega
theorem uw_inj {x y : Int32} (h : uw x = uw y) : x = y := Int32.toBitVec_inj.mp (BitVec.eq_of_toNat_eq h)
theorem jw_and (p : Int64) : jw (p &&& 4294967295) = jw p % 4294967296 := by
  unfold jw
  rw [Int64.toBitVec_and, BitVec.toNat_and]
  exact Nat.and_two_pow_sub_one_eq_mod _ 32
theorem jw_x (x : Int32) : jw (x.toInt64 &&& 4294967295) = uw x := by
  have h1 := jw_and x.toInt64
  have h2 := jw_int x.toInt64
  have h3 := uw_int x
  rw [Int32.toInt_toInt64] at h2
  have := uw_lt x
  omega
theorem ji_x (x : Int32) : (x.toInt64 &&& 4294967295).toInt = (uw x : Int) := by
  have h1 := jw_x x
  have h2 := uw_lt x
  rw [jw_toInt (by omega), h1]
theorem uw_l (p : Int64) : (uw p.toInt32 : Int) = p.toInt % 4294967296 := by
  rw [uw_int, Int64.toInt_toInt32, Int.bmod_eq_emod]
  split <;> omega
theorem uw_lj (p : Int64) : uw p.toInt32 = jw p % 4294967296 := by
  have h1 := uw_l p
  have h2 := jw_int p
  omega
theorem jw_ad (p q : Int64) : jw (p + q) = (jw p + jw q) % 18446744073709551616 := by
  unfold jw
  rw [Int64.toBitVec_add, BitVec.toNat_add]
theorem jw_ml (p q : Int64) : jw (p * q) = (jw p * jw q) % 18446744073709551616 := by
  unfold jw
  rw [Int64.toBitVec_mul, BitVec.toNat_mul]
theorem jw_sh (p : Int64) : jw (kf_lush p 32) = jw p / 4294967296 := by
  show (p.toUInt64 >>> ((32 : Int32).toInt64.toUInt64 &&& Int64.toUInt64 63)).toNat = _
  rw [UInt64.toNat_shiftRight, show ((32 : Int32).toInt64.toUInt64 &&& Int64.toUInt64 63).toNat % 64 = 32 from by decide, Nat.shiftRight_eq_div_pow]
  rfl
theorem ji_sr (p : Int64) : (p >>> ((32 : Int32).toInt64 &&& 63)).toInt = p.toInt / 4294967296 := jshr p (s := 32) (by decide)
theorem i64_sb {a b : Int64} {v w B C : Int} (h1 : i64 a v B) (h2 : i64 b w C) (hB : B + C < 9223372036854775808) : i64 (a - b) (v - w) (B + C) := by
  obtain ⟨e1, l1, u1⟩ := h1
  obtain ⟨e2, l2, u2⟩ := h2
  refine ⟨?_, by omega, by omega⟩
  rw [Int64.toInt_sub, e1, e2]
  exact Int.bmod_eq_of_le_mul_two (by omega) (by omega)
/-- the number of n words from i on -/
def wv (l : List Int32) (i : Nat) : Nat → Nat
  | 0 => 0
  | n + 1 => uw (l.getD i 0) + 4294967296 * wv l (i + 1) n
theorem wv_cg {l r : List Int32} : ∀ (n i : Nat), (∀ j, i ≤ j → j < i + n → l.getD j 0 = r.getD j 0) → wv l i n = wv r i n
  | 0, _, _ => rfl
  | n + 1, i, h => by
    show uw _ + _ = uw _ + _
    rw [h i (Nat.le_refl _) (by omega), wv_cg n (i + 1) (fun j h1 h2 => h j (by omega) (by omega))]
theorem wv_lt {l : List Int32} : ∀ (n i : Nat), wv l i n < 4294967296 ^ n
  | 0, _ => by simp [wv]
  | n + 1, i => by
    have h1 := wv_lt (l := l) n (i + 1)
    have h2 := uw_lt (l.getD i 0)
    show uw _ + 4294967296 * wv l (i + 1) n < _
    rw [Nat.pow_succ]
    omega
theorem wv_app {l : List Int32} (m : Nat) : ∀ (n i : Nat), wv l i (n + m) = wv l i n + 4294967296 ^ n * wv l (i + n) m
  | 0, i => by simp [wv]
  | n + 1, i => by
    have ih := wv_app (l := l) m n (i + 1)
    rw [show n + 1 + m = (n + m) + 1 by omega]
    show uw _ + 4294967296 * wv l (i + 1) (n + m) = uw _ + 4294967296 * wv l (i + 1) n + _
    rw [ih, show i + 1 + n = i + (n + 1) by omega, Nat.pow_succ, Nat.mul_add, Nat.mul_comm (4294967296 ^ n) 4294967296, Nat.mul_assoc]
    omega
theorem wv_top {l : List Int32} (n i : Nat) : wv l i (n + 1) = wv l i n + 4294967296 ^ n * uw (l.getD (i + n) 0) := by
  rw [wv_app 1 n i]
  simp [wv]
def Wd (M : kf_M) (a v : Nat) : Prop := ∃ l : List Int32, M[a]? = some (oI l) ∧ l.length = 8 ∧ wv l 0 8 = v
def War (M : kf_M) (a : Nat) : Prop := ∃ l : List Int32, M[a]? = some (oI l) ∧ l.length = 8
theorem Wd.ar {M : kf_M} {a v : Nat} (h : Wd M a v) : War M a := by
  obtain ⟨l, h1, h2, -⟩ := h
  exact ⟨l, h1, h2⟩
theorem Wd.lt {M : kf_M} {a v : Nat} (h : Wd M a v) : v < 2 ^ 256 := by
  obtain ⟨l, -, -, rfl⟩ := h
  exact wv_lt 8 0
theorem Wd.off {M M' : kf_M} {A : List Nat} {a v : Nat} (h : Wd M a v) (ho : Off A M M') (h0 : a ∉ A) : Wd M' a v := by
  obtain ⟨l, h1, h2⟩ := h
  exact ⟨l, ho.at h0 h1, h2⟩
theorem War.off {M M' : kf_M} {A : List Nat} {a : Nat} (h : War M a) (ho : Off A M M') (h0 : a ∉ A) : War M' a := by
  obtain ⟨l, h1, h2⟩ := h
  exact ⟨l, ho.at h0 h1, h2⟩
theorem rdI {M : kf_M} {to a i : Nat} {X la : List Int32} (hl : to < M.length) (ha : a ≠ to → gI M a = some la) (he : a = to → X.getD i 0 = la.getD i 0) (h1 : i < X.length) (h2 : i < la.length) : ∃ xs, gI (M.set to (oI X)) a = some xs ∧ xs[i]? = some (la.getD i 0) := by
  by_cases q : a = to
  · subst q
    exact ⟨X, gI_self hl, by rw [getD_of h1, he rfl]⟩
  · exact ⟨la, by rw [gI_ne (Ne.symm q)]; exact ha q, getD_of h2⟩
theorem set_id {M : kf_M} {a : Nat} {ob : kf_Ob} (g : M[a]? = some ob) : M.set a ob = M := jset_id g
theorem oI_in {M : kf_M} {a : Nat} {x y : List Int32} (h1 : M[a]? = some (oI x)) (h2 : M[a]? = some (oI y)) : x = y := by
  rw [h1] at h2
  injection h2 with h2
  injection h2 with h2
  injection h2 with h2
/-! add -/
theorem c142l {M : kf_M} {to a b : Nat} {la lb : List Int32} (hto : 19 ≤ to) (hl : to < M.length) (ha : a ≠ to → gI M a = some la) (hb : b ≠ to → gI M b = some lb) (lla : la.length = 8) (llb : lb.length = 8) : ∀ (n i : Nat) (c : Int64) (X : List Int32), i + n = 8 → X.length = 8 → jw c ≤ 1 → (a = to → ∀ j, i ≤ j → X.getD j 0 = la.getD j 0) → (b = to → ∀ j, i ≤ j → X.getD j 0 = lb.getD j 0) → ∃ (R : List Int32) (c' : Int64), kf_ev 142 5 [some (.ref to), some (.ref a), some (.ref b), some (.long c), none, some (.int (nI i))] [] (M.set to (oI X)) = some (some (.int c'.toInt32), M.set to (oI R)) ∧ R.length = 8 ∧ jw c' ≤ 1 ∧ (∀ j, j < i → R.getD j 0 = X.getD j 0) ∧ wv R i n + 4294967296 ^ n * jw c' = wv la i n + wv lb i n + jw c := by
  intro n
  induction n with
  | zero =>
    intro i c X hi hX hc hA hB
    have hi : i = 8 := by omega
    subst hi
    have e : (8 : Int32) ≤ nI 8 := by decide
    refine ⟨X, c, (e142_5 _ _ _).trans ?_, hX, hc, fun _ _ => rfl, by simp [wv]⟩
    simp only [cl_142, e142_0, e142_1, e142_2, e142_3, e142_7, e142_9, e142_12, e142_13, e142_14, e142_16, e142_17, e142_18, e142_21, e142_22, e142_23, e142_25, e142_26, e142_27, e142_30, e142_31, e142_32, e142_33, e142_34, e142_35, e142_37, e142_38, e142_39, e142_40, e142_41, e142_43, e142_44, e142_45, e142_48, e142_51, e142_52, e142_53, ow_142, Int32.reduceOfInt, Int32.reduceOfNat, Int32.reduceToNatClampNeg, Int32.reduceLT, Int32.reduceLE, Int32.reduceAdd, Int32.reduceSub, Int32.reduceMul, Int64.reduceOfNat, Int64.reduceOfInt, Nat.reduceLeDiff, Nat.reduceLT, Nat.reduceEqDiff, Nat.reduceSub, cs_0, cs_1, cs_2, cs_3, cs_4, cs_5, cs_6, cs_7, cs_8, or_false, false_or, not_false_eq_true, and_true, true_and, if_true, if_false, List.length_cons, List.length_nil, List.getElem?_cons_succ, List.getElem?_cons_zero, List.set_cons_succ, List.set_cons_zero, reduceIte, d_G, d_R, s_aload, s_aload_n, s_iload, s_iload_n, s_lload, s_lload_n, s_istore, s_istore_n, s_astore, s_astoreN, s_astore_n, s_astore_nN, s_lstore, s_lstore_n, s_iinc, s_iconst, s_bipush, s_sipush, s_lconst, s_ldc2_w, s_aconst_null, s_dupA, s_dupI, s_dup2, s_iadd, s_isub, s_imul, s_iand, s_ior, s_ixor, s_ishl, s_ishr, s_iushr, s_ineg, s_idiv, s_irem, s_ladd, s_lsub, s_lmul, s_land, s_lor, s_lxor, s_ldiv, s_lshl, s_lshr, s_lushr, s_i2l, s_l2i, s_lcmp, s_goto, s_ieq, s_ine, s_ilt, s_ige, s_igt, s_ile, s_zeq, s_zne, s_zlt, s_zge, s_zgt, s_zle, s_ifnull, s_ifnullN, s_ifnonnull, s_ifnonnullN, s_tableswitch, s_lookupswitch, s_getfield, s_putfield, s_getstatic, s_iaload, s_laload, s_baload, s_aaload, s_iastore, s_lastore, s_bastore, s_aastore, s_arraylength, s_newI, s_newJ, s_newZ, s_anewarray, s_new, s_copy, s_max, s_min, s_invokestatic, s_objinit, s_invokespecial, kf_isr_r, s_invokevirtual, s_ireturn, s_lreturn, s_areturn, s_areturnN, s_return, lI_0, lI_s, lJ_0, lJ_s, lA_0, lA_0N, lA_s, lS1_0, lS1_1, lS1_2, lS2_0, lS2_1, lS2_2, lK_n, lK_i, lK_j, lK_a, lK_N, d_C', kf_w_0, kf_w_i, kf_w_a, kf_w_n, kf_w_j, c_0, c_1, c_2, c_3, c_4, c_5, c_6, tl_0, tl_1, Option.bind_some, Option.bind_none, Option.map_some, Nat.reduceAdd, Nat.reduceMul, Nat.reduceDiv, Nat.reduceMod, Int.reduceToNat, Fin.val_zero, Fin.isValue, Fin.val_one, Fin.val_two, fv_0, fv_1, fv_2, fv_3, fw_0, fw_1, d_ite, true_or, or_true, and_false, false_and, or_self, and_self, e]
  | succ n ih =>
    intro i c X hi hX hc hA hB
    have e : ¬ (8 : Int32) ≤ nI i := nI_ge (a := i) (b := 8) (by omega) (by omega)
    have p0 : ¬ nI i < 0 := nI_pos (by omega)
    have p1 : (nI i).toNatClampNeg = i := nI_clamp (by omega)
    obtain ⟨xa, g1, g2⟩ := rdI (i := i) hl ha (fun q => hA q i (Nat.le_refl _)) (by omega) (by omega)
    obtain ⟨xb, g3, g4⟩ := rdI (i := i) hl hb (fun q => hB q i (Nat.le_refl _)) (by omega) (by omega)
    have g5 : gI (M.set to (oI X)) to = some X := gI_self hl
    have n1 : ¬ to < 19 := by omega
    have n2 : ¬ X.length ≤ i := by omega
    obtain ⟨s, hs⟩ : ∃ s : Int64, s = c + (((la.getD i 0).toInt64 &&& 4294967295) + ((lb.getD i 0).toInt64 &&& 4294967295)) := ⟨_, rfl⟩
    have js : jw s = jw c + uw (la.getD i 0) + uw (lb.getD i 0) := by
      rw [hs, jw_ad, jw_ad, jw_x, jw_x]
      have := uw_lt (la.getD i 0)
      have := uw_lt (lb.getD i 0)
      omega
    have k1 := uw_lt (la.getD i 0)
    have k2 := uw_lt (lb.getD i 0)
    have k3 := jw_sh s
    have k4 := uw_lj s
    obtain ⟨R, c', r1, r2, r3, r4, r5⟩ := ih (i + 1) (kf_lush s 32) (X.set i s.toInt32) (by omega) (by rw [List.length_set]; exact hX) (by omega) (fun q j hj => by rw [gD_ne (by omega)]; exact hA q j (by omega)) (fun q j hj => by rw [gD_ne (by omega)]; exact hB q j (by omega))
    refine ⟨R, c', (e142_5 _ _ _).trans (Eq.trans ?_ r1), r2, r3, fun j hj => by rw [r4 j (by omega), gD_ne (by omega)], ?_⟩
    · simp only [cl_142, e142_0, e142_1, e142_2, e142_3, e142_7, e142_9, e142_12, e142_13, e142_14, e142_16, e142_17, e142_18, e142_21, e142_22, e142_23, e142_25, e142_26, e142_27, e142_30, e142_31, e142_32, e142_33, e142_34, e142_35, e142_37, e142_38, e142_39, e142_40, e142_41, e142_43, e142_44, e142_45, e142_48, e142_51, e142_52, e142_53, ow_142, Int32.reduceOfInt, Int32.reduceOfNat, Int32.reduceToNatClampNeg, Int32.reduceLT, Int32.reduceLE, Int32.reduceAdd, Int32.reduceSub, Int32.reduceMul, Int64.reduceOfNat, Int64.reduceOfInt, Nat.reduceLeDiff, Nat.reduceLT, Nat.reduceEqDiff, Nat.reduceSub, cs_0, cs_1, cs_2, cs_3, cs_4, cs_5, cs_6, cs_7, cs_8, or_false, false_or, not_false_eq_true, and_true, true_and, if_true, if_false, List.length_cons, List.length_nil, List.getElem?_cons_succ, List.getElem?_cons_zero, List.set_cons_succ, List.set_cons_zero, reduceIte, d_G, d_R, s_aload, s_aload_n, s_iload, s_iload_n, s_lload, s_lload_n, s_istore, s_istore_n, s_astore, s_astoreN, s_astore_n, s_astore_nN, s_lstore, s_lstore_n, s_iinc, s_iconst, s_bipush, s_sipush, s_lconst, s_ldc2_w, s_aconst_null, s_dupA, s_dupI, s_dup2, s_iadd, s_isub, s_imul, s_iand, s_ior, s_ixor, s_ishl, s_ishr, s_iushr, s_ineg, s_idiv, s_irem, s_ladd, s_lsub, s_lmul, s_land, s_lor, s_lxor, s_ldiv, s_lshl, s_lshr, s_lushr, s_i2l, s_l2i, s_lcmp, s_goto, s_ieq, s_ine, s_ilt, s_ige, s_igt, s_ile, s_zeq, s_zne, s_zlt, s_zge, s_zgt, s_zle, s_ifnull, s_ifnullN, s_ifnonnull, s_ifnonnullN, s_tableswitch, s_lookupswitch, s_getfield, s_putfield, s_getstatic, s_iaload, s_laload, s_baload, s_aaload, s_iastore, s_lastore, s_bastore, s_aastore, s_arraylength, s_newI, s_newJ, s_newZ, s_anewarray, s_new, s_copy, s_max, s_min, s_invokestatic, s_objinit, s_invokespecial, kf_isr_r, s_invokevirtual, s_ireturn, s_lreturn, s_areturn, s_areturnN, s_return, lI_0, lI_s, lJ_0, lJ_s, lA_0, lA_0N, lA_s, lS1_0, lS1_1, lS1_2, lS2_0, lS2_1, lS2_2, lK_n, lK_i, lK_j, lK_a, lK_N, d_C', kf_w_0, kf_w_i, kf_w_a, kf_w_n, kf_w_j, c_0, c_1, c_2, c_3, c_4, c_5, c_6, tl_0, tl_1, Option.bind_some, Option.bind_none, Option.map_some, Nat.reduceAdd, Nat.reduceMul, Nat.reduceDiv, Nat.reduceMod, Int.reduceToNat, Fin.val_zero, Fin.isValue, Fin.val_one, Fin.val_two, fv_0, fv_1, fv_2, fv_3, fw_0, fw_1, d_ite, true_or, or_true, and_false, false_and, or_self, and_self, e, g1, g2, g3, g4, g5, n1, n2, p0, p1, kf_NS, nI_1, List.set_set, ← hs]
    · have r6 := r4 i (by omega)
      rw [gD_self (by omega)] at r6
      show uw (R.getD i 0) + 4294967296 * wv R (i + 1) n + _ = (uw (la.getD i 0) + 4294967296 * wv la (i + 1) n) + (uw (lb.getD i 0) + 4294967296 * wv lb (i + 1) n) + _
      rw [r6, Nat.pow_succ, Nat.mul_comm (4294967296 ^ n) 4294967296, Nat.mul_assoc]
      generalize 4294967296 ^ n * jw c' = Q at *
      omega
theorem p8 : (4294967296 : Nat) ^ 8 = 2 ^ 256 := by decide +kernel
theorem n142 {M : kf_M} {to a b va vb : Nat} (ha : Wd M a va) (hb : Wd M b vb) (ht : War M to) (hto : 19 ≤ to) : ∃ M', kf_cl 142 [.ref to, .ref a, .ref b] M = some (some (.int (if va + vb < 2 ^ 256 then 0 else 1)), M') ∧ Wd M' to ((va + vb) % 2 ^ 256) ∧ Off [to] M M' := by
  obtain ⟨la, ga, la8, ea⟩ := ha
  obtain ⟨lb, gb, lb8, eb⟩ := hb
  obtain ⟨lt, gt, lt8⟩ := ht
  have j0 : jw 0 = 0 := rfl
  obtain ⟨R, c', r1, r2, r3, -, r5⟩ := c142l (M := M) hto (m_lt gt) (fun _ => gI_of ga) (fun _ => gI_of gb) la8 lb8 8 0 0 lt rfl lt8 (by decide) (fun q j _ => by subst q; rw [oI_in gt ga]) (fun q j _ => by subst q; rw [oI_in gt gb])
  rw [set_id gt, nI_0] at r1
  have hw := wv_lt (l := R) 8 0
  rw [p8] at hw r5
  rw [ea, eb, j0] at r5
  have hc : c'.toInt32 = if va + vb < 2 ^ 256 then 0 else 1 := by
    apply uw_inj
    rw [uw_lj]
    split
    · rename_i q
      have : jw c' = 0 := by omega
      rw [this]; rfl
    · rename_i q
      have : jw c' = 1 := by omega
      rw [this]; rfl
  refine ⟨_, by (simp only [cl_142, e142_0, e142_1, e142_2, e142_3, e142_7, e142_9, e142_12, e142_13, e142_14, e142_16, e142_17, e142_18, e142_21, e142_22, e142_23, e142_25, e142_26, e142_27, e142_30, e142_31, e142_32, e142_33, e142_34, e142_35, e142_37, e142_38, e142_39, e142_40, e142_41, e142_43, e142_44, e142_45, e142_48, e142_51, e142_52, e142_53, ow_142, Int32.reduceOfInt, Int32.reduceOfNat, Int32.reduceToNatClampNeg, Int32.reduceLT, Int32.reduceLE, Int32.reduceAdd, Int32.reduceSub, Int32.reduceMul, Int64.reduceOfNat, Int64.reduceOfInt, Nat.reduceLeDiff, Nat.reduceLT, Nat.reduceEqDiff, Nat.reduceSub, cs_0, cs_1, cs_2, cs_3, cs_4, cs_5, cs_6, cs_7, cs_8, or_false, false_or, not_false_eq_true, and_true, true_and, if_true, if_false, List.length_cons, List.length_nil, List.getElem?_cons_succ, List.getElem?_cons_zero, List.set_cons_succ, List.set_cons_zero, reduceIte, d_G, d_R, s_aload, s_aload_n, s_iload, s_iload_n, s_lload, s_lload_n, s_istore, s_istore_n, s_astore, s_astoreN, s_astore_n, s_astore_nN, s_lstore, s_lstore_n, s_iinc, s_iconst, s_bipush, s_sipush, s_lconst, s_ldc2_w, s_aconst_null, s_dupA, s_dupI, s_dup2, s_iadd, s_isub, s_imul, s_iand, s_ior, s_ixor, s_ishl, s_ishr, s_iushr, s_ineg, s_idiv, s_irem, s_ladd, s_lsub, s_lmul, s_land, s_lor, s_lxor, s_ldiv, s_lshl, s_lshr, s_lushr, s_i2l, s_l2i, s_lcmp, s_goto, s_ieq, s_ine, s_ilt, s_ige, s_igt, s_ile, s_zeq, s_zne, s_zlt, s_zge, s_zgt, s_zle, s_ifnull, s_ifnullN, s_ifnonnull, s_ifnonnullN, s_tableswitch, s_lookupswitch, s_getfield, s_putfield, s_getstatic, s_iaload, s_laload, s_baload, s_aaload, s_iastore, s_lastore, s_bastore, s_aastore, s_arraylength, s_newI, s_newJ, s_newZ, s_anewarray, s_new, s_copy, s_max, s_min, s_invokestatic, s_objinit, s_invokespecial, kf_isr_r, s_invokevirtual, s_ireturn, s_lreturn, s_areturn, s_areturnN, s_return, lI_0, lI_s, lJ_0, lJ_s, lA_0, lA_0N, lA_s, lS1_0, lS1_1, lS1_2, lS2_0, lS2_1, lS2_2, lK_n, lK_i, lK_j, lK_a, lK_N, d_C', kf_w_0, kf_w_i, kf_w_a, kf_w_n, kf_w_j, c_0, c_1, c_2, c_3, c_4, c_5, c_6, tl_0, tl_1, Option.bind_some, Option.bind_none, Option.map_some, Nat.reduceAdd, Nat.reduceMul, Nat.reduceDiv, Nat.reduceMod, Int.reduceToNat, Fin.val_zero, Fin.isValue, Fin.val_one, Fin.val_two, fv_0, fv_1, fv_2, fv_3, fw_0, fw_1, d_ite, true_or, or_true, and_false, false_and, or_self, and_self, r1, hc]), ⟨R, m_self (m_lt gt), r2, by omega⟩, Off.set (by simp)⟩
/-! take -/
theorem c143l {M : kf_M} {to a b : Nat} {la lb : List Int32} (hto : 19 ≤ to) (hl : to < M.length) (ha : a ≠ to → gI M a = some la) (hb : b ≠ to → gI M b = some lb) (lla : la.length = 8) (llb : lb.length = 8) : ∀ (n i : Nat) (c : Int64) (X : List Int32), i + n = 8 → X.length = 8 → -1 ≤ c.toInt ∧ c.toInt ≤ 0 → (a = to → ∀ j, i ≤ j → X.getD j 0 = la.getD j 0) → (b = to → ∀ j, i ≤ j → X.getD j 0 = lb.getD j 0) → ∃ (R : List Int32) (c' : Int), kf_ev 143 5 [some (.ref to), some (.ref a), some (.ref b), some (.long c), none, some (.int (nI i))] [] (M.set to (oI X)) = some (none, M.set to (oI R)) ∧ R.length = 8 ∧ (-1 ≤ c' ∧ c' ≤ 0) ∧ (∀ j, j < i → R.getD j 0 = X.getD j 0) ∧ (wv R i n : Int) + (4294967296 ^ n : Nat) * c' = wv la i n - wv lb i n + c.toInt := by
  intro n
  induction n with
  | zero =>
    intro i c X hi hX hc hA hB
    have hi : i = 8 := by omega
    subst hi
    have e : (8 : Int32) ≤ nI 8 := by decide
    refine ⟨X, c.toInt, (e143_5 _ _ _).trans ?_, hX, hc, fun _ _ => rfl, by simp [wv]⟩
    simp only [cl_143, e143_0, e143_1, e143_2, e143_3, e143_7, e143_9, e143_12, e143_13, e143_14, e143_16, e143_17, e143_18, e143_21, e143_22, e143_23, e143_25, e143_26, e143_27, e143_30, e143_31, e143_32, e143_33, e143_34, e143_35, e143_37, e143_38, e143_39, e143_40, e143_41, e143_43, e143_44, e143_45, e143_48, e143_51, ow_143, Int32.reduceOfInt, Int32.reduceOfNat, Int32.reduceToNatClampNeg, Int32.reduceLT, Int32.reduceLE, Int32.reduceAdd, Int32.reduceSub, Int32.reduceMul, Int64.reduceOfNat, Int64.reduceOfInt, Nat.reduceLeDiff, Nat.reduceLT, Nat.reduceEqDiff, Nat.reduceSub, cs_0, cs_1, cs_2, cs_3, cs_4, cs_5, cs_6, cs_7, cs_8, or_false, false_or, not_false_eq_true, and_true, true_and, if_true, if_false, List.length_cons, List.length_nil, List.getElem?_cons_succ, List.getElem?_cons_zero, List.set_cons_succ, List.set_cons_zero, reduceIte, d_G, d_R, s_aload, s_aload_n, s_iload, s_iload_n, s_lload, s_lload_n, s_istore, s_istore_n, s_astore, s_astoreN, s_astore_n, s_astore_nN, s_lstore, s_lstore_n, s_iinc, s_iconst, s_bipush, s_sipush, s_lconst, s_ldc2_w, s_aconst_null, s_dupA, s_dupI, s_dup2, s_iadd, s_isub, s_imul, s_iand, s_ior, s_ixor, s_ishl, s_ishr, s_iushr, s_ineg, s_idiv, s_irem, s_ladd, s_lsub, s_lmul, s_land, s_lor, s_lxor, s_ldiv, s_lshl, s_lshr, s_lushr, s_i2l, s_l2i, s_lcmp, s_goto, s_ieq, s_ine, s_ilt, s_ige, s_igt, s_ile, s_zeq, s_zne, s_zlt, s_zge, s_zgt, s_zle, s_ifnull, s_ifnullN, s_ifnonnull, s_ifnonnullN, s_tableswitch, s_lookupswitch, s_getfield, s_putfield, s_getstatic, s_iaload, s_laload, s_baload, s_aaload, s_iastore, s_lastore, s_bastore, s_aastore, s_arraylength, s_newI, s_newJ, s_newZ, s_anewarray, s_new, s_copy, s_max, s_min, s_invokestatic, s_objinit, s_invokespecial, kf_isr_r, s_invokevirtual, s_ireturn, s_lreturn, s_areturn, s_areturnN, s_return, lI_0, lI_s, lJ_0, lJ_s, lA_0, lA_0N, lA_s, lS1_0, lS1_1, lS1_2, lS2_0, lS2_1, lS2_2, lK_n, lK_i, lK_j, lK_a, lK_N, d_C', kf_w_0, kf_w_i, kf_w_a, kf_w_n, kf_w_j, c_0, c_1, c_2, c_3, c_4, c_5, c_6, tl_0, tl_1, Option.bind_some, Option.bind_none, Option.map_some, Nat.reduceAdd, Nat.reduceMul, Nat.reduceDiv, Nat.reduceMod, Int.reduceToNat, Fin.val_zero, Fin.isValue, Fin.val_one, Fin.val_two, fv_0, fv_1, fv_2, fv_3, fw_0, fw_1, d_ite, true_or, or_true, and_false, false_and, or_self, and_self, e]
  | succ n ih =>
    intro i c X hi hX hc hA hB
    have e : ¬ (8 : Int32) ≤ nI i := nI_ge (a := i) (b := 8) (by omega) (by omega)
    have p0 : ¬ nI i < 0 := nI_pos (by omega)
    have p1 : (nI i).toNatClampNeg = i := nI_clamp (by omega)
    obtain ⟨xa, g1, g2⟩ := rdI (i := i) hl ha (fun q => hA q i (Nat.le_refl _)) (by omega) (by omega)
    obtain ⟨xb, g3, g4⟩ := rdI (i := i) hl hb (fun q => hB q i (Nat.le_refl _)) (by omega) (by omega)
    have g5 : gI (M.set to (oI X)) to = some X := gI_self hl
    have n1 : ¬ to < 19 := by omega
    have n2 : ¬ X.length ≤ i := by omega
    have k1 := uw_lt (la.getD i 0)
    have k2 := uw_lt (lb.getD i 0)
    obtain ⟨s, hs⟩ : ∃ s : Int64, s = c + (((la.getD i 0).toInt64 &&& 4294967295) - ((lb.getD i 0).toInt64 &&& 4294967295)) := ⟨_, rfl⟩
    have js : s.toInt = c.toInt + ((uw (la.getD i 0) : Int) - uw (lb.getD i 0)) := by
      rw [hs]
      exact (i64_ad (B := 1) (C := 8589934592) ⟨rfl, by omega, by omega⟩ (i64_sb (B := 4294967296) (C := 4294967296) ⟨ji_x _, by omega, by omega⟩ ⟨ji_x _, by omega, by omega⟩ (by decide)) (by decide)).1
    have k3 := ji_sr s
    have k4 := uw_l s
    obtain ⟨R, c', r1, r2, r3, r4, r5⟩ := ih (i + 1) (s >>> ((32 : Int32).toInt64 &&& 63)) (X.set i s.toInt32) (by omega) (by rw [List.length_set]; exact hX) (by omega) (fun q j hj => by rw [gD_ne (by omega)]; exact hA q j (by omega)) (fun q j hj => by rw [gD_ne (by omega)]; exact hB q j (by omega))
    refine ⟨R, c', (e143_5 _ _ _).trans (Eq.trans ?_ r1), r2, r3, fun j hj => by rw [r4 j (by omega), gD_ne (by omega)], ?_⟩
    · simp only [cl_143, e143_0, e143_1, e143_2, e143_3, e143_7, e143_9, e143_12, e143_13, e143_14, e143_16, e143_17, e143_18, e143_21, e143_22, e143_23, e143_25, e143_26, e143_27, e143_30, e143_31, e143_32, e143_33, e143_34, e143_35, e143_37, e143_38, e143_39, e143_40, e143_41, e143_43, e143_44, e143_45, e143_48, e143_51, ow_143, Int32.reduceOfInt, Int32.reduceOfNat, Int32.reduceToNatClampNeg, Int32.reduceLT, Int32.reduceLE, Int32.reduceAdd, Int32.reduceSub, Int32.reduceMul, Int64.reduceOfNat, Int64.reduceOfInt, Nat.reduceLeDiff, Nat.reduceLT, Nat.reduceEqDiff, Nat.reduceSub, cs_0, cs_1, cs_2, cs_3, cs_4, cs_5, cs_6, cs_7, cs_8, or_false, false_or, not_false_eq_true, and_true, true_and, if_true, if_false, List.length_cons, List.length_nil, List.getElem?_cons_succ, List.getElem?_cons_zero, List.set_cons_succ, List.set_cons_zero, reduceIte, d_G, d_R, s_aload, s_aload_n, s_iload, s_iload_n, s_lload, s_lload_n, s_istore, s_istore_n, s_astore, s_astoreN, s_astore_n, s_astore_nN, s_lstore, s_lstore_n, s_iinc, s_iconst, s_bipush, s_sipush, s_lconst, s_ldc2_w, s_aconst_null, s_dupA, s_dupI, s_dup2, s_iadd, s_isub, s_imul, s_iand, s_ior, s_ixor, s_ishl, s_ishr, s_iushr, s_ineg, s_idiv, s_irem, s_ladd, s_lsub, s_lmul, s_land, s_lor, s_lxor, s_ldiv, s_lshl, s_lshr, s_lushr, s_i2l, s_l2i, s_lcmp, s_goto, s_ieq, s_ine, s_ilt, s_ige, s_igt, s_ile, s_zeq, s_zne, s_zlt, s_zge, s_zgt, s_zle, s_ifnull, s_ifnullN, s_ifnonnull, s_ifnonnullN, s_tableswitch, s_lookupswitch, s_getfield, s_putfield, s_getstatic, s_iaload, s_laload, s_baload, s_aaload, s_iastore, s_lastore, s_bastore, s_aastore, s_arraylength, s_newI, s_newJ, s_newZ, s_anewarray, s_new, s_copy, s_max, s_min, s_invokestatic, s_objinit, s_invokespecial, kf_isr_r, s_invokevirtual, s_ireturn, s_lreturn, s_areturn, s_areturnN, s_return, lI_0, lI_s, lJ_0, lJ_s, lA_0, lA_0N, lA_s, lS1_0, lS1_1, lS1_2, lS2_0, lS2_1, lS2_2, lK_n, lK_i, lK_j, lK_a, lK_N, d_C', kf_w_0, kf_w_i, kf_w_a, kf_w_n, kf_w_j, c_0, c_1, c_2, c_3, c_4, c_5, c_6, tl_0, tl_1, Option.bind_some, Option.bind_none, Option.map_some, Nat.reduceAdd, Nat.reduceMul, Nat.reduceDiv, Nat.reduceMod, Int.reduceToNat, Fin.val_zero, Fin.isValue, Fin.val_one, Fin.val_two, fv_0, fv_1, fv_2, fv_3, fw_0, fw_1, d_ite, true_or, or_true, and_false, false_and, or_self, and_self, e, g1, g2, g3, g4, g5, n1, n2, p0, p1, kf_NS, nI_1, List.set_set, ← hs]
    · have r6 := r4 i (by omega)
      rw [gD_self (by omega)] at r6
      show ((uw (R.getD i 0) + 4294967296 * wv R (i + 1) n : Nat) : Int) + _ = ((uw (la.getD i 0) + 4294967296 * wv la (i + 1) n : Nat) : Int) - ((uw (lb.getD i 0) + 4294967296 * wv lb (i + 1) n : Nat) : Int) + _
      rw [r6, Nat.pow_succ, Nat.mul_comm (4294967296 ^ n) 4294967296, Int.natCast_mul, Int.mul_assoc]
      generalize ((4294967296 ^ n : Nat) : Int) * c' = Q at *
      omega
theorem n143 {M : kf_M} {to a b va vb : Nat} (ha : Wd M a va) (hb : Wd M b vb) (ht : War M to) (hto : 19 ≤ to) : ∃ M', kf_cl 143 [.ref to, .ref a, .ref b] M = some (none, M') ∧ Wd M' to ((va + (2 ^ 256 - vb)) % 2 ^ 256) ∧ Off [to] M M' := by
  have lva := ha.lt
  have lvb := hb.lt
  obtain ⟨la, ga, la8, ea⟩ := ha
  obtain ⟨lb, gb, lb8, eb⟩ := hb
  obtain ⟨lt, gt, lt8⟩ := ht
  have j0 : (0 : Int64).toInt = 0 := rfl
  obtain ⟨R, c', r1, r2, r3, -, r5⟩ := c143l (M := M) hto (m_lt gt) (fun _ => gI_of ga) (fun _ => gI_of gb) la8 lb8 8 0 0 lt rfl lt8 (by decide) (fun q j _ => by subst q; rw [oI_in gt ga]) (fun q j _ => by subst q; rw [oI_in gt gb])
  rw [set_id gt, nI_0] at r1
  have hw := wv_lt (l := R) 8 0
  rw [p8] at hw r5
  rw [ea, eb, j0] at r5
  refine ⟨_, by (simp only [cl_143, e143_0, e143_1, e143_2, e143_3, e143_7, e143_9, e143_12, e143_13, e143_14, e143_16, e143_17, e143_18, e143_21, e143_22, e143_23, e143_25, e143_26, e143_27, e143_30, e143_31, e143_32, e143_33, e143_34, e143_35, e143_37, e143_38, e143_39, e143_40, e143_41, e143_43, e143_44, e143_45, e143_48, e143_51, ow_143, Int32.reduceOfInt, Int32.reduceOfNat, Int32.reduceToNatClampNeg, Int32.reduceLT, Int32.reduceLE, Int32.reduceAdd, Int32.reduceSub, Int32.reduceMul, Int64.reduceOfNat, Int64.reduceOfInt, Nat.reduceLeDiff, Nat.reduceLT, Nat.reduceEqDiff, Nat.reduceSub, cs_0, cs_1, cs_2, cs_3, cs_4, cs_5, cs_6, cs_7, cs_8, or_false, false_or, not_false_eq_true, and_true, true_and, if_true, if_false, List.length_cons, List.length_nil, List.getElem?_cons_succ, List.getElem?_cons_zero, List.set_cons_succ, List.set_cons_zero, reduceIte, d_G, d_R, s_aload, s_aload_n, s_iload, s_iload_n, s_lload, s_lload_n, s_istore, s_istore_n, s_astore, s_astoreN, s_astore_n, s_astore_nN, s_lstore, s_lstore_n, s_iinc, s_iconst, s_bipush, s_sipush, s_lconst, s_ldc2_w, s_aconst_null, s_dupA, s_dupI, s_dup2, s_iadd, s_isub, s_imul, s_iand, s_ior, s_ixor, s_ishl, s_ishr, s_iushr, s_ineg, s_idiv, s_irem, s_ladd, s_lsub, s_lmul, s_land, s_lor, s_lxor, s_ldiv, s_lshl, s_lshr, s_lushr, s_i2l, s_l2i, s_lcmp, s_goto, s_ieq, s_ine, s_ilt, s_ige, s_igt, s_ile, s_zeq, s_zne, s_zlt, s_zge, s_zgt, s_zle, s_ifnull, s_ifnullN, s_ifnonnull, s_ifnonnullN, s_tableswitch, s_lookupswitch, s_getfield, s_putfield, s_getstatic, s_iaload, s_laload, s_baload, s_aaload, s_iastore, s_lastore, s_bastore, s_aastore, s_arraylength, s_newI, s_newJ, s_newZ, s_anewarray, s_new, s_copy, s_max, s_min, s_invokestatic, s_objinit, s_invokespecial, kf_isr_r, s_invokevirtual, s_ireturn, s_lreturn, s_areturn, s_areturnN, s_return, lI_0, lI_s, lJ_0, lJ_s, lA_0, lA_0N, lA_s, lS1_0, lS1_1, lS1_2, lS2_0, lS2_1, lS2_2, lK_n, lK_i, lK_j, lK_a, lK_N, d_C', kf_w_0, kf_w_i, kf_w_a, kf_w_n, kf_w_j, c_0, c_1, c_2, c_3, c_4, c_5, c_6, tl_0, tl_1, Option.bind_some, Option.bind_none, Option.map_some, Nat.reduceAdd, Nat.reduceMul, Nat.reduceDiv, Nat.reduceMod, Int.reduceToNat, Fin.val_zero, Fin.isValue, Fin.val_one, Fin.val_two, fv_0, fv_1, fv_2, fv_3, fw_0, fw_1, d_ite, true_or, or_true, and_false, false_and, or_self, and_self, r1]), ⟨R, m_self (m_lt gt), r2, ?_⟩, Off.set (by simp)⟩
  have hc : c' = -1 ∨ c' = 0 := by omega
  rcases hc with rfl | rfl <;> omega
/-! isLess -/
theorem cmpx {P x y a b : Nat} (ha : a < P) (hb : b < P) (hn : x ≠ y) : (a + P * x < b + P * y) = (x < y) := by
  apply propext
  constructor
  · intro h
    apply Classical.byContradiction
    intro q
    have : y + 1 ≤ x := by omega
    have := Nat.mul_le_mul_left P this
    rw [Nat.mul_add, Nat.mul_one] at this
    omega
  · intro h
    have := Nat.mul_le_mul_left P (show x + 1 ≤ y from h)
    rw [Nat.mul_add, Nat.mul_one] at this
    omega
theorem c137l {M : kf_M} {a b : Nat} {la lb : List Int32} (ga : gI M a = some la) (gb : gI M b = some lb) (l1 : la.length = 8) (l2 : lb.length = 8) : ∀ n, n < 8 → kf_ev 137 3 [some (.ref a), some (.ref b), some (.int (nI n))] [] M = some (some (.int (if wv la 0 (n + 1) < wv lb 0 (n + 1) then 1 else 0)), M) := by
  intro n
  induction n with
  | zero =>
    intro _
    have p0 : ¬ nI 0 < 0 := nI_pos (by omega)
    have p1 : (nI 0).toNatClampNeg = 0 := nI_clamp (by omega)
    have w0 := getD_of (xs := la) (i := 0) (by omega)
    have w1 := getD_of (xs := lb) (i := 0) (by omega)
    have wa : wv la 0 (0 + 1) = uw (la.getD 0 0) := by simp [wv]
    have wb : wv lb 0 (0 + 1) = uw (lb.getD 0 0) := by simp [wv]
    rw [wa, wb]
    have p2 : nI 0 + -1 < 0 := by decide
    have s1 : ((la.getD 0 0).toInt64 &&& 4294967295 < (lb.getD 0 0).toInt64 &&& 4294967295) = (uw (la.getD 0 0) < uw (lb.getD 0 0)) := by
      rw [Int64.lt_iff_toInt_lt, ji_x, ji_x]
      apply propext; omega
    refine (e137_3 _ _ _).trans ?_
    by_cases q : la.getD 0 0 = lb.getD 0 0
    · have e1 : ∀ x : Nat, ¬ x < x := fun x => Nat.lt_irrefl x
      have e2 : kf_ev 137 3 [some (.ref a), some (.ref b), some (.int (nI 0 + -1))] [] M = some (some (.int 0), M) := by
        refine (e137_3 _ _ _).trans ?_
        simp only [cl_137, e137_0, e137_2, e137_4, e137_7, e137_8, e137_9, e137_10, e137_11, e137_12, e137_13, e137_16, e137_17, e137_18, e137_19, e137_20, e137_23, e137_24, e137_25, e137_26, e137_27, e137_28, e137_31, e137_32, e137_33, e137_36, e137_37, e137_40, e137_41, e137_42, e137_45, e137_48, e137_49, ow_137, Int32.reduceOfInt, Int32.reduceOfNat, Int32.reduceToNatClampNeg, Int32.reduceLT, Int32.reduceLE, Int32.reduceAdd, Int32.reduceSub, Int32.reduceMul, Int64.reduceOfNat, Int64.reduceOfInt, Nat.reduceLeDiff, Nat.reduceLT, Nat.reduceEqDiff, Nat.reduceSub, cs_0, cs_1, cs_2, cs_3, cs_4, cs_5, cs_6, cs_7, cs_8, or_false, false_or, not_false_eq_true, and_true, true_and, if_true, if_false, List.length_cons, List.length_nil, List.getElem?_cons_succ, List.getElem?_cons_zero, List.set_cons_succ, List.set_cons_zero, reduceIte, d_G, d_R, s_aload, s_aload_n, s_iload, s_iload_n, s_lload, s_lload_n, s_istore, s_istore_n, s_astore, s_astoreN, s_astore_n, s_astore_nN, s_lstore, s_lstore_n, s_iinc, s_iconst, s_bipush, s_sipush, s_lconst, s_ldc2_w, s_aconst_null, s_dupA, s_dupI, s_dup2, s_iadd, s_isub, s_imul, s_iand, s_ior, s_ixor, s_ishl, s_ishr, s_iushr, s_ineg, s_idiv, s_irem, s_ladd, s_lsub, s_lmul, s_land, s_lor, s_lxor, s_ldiv, s_lshl, s_lshr, s_lushr, s_i2l, s_l2i, s_lcmp, s_goto, s_ieq, s_ine, s_ilt, s_ige, s_igt, s_ile, s_zeq, s_zne, s_zlt, s_zge, s_zgt, s_zle, s_ifnull, s_ifnullN, s_ifnonnull, s_ifnonnullN, s_tableswitch, s_lookupswitch, s_getfield, s_putfield, s_getstatic, s_iaload, s_laload, s_baload, s_aaload, s_iastore, s_lastore, s_bastore, s_aastore, s_arraylength, s_newI, s_newJ, s_newZ, s_anewarray, s_new, s_copy, s_max, s_min, s_invokestatic, s_objinit, s_invokespecial, kf_isr_r, s_invokevirtual, s_ireturn, s_lreturn, s_areturn, s_areturnN, s_return, lI_0, lI_s, lJ_0, lJ_s, lA_0, lA_0N, lA_s, lS1_0, lS1_1, lS1_2, lS2_0, lS2_1, lS2_2, lK_n, lK_i, lK_j, lK_a, lK_N, d_C', kf_w_0, kf_w_i, kf_w_a, kf_w_n, kf_w_j, c_0, c_1, c_2, c_3, c_4, c_5, c_6, tl_0, tl_1, Option.bind_some, Option.bind_none, Option.map_some, Nat.reduceAdd, Nat.reduceMul, Nat.reduceDiv, Nat.reduceMod, Int.reduceToNat, Fin.val_zero, Fin.isValue, Fin.val_one, Fin.val_two, fv_0, fv_1, fv_2, fv_3, fw_0, fw_1, d_ite, true_or, or_true, and_false, false_and, or_self, and_self, p2]
      rw [q]
      rw [q] at w0
      simp only [cl_137, e137_0, e137_2, e137_4, e137_7, e137_8, e137_9, e137_10, e137_11, e137_12, e137_13, e137_16, e137_17, e137_18, e137_19, e137_20, e137_23, e137_24, e137_25, e137_26, e137_27, e137_28, e137_31, e137_32, e137_33, e137_36, e137_37, e137_40, e137_41, e137_42, e137_45, e137_48, e137_49, ow_137, Int32.reduceOfInt, Int32.reduceOfNat, Int32.reduceToNatClampNeg, Int32.reduceLT, Int32.reduceLE, Int32.reduceAdd, Int32.reduceSub, Int32.reduceMul, Int64.reduceOfNat, Int64.reduceOfInt, Nat.reduceLeDiff, Nat.reduceLT, Nat.reduceEqDiff, Nat.reduceSub, cs_0, cs_1, cs_2, cs_3, cs_4, cs_5, cs_6, cs_7, cs_8, or_false, false_or, not_false_eq_true, and_true, true_and, if_true, if_false, List.length_cons, List.length_nil, List.getElem?_cons_succ, List.getElem?_cons_zero, List.set_cons_succ, List.set_cons_zero, reduceIte, d_G, d_R, s_aload, s_aload_n, s_iload, s_iload_n, s_lload, s_lload_n, s_istore, s_istore_n, s_astore, s_astoreN, s_astore_n, s_astore_nN, s_lstore, s_lstore_n, s_iinc, s_iconst, s_bipush, s_sipush, s_lconst, s_ldc2_w, s_aconst_null, s_dupA, s_dupI, s_dup2, s_iadd, s_isub, s_imul, s_iand, s_ior, s_ixor, s_ishl, s_ishr, s_iushr, s_ineg, s_idiv, s_irem, s_ladd, s_lsub, s_lmul, s_land, s_lor, s_lxor, s_ldiv, s_lshl, s_lshr, s_lushr, s_i2l, s_l2i, s_lcmp, s_goto, s_ieq, s_ine, s_ilt, s_ige, s_igt, s_ile, s_zeq, s_zne, s_zlt, s_zge, s_zgt, s_zle, s_ifnull, s_ifnullN, s_ifnonnull, s_ifnonnullN, s_tableswitch, s_lookupswitch, s_getfield, s_putfield, s_getstatic, s_iaload, s_laload, s_baload, s_aaload, s_iastore, s_lastore, s_bastore, s_aastore, s_arraylength, s_newI, s_newJ, s_newZ, s_anewarray, s_new, s_copy, s_max, s_min, s_invokestatic, s_objinit, s_invokespecial, kf_isr_r, s_invokevirtual, s_ireturn, s_lreturn, s_areturn, s_areturnN, s_return, lI_0, lI_s, lJ_0, lJ_s, lA_0, lA_0N, lA_s, lS1_0, lS1_1, lS1_2, lS2_0, lS2_1, lS2_2, lK_n, lK_i, lK_j, lK_a, lK_N, d_C', kf_w_0, kf_w_i, kf_w_a, kf_w_n, kf_w_j, c_0, c_1, c_2, c_3, c_4, c_5, c_6, tl_0, tl_1, Option.bind_some, Option.bind_none, Option.map_some, Nat.reduceAdd, Nat.reduceMul, Nat.reduceDiv, Nat.reduceMod, Int.reduceToNat, Fin.val_zero, Fin.isValue, Fin.val_one, Fin.val_two, fv_0, fv_1, fv_2, fv_3, fw_0, fw_1, d_ite, true_or, or_true, and_false, false_and, or_self, and_self, ga, gb, p0, p1, w0, w1, e1, e2]
    · have s2 : (0 ≤ lg_cmp ((la.getD 0 0).toInt64 &&& 4294967295) ((lb.getD 0 0).toInt64 &&& 4294967295)) = ¬ (uw (la.getD 0 0) < uw (lb.getD 0 0)) := by rw [lgN, s1]
      simp only [cl_137, e137_0, e137_2, e137_4, e137_7, e137_8, e137_9, e137_10, e137_11, e137_12, e137_13, e137_16, e137_17, e137_18, e137_19, e137_20, e137_23, e137_24, e137_25, e137_26, e137_27, e137_28, e137_31, e137_32, e137_33, e137_36, e137_37, e137_40, e137_41, e137_42, e137_45, e137_48, e137_49, ow_137, Int32.reduceOfInt, Int32.reduceOfNat, Int32.reduceToNatClampNeg, Int32.reduceLT, Int32.reduceLE, Int32.reduceAdd, Int32.reduceSub, Int32.reduceMul, Int64.reduceOfNat, Int64.reduceOfInt, Nat.reduceLeDiff, Nat.reduceLT, Nat.reduceEqDiff, Nat.reduceSub, cs_0, cs_1, cs_2, cs_3, cs_4, cs_5, cs_6, cs_7, cs_8, or_false, false_or, not_false_eq_true, and_true, true_and, if_true, if_false, List.length_cons, List.length_nil, List.getElem?_cons_succ, List.getElem?_cons_zero, List.set_cons_succ, List.set_cons_zero, reduceIte, d_G, d_R, s_aload, s_aload_n, s_iload, s_iload_n, s_lload, s_lload_n, s_istore, s_istore_n, s_astore, s_astoreN, s_astore_n, s_astore_nN, s_lstore, s_lstore_n, s_iinc, s_iconst, s_bipush, s_sipush, s_lconst, s_ldc2_w, s_aconst_null, s_dupA, s_dupI, s_dup2, s_iadd, s_isub, s_imul, s_iand, s_ior, s_ixor, s_ishl, s_ishr, s_iushr, s_ineg, s_idiv, s_irem, s_ladd, s_lsub, s_lmul, s_land, s_lor, s_lxor, s_ldiv, s_lshl, s_lshr, s_lushr, s_i2l, s_l2i, s_lcmp, s_goto, s_ieq, s_ine, s_ilt, s_ige, s_igt, s_ile, s_zeq, s_zne, s_zlt, s_zge, s_zgt, s_zle, s_ifnull, s_ifnullN, s_ifnonnull, s_ifnonnullN, s_tableswitch, s_lookupswitch, s_getfield, s_putfield, s_getstatic, s_iaload, s_laload, s_baload, s_aaload, s_iastore, s_lastore, s_bastore, s_aastore, s_arraylength, s_newI, s_newJ, s_newZ, s_anewarray, s_new, s_copy, s_max, s_min, s_invokestatic, s_objinit, s_invokespecial, kf_isr_r, s_invokevirtual, s_ireturn, s_lreturn, s_areturn, s_areturnN, s_return, lI_0, lI_s, lJ_0, lJ_s, lA_0, lA_0N, lA_s, lS1_0, lS1_1, lS1_2, lS2_0, lS2_1, lS2_2, lK_n, lK_i, lK_j, lK_a, lK_N, d_C', kf_w_0, kf_w_i, kf_w_a, kf_w_n, kf_w_j, c_0, c_1, c_2, c_3, c_4, c_5, c_6, tl_0, tl_1, Option.bind_some, Option.bind_none, Option.map_some, Nat.reduceAdd, Nat.reduceMul, Nat.reduceDiv, Nat.reduceMod, Int.reduceToNat, Fin.val_zero, Fin.isValue, Fin.val_one, Fin.val_two, fv_0, fv_1, fv_2, fv_3, fw_0, fw_1, d_ite, true_or, or_true, and_false, false_and, or_self, and_self, ga, gb, p0, p1, w0, w1, q, s2]
      by_cases z : uw (la.getD 0 0) < uw (lb.getD 0 0) <;> simp only [z, not_true_eq_false, not_false_eq_true, cl_137, e137_0, e137_2, e137_4, e137_7, e137_8, e137_9, e137_10, e137_11, e137_12, e137_13, e137_16, e137_17, e137_18, e137_19, e137_20, e137_23, e137_24, e137_25, e137_26, e137_27, e137_28, e137_31, e137_32, e137_33, e137_36, e137_37, e137_40, e137_41, e137_42, e137_45, e137_48, e137_49, ow_137, Int32.reduceOfInt, Int32.reduceOfNat, Int32.reduceToNatClampNeg, Int32.reduceLT, Int32.reduceLE, Int32.reduceAdd, Int32.reduceSub, Int32.reduceMul, Int64.reduceOfNat, Int64.reduceOfInt, Nat.reduceLeDiff, Nat.reduceLT, Nat.reduceEqDiff, Nat.reduceSub, cs_0, cs_1, cs_2, cs_3, cs_4, cs_5, cs_6, cs_7, cs_8, or_false, false_or, not_false_eq_true, and_true, true_and, if_true, if_false, List.length_cons, List.length_nil, List.getElem?_cons_succ, List.getElem?_cons_zero, List.set_cons_succ, List.set_cons_zero, reduceIte, d_G, d_R, s_aload, s_aload_n, s_iload, s_iload_n, s_lload, s_lload_n, s_istore, s_istore_n, s_astore, s_astoreN, s_astore_n, s_astore_nN, s_lstore, s_lstore_n, s_iinc, s_iconst, s_bipush, s_sipush, s_lconst, s_ldc2_w, s_aconst_null, s_dupA, s_dupI, s_dup2, s_iadd, s_isub, s_imul, s_iand, s_ior, s_ixor, s_ishl, s_ishr, s_iushr, s_ineg, s_idiv, s_irem, s_ladd, s_lsub, s_lmul, s_land, s_lor, s_lxor, s_ldiv, s_lshl, s_lshr, s_lushr, s_i2l, s_l2i, s_lcmp, s_goto, s_ieq, s_ine, s_ilt, s_ige, s_igt, s_ile, s_zeq, s_zne, s_zlt, s_zge, s_zgt, s_zle, s_ifnull, s_ifnullN, s_ifnonnull, s_ifnonnullN, s_tableswitch, s_lookupswitch, s_getfield, s_putfield, s_getstatic, s_iaload, s_laload, s_baload, s_aaload, s_iastore, s_lastore, s_bastore, s_aastore, s_arraylength, s_newI, s_newJ, s_newZ, s_anewarray, s_new, s_copy, s_max, s_min, s_invokestatic, s_objinit, s_invokespecial, kf_isr_r, s_invokevirtual, s_ireturn, s_lreturn, s_areturn, s_areturnN, s_return, lI_0, lI_s, lJ_0, lJ_s, lA_0, lA_0N, lA_s, lS1_0, lS1_1, lS1_2, lS2_0, lS2_1, lS2_2, lK_n, lK_i, lK_j, lK_a, lK_N, d_C', kf_w_0, kf_w_i, kf_w_a, kf_w_n, kf_w_j, c_0, c_1, c_2, c_3, c_4, c_5, c_6, tl_0, tl_1, Option.bind_some, Option.bind_none, Option.map_some, Nat.reduceAdd, Nat.reduceMul, Nat.reduceDiv, Nat.reduceMod, Int.reduceToNat, Fin.val_zero, Fin.isValue, Fin.val_one, Fin.val_two, fv_0, fv_1, fv_2, fv_3, fw_0, fw_1, d_ite, true_or, or_true, and_false, false_and, or_self, and_self]
  | succ n ih =>
    intro hn
    have ih' := ih (by omega)
    have p0 : ¬ nI (n + 1) < 0 := nI_pos (by omega)
    have p1 : (nI (n + 1)).toNatClampNeg = n + 1 := nI_clamp (by omega)
    have w0 := getD_of (xs := la) (i := n + 1) (by omega)
    have w1 := getD_of (xs := lb) (i := n + 1) (by omega)
    have wa := wv_top (l := la) (n + 1) 0
    have wb := wv_top (l := lb) (n + 1) 0
    rw [Nat.zero_add] at wa wb
    have la1 := wv_lt (l := la) (n + 1) 0
    have lb1 := wv_lt (l := lb) (n + 1) 0
    have p2 : nI (n + 1) + -1 = nI n := nI_dec n
    have s1 : ((la.getD (n + 1) 0).toInt64 &&& 4294967295 < (lb.getD (n + 1) 0).toInt64 &&& 4294967295) = (uw (la.getD (n + 1) 0) < uw (lb.getD (n + 1) 0)) := by
      rw [Int64.lt_iff_toInt_lt, ji_x, ji_x]
      apply propext; omega
    refine (e137_3 _ _ _).trans ?_
    by_cases q : la.getD (n + 1) 0 = lb.getD (n + 1) 0
    · have e1 : (wv la 0 (n + 1 + 1) < wv lb 0 (n + 1 + 1)) = (wv la 0 (n + 1) < wv lb 0 (n + 1)) := by
        rw [wa, wb, q]
        apply propext; omega
      rw [q] at w0
      simp only [cl_137, e137_0, e137_2, e137_4, e137_7, e137_8, e137_9, e137_10, e137_11, e137_12, e137_13, e137_16, e137_17, e137_18, e137_19, e137_20, e137_23, e137_24, e137_25, e137_26, e137_27, e137_28, e137_31, e137_32, e137_33, e137_36, e137_37, e137_40, e137_41, e137_42, e137_45, e137_48, e137_49, ow_137, Int32.reduceOfInt, Int32.reduceOfNat, Int32.reduceToNatClampNeg, Int32.reduceLT, Int32.reduceLE, Int32.reduceAdd, Int32.reduceSub, Int32.reduceMul, Int64.reduceOfNat, Int64.reduceOfInt, Nat.reduceLeDiff, Nat.reduceLT, Nat.reduceEqDiff, Nat.reduceSub, cs_0, cs_1, cs_2, cs_3, cs_4, cs_5, cs_6, cs_7, cs_8, or_false, false_or, not_false_eq_true, and_true, true_and, if_true, if_false, List.length_cons, List.length_nil, List.getElem?_cons_succ, List.getElem?_cons_zero, List.set_cons_succ, List.set_cons_zero, reduceIte, d_G, d_R, s_aload, s_aload_n, s_iload, s_iload_n, s_lload, s_lload_n, s_istore, s_istore_n, s_astore, s_astoreN, s_astore_n, s_astore_nN, s_lstore, s_lstore_n, s_iinc, s_iconst, s_bipush, s_sipush, s_lconst, s_ldc2_w, s_aconst_null, s_dupA, s_dupI, s_dup2, s_iadd, s_isub, s_imul, s_iand, s_ior, s_ixor, s_ishl, s_ishr, s_iushr, s_ineg, s_idiv, s_irem, s_ladd, s_lsub, s_lmul, s_land, s_lor, s_lxor, s_ldiv, s_lshl, s_lshr, s_lushr, s_i2l, s_l2i, s_lcmp, s_goto, s_ieq, s_ine, s_ilt, s_ige, s_igt, s_ile, s_zeq, s_zne, s_zlt, s_zge, s_zgt, s_zle, s_ifnull, s_ifnullN, s_ifnonnull, s_ifnonnullN, s_tableswitch, s_lookupswitch, s_getfield, s_putfield, s_getstatic, s_iaload, s_laload, s_baload, s_aaload, s_iastore, s_lastore, s_bastore, s_aastore, s_arraylength, s_newI, s_newJ, s_newZ, s_anewarray, s_new, s_copy, s_max, s_min, s_invokestatic, s_objinit, s_invokespecial, kf_isr_r, s_invokevirtual, s_ireturn, s_lreturn, s_areturn, s_areturnN, s_return, lI_0, lI_s, lJ_0, lJ_s, lA_0, lA_0N, lA_s, lS1_0, lS1_1, lS1_2, lS2_0, lS2_1, lS2_2, lK_n, lK_i, lK_j, lK_a, lK_N, d_C', kf_w_0, kf_w_i, kf_w_a, kf_w_n, kf_w_j, c_0, c_1, c_2, c_3, c_4, c_5, c_6, tl_0, tl_1, Option.bind_some, Option.bind_none, Option.map_some, Nat.reduceAdd, Nat.reduceMul, Nat.reduceDiv, Nat.reduceMod, Int.reduceToNat, Fin.val_zero, Fin.isValue, Fin.val_one, Fin.val_two, fv_0, fv_1, fv_2, fv_3, fw_0, fw_1, d_ite, true_or, or_true, and_false, false_and, or_self, and_self, ga, gb, p0, p1, w0, w1, p2, ih', e1]
    · have s2 : (0 ≤ lg_cmp ((la.getD (n + 1) 0).toInt64 &&& 4294967295) ((lb.getD (n + 1) 0).toInt64 &&& 4294967295)) = ¬ (uw (la.getD (n + 1) 0) < uw (lb.getD (n + 1) 0)) := by rw [lgN, s1]
      have e1 : (wv la 0 (n + 1 + 1) < wv lb 0 (n + 1 + 1)) = (uw (la.getD (n + 1) 0) < uw (lb.getD (n + 1) 0)) := by
        rw [wa, wb]
        exact cmpx la1 lb1 (fun z => q (uw_inj z))
      simp only [e1]
      simp only [cl_137, e137_0, e137_2, e137_4, e137_7, e137_8, e137_9, e137_10, e137_11, e137_12, e137_13, e137_16, e137_17, e137_18, e137_19, e137_20, e137_23, e137_24, e137_25, e137_26, e137_27, e137_28, e137_31, e137_32, e137_33, e137_36, e137_37, e137_40, e137_41, e137_42, e137_45, e137_48, e137_49, ow_137, Int32.reduceOfInt, Int32.reduceOfNat, Int32.reduceToNatClampNeg, Int32.reduceLT, Int32.reduceLE, Int32.reduceAdd, Int32.reduceSub, Int32.reduceMul, Int64.reduceOfNat, Int64.reduceOfInt, Nat.reduceLeDiff, Nat.reduceLT, Nat.reduceEqDiff, Nat.reduceSub, cs_0, cs_1, cs_2, cs_3, cs_4, cs_5, cs_6, cs_7, cs_8, or_false, false_or, not_false_eq_true, and_true, true_and, if_true, if_false, List.length_cons, List.length_nil, List.getElem?_cons_succ, List.getElem?_cons_zero, List.set_cons_succ, List.set_cons_zero, reduceIte, d_G, d_R, s_aload, s_aload_n, s_iload, s_iload_n, s_lload, s_lload_n, s_istore, s_istore_n, s_astore, s_astoreN, s_astore_n, s_astore_nN, s_lstore, s_lstore_n, s_iinc, s_iconst, s_bipush, s_sipush, s_lconst, s_ldc2_w, s_aconst_null, s_dupA, s_dupI, s_dup2, s_iadd, s_isub, s_imul, s_iand, s_ior, s_ixor, s_ishl, s_ishr, s_iushr, s_ineg, s_idiv, s_irem, s_ladd, s_lsub, s_lmul, s_land, s_lor, s_lxor, s_ldiv, s_lshl, s_lshr, s_lushr, s_i2l, s_l2i, s_lcmp, s_goto, s_ieq, s_ine, s_ilt, s_ige, s_igt, s_ile, s_zeq, s_zne, s_zlt, s_zge, s_zgt, s_zle, s_ifnull, s_ifnullN, s_ifnonnull, s_ifnonnullN, s_tableswitch, s_lookupswitch, s_getfield, s_putfield, s_getstatic, s_iaload, s_laload, s_baload, s_aaload, s_iastore, s_lastore, s_bastore, s_aastore, s_arraylength, s_newI, s_newJ, s_newZ, s_anewarray, s_new, s_copy, s_max, s_min, s_invokestatic, s_objinit, s_invokespecial, kf_isr_r, s_invokevirtual, s_ireturn, s_lreturn, s_areturn, s_areturnN, s_return, lI_0, lI_s, lJ_0, lJ_s, lA_0, lA_0N, lA_s, lS1_0, lS1_1, lS1_2, lS2_0, lS2_1, lS2_2, lK_n, lK_i, lK_j, lK_a, lK_N, d_C', kf_w_0, kf_w_i, kf_w_a, kf_w_n, kf_w_j, c_0, c_1, c_2, c_3, c_4, c_5, c_6, tl_0, tl_1, Option.bind_some, Option.bind_none, Option.map_some, Nat.reduceAdd, Nat.reduceMul, Nat.reduceDiv, Nat.reduceMod, Int.reduceToNat, Fin.val_zero, Fin.isValue, Fin.val_one, Fin.val_two, fv_0, fv_1, fv_2, fv_3, fw_0, fw_1, d_ite, true_or, or_true, and_false, false_and, or_self, and_self, ga, gb, p0, p1, w0, w1, q, s2]
      by_cases z : uw (la.getD (n + 1) 0) < uw (lb.getD (n + 1) 0) <;> simp only [z, not_true_eq_false, not_false_eq_true, cl_137, e137_0, e137_2, e137_4, e137_7, e137_8, e137_9, e137_10, e137_11, e137_12, e137_13, e137_16, e137_17, e137_18, e137_19, e137_20, e137_23, e137_24, e137_25, e137_26, e137_27, e137_28, e137_31, e137_32, e137_33, e137_36, e137_37, e137_40, e137_41, e137_42, e137_45, e137_48, e137_49, ow_137, Int32.reduceOfInt, Int32.reduceOfNat, Int32.reduceToNatClampNeg, Int32.reduceLT, Int32.reduceLE, Int32.reduceAdd, Int32.reduceSub, Int32.reduceMul, Int64.reduceOfNat, Int64.reduceOfInt, Nat.reduceLeDiff, Nat.reduceLT, Nat.reduceEqDiff, Nat.reduceSub, cs_0, cs_1, cs_2, cs_3, cs_4, cs_5, cs_6, cs_7, cs_8, or_false, false_or, not_false_eq_true, and_true, true_and, if_true, if_false, List.length_cons, List.length_nil, List.getElem?_cons_succ, List.getElem?_cons_zero, List.set_cons_succ, List.set_cons_zero, reduceIte, d_G, d_R, s_aload, s_aload_n, s_iload, s_iload_n, s_lload, s_lload_n, s_istore, s_istore_n, s_astore, s_astoreN, s_astore_n, s_astore_nN, s_lstore, s_lstore_n, s_iinc, s_iconst, s_bipush, s_sipush, s_lconst, s_ldc2_w, s_aconst_null, s_dupA, s_dupI, s_dup2, s_iadd, s_isub, s_imul, s_iand, s_ior, s_ixor, s_ishl, s_ishr, s_iushr, s_ineg, s_idiv, s_irem, s_ladd, s_lsub, s_lmul, s_land, s_lor, s_lxor, s_ldiv, s_lshl, s_lshr, s_lushr, s_i2l, s_l2i, s_lcmp, s_goto, s_ieq, s_ine, s_ilt, s_ige, s_igt, s_ile, s_zeq, s_zne, s_zlt, s_zge, s_zgt, s_zle, s_ifnull, s_ifnullN, s_ifnonnull, s_ifnonnullN, s_tableswitch, s_lookupswitch, s_getfield, s_putfield, s_getstatic, s_iaload, s_laload, s_baload, s_aaload, s_iastore, s_lastore, s_bastore, s_aastore, s_arraylength, s_newI, s_newJ, s_newZ, s_anewarray, s_new, s_copy, s_max, s_min, s_invokestatic, s_objinit, s_invokespecial, kf_isr_r, s_invokevirtual, s_ireturn, s_lreturn, s_areturn, s_areturnN, s_return, lI_0, lI_s, lJ_0, lJ_s, lA_0, lA_0N, lA_s, lS1_0, lS1_1, lS1_2, lS2_0, lS2_1, lS2_2, lK_n, lK_i, lK_j, lK_a, lK_N, d_C', kf_w_0, kf_w_i, kf_w_a, kf_w_n, kf_w_j, c_0, c_1, c_2, c_3, c_4, c_5, c_6, tl_0, tl_1, Option.bind_some, Option.bind_none, Option.map_some, Nat.reduceAdd, Nat.reduceMul, Nat.reduceDiv, Nat.reduceMod, Int.reduceToNat, Fin.val_zero, Fin.isValue, Fin.val_one, Fin.val_two, fv_0, fv_1, fv_2, fv_3, fw_0, fw_1, d_ite, true_or, or_true, and_false, false_and, or_self, and_self]
theorem n137 {M : kf_M} {a b va vb : Nat} (ha : Wd M a va) (hb : Wd M b vb) : kf_cl 137 [.ref a, .ref b] M = some (some (.int (if va < vb then 1 else 0)), M) := by
  obtain ⟨la, ga, la8, ea⟩ := ha
  obtain ⟨lb, gb, lb8, eb⟩ := hb
  have h := c137l (gI_of ga) (gI_of gb) la8 lb8 7 (by omega)
  rw [ea, eb, show nI 7 = 7 from rfl] at h
  simp only [cl_137, e137_0, e137_2, e137_4, e137_7, e137_8, e137_9, e137_10, e137_11, e137_12, e137_13, e137_16, e137_17, e137_18, e137_19, e137_20, e137_23, e137_24, e137_25, e137_26, e137_27, e137_28, e137_31, e137_32, e137_33, e137_36, e137_37, e137_40, e137_41, e137_42, e137_45, e137_48, e137_49, ow_137, Int32.reduceOfInt, Int32.reduceOfNat, Int32.reduceToNatClampNeg, Int32.reduceLT, Int32.reduceLE, Int32.reduceAdd, Int32.reduceSub, Int32.reduceMul, Int64.reduceOfNat, Int64.reduceOfInt, Nat.reduceLeDiff, Nat.reduceLT, Nat.reduceEqDiff, Nat.reduceSub, cs_0, cs_1, cs_2, cs_3, cs_4, cs_5, cs_6, cs_7, cs_8, or_false, false_or, not_false_eq_true, and_true, true_and, if_true, if_false, List.length_cons, List.length_nil, List.getElem?_cons_succ, List.getElem?_cons_zero, List.set_cons_succ, List.set_cons_zero, reduceIte, d_G, d_R, s_aload, s_aload_n, s_iload, s_iload_n, s_lload, s_lload_n, s_istore, s_istore_n, s_astore, s_astoreN, s_astore_n, s_astore_nN, s_lstore, s_lstore_n, s_iinc, s_iconst, s_bipush, s_sipush, s_lconst, s_ldc2_w, s_aconst_null, s_dupA, s_dupI, s_dup2, s_iadd, s_isub, s_imul, s_iand, s_ior, s_ixor, s_ishl, s_ishr, s_iushr, s_ineg, s_idiv, s_irem, s_ladd, s_lsub, s_lmul, s_land, s_lor, s_lxor, s_ldiv, s_lshl, s_lshr, s_lushr, s_i2l, s_l2i, s_lcmp, s_goto, s_ieq, s_ine, s_ilt, s_ige, s_igt, s_ile, s_zeq, s_zne, s_zlt, s_zge, s_zgt, s_zle, s_ifnull, s_ifnullN, s_ifnonnull, s_ifnonnullN, s_tableswitch, s_lookupswitch, s_getfield, s_putfield, s_getstatic, s_iaload, s_laload, s_baload, s_aaload, s_iastore, s_lastore, s_bastore, s_aastore, s_arraylength, s_newI, s_newJ, s_newZ, s_anewarray, s_new, s_copy, s_max, s_min, s_invokestatic, s_objinit, s_invokespecial, kf_isr_r, s_invokevirtual, s_ireturn, s_lreturn, s_areturn, s_areturnN, s_return, lI_0, lI_s, lJ_0, lJ_s, lA_0, lA_0N, lA_s, lS1_0, lS1_1, lS1_2, lS2_0, lS2_1, lS2_2, lK_n, lK_i, lK_j, lK_a, lK_N, d_C', kf_w_0, kf_w_i, kf_w_a, kf_w_n, kf_w_j, c_0, c_1, c_2, c_3, c_4, c_5, c_6, tl_0, tl_1, Option.bind_some, Option.bind_none, Option.map_some, Nat.reduceAdd, Nat.reduceMul, Nat.reduceDiv, Nat.reduceMod, Int.reduceToNat, Fin.val_zero, Fin.isValue, Fin.val_one, Fin.val_two, fv_0, fv_1, fv_2, fv_3, fw_0, fw_1, d_ite, true_or, or_true, and_false, false_and, or_self, and_self, h]
