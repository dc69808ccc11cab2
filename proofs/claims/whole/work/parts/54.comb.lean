/-! Curve.fillBetween and fill -/
/-- a comb under way: the places of S are right -/
def Kn (M : kf_M) (c : Nat) (P : Pt) (S : List Nat) : Prop := M[c]? = some (oR 4 (cref c)) ∧ (∀ j, j < 16 → PtJ M (c + 1 + 4 * j)) ∧ (∀ j ∈ S, j < 16 ∧ RepM M (c + 1 + 4 * j) (pmul (cw j) P)) ∧ (c = 113 ∨ 187 ≤ c)
theorem Kn.add {M : kf_M} {c t : Nat} {P : Pt} {S : List Nat} (h : Kn M c P S) (ht : t < 16) (hr : RepM M (c + 1 + 4 * t) (pmul (cw t) P)) : Kn M c P (t :: S) := by
  refine ⟨h.1, h.2.1, ?_, h.2.2.2⟩
  intro j hj
  rcases List.mem_cons.mp hj with q | q
  · subst q
    exact ⟨ht, hr⟩
  · exact h.2.2.1 j q
theorem kst {M : kf_M} {c t p q : Nat} {P A B : Pt} {S : List Nat} (hK : Kn M c P S) (hC : CvIs M) (ht : t < 16) (hS : t ∉ S) (hp : RepM M p A) (hq : RepM M q B) (vA : vP A) (vB : vP B) (op : okp p) (oq : okp q) : ∃ M', kf_cl 4 [.ref 105, .ref (c + 1 + 4 * t), .ref p, .ref q] M = some (none, M') ∧ Kn M' c P S ∧ RepM M' (c + 1 + 4 * t) (padd A B) ∧ CvIs M' ∧ Off (cvs ++ [c + 1 + 4 * t + 1, c + 1 + 4 * t + 2, c + 1 + 4 * t + 3]) M M' := by
  have hc := hK.2.2.2
  have ot : okp (c + 1 + 4 * t) := by
    unfold okp
    omega
  obtain ⟨M', k1, c1, r1, o1⟩ := f4 hC hp hq (hK.2.1 t ht) vA vB op oq ot
  refine ⟨M', k1, ⟨o1.at (by simp [cvs]; omega) hK.1, ?_, ?_, hc⟩, r1, c1, o1⟩
  · intro j hj
    by_cases e : j = t
    · subst e
      exact r1.j
    · exact (hK.2.1 j hj).off o1 (by simp [cvs]; omega) (by simp [cvs]; omega) (by simp [cvs]; omega) (by simp [cvs]; omega)
  · intro j hj
    obtain ⟨hj1, hj2⟩ := hK.2.2.1 j hj
    have e : j ≠ t := fun q => hS (q ▸ hj)
    exact ⟨hj1, hj2.off o1 (by simp [cvs]; omega) (by simp [cvs]; omega) (by simp [cvs]; omega) (by simp [cvs]; omega)⟩
/-- one place out of two -/
theorem kst2 {M : kf_M} {c t a b rt ra rb : Nat} {P : Pt} {S : List Nat} (hP : vP P) (hrt : rt = c + 1 + 4 * t) (hra : ra = c + 1 + 4 * a) (hrb : rb = c + 1 + 4 * b) (hK : Kn M c P S) (hC : CvIs M) (ht : t < 16) (hS : t ∉ S) (ha : a ∈ S) (hb : b ∈ S) (hw : cw t = cw a + cw b) : ∃ M', kf_cl 4 [.ref 105, .ref rt, .ref ra, .ref rb] M = some (none, M') ∧ Kn M' c P (t :: S) ∧ CvIs M' ∧ Off (cvs ++ List.range' (c + 1) 64) M M' := by
  obtain ⟨la, hA⟩ := hK.2.2.1 a ha
  obtain ⟨lb, hB⟩ := hK.2.2.1 b hb
  have hc := hK.2.2.2
  obtain ⟨M', k1, K1, r1, c1, o1⟩ := kst hK hC ht hS hA hB (pmul_v hP _) (pmul_v hP _) (by unfold okp; omega) (by unfold okp; omega)
  rw [← pmul_add hP, ← hw] at r1
  subst hrt
  subst hra
  subst hrb
  refine ⟨M', k1, K1.add ht r1, c1, o1.wk ?_⟩
  intro x hx
  simp [cvs] at hx ⊢
  omega
theorem Kn.gR {M : kf_M} {c : Nat} {P : Pt} {S : List Nat} (h : Kn M c P S) : gR M c = some (4, cref c) := gR_of h.1
set_option maxHeartbeats 4000000 in
set_option maxRecDepth 100000 in
theorem f6 {M : kf_M} {c : Nat} {P : Pt} (hP : vP P) (hK : Kn M c P [8, 4, 2, 1]) (hC : CvIs M) : ∃ M', kf_cl 6 [.ref 105, .ref c] M = some (none, M') ∧ Comb M' c P ∧ (∀ j, j < 16 → PtJ M' (c + 1 + 4 * j)) ∧ CvIs M' ∧ Off (cvs ++ List.range' (c + 1) 64) M M' := by
  obtain ⟨r1, h1⟩ : ∃ r, r = c + 1 + 4 * 1 := ⟨_, rfl⟩
  have x1 := cref_get (c := c) (j := 1) (by decide)
  rw [← h1] at x1
  obtain ⟨r2, h2⟩ : ∃ r, r = c + 1 + 4 * 2 := ⟨_, rfl⟩
  have x2 := cref_get (c := c) (j := 2) (by decide)
  rw [← h2] at x2
  obtain ⟨r3, h3⟩ : ∃ r, r = c + 1 + 4 * 3 := ⟨_, rfl⟩
  have x3 := cref_get (c := c) (j := 3) (by decide)
  rw [← h3] at x3
  obtain ⟨r4, h4⟩ : ∃ r, r = c + 1 + 4 * 4 := ⟨_, rfl⟩
  have x4 := cref_get (c := c) (j := 4) (by decide)
  rw [← h4] at x4
  obtain ⟨r5, h5⟩ : ∃ r, r = c + 1 + 4 * 5 := ⟨_, rfl⟩
  have x5 := cref_get (c := c) (j := 5) (by decide)
  rw [← h5] at x5
  obtain ⟨r6, h6⟩ : ∃ r, r = c + 1 + 4 * 6 := ⟨_, rfl⟩
  have x6 := cref_get (c := c) (j := 6) (by decide)
  rw [← h6] at x6
  obtain ⟨r7, h7⟩ : ∃ r, r = c + 1 + 4 * 7 := ⟨_, rfl⟩
  have x7 := cref_get (c := c) (j := 7) (by decide)
  rw [← h7] at x7
  obtain ⟨r8, h8⟩ : ∃ r, r = c + 1 + 4 * 8 := ⟨_, rfl⟩
  have x8 := cref_get (c := c) (j := 8) (by decide)
  rw [← h8] at x8
  obtain ⟨r9, h9⟩ : ∃ r, r = c + 1 + 4 * 9 := ⟨_, rfl⟩
  have x9 := cref_get (c := c) (j := 9) (by decide)
  rw [← h9] at x9
  obtain ⟨r10, h10⟩ : ∃ r, r = c + 1 + 4 * 10 := ⟨_, rfl⟩
  have x10 := cref_get (c := c) (j := 10) (by decide)
  rw [← h10] at x10
  obtain ⟨r11, h11⟩ : ∃ r, r = c + 1 + 4 * 11 := ⟨_, rfl⟩
  have x11 := cref_get (c := c) (j := 11) (by decide)
  rw [← h11] at x11
  obtain ⟨r12, h12⟩ : ∃ r, r = c + 1 + 4 * 12 := ⟨_, rfl⟩
  have x12 := cref_get (c := c) (j := 12) (by decide)
  rw [← h12] at x12
  obtain ⟨r13, h13⟩ : ∃ r, r = c + 1 + 4 * 13 := ⟨_, rfl⟩
  have x13 := cref_get (c := c) (j := 13) (by decide)
  rw [← h13] at x13
  obtain ⟨r14, h14⟩ : ∃ r, r = c + 1 + 4 * 14 := ⟨_, rfl⟩
  have x14 := cref_get (c := c) (j := 14) (by decide)
  rw [← h14] at x14
  obtain ⟨r15, h15⟩ : ∃ r, r = c + 1 + 4 * 15 := ⟨_, rfl⟩
  have x15 := cref_get (c := c) (j := 15) (by decide)
  rw [← h15] at x15
  obtain ⟨M1, k1, K1, C1, o1⟩ := kst2 hP h3 h2 h1 hK hC (by decide) (by decide) (by decide) (by decide) (by decide)
  obtain ⟨M2, k2, K2, C2, o2⟩ := kst2 hP h5 h4 h1 K1 C1 (by decide) (by decide) (by decide) (by decide) (by decide)
  obtain ⟨M3, k3, K3, C3, o3⟩ := kst2 hP h6 h4 h2 K2 C2 (by decide) (by decide) (by decide) (by decide) (by decide)
  obtain ⟨M4, k4, K4, C4, o4⟩ := kst2 hP h7 h6 h1 K3 C3 (by decide) (by decide) (by decide) (by decide) (by decide)
  obtain ⟨M5, k5, K5, C5, o5⟩ := kst2 hP h9 h8 h1 K4 C4 (by decide) (by decide) (by decide) (by decide) (by decide)
  obtain ⟨M6, k6, K6, C6, o6⟩ := kst2 hP h10 h8 h2 K5 C5 (by decide) (by decide) (by decide) (by decide) (by decide)
  obtain ⟨M7, k7, K7, C7, o7⟩ := kst2 hP h11 h10 h1 K6 C6 (by decide) (by decide) (by decide) (by decide) (by decide)
  obtain ⟨M8, k8, K8, C8, o8⟩ := kst2 hP h12 h8 h4 K7 C7 (by decide) (by decide) (by decide) (by decide) (by decide)
  obtain ⟨M9, k9, K9, C9, o9⟩ := kst2 hP h13 h12 h1 K8 C8 (by decide) (by decide) (by decide) (by decide) (by decide)
  obtain ⟨M10, k10, K10, C10, o10⟩ := kst2 hP h14 h12 h2 K9 C9 (by decide) (by decide) (by decide) (by decide) (by decide)
  obtain ⟨M11, k11, K11, C11, o11⟩ := kst2 hP h15 h14 h1 K10 C10 (by decide) (by decide) (by decide) (by decide) (by decide)
  have g0 := hK.gR
  have e0 := hK.1
  have q0 := hC.rc
  have g1 := K1.gR
  have e1 := K1.1
  have q1 := C1.rc
  have g2 := K2.gR
  have e2 := K2.1
  have q2 := C2.rc
  have g3 := K3.gR
  have e3 := K3.1
  have q3 := C3.rc
  have g4 := K4.gR
  have e4 := K4.1
  have q4 := C4.rc
  have g5 := K5.gR
  have e5 := K5.1
  have q5 := C5.rc
  have g6 := K6.gR
  have e6 := K6.1
  have q6 := C6.rc
  have g7 := K7.gR
  have e7 := K7.1
  have q7 := C7.rc
  have g8 := K8.gR
  have e8 := K8.1
  have q8 := C8.rc
  have g9 := K9.gR
  have e9 := K9.1
  have q9 := C9.rc
  have g10 := K10.gR
  have e10 := K10.1
  have q10 := C10.rc
  have g11 := K11.gR
  have e11 := K11.1
  have q11 := C11.rc
  have n16 : nI 16 = 16 := rfl
  have a3 : (3 : Int32) &&& -3 = 1 := by decide
  have b3 : ((1 : Int32) = 3) = False := by decide
  have a4 : (4 : Int32) &&& -4 = 4 := by decide
  have a5 : (5 : Int32) &&& -5 = 1 := by decide
  have b5 : ((1 : Int32) = 5) = False := by decide
  have a6 : (6 : Int32) &&& -6 = 2 := by decide
  have b6 : ((2 : Int32) = 6) = False := by decide
  have a7 : (7 : Int32) &&& -7 = 1 := by decide
  have b7 : ((1 : Int32) = 7) = False := by decide
  have a8 : (8 : Int32) &&& -8 = 8 := by decide
  have a9 : (9 : Int32) &&& -9 = 1 := by decide
  have b9 : ((1 : Int32) = 9) = False := by decide
  have a10 : (10 : Int32) &&& -10 = 2 := by decide
  have b10 : ((2 : Int32) = 10) = False := by decide
  have a11 : (11 : Int32) &&& -11 = 1 := by decide
  have b11 : ((1 : Int32) = 11) = False := by decide
  have a12 : (12 : Int32) &&& -12 = 4 := by decide
  have b12 : ((4 : Int32) = 12) = False := by decide
  have a13 : (13 : Int32) &&& -13 = 1 := by decide
  have b13 : ((1 : Int32) = 13) = False := by decide
  have a14 : (14 : Int32) &&& -14 = 2 := by decide
  have b14 : ((2 : Int32) = 14) = False := by decide
  have a15 : (15 : Int32) &&& -15 = 1 := by decide
  have b15 : ((1 : Int32) = 15) = False := by decide
  have w1 : vR (some r1) = .ref r1 := rfl
  have w2 : vR (some r2) = .ref r2 := rfl
  have w3 : vR (some r3) = .ref r3 := rfl
  have w4 : vR (some r4) = .ref r4 := rfl
  have w5 : vR (some r5) = .ref r5 := rfl
  have w6 : vR (some r6) = .ref r6 := rfl
  have w7 : vR (some r7) = .ref r7 := rfl
  have w8 : vR (some r8) = .ref r8 := rfl
  have w9 : vR (some r9) = .ref r9 := rfl
  have w10 : vR (some r10) = .ref r10 := rfl
  have w11 : vR (some r11) = .ref r11 := rfl
  have w12 : vR (some r12) = .ref r12 := rfl
  have w13 : vR (some r13) = .ref r13 := rfl
  have w14 : vR (some r14) = .ref r14 := rfl
  have w15 : vR (some r15) = .ref r15 := rfl
  have oo := o1.tr (o2.tr (o3.tr (o4.tr (o5.tr (o6.tr (o7.tr (o8.tr (o9.tr (o10.tr (o11))))))))))
  refine ⟨M11, ?_, ⟨K11.1, ?_⟩, K11.2.1, C11, oo⟩
  · simp only [cl_6, e6_0, e6_1, e6_2, e6_3, e6_5, e6_8, e6_9, e6_10, e6_11, e6_14, e6_15, e6_16, e6_17, e6_18, e6_19, e6_20, e6_21, e6_24, e6_25, e6_26, e6_27, e6_28, e6_29, e6_30, e6_31, e6_32, e6_33, e6_34, e6_35, e6_36, e6_39, e6_42, e6_45, ow_6, Int32.reduceOfInt, Int32.reduceOfNat, Int32.reduceToNatClampNeg, Int32.reduceLT, Int32.reduceLE, Int32.reduceAdd, Int32.reduceSub, Int32.reduceMul, Int64.reduceOfNat, Int64.reduceOfInt, Nat.reduceLeDiff, Nat.reduceLT, Nat.reduceEqDiff, Nat.reduceSub, cs_0, cs_1, cs_2, cs_3, cs_4, cs_5, cs_6, cs_7, cs_8, or_false, false_or, not_false_eq_true, and_true, true_and, if_true, if_false, List.length_cons, List.length_nil, List.getElem?_cons_succ, List.getElem?_cons_zero, List.set_cons_succ, List.set_cons_zero, reduceIte, d_G, d_R, s_aload, s_aload_n, s_iload, s_iload_n, s_lload, s_lload_n, s_istore, s_istore_n, s_astore, s_astoreN, s_astore_n, s_astore_nN, s_lstore, s_lstore_n, s_iinc, s_iconst, s_bipush, s_sipush, s_lconst, s_ldc2_w, s_aconst_null, s_dupA, s_dupI, s_dup2, s_iadd, s_isub, s_imul, s_iand, s_ior, s_ixor, s_ishl, s_ishr, s_iushr, s_ineg, s_idiv, s_irem, s_ladd, s_lsub, s_lmul, s_land, s_lor, s_lxor, s_ldiv, s_lshl, s_lshr, s_lushr, s_i2l, s_l2i, s_lcmp, s_goto, s_ieq, s_ine, s_ilt, s_ige, s_igt, s_ile, s_zeq, s_zne, s_zlt, s_zge, s_zgt, s_zle, s_ifnull, s_ifnullN, s_ifnonnull, s_ifnonnullN, s_tableswitch, s_lookupswitch, s_getfield, s_putfield, s_getstatic, s_iaload, s_laload, s_baload, s_aaload, s_iastore, s_lastore, s_bastore, s_aastore, s_arraylength, s_newI, s_newJ, s_newZ, s_anewarray, s_new, s_copy, s_max, s_min, s_invokestatic, s_objinit, s_invokespecial, kf_isr_r, s_invokevirtual, s_ireturn, s_lreturn, s_areturn, s_areturnN, s_return, lI_0, lI_s, lJ_0, lJ_s, lA_0, lA_0N, lA_s, lS1_0, lS1_1, lS1_2, lS2_0, lS2_1, lS2_2, lK_n, lK_i, lK_j, lK_a, lK_N, d_C', kf_w_0, kf_w_i, kf_w_a, kf_w_n, kf_w_j, c_0, c_1, c_2, c_3, c_4, c_5, c_6, tl_0, tl_1, Option.bind_some, Option.bind_none, Option.map_some, Nat.reduceAdd, Nat.reduceMul, Nat.reduceDiv, Nat.reduceMod, Int.reduceToNat, Fin.val_zero, Fin.isValue, Fin.val_one, Fin.val_two, fv_0, fv_1, fv_2, fv_3, fw_0, fw_1, d_ite, true_or, or_true, and_false, false_and, or_self, and_self, ow_4, oLen_R, cref_len, toI, n16, eq_self, a3, b3, a4, a5, b5, a6, b6, a7, b7, a8, a9, b9, a10, b10, a11, b11, a12, b12, a13, b13, a14, b14, a15, b15, w1, w2, w3, w4, w5, w6, w7, w8, w9, w10, w11, w12, w13, w14, w15, x1, x2, x3, x4, x5, x6, x7, x8, x9, x10, x11, x12, x13, x14, x15, g0, g1, g2, g3, g4, g5, g6, g7, g8, g9, g10, g11, e0, e1, e2, e3, e4, e5, e6, e7, e8, e9, e10, e11, q0, q1, q2, q3, q4, q5, q6, q7, q8, q9, q10, q11, k1, k2, k3, k4, k5, k6, k7, k8, k9, k10, k11]
  · intro j h1 h2
    have hm : j ∈ [15, 14, 13, 12, 11, 10, 9, 7, 6, 5, 3, 8, 4, 2, 1] := (by decide : ∀ j, j < 16 → 1 ≤ j → j ∈ [15, 14, 13, 12, 11, 10, 9, 7, 6, 5, 3, 8, 4, 2, 1]) j h2 h1
    exact (K11.2.2.1 j hm).2
