/-! The class's hash as it is used: the bytes put since begin; and its vault -/
def HV (M : kf_M) (a : Nat) (bs : List Int32) : Prop := ∃ W, W.length = 64 ∧ HashV M a (hputs (sx_0, W, 0) bs)
def HA (M : kf_M) (a : Nat) : Prop := ∃ s, HashV M a s ∧ hok s
theorem sx_0_len : sx_0.length = 8 := by decide
theorem HV.len {W bs : List Int32} (hW : W.length = 64) : hok (hputs (sx_0, W, 0) bs) ∧ (hputs (sx_0, W, 0) bs).2.2 = bs.length := by
  have hl := hputs_len bs (sx_0, W, 0) sx_0_len hW
  exact ⟨⟨hl.1, hl.2.1⟩, by rw [hl.2.2]; simp⟩
theorem HV.ha {M : kf_M} {a : Nat} {bs : List Int32} (h : HV M a bs) : HA M a := by
  obtain ⟨W, hW, h⟩ := h
  exact ⟨_, h, (HV.len hW).1⟩
theorem HV.off {M M' : kf_M} {A : List Nat} {a : Nat} {bs : List Int32} (h : HV M a bs) (ho : Off A M M') (h0 : a ∉ A) (h1 : a + 1 ∉ A) (h2 : a + 2 ∉ A) : HV M' a bs := by
  obtain ⟨W, hW, h⟩ := h
  exact ⟨W, hW, HashIs.off h ho h0 h1 h2⟩
theorem HA.off {M M' : kf_M} {A : List Nat} {a : Nat} (h : HA M a) (ho : Off A M M') (h0 : a ∉ A) (h1 : a + 1 ∉ A) (h2 : a + 2 ∉ A) : HA M' a := by
  obtain ⟨s, h, hs⟩ := h
  exact ⟨s, HashIs.off h ho h0 h1 h2, hs⟩
theorem HA.rc {M : kf_M} {a : Nat} (h : HA M a) : kf_rcv M 2 (some (.ref a)) = true := by
  obtain ⟨s, h, hs⟩ := h
  exact HashIs.rc h
theorem h25 {M : kf_M} {a : Nat} (h : HA M a) (g0 : M[0]? = some (oI sx_0)) (ha : 19 ≤ a) : ∃ M', kf_cl 25 [.ref a] M = some (none, M') ∧ HV M' a [] ∧ Off [a, a + 1, a + 2] M M' := by
  obtain ⟨s, h, hs⟩ := h
  obtain ⟨M', k1, r1, o1⟩ := c25 h hs.1 g0 ha
  exact ⟨M', k1, ⟨s.2.1, hs.2, r1⟩, o1⟩
theorem h26 {M : kf_M} {a : Nat} {bs : List Int32} (v : Int32) (h : HV M a bs) (hn : bs.length < 2 ^ 20) (gk : M[1]? = some (oI sx_1)) (ha : 19 ≤ a) : ∃ M', kf_cl 26 [.ref a, .int v] M = some (none, M') ∧ HV M' a (bs ++ [v]) ∧ Off [a, a + 1, a + 2] M M' := by
  obtain ⟨W, hW, h⟩ := h
  have hl := HV.len (bs := bs) hW
  obtain ⟨M', k1, r1, o1⟩ := c26v (v := v) h hl.1 (by rw [hl.2]; omega) gk ha
  exact ⟨M', k1, ⟨W, hW, by rw [hputs_app]; exact r1⟩, o1⟩
theorem h27 {M : kf_M} {a b f n : Nat} {bs xs : List Int32} (h : HV M a bs) (hn : bs.length + n < 2 ^ 20) (gk : M[1]? = some (oI sx_1)) (gb : M[b]? = some (oI xs)) (hf : f + n ≤ xs.length) (hx : xs.length < 2 ^ 20) (ha : 19 ≤ a) (hb : b ∉ [a, a + 1, a + 2]) : ∃ M', kf_cl 27 [.ref a, .ref b, .int (nI f), .int (nI n)] M = some (none, M') ∧ HV M' a (bs ++ (xs.drop f).take n) ∧ Off [a, a + 1, a + 2] M M' := by
  obtain ⟨W, hW, h⟩ := h
  have hl := HV.len (bs := bs) hW
  obtain ⟨M', k1, r1, o1⟩ := c27 (f := f) (n := n) h hl.1.1 hl.1.2 (by rw [hl.2]; omega) gk gb hf hx ha hb
  exact ⟨M', k1, ⟨W, hW, by rw [hputs_app]; exact r1⟩, o1⟩
theorem h28 {M : kf_M} {a b : Nat} {bs xs : List Int32} (h : HV M a bs) (hn : bs.length < 512) (gk : M[1]? = some (oI sx_1)) (gb : M[b]? = some (oI xs)) (hx : 32 ≤ xs.length) (hx2 : xs.length < 2 ^ 20) (ha : 19 ≤ a) (hb : b ∉ [a, a + 1, a + 2]) (hbN : 19 ≤ b) : ∃ M', kf_cl 28 [.ref a, .ref b] M = some (none, M') ∧ HA M' a ∧ M'[b]? = some (oI (sha (byt bs) ++ xs.drop 32)) ∧ Off [a, a + 1, a + 2, b] M M' := by
  obtain ⟨W, hW, h⟩ := h
  have hl := HV.len (bs := bs) hW
  obtain ⟨M', k1, r1, g1, o1⟩ := c28 h hl.1 (by rw [hl.2]; omega) gk gb hx hx2 ha hb hbN
  rw [hend_sha hW hn] at g1
  refine ⟨M', k1, ⟨_, r1, ?_⟩, g1, o1⟩
  have h2 := padz_ok 64 _ (hput_ok (v := 128) hl.1)
  have h3 := hputs_len [sh64 (hbits (hputs (sx_0, W, 0) bs).2.2) 56, sh64 (hbits (hputs (sx_0, W, 0) bs).2.2) 48, sh64 (hbits (hputs (sx_0, W, 0) bs).2.2) 40, sh64 (hbits (hputs (sx_0, W, 0) bs).2.2) 32, sh64 (hbits (hputs (sx_0, W, 0) bs).2.2) 24, sh64 (hbits (hputs (sx_0, W, 0) bs).2.2) 16, sh64 (hbits (hputs (sx_0, W, 0) bs).2.2) 8, sh64 (hbits (hputs (sx_0, W, 0) bs).2.2) 0] _ h2.1.1 h2.1.2
  exact ⟨h3.1, h3.2.1⟩
/-- the static arrays of the class's hash -/
def SH (M : kf_M) : Prop := M[0]? = some (oI sx_0) ∧ M[1]? = some (oI sx_1)
theorem SH.off {M M' : kf_M} {A : List Nat} (h : SH M) (ho : Off A M M') (h0 : 0 ∉ A) (h1 : 1 ∉ A) : SH M' := ⟨ho.at h0 h.1, ho.at h1 h.2⟩
/-- the vault: master, pin, token, turn, tries, misses, whether there is a pin -/
def VtO (M : kf_M) (t tr mi hp : Int32) : Prop := M[32]? = some (oO 10 [.ref 33, .ref 36, .ref 37, .ref 38, .ref 39, .int t, .int tr, .int mi, .int hp])
def ArI (M : kf_M) (a n : Nat) (xs : List Int32) : Prop := M[a]? = some (oI xs) ∧ xs.length = n
theorem ArI.off {M M' : kf_M} {A : List Nat} {a n : Nat} {xs : List Int32} (h : ArI M a n xs) (ho : Off A M M') (h0 : a ∉ A) : ArI M' a n xs := ⟨ho.at h0 h.1, h.2⟩
def VtIs (M : kf_M) (ms pn tk : List Int32) (t tr mi hp : Int32) : Prop := VtO M t tr mi hp ∧ ArI M 36 32 ms ∧ ArI M 37 16 pn ∧ (∃ mc, ArI M 38 32 mc) ∧ ArI M 39 32 tk ∧ HA M 33
theorem VtIs.off {M M' : kf_M} {A : List Nat} {ms pn tk : List Int32} {t tr mi hp : Int32} (h : VtIs M ms pn tk t tr mi hp) (ho : Off A M M') (hA : ∀ a ∈ A, a < 32 ∨ 39 < a) : VtIs M' ms pn tk t tr mi hp := by
  obtain ⟨h1, h2, h3, ⟨mc, h4⟩, h5, h6⟩ := h
  have n : ∀ x, 32 ≤ x → x ≤ 39 → x ∉ A := fun x a b q => by have := hA x q; omega
  exact ⟨ho.at (n 32 (by omega) (by omega)) h1, h2.off ho (n _ (by omega) (by omega)), h3.off ho (n _ (by omega) (by omega)), ⟨mc, h4.off ho (n _ (by omega) (by omega))⟩, h5.off ho (n _ (by omega) (by omega)), h6.off ho (n _ (by omega) (by omega)) (n _ (by omega) (by omega)) (n _ (by omega) (by omega))⟩
theorem VtIs.rc {M : kf_M} {ms pn tk : List Int32} {t tr mi hp : Int32} (h : VtIs M ms pn tk t tr mi hp) : kf_rcv M 10 (some (.ref 32)) = true := kf_rcv_ok (gO_of h.1)
theorem shr32 (t s : Int32) : t >>> (s &&& 31) = sh32 t s := rfl
/-- fresh: into the token, or into another array -/
theorem c89 {M : kf_M} {ms pn tk ys : List Int32} {t tr mi hp : Int32} {b : Nat} (h : VtIs M ms pn tk t tr mi hp) (hS : SH M) (gb : ArI M b 32 ys) (hb : b = 39 ∨ 39 < b) : ∃ M', kf_cl 89 [.ref 32, .ref b] M = some (none, M') ∧ VtIs M' ms pn (if b = 39 then frs ms t else tk) (t + 1) tr mi hp ∧ ArI M' b 32 (frs ms t) ∧ Off [32, 33, 34, 35, b] M M' := by
  obtain ⟨h1, h2, h3, ⟨mc, h4⟩, h5, h6⟩ := h
  have g := gO_of h1
  obtain ⟨M1, k1, r1, o1⟩ := h25 h6 hS.1 (by omega)
  have s1 := hS.off o1 (by decide) (by decide)
  obtain ⟨M2, k2, r2, o2⟩ := h27 (f := 0) (n := 32) r1 (by simp) s1.2 (o1.at (by decide) h2.1) (by have := h2.2; omega) (by have := h2.2; omega) (by omega) (by decide)
  rw [List.nil_append, List.drop_zero, List.take_of_length_le (by have := h2.2; omega)] at r2
  have s2 := s1.off o2 (by decide) (by decide)
  have l2 := h2.2
  obtain ⟨M3, k3, r3, o3⟩ := h26 (sh32 t 24) r2 (by omega) s2.2 (by omega)
  have s3 := s2.off o3 (by decide) (by decide)
  obtain ⟨M4, k4, r4, o4⟩ := h26 (sh32 t 16) r3 (by simp; omega) s3.2 (by omega)
  have s4 := s3.off o4 (by decide) (by decide)
  obtain ⟨M5, k5, r5, o5⟩ := h26 (sh32 t 8) r4 (by simp; omega) s4.2 (by omega)
  have s5 := s4.off o5 (by decide) (by decide)
  obtain ⟨M6, k6, r6, o6⟩ := h26 (sh32 t 0) r5 (by simp; omega) s5.2 (by omega)
  have s6 := s5.off o6 (by decide) (by decide)
  have o16 := o1.tr (o2.tr (o3.tr (o4.tr (o5.tr o6))))
  have nb : b ∉ [33, 33 + 1, 33 + 2] := by simp; omega
  obtain ⟨M7, k7, r7, g7, o7⟩ := h28 r6 (by simp; omega) s6.2 (o16.at nb gb.1) (by have := gb.2; omega) (by have := gb.2; omega) (by omega) nb (by omega)
  rw [List.drop_of_length_le (by have := gb.2; omega), List.append_nil] at g7
  have e7 : sha (byt (ms ++ [sh32 t 24] ++ [sh32 t 16] ++ [sh32 t 8] ++ [sh32 t 0])) = frs ms t := by
    unfold frs byt
    simp only [List.map_append, List.map_cons, List.map_nil, List.append_assoc, List.cons_append, List.nil_append]
  rw [e7] at g7
  have q1 := o1.at (by decide) h1
  have q2 := o2.at (by decide) q1
  have q3 := o3.at (by decide) q2
  have q4 := o4.at (by decide) q3
  have q5 := o5.at (by decide) q4
  have q6 := o6.at (by decide) q5
  have q7 := o7.at (by simp; omega) q6
  have gg1 := gO_of q1
  have gg2 := gO_of q2
  have gg3 := gO_of q3
  have gg4 := gO_of q4
  have gg5 := gO_of q5
  have gg6 := gO_of q6
  have gg7 := gO_of q7
  have rc0 := h6.rc
  have rc1 := r1.ha.rc
  have rc2 := r2.ha.rc
  have rc3 := r3.ha.rc
  have rc4 := r4.ha.rc
  have rc5 := r5.ha.rc
  have rc6 := r6.ha.rc
  rw [nI_0, show nI 32 = 32 from rfl] at k2
  have oa : Off [32, 33, 34, 35, b] M M7 := (o16.wk (by simp)).tr (o7.wk (by simp))
  have ob : ∀ X, Off [32] M7 (M7.set 32 X) := fun X => Off.set (by simp)
  have oc : ∀ X, Off [32, 33, 34, 35, b] M (M7.set 32 X) := fun X => oa.tr ((ob X).wk (by simp))
  refine ⟨_, by (simp only [cl_89, e89_0, e89_1, e89_4, e89_7, e89_8, e89_11, e89_12, e89_15, e89_16, e89_18, e89_21, e89_23, e89_24, e89_25, e89_28, e89_29, e89_32, e89_33, e89_36, e89_37, e89_38, e89_41, e89_44, e89_47, e89_48, e89_51, e89_52, e89_55, e89_56, e89_57, e89_60, e89_61, e89_62, e89_65, ow_89, Int32.reduceOfInt, Int32.reduceOfNat, Int32.reduceToNatClampNeg, Int32.reduceLT, Int32.reduceLE, Int32.reduceAdd, Int32.reduceSub, Int32.reduceMul, Int64.reduceOfNat, Int64.reduceOfInt, Nat.reduceLeDiff, Nat.reduceLT, Nat.reduceEqDiff, Nat.reduceSub, cs_0, cs_1, cs_2, cs_3, cs_4, cs_5, cs_6, cs_7, cs_8, or_false, false_or, not_false_eq_true, and_true, true_and, if_true, if_false, List.length_cons, List.length_nil, List.getElem?_cons_succ, List.getElem?_cons_zero, List.set_cons_succ, List.set_cons_zero, reduceIte, d_G, d_R, s_aload, s_aload_n, s_iload, s_iload_n, s_lload, s_lload_n, s_istore, s_istore_n, s_astore, s_astoreN, s_astore_n, s_astore_nN, s_lstore, s_lstore_n, s_iinc, s_iconst, s_bipush, s_sipush, s_lconst, s_ldc2_w, s_aconst_null, s_dupA, s_dupI, s_dup2, s_iadd, s_isub, s_imul, s_iand, s_ior, s_ixor, s_ishl, s_ishr, s_iushr, s_ineg, s_idiv, s_irem, s_ladd, s_lsub, s_lmul, s_land, s_lor, s_lxor, s_ldiv, s_lshl, s_lshr, s_lushr, s_i2l, s_l2i, s_lcmp, s_goto, s_ieq, s_ine, s_ilt, s_ige, s_igt, s_ile, s_zeq, s_zne, s_zlt, s_zge, s_zgt, s_zle, s_ifnull, s_ifnullN, s_ifnonnull, s_ifnonnullN, s_tableswitch, s_lookupswitch, s_getfield, s_putfield, s_getstatic, s_iaload, s_laload, s_baload, s_aaload, s_iastore, s_lastore, s_bastore, s_aastore, s_arraylength, s_newI, s_newJ, s_newZ, s_anewarray, s_new, s_copy, s_max, s_min, s_invokestatic, s_objinit, s_invokespecial, kf_isr_r, s_invokevirtual, s_ireturn, s_lreturn, s_areturn, s_areturnN, s_return, lI_0, lI_s, lJ_0, lJ_s, lA_0, lA_0N, lA_s, lS1_0, lS1_1, lS1_2, lS2_0, lS2_1, lS2_2, lK_n, lK_i, lK_j, lK_a, lK_N, d_C', kf_w_0, kf_w_i, kf_w_a, kf_w_n, kf_w_j, c_0, c_1, c_2, c_3, c_4, c_5, c_6, tl_0, tl_1, Option.bind_some, Option.bind_none, Option.map_some, Nat.reduceAdd, Nat.reduceMul, Nat.reduceDiv, Nat.reduceMod, Int.reduceToNat, Fin.val_zero, Fin.isValue, Fin.val_one, Fin.val_two, fv_0, fv_1, fv_2, fv_3, fw_0, fw_1, d_ite, true_or, or_true, and_false, false_and, or_self, and_self, ow_25, ow_26, ow_27, ow_28, shr32, g, gg1, gg2, gg3, gg4, gg5, gg6, gg7, rc0, rc1, rc2, rc3, rc4, rc5, rc6, k1, k2, k3, k4, k5, k6, k7, kf_fit] <;> rfl), ⟨m_self (m_lt q7), h2.off (oc _) (by simp; omega), h3.off (oc _) (by simp; omega), ⟨mc, h4.off (oc _) (by simp; omega)⟩, ?_, r7.off (ob _) (by decide) (by decide) (by decide)⟩, ⟨(ob _).at (by simp; omega) g7, sha_len⟩, oc _⟩
  by_cases hb9 : b = 39
  · subst hb9
    rw [if_pos rfl]
    exact ⟨(ob _).at (by simp) g7, sha_len⟩
  · rw [if_neg hb9]
    exact h5.off (oc _) (by simp; omega)
theorem c87 {M : kf_M} {ms pn tk : List Int32} {t tr mi hp : Int32} (h : VtIs M ms pn tk t tr mi hp) (hS : SH M) : ∃ M', kf_cl 87 [.ref 32] M = some (none, M') ∧ VtIs M' (sha (byt ms ++ [1])) pn tk t tr mi hp ∧ Off [33, 34, 35, 36] M M' := by
  obtain ⟨h1, h2, h3, ⟨mc, h4⟩, h5, h6⟩ := h
  have g := gO_of h1
  have l2 := h2.2
  obtain ⟨M1, k1, r1, o1⟩ := h25 h6 hS.1 (by omega)
  have s1 := hS.off o1 (by decide) (by decide)
  obtain ⟨M2, k2, r2, o2⟩ := h27 (f := 0) (n := 32) r1 (by simp) s1.2 (o1.at (by decide) h2.1) (by omega) (by omega) (by omega) (by decide)
  rw [List.nil_append, List.drop_zero, List.take_of_length_le (by omega)] at r2
  have s2 := s1.off o2 (by decide) (by decide)
  obtain ⟨M3, k3, r3, o3⟩ := h26 1 r2 (by omega) s2.2 (by omega)
  have s3 := s2.off o3 (by decide) (by decide)
  have o13 := o1.tr (o2.tr o3)
  obtain ⟨M7, k7, r7, g7, o7⟩ := h28 r3 (by simp; omega) s3.2 (o13.at (by decide) h2.1) (by omega) (by omega) (by omega) (by decide) (by omega)
  rw [List.drop_of_length_le (by omega), List.append_nil] at g7
  have e7 : sha (byt (ms ++ [1])) = sha (byt ms ++ [1]) := by
    unfold byt
    rw [List.map_append]
    rfl
  rw [e7] at g7
  have gg1 := gO_of (o1.at (by decide) h1)
  have gg2 := gO_of (o2.at (by decide) (o1.at (by decide) h1))
  have gg3 := gO_of (o13.at (by decide) h1)
  have rc0 := h6.rc
  have rc1 := r1.ha.rc
  have rc2 := r2.ha.rc
  have rc3 := r3.ha.rc
  rw [nI_0, show nI 32 = 32 from rfl] at k2
  have oa : Off [33, 34, 35, 36] M M7 := (o13.wk (by decide)).tr o7
  exact ⟨M7, by simp only [cl_87, e87_0, e87_1, e87_4, e87_7, e87_8, e87_11, e87_12, e87_15, e87_16, e87_18, e87_21, e87_22, e87_25, e87_26, e87_29, e87_30, e87_33, e87_34, e87_37, e87_40, ow_87, Int32.reduceOfInt, Int32.reduceOfNat, Int32.reduceToNatClampNeg, Int32.reduceLT, Int32.reduceLE, Int32.reduceAdd, Int32.reduceSub, Int32.reduceMul, Int64.reduceOfNat, Int64.reduceOfInt, Nat.reduceLeDiff, Nat.reduceLT, Nat.reduceEqDiff, Nat.reduceSub, cs_0, cs_1, cs_2, cs_3, cs_4, cs_5, cs_6, cs_7, cs_8, or_false, false_or, not_false_eq_true, and_true, true_and, if_true, if_false, List.length_cons, List.length_nil, List.getElem?_cons_succ, List.getElem?_cons_zero, List.set_cons_succ, List.set_cons_zero, reduceIte, d_G, d_R, s_aload, s_aload_n, s_iload, s_iload_n, s_lload, s_lload_n, s_istore, s_istore_n, s_astore, s_astoreN, s_astore_n, s_astore_nN, s_lstore, s_lstore_n, s_iinc, s_iconst, s_bipush, s_sipush, s_lconst, s_ldc2_w, s_aconst_null, s_dupA, s_dupI, s_dup2, s_iadd, s_isub, s_imul, s_iand, s_ior, s_ixor, s_ishl, s_ishr, s_iushr, s_ineg, s_idiv, s_irem, s_ladd, s_lsub, s_lmul, s_land, s_lor, s_lxor, s_ldiv, s_lshl, s_lshr, s_lushr, s_i2l, s_l2i, s_lcmp, s_goto, s_ieq, s_ine, s_ilt, s_ige, s_igt, s_ile, s_zeq, s_zne, s_zlt, s_zge, s_zgt, s_zle, s_ifnull, s_ifnullN, s_ifnonnull, s_ifnonnullN, s_tableswitch, s_lookupswitch, s_getfield, s_putfield, s_getstatic, s_iaload, s_laload, s_baload, s_aaload, s_iastore, s_lastore, s_bastore, s_aastore, s_arraylength, s_newI, s_newJ, s_newZ, s_anewarray, s_new, s_copy, s_max, s_min, s_invokestatic, s_objinit, s_invokespecial, kf_isr_r, s_invokevirtual, s_ireturn, s_lreturn, s_areturn, s_areturnN, s_return, lI_0, lI_s, lJ_0, lJ_s, lA_0, lA_0N, lA_s, lS1_0, lS1_1, lS1_2, lS2_0, lS2_1, lS2_2, lK_n, lK_i, lK_j, lK_a, lK_N, d_C', kf_w_0, kf_w_i, kf_w_a, kf_w_n, kf_w_j, c_0, c_1, c_2, c_3, c_4, c_5, c_6, tl_0, tl_1, Option.bind_some, Option.bind_none, Option.map_some, Nat.reduceAdd, Nat.reduceMul, Nat.reduceDiv, Nat.reduceMod, Int.reduceToNat, Fin.val_zero, Fin.isValue, Fin.val_one, Fin.val_two, fv_0, fv_1, fv_2, fv_3, fw_0, fw_1, d_ite, true_or, or_true, and_false, false_and, or_self, and_self, ow_25, ow_26, ow_27, ow_28, g, gg1, gg2, gg3, rc0, rc1, rc2, rc3, k1, k2, k3, k7], ⟨oa.at (by decide) h1, ⟨g7, sha_len⟩, h3.off oa (by decide), ⟨mc, h4.off oa (by decide)⟩, h5.off oa (by decide), r7⟩, oa⟩
/-- a field of the vault is written -/
theorem VtIs.put {M : kf_M} {ms pn tk : List Int32} {t tr mi hp t' tr' mi' hp' : Int32} (h : VtIs M ms pn tk t tr mi hp) : VtIs (M.set 32 (oO 10 [.ref 33, .ref 36, .ref 37, .ref 38, .ref 39, .int t', .int tr', .int mi', .int hp'])) ms pn tk t' tr' mi' hp' := by
  obtain ⟨h1, h2, h3, ⟨mc, h4⟩, h5, h6⟩ := h
  have ob : ∀ X, Off [32] M (M.set 32 X) := fun X => Off.set (by simp)
  exact ⟨m_self (m_lt h1), h2.off (ob _) (by decide), h3.off (ob _) (by decide), ⟨mc, h4.off (ob _) (by decide)⟩, h5.off (ob _) (by decide), h6.off (ob _) (by decide) (by decide) (by decide)⟩
theorem c88 {M : kf_M} {ms pn tk : List Int32} {t tr mi hp : Int32} (h : VtIs M ms pn tk t tr mi hp) (hS : SH M) : ∃ M', kf_cl 88 [.ref 32] M = some (none, M') ∧ VtIs M' ms pn (frs ms t) (t + 1) tr 0 hp ∧ Off [32, 33, 34, 35, 39] M M' := by
  have g := gO_of h.1
  have hq := h.put (t' := t) (tr' := tr) (mi' := 0) (hp' := hp)
  have g1 := gO_of hq.1
  have ob : ∀ X, Off [32] M (M.set 32 X) := fun X => Off.set (by simp)
  obtain ⟨M1, k1, r1, a1, o1⟩ := c89 hq (hS.off (ob _) (by decide) (by decide)) hq.2.2.2.2.1 (Or.inl rfl)
  have rc1 := hq.rc
  exact ⟨M1, by simp only [cl_88, e88_0, e88_1, e88_2, e88_5, e88_6, e88_7, e88_10, e88_13, ow_88, Int32.reduceOfInt, Int32.reduceOfNat, Int32.reduceToNatClampNeg, Int32.reduceLT, Int32.reduceLE, Int32.reduceAdd, Int32.reduceSub, Int32.reduceMul, Int64.reduceOfNat, Int64.reduceOfInt, Nat.reduceLeDiff, Nat.reduceLT, Nat.reduceEqDiff, Nat.reduceSub, cs_0, cs_1, cs_2, cs_3, cs_4, cs_5, cs_6, cs_7, cs_8, or_false, false_or, not_false_eq_true, and_true, true_and, if_true, if_false, List.length_cons, List.length_nil, List.getElem?_cons_succ, List.getElem?_cons_zero, List.set_cons_succ, List.set_cons_zero, reduceIte, d_G, d_R, s_aload, s_aload_n, s_iload, s_iload_n, s_lload, s_lload_n, s_istore, s_istore_n, s_astore, s_astoreN, s_astore_n, s_astore_nN, s_lstore, s_lstore_n, s_iinc, s_iconst, s_bipush, s_sipush, s_lconst, s_ldc2_w, s_aconst_null, s_dupA, s_dupI, s_dup2, s_iadd, s_isub, s_imul, s_iand, s_ior, s_ixor, s_ishl, s_ishr, s_iushr, s_ineg, s_idiv, s_irem, s_ladd, s_lsub, s_lmul, s_land, s_lor, s_lxor, s_ldiv, s_lshl, s_lshr, s_lushr, s_i2l, s_l2i, s_lcmp, s_goto, s_ieq, s_ine, s_ilt, s_ige, s_igt, s_ile, s_zeq, s_zne, s_zlt, s_zge, s_zgt, s_zle, s_ifnull, s_ifnullN, s_ifnonnull, s_ifnonnullN, s_tableswitch, s_lookupswitch, s_getfield, s_putfield, s_getstatic, s_iaload, s_laload, s_baload, s_aaload, s_iastore, s_lastore, s_bastore, s_aastore, s_arraylength, s_newI, s_newJ, s_newZ, s_anewarray, s_new, s_copy, s_max, s_min, s_invokestatic, s_objinit, s_invokespecial, kf_isr_r, s_invokevirtual, s_ireturn, s_lreturn, s_areturn, s_areturnN, s_return, lI_0, lI_s, lJ_0, lJ_s, lA_0, lA_0N, lA_s, lS1_0, lS1_1, lS1_2, lS2_0, lS2_1, lS2_2, lK_n, lK_i, lK_j, lK_a, lK_N, d_C', kf_w_0, kf_w_i, kf_w_a, kf_w_n, kf_w_j, c_0, c_1, c_2, c_3, c_4, c_5, c_6, tl_0, tl_1, Option.bind_some, Option.bind_none, Option.map_some, Nat.reduceAdd, Nat.reduceMul, Nat.reduceDiv, Nat.reduceMod, Int.reduceToNat, Fin.val_zero, Fin.isValue, Fin.val_one, Fin.val_two, fv_0, fv_1, fv_2, fv_3, fw_0, fw_1, d_ite, true_or, or_true, and_false, false_and, or_self, and_self, ow_89, g, g1, rc1, k1, kf_fit], r1, ((ob _).wk (by decide)).tr o1⟩
theorem c93 {M : kf_M} {ms pn tk : List Int32} {t tr mi hp : Int32} (h : VtIs M ms pn tk t tr mi hp) (hS : SH M) : ∃ M', kf_cl 93 [.ref 32] M = some (none, M') ∧ VtIs M' ms pn (frs ms 0) 1 8 0 0 ∧ Off [32, 33, 34, 35, 39] M M' := by
  have g := gO_of h.1
  have l := m_lt h.1
  have ob : ∀ X, Off [32] M (M.set 32 X) := fun X => Off.set (by simp)
  have hq := h.put (t' := 0) (tr' := 8) (mi' := 0) (hp' := 0)
  have g1 := gO_of hq.1
  have gs : ∀ fs, gO (M.set 32 (oO 10 fs)) 32 = some (10, fs) := fun fs => gO_self l
  obtain ⟨M1, k1, r1, a1, o1⟩ := c89 hq (hS.off (ob _) (by decide) (by decide)) hq.2.2.2.2.1 (Or.inl rfl)
  have rc1 := hq.rc
  exact ⟨M1, by (simp only [cl_93, e93_0, e93_1, e93_2, e93_5, e93_6, e93_8, e93_11, e93_12, e93_13, e93_16, e93_17, e93_18, e93_21, e93_22, e93_23, e93_26, e93_29, ow_93, Int32.reduceOfInt, Int32.reduceOfNat, Int32.reduceToNatClampNeg, Int32.reduceLT, Int32.reduceLE, Int32.reduceAdd, Int32.reduceSub, Int32.reduceMul, Int64.reduceOfNat, Int64.reduceOfInt, Nat.reduceLeDiff, Nat.reduceLT, Nat.reduceEqDiff, Nat.reduceSub, cs_0, cs_1, cs_2, cs_3, cs_4, cs_5, cs_6, cs_7, cs_8, or_false, false_or, not_false_eq_true, and_true, true_and, if_true, if_false, List.length_cons, List.length_nil, List.getElem?_cons_succ, List.getElem?_cons_zero, List.set_cons_succ, List.set_cons_zero, reduceIte, d_G, d_R, s_aload, s_aload_n, s_iload, s_iload_n, s_lload, s_lload_n, s_istore, s_istore_n, s_astore, s_astoreN, s_astore_n, s_astore_nN, s_lstore, s_lstore_n, s_iinc, s_iconst, s_bipush, s_sipush, s_lconst, s_ldc2_w, s_aconst_null, s_dupA, s_dupI, s_dup2, s_iadd, s_isub, s_imul, s_iand, s_ior, s_ixor, s_ishl, s_ishr, s_iushr, s_ineg, s_idiv, s_irem, s_ladd, s_lsub, s_lmul, s_land, s_lor, s_lxor, s_ldiv, s_lshl, s_lshr, s_lushr, s_i2l, s_l2i, s_lcmp, s_goto, s_ieq, s_ine, s_ilt, s_ige, s_igt, s_ile, s_zeq, s_zne, s_zlt, s_zge, s_zgt, s_zle, s_ifnull, s_ifnullN, s_ifnonnull, s_ifnonnullN, s_tableswitch, s_lookupswitch, s_getfield, s_putfield, s_getstatic, s_iaload, s_laload, s_baload, s_aaload, s_iastore, s_lastore, s_bastore, s_aastore, s_arraylength, s_newI, s_newJ, s_newZ, s_anewarray, s_new, s_copy, s_max, s_min, s_invokestatic, s_objinit, s_invokespecial, kf_isr_r, s_invokevirtual, s_ireturn, s_lreturn, s_areturn, s_areturnN, s_return, lI_0, lI_s, lJ_0, lJ_s, lA_0, lA_0N, lA_s, lS1_0, lS1_1, lS1_2, lS2_0, lS2_1, lS2_2, lK_n, lK_i, lK_j, lK_a, lK_N, d_C', kf_w_0, kf_w_i, kf_w_a, kf_w_n, kf_w_j, c_0, c_1, c_2, c_3, c_4, c_5, c_6, tl_0, tl_1, Option.bind_some, Option.bind_none, Option.map_some, Nat.reduceAdd, Nat.reduceMul, Nat.reduceDiv, Nat.reduceMod, Int.reduceToNat, Fin.val_zero, Fin.isValue, Fin.val_one, Fin.val_two, fv_0, fv_1, fv_2, fv_3, fw_0, fw_1, d_ite, true_or, or_true, and_false, false_and, or_self, and_self, ow_89, g, gs, rc1, k1, kf_fit, List.set_set]; rfl), r1, ((ob _).wk (by decide)).tr o1⟩
theorem c94l {ms pn tk : List Int32} {t tr mi hp y : Int32} : ∀ (m i : Nat) (M : kf_M) (bs : List Int32), i + m = 64 → VtIs M ms pn tk t tr mi hp → HV M 33 bs → M[1]? = some (oI sx_1) → bs.length + m < 1000 → ∃ M', kf_ev 94 9 [some (.ref 32), some (.int y), some (.int (nI i))] [] M = some (none, M') ∧ HV M' 33 (bs ++ (List.range' i m).map (fun k => if k < 32 then tk.getD k 0 ^^^ y else y)) ∧ VtIs M' ms pn tk t tr mi hp ∧ Off [33, 34, 35] M M' := by
  intro m
  induction m with
  | zero =>
    intro i M bs hi hV hH gk hl
    have hi : i = 64 := by omega
    subst hi
    have e : (64 : Int32) ≤ nI 64 := by decide
    exact ⟨M, (e94_9 _ _ _).trans (by simp only [cl_94, e94_0, e94_1, e94_4, e94_7, e94_8, e94_10, e94_12, e94_15, e94_16, e94_19, e94_20, e94_22, e94_25, e94_26, e94_29, e94_30, e94_31, e94_32, e94_33, e94_36, e94_37, e94_40, e94_43, e94_46, ow_94, Int32.reduceOfInt, Int32.reduceOfNat, Int32.reduceToNatClampNeg, Int32.reduceLT, Int32.reduceLE, Int32.reduceAdd, Int32.reduceSub, Int32.reduceMul, Int64.reduceOfNat, Int64.reduceOfInt, Nat.reduceLeDiff, Nat.reduceLT, Nat.reduceEqDiff, Nat.reduceSub, cs_0, cs_1, cs_2, cs_3, cs_4, cs_5, cs_6, cs_7, cs_8, or_false, false_or, not_false_eq_true, and_true, true_and, if_true, if_false, List.length_cons, List.length_nil, List.getElem?_cons_succ, List.getElem?_cons_zero, List.set_cons_succ, List.set_cons_zero, reduceIte, d_G, d_R, s_aload, s_aload_n, s_iload, s_iload_n, s_lload, s_lload_n, s_istore, s_istore_n, s_astore, s_astoreN, s_astore_n, s_astore_nN, s_lstore, s_lstore_n, s_iinc, s_iconst, s_bipush, s_sipush, s_lconst, s_ldc2_w, s_aconst_null, s_dupA, s_dupI, s_dup2, s_iadd, s_isub, s_imul, s_iand, s_ior, s_ixor, s_ishl, s_ishr, s_iushr, s_ineg, s_idiv, s_irem, s_ladd, s_lsub, s_lmul, s_land, s_lor, s_lxor, s_ldiv, s_lshl, s_lshr, s_lushr, s_i2l, s_l2i, s_lcmp, s_goto, s_ieq, s_ine, s_ilt, s_ige, s_igt, s_ile, s_zeq, s_zne, s_zlt, s_zge, s_zgt, s_zle, s_ifnull, s_ifnullN, s_ifnonnull, s_ifnonnullN, s_tableswitch, s_lookupswitch, s_getfield, s_putfield, s_getstatic, s_iaload, s_laload, s_baload, s_aaload, s_iastore, s_lastore, s_bastore, s_aastore, s_arraylength, s_newI, s_newJ, s_newZ, s_anewarray, s_new, s_copy, s_max, s_min, s_invokestatic, s_objinit, s_invokespecial, kf_isr_r, s_invokevirtual, s_ireturn, s_lreturn, s_areturn, s_areturnN, s_return, lI_0, lI_s, lJ_0, lJ_s, lA_0, lA_0N, lA_s, lS1_0, lS1_1, lS1_2, lS2_0, lS2_1, lS2_2, lK_n, lK_i, lK_j, lK_a, lK_N, d_C', kf_w_0, kf_w_i, kf_w_a, kf_w_n, kf_w_j, c_0, c_1, c_2, c_3, c_4, c_5, c_6, tl_0, tl_1, Option.bind_some, Option.bind_none, Option.map_some, Nat.reduceAdd, Nat.reduceMul, Nat.reduceDiv, Nat.reduceMod, Int.reduceToNat, Fin.val_zero, Fin.isValue, Fin.val_one, Fin.val_two, fv_0, fv_1, fv_2, fv_3, fw_0, fw_1, d_ite, true_or, or_true, and_false, false_and, or_self, and_self, e]), by simpa using hH, hV, Off.rf⟩
  | succ m ih =>
    intro i M bs hi hV hH gk hl
    have e : ¬ (64 : Int32) ≤ nI i := nI_ge (a := i) (b := 64) (by omega) (by omega)
    have p0 : ¬ nI i < 0 := nI_pos (by omega)
    have p1 : (nI i).toNatClampNeg = i := nI_clamp (by omega)
    have g := gO_of hV.1
    have gt := gI_of hV.2.2.2.2.1.1
    have lt := hV.2.2.2.2.1.2
    have rc := hH.ha.rc
    rw [List.range'_succ, List.map_cons, List.append_cons]
    obtain ⟨h1, h2, h3, ⟨mc, h4⟩, h5, h6⟩ := hV
    by_cases h32 : i < 32
    · have e2 : ¬ (32 : Int32) ≤ nI i := nI_ge (a := i) (b := 32) (by omega) (by omega)
      have x1 := getD_of (xs := tk) (i := i) (by omega)
      obtain ⟨M1, k1, r1, o1⟩ := h26 (tk.getD i 0 ^^^ y) hH (by omega) gk (by omega)
      have hV1 : VtIs M1 ms pn tk t tr mi hp := ⟨o1.at (by decide) h1, h2.off o1 (by decide), h3.off o1 (by decide), ⟨mc, h4.off o1 (by decide)⟩, h5.off o1 (by decide), r1.ha⟩
      obtain ⟨M2, k2, r2, v2, o2⟩ := ih (i + 1) M1 _ (by omega) hV1 r1 (o1.at (by decide) gk) (by simp; omega)
      rw [if_pos h32]
      exact ⟨M2, (e94_9 _ _ _).trans (by simp only [cl_94, e94_0, e94_1, e94_4, e94_7, e94_8, e94_10, e94_12, e94_15, e94_16, e94_19, e94_20, e94_22, e94_25, e94_26, e94_29, e94_30, e94_31, e94_32, e94_33, e94_36, e94_37, e94_40, e94_43, e94_46, ow_94, Int32.reduceOfInt, Int32.reduceOfNat, Int32.reduceToNatClampNeg, Int32.reduceLT, Int32.reduceLE, Int32.reduceAdd, Int32.reduceSub, Int32.reduceMul, Int64.reduceOfNat, Int64.reduceOfInt, Nat.reduceLeDiff, Nat.reduceLT, Nat.reduceEqDiff, Nat.reduceSub, cs_0, cs_1, cs_2, cs_3, cs_4, cs_5, cs_6, cs_7, cs_8, or_false, false_or, not_false_eq_true, and_true, true_and, if_true, if_false, List.length_cons, List.length_nil, List.getElem?_cons_succ, List.getElem?_cons_zero, List.set_cons_succ, List.set_cons_zero, reduceIte, d_G, d_R, s_aload, s_aload_n, s_iload, s_iload_n, s_lload, s_lload_n, s_istore, s_istore_n, s_astore, s_astoreN, s_astore_n, s_astore_nN, s_lstore, s_lstore_n, s_iinc, s_iconst, s_bipush, s_sipush, s_lconst, s_ldc2_w, s_aconst_null, s_dupA, s_dupI, s_dup2, s_iadd, s_isub, s_imul, s_iand, s_ior, s_ixor, s_ishl, s_ishr, s_iushr, s_ineg, s_idiv, s_irem, s_ladd, s_lsub, s_lmul, s_land, s_lor, s_lxor, s_ldiv, s_lshl, s_lshr, s_lushr, s_i2l, s_l2i, s_lcmp, s_goto, s_ieq, s_ine, s_ilt, s_ige, s_igt, s_ile, s_zeq, s_zne, s_zlt, s_zge, s_zgt, s_zle, s_ifnull, s_ifnullN, s_ifnonnull, s_ifnonnullN, s_tableswitch, s_lookupswitch, s_getfield, s_putfield, s_getstatic, s_iaload, s_laload, s_baload, s_aaload, s_iastore, s_lastore, s_bastore, s_aastore, s_arraylength, s_newI, s_newJ, s_newZ, s_anewarray, s_new, s_copy, s_max, s_min, s_invokestatic, s_objinit, s_invokespecial, kf_isr_r, s_invokevirtual, s_ireturn, s_lreturn, s_areturn, s_areturnN, s_return, lI_0, lI_s, lJ_0, lJ_s, lA_0, lA_0N, lA_s, lS1_0, lS1_1, lS1_2, lS2_0, lS2_1, lS2_2, lK_n, lK_i, lK_j, lK_a, lK_N, d_C', kf_w_0, kf_w_i, kf_w_a, kf_w_n, kf_w_j, c_0, c_1, c_2, c_3, c_4, c_5, c_6, tl_0, tl_1, Option.bind_some, Option.bind_none, Option.map_some, Nat.reduceAdd, Nat.reduceMul, Nat.reduceDiv, Nat.reduceMod, Int.reduceToNat, Fin.val_zero, Fin.isValue, Fin.val_one, Fin.val_two, fv_0, fv_1, fv_2, fv_3, fw_0, fw_1, d_ite, true_or, or_true, and_false, false_and, or_self, and_self, ow_26, e, e2, p0, p1, x1, g, gt, nI_1, rc, k1, k2]), r2, v2, o1.tr o2⟩
    · have e2 : (32 : Int32) ≤ nI i := nI_le (a := 32) (b := i) (by omega) (by omega)
      obtain ⟨M1, k1, r1, o1⟩ := h26 y hH (by omega) gk (by omega)
      have hV1 : VtIs M1 ms pn tk t tr mi hp := ⟨o1.at (by decide) h1, h2.off o1 (by decide), h3.off o1 (by decide), ⟨mc, h4.off o1 (by decide)⟩, h5.off o1 (by decide), r1.ha⟩
      obtain ⟨M2, k2, r2, v2, o2⟩ := ih (i + 1) M1 _ (by omega) hV1 r1 (o1.at (by decide) gk) (by simp; omega)
      rw [if_neg h32]
      exact ⟨M2, (e94_9 _ _ _).trans (by simp only [cl_94, e94_0, e94_1, e94_4, e94_7, e94_8, e94_10, e94_12, e94_15, e94_16, e94_19, e94_20, e94_22, e94_25, e94_26, e94_29, e94_30, e94_31, e94_32, e94_33, e94_36, e94_37, e94_40, e94_43, e94_46, ow_94, Int32.reduceOfInt, Int32.reduceOfNat, Int32.reduceToNatClampNeg, Int32.reduceLT, Int32.reduceLE, Int32.reduceAdd, Int32.reduceSub, Int32.reduceMul, Int64.reduceOfNat, Int64.reduceOfInt, Nat.reduceLeDiff, Nat.reduceLT, Nat.reduceEqDiff, Nat.reduceSub, cs_0, cs_1, cs_2, cs_3, cs_4, cs_5, cs_6, cs_7, cs_8, or_false, false_or, not_false_eq_true, and_true, true_and, if_true, if_false, List.length_cons, List.length_nil, List.getElem?_cons_succ, List.getElem?_cons_zero, List.set_cons_succ, List.set_cons_zero, reduceIte, d_G, d_R, s_aload, s_aload_n, s_iload, s_iload_n, s_lload, s_lload_n, s_istore, s_istore_n, s_astore, s_astoreN, s_astore_n, s_astore_nN, s_lstore, s_lstore_n, s_iinc, s_iconst, s_bipush, s_sipush, s_lconst, s_ldc2_w, s_aconst_null, s_dupA, s_dupI, s_dup2, s_iadd, s_isub, s_imul, s_iand, s_ior, s_ixor, s_ishl, s_ishr, s_iushr, s_ineg, s_idiv, s_irem, s_ladd, s_lsub, s_lmul, s_land, s_lor, s_lxor, s_ldiv, s_lshl, s_lshr, s_lushr, s_i2l, s_l2i, s_lcmp, s_goto, s_ieq, s_ine, s_ilt, s_ige, s_igt, s_ile, s_zeq, s_zne, s_zlt, s_zge, s_zgt, s_zle, s_ifnull, s_ifnullN, s_ifnonnull, s_ifnonnullN, s_tableswitch, s_lookupswitch, s_getfield, s_putfield, s_getstatic, s_iaload, s_laload, s_baload, s_aaload, s_iastore, s_lastore, s_bastore, s_aastore, s_arraylength, s_newI, s_newJ, s_newZ, s_anewarray, s_new, s_copy, s_max, s_min, s_invokestatic, s_objinit, s_invokespecial, kf_isr_r, s_invokevirtual, s_ireturn, s_lreturn, s_areturn, s_areturnN, s_return, lI_0, lI_s, lJ_0, lJ_s, lA_0, lA_0N, lA_s, lS1_0, lS1_1, lS1_2, lS2_0, lS2_1, lS2_2, lK_n, lK_i, lK_j, lK_a, lK_N, d_C', kf_w_0, kf_w_i, kf_w_a, kf_w_n, kf_w_j, c_0, c_1, c_2, c_3, c_4, c_5, c_6, tl_0, tl_1, Option.bind_some, Option.bind_none, Option.map_some, Nat.reduceAdd, Nat.reduceMul, Nat.reduceDiv, Nat.reduceMod, Int.reduceToNat, Fin.val_zero, Fin.isValue, Fin.val_one, Fin.val_two, fv_0, fv_1, fv_2, fv_3, fw_0, fw_1, d_ite, true_or, or_true, and_false, false_and, or_self, and_self, ow_26, e, e2, g, nI_1, rc, k1, k2]), r2, v2, o1.tr o2⟩
def pdc (ks : List Int32) (y : Int32) : List Int32 := (List.range' 0 64).map (fun k => if k < 32 then ks.getD k 0 ^^^ y else y)
theorem pdc_byt {ks : List Int32} {y : Int32} : byt (pdc ks y) = pdk ks y 0 64 := by
  unfold byt pdc pdk
  rw [List.map_map]
  apply List.map_congr_left
  intro k _
  simp only [Function.comp]
  split
  · rfl
  · rw [Int32.zero_xor]
theorem c94 {M : kf_M} {ms pn tk : List Int32} {t tr mi hp y : Int32} (h : VtIs M ms pn tk t tr mi hp) (hS : SH M) : ∃ M', kf_cl 94 [.ref 32, .int y] M = some (none, M') ∧ HV M' 33 (pdc tk y) ∧ VtIs M' ms pn tk t tr mi hp ∧ Off [33, 34, 35] M M' := by
  have g := gO_of h.1
  obtain ⟨h1, h2, h3, ⟨mc, h4⟩, h5, h6⟩ := h
  obtain ⟨M1, k1, r1, o1⟩ := h25 h6 hS.1 (by omega)
  have hV1 : VtIs M1 ms pn tk t tr mi hp := ⟨o1.at (by decide) h1, h2.off o1 (by decide), h3.off o1 (by decide), ⟨mc, h4.off o1 (by decide)⟩, h5.off o1 (by decide), r1.ha⟩
  obtain ⟨M2, k2, r2, v2, o2⟩ := c94l (y := y) 64 0 M1 [] rfl hV1 r1 (o1.at (by decide) hS.2) (by simp)
  rw [nI_0] at k2
  have rc := h6.rc
  exact ⟨M2, by simp only [cl_94, e94_0, e94_1, e94_4, e94_7, e94_8, e94_10, e94_12, e94_15, e94_16, e94_19, e94_20, e94_22, e94_25, e94_26, e94_29, e94_30, e94_31, e94_32, e94_33, e94_36, e94_37, e94_40, e94_43, e94_46, ow_94, Int32.reduceOfInt, Int32.reduceOfNat, Int32.reduceToNatClampNeg, Int32.reduceLT, Int32.reduceLE, Int32.reduceAdd, Int32.reduceSub, Int32.reduceMul, Int64.reduceOfNat, Int64.reduceOfInt, Nat.reduceLeDiff, Nat.reduceLT, Nat.reduceEqDiff, Nat.reduceSub, cs_0, cs_1, cs_2, cs_3, cs_4, cs_5, cs_6, cs_7, cs_8, or_false, false_or, not_false_eq_true, and_true, true_and, if_true, if_false, List.length_cons, List.length_nil, List.getElem?_cons_succ, List.getElem?_cons_zero, List.set_cons_succ, List.set_cons_zero, reduceIte, d_G, d_R, s_aload, s_aload_n, s_iload, s_iload_n, s_lload, s_lload_n, s_istore, s_istore_n, s_astore, s_astoreN, s_astore_n, s_astore_nN, s_lstore, s_lstore_n, s_iinc, s_iconst, s_bipush, s_sipush, s_lconst, s_ldc2_w, s_aconst_null, s_dupA, s_dupI, s_dup2, s_iadd, s_isub, s_imul, s_iand, s_ior, s_ixor, s_ishl, s_ishr, s_iushr, s_ineg, s_idiv, s_irem, s_ladd, s_lsub, s_lmul, s_land, s_lor, s_lxor, s_ldiv, s_lshl, s_lshr, s_lushr, s_i2l, s_l2i, s_lcmp, s_goto, s_ieq, s_ine, s_ilt, s_ige, s_igt, s_ile, s_zeq, s_zne, s_zlt, s_zge, s_zgt, s_zle, s_ifnull, s_ifnullN, s_ifnonnull, s_ifnonnullN, s_tableswitch, s_lookupswitch, s_getfield, s_putfield, s_getstatic, s_iaload, s_laload, s_baload, s_aaload, s_iastore, s_lastore, s_bastore, s_aastore, s_arraylength, s_newI, s_newJ, s_newZ, s_anewarray, s_new, s_copy, s_max, s_min, s_invokestatic, s_objinit, s_invokespecial, kf_isr_r, s_invokevirtual, s_ireturn, s_lreturn, s_areturn, s_areturnN, s_return, lI_0, lI_s, lJ_0, lJ_s, lA_0, lA_0N, lA_s, lS1_0, lS1_1, lS1_2, lS2_0, lS2_1, lS2_2, lK_n, lK_i, lK_j, lK_a, lK_N, d_C', kf_w_0, kf_w_i, kf_w_a, kf_w_n, kf_w_j, c_0, c_1, c_2, c_3, c_4, c_5, c_6, tl_0, tl_1, Option.bind_some, Option.bind_none, Option.map_some, Nat.reduceAdd, Nat.reduceMul, Nat.reduceDiv, Nat.reduceMod, Int.reduceToNat, Fin.val_zero, Fin.isValue, Fin.val_one, Fin.val_two, fv_0, fv_1, fv_2, fv_3, fw_0, fw_1, d_ite, true_or, or_true, and_false, false_and, or_self, and_self, ow_25, g, rc, k1, k2], r2, v2, o1.tr o2⟩
