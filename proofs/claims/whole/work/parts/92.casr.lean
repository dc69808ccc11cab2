/-! The class: writeData, sign, assertFirst -/
def datA (k : Ky) (x : Int32) : List Int32 := k.1 ++ [x] ++ nBL 4 k.2.2.2
def rwB (x : Int32) (xs : List Int32) : List Int32 := [x] ++ rowHead xs.length ++ xs
theorem ct4 {c : Nat} (hc : c < 4294967296) : [sh64 (Int64.ofNat c) 24 &&& 255, sh64 (Int64.ofNat c) 16 &&& 255, sh64 (Int64.ofNat c) 8 &&& 255, sh64 (Int64.ofNat c) 0 &&& 255] = nBL 4 c := by
  have a0 := ctB hc 0 (by decide)
  have a1 := ctB hc 1 (by decide)
  have a2 := ctB hc 2 (by decide)
  have a3 := ctB hc 3 (by decide)
  show [_, _, _, _] = [nI (c / 256 ^ (4 - 1 - 0) % 256), nI (c / 256 ^ (4 - 1 - 1) % 256), nI (c / 256 ^ (4 - 1 - 2) % 256), nI (c / 256 ^ (4 - 1 - 3) % 256)]
  rw [show (24 : Int32) = nI (24 - 8 * 0) from rfl, show (16 : Int32) = nI (24 - 8 * 1) from rfl, show (8 : Int32) = nI (24 - 8 * 2) from rfl, show (0 : Int32) = nI (24 - 8 * 3) from rfl, a0, a1, a2, a3]
theorem datA_len {k : Ky} {x : Int32} (h : okKy k) : (datA k x).length = 37 := by
  unfold datA
  rw [List.length_append, List.length_append, nBL_len, h.1]
  rfl
theorem datA_b {k : Ky} {x : Int32} (h : okKy k) (hx : ∃ c, c < 256 ∧ x = nI c) : isB (datA k x) := isB_app (isB_app h.2.1 (fun y hy => by rw [List.mem_singleton] at hy; rw [hy]; exact hx)) isB_nBL
theorem of_b {x : Int32} (hx : ∃ c, c < 256 ∧ x = nI c) : x &&& 255 = x := by
  obtain ⟨c, c1, c2⟩ := hx
  rw [c2, nI_b c1]
section CASR
variable {M : kf_M} {fl tc : Int32} {ou da : List Int32} {V : Vs} {σ : List Nat} {rn : Nat} {ks : List Ky} {wt : List Nat} {hs sd wd : List Int32} {G : Gs}
theorem C112 {a : Nat} {k : Ky} {x : Int32} (b2 : FbO M fl tc) (b5 : RowIs M 30 200 da) (ka : KyAt M a k) (ok : okKy k) (ha : okc a) (hx : ∃ c, c < 256 ∧ x = nI c) : ∃ M', kf_cl 112 [.ref 19, .ref a, .int x] M = some (none, M') ∧ RowIs M' 30 200 (datA k x) ∧ Off [30, 31] M M' := by
  have g := gO_of b2
  obtain ⟨jj, jj1, jj2⟩ := ha
  obtain ⟨M1, k1, r1, o1⟩ := c50 (n := 0) b5 (by decide) (Nat.zero_le _)
  rw [List.take_zero] at r1
  have g1 := gO_of (b2.off o1 (by decide))
  have gk1 := gO_of (o1.at (by simp; omega) ka.1)
  have h1 := ka.2.1.off o1 (by simp; omega)
  obtain ⟨M2, k2, r2, o2⟩ := c53 (b := a + 1) (st := 0) (n := 32) r1 (by decide) h1.1 (by omega) (by rw [h1.2]; decide) (by rw [h1.2]; decide) (by decide) (by decide)
  rw [List.drop_zero, List.take_of_length_le (by rw [h1.2]; decide), List.nil_append] at r2
  have o12 := o1.tr o2
  have g2 := gO_of (b2.off o12 (by decide))
  obtain ⟨M3, k3, r3, o3⟩ := c51 (v := x) r2 (by decide) (by rw [h1.2]; decide) (by decide)
  rw [of_b hx] at r3
  have o13 := o12.tr o3
  have g3 := gO_of (b2.off o13 (by decide))
  have gk3 := gO_of (o13.at (by simp; omega) ka.1)
  obtain ⟨M4, k4, r4, o4⟩ := c52 (x := Int64.ofNat k.2.2.2) r3 (by decide) (by rw [List.length_append, h1.2]; show 32 + 1 + 4 ≤ 200; decide) (by decide)
  rw [ct4 ok.2.2.2.2.2] at r4
  have rr := b5.rc
  have rr1 := r1.rc
  have rr2 := r2.rc
  have rr3 := r3.rc
  refine ⟨M4, ?_, r4, o13.tr o4⟩
  rw [nI_0] at k1 k2
  rw [show nI 32 = 32 from rfl] at k2
  simp only [cl_112, e112_0, e112_1, e112_4, e112_5, e112_8, e112_9, e112_12, e112_13, e112_16, e112_17, e112_19, e112_22, e112_23, e112_26, e112_27, e112_30, e112_31, e112_34, e112_35, e112_38, e112_41, ow_112, Int32.reduceOfInt, Int32.reduceOfNat, Int32.reduceToNatClampNeg, Int32.reduceLT, Int32.reduceLE, Int32.reduceAdd, Int32.reduceSub, Int32.reduceMul, Int64.reduceOfNat, Int64.reduceOfInt, Nat.reduceLeDiff, Nat.reduceLT, Nat.reduceEqDiff, Nat.reduceSub, cs_0, cs_1, cs_2, cs_3, cs_4, cs_5, cs_6, cs_7, cs_8, or_false, false_or, not_false_eq_true, and_true, true_and, if_true, if_false, List.length_cons, List.length_nil, List.getElem?_cons_succ, List.getElem?_cons_zero, List.set_cons_succ, List.set_cons_zero, reduceIte, d_G, d_R, s_aload, s_aload_n, s_iload, s_iload_n, s_lload, s_lload_n, s_istore, s_istore_n, s_astore, s_astoreN, s_astore_n, s_astore_nN, s_lstore, s_lstore_n, s_iinc, s_iconst, s_bipush, s_sipush, s_lconst, s_ldc2_w, s_aconst_null, s_dupA, s_dupI, s_dup2, s_iadd, s_isub, s_imul, s_iand, s_ior, s_ixor, s_ishl, s_ishr, s_iushr, s_ineg, s_idiv, s_irem, s_ladd, s_lsub, s_lmul, s_land, s_lor, s_lxor, s_ldiv, s_lshl, s_lshr, s_lushr, s_i2l, s_l2i, s_lcmp, s_goto, s_ieq, s_ine, s_ilt, s_ige, s_igt, s_ile, s_zeq, s_zne, s_zlt, s_zge, s_zgt, s_zle, s_ifnull, s_ifnullN, s_ifnonnull, s_ifnonnullN, s_tableswitch, s_lookupswitch, s_getfield, s_putfield, s_getstatic, s_iaload, s_laload, s_baload, s_aaload, s_iastore, s_lastore, s_bastore, s_aastore, s_arraylength, s_newI, s_newJ, s_newZ, s_anewarray, s_new, s_copy, s_max, s_min, s_invokestatic, s_objinit, s_invokespecial, kf_isr_r, s_invokevirtual, s_ireturn, s_lreturn, s_areturn, s_areturnN, s_return, lI_0, lI_s, lJ_0, lJ_s, lA_0, lA_0N, lA_s, lS1_0, lS1_1, lS1_2, lS2_0, lS2_1, lS2_2, lK_n, lK_i, lK_j, lK_a, lK_N, d_C', kf_w_0, kf_w_i, kf_w_a, kf_w_n, kf_w_j, c_0, c_1, c_2, c_3, c_4, c_5, c_6, tl_0, tl_1, Option.bind_some, Option.bind_none, Option.map_some, Nat.reduceAdd, Nat.reduceMul, Nat.reduceDiv, Nat.reduceMod, Int.reduceToNat, Fin.val_zero, Fin.isValue, Fin.val_one, Fin.val_two, fv_0, fv_1, fv_2, fv_3, fw_0, fw_1, d_ite, true_or, or_true, and_false, false_and, or_self, and_self, ow_50, ow_53, ow_51, ow_52, fobF, g, rr, k1, g1, gk1, rr1, k2, g2, rr2, k3, g3, gk3, rr3, k4]
theorem sgn {a : Nat} {k : Ky} {dt : List Int32} (b1 : StC M) (hG : SgAll M G) (ka : KyAt M a k) (ok : okKy k) (ha : okc a) (b5 : RowIs M 30 200 dt) (bd : isB dt) (b14 : ArI M 283 32 wd) (bw : isB wd) : ∃ M', kf_cl 60 [.ref 104, .ref a, .ref 30, .ref 283] M = some (none, M') ∧ SgAll M' (G.1 + 1, some (sha (dt ++ wd), k.2.2.1)) ∧ ArI M' 196 64 (sgB (nBL 32 k.2.2.1) (sha (dt ++ wd))) ∧ Off A60s M M' := by
  obtain ⟨jj, jj1, jj2⟩ := ha
  obtain ⟨cf, own, dig, sig, s1, s2, s3, s4, s5, s6, s7, s8, s9⟩ := hG
  obtain ⟨M1, k1, ⟨O1, K1, -, A1, -, d1, r1, -⟩, w1, g1, o1⟩ := f60 (kk := a) (wd := 283) (dig := dig) ⟨s1, s2, b1.1, s4, ka.2.2.2.1, s6, s8, ka.1⟩ ⟨by omega, by omega⟩ isB_nBL b14 (by decide) bw b5 bd s7 ka.2.2.2.2.2 s5
  refine ⟨M1, k1, ⟨_, _, _, _, O1, K1, ?_, A1, g1, d1, w1, r1, ⟨rfl, rfl, rfl, isB_sha, sha_len, ok.2.2.2.2.1.1, ok.2.2.2.2.1.2⟩⟩, g1, o1⟩
  have Q := s3.off o1 (by decide)
  by_cases c : own = kPt k.2.2.1
  · rw [if_pos c, ← c]
    exact Q
  · rw [if_neg c]
    exact ⟨Q.1, Q.2.1, (fun w => absurd w (by decide)), Or.inl rfl⟩
theorem i64_1p {c : Nat} (h : c < 4294967295) : Int64.ofNat c + 1 = Int64.ofNat (c + 1) := jw_inj (by
  rw [jw_ad, jw_of (by omega), jw_of (by omega)]
  show (c + 1) % 18446744073709551616 = c + 1
  omega)
theorem lastC {c : Nat} (h : c < 4294967296) : (lg_cmp (Int64.ofNat c) 4294967295 = 0) = (c = 4294967295) := by
  rw [lg0]
  apply propext
  constructor
  · intro w
    have := congrArg jw w
    rw [jw_of h] at this
    exact this
  · intro w
    rw [w]
    rfl
/-- what the first that waits asserts -/
def asrK (ks : List Ky) (w : Nat) (k : Ky) : List Ky := ks.set w (k.1, k.2.1, k.2.2.1, k.2.2.2 + 1)
noncomputable def asrO (k : Ky) (x : Int32) (wd : List Int32) (found : Nat) : List Int32 := [if 1 < found then 165 else 164] ++ rwB 1 (kId k.2.2.1) ++ rwB 2 (datA (k.1, k.2.1, k.2.2.1, k.2.2.2 + 1) x) ++ rwB 3 (sgB (nBL 32 k.2.2.1) (sha (datA (k.1, k.2.1, k.2.2.1, k.2.2.2 + 1) x ++ wd))) ++ rwB 4 k.2.1 ++ (if 1 < found then [5, nI found] else [])
theorem isB_rh {n : Nat} : isB (rowHead n) := by
  unfold rowHead
  intro y hy
  by_cases c : n < 24
  · rw [if_pos c, List.mem_singleton] at hy
    rw [hy]; exact isB_and
  · rw [if_neg c] at hy
    simp only [List.mem_cons, List.not_mem_nil, or_false] at hy
    rcases hy with rfl | rfl
    · exact ⟨88, by decide, rfl⟩
    · exact isB_and
theorem isB_rw {x : Int32} {xs : List Int32} (hx : ∃ c, c < 256 ∧ x = nI c) (h : isB xs) : isB (rwB x xs) := isB_app (isB_app (fun y hy => by rw [List.mem_singleton] at hy; rw [hy]; exact hx) isB_rh) h
theorem rh_len {n : Nat} : (rowHead n).length ≤ 2 := by unfold rowHead; split <;> simp
theorem rwB_len {x : Int32} {xs : List Int32} : (rwB x xs).length ≤ xs.length + 3 := by
  unfold rwB
  rw [List.length_append, List.length_append]
  have := rh_len (n := xs.length)
  show 1 + _ + _ ≤ _
  omega
theorem putRw {b : Nat} {x : Int32} {cs xs ys : List Int32} (h : RowIs M 28 200 cs) (gb : M[b]? = some (oI ys)) (hy : ys.take xs.length = xs) (hl : xs.length ≤ ys.length) (hb : b ≠ 29 ∧ b ≠ 28) (hy2 : ys.length < 2 ^ 20) (hn : cs.length + xs.length + 3 ≤ 200) (hx : x &&& 255 = x) : ∃ M', kf_cl 56 [.ref 28, .int x, .ref b, .int (nI xs.length)] M = some (none, M') ∧ RowIs M' 28 200 (cs ++ rwB x xs) ∧ (cs ++ rwB x xs).length ≤ cs.length + xs.length + 3 ∧ Off [28, 29] M M' := by
  obtain ⟨M', k, r, o⟩ := c56 (b := b) (n := xs.length) (x := x) h (by decide) gb hb.1 hb.2 (by omega) hl hn (by decide)
  rw [hy, hx] at r
  refine ⟨M', k, r, ?_, o⟩
  rw [List.length_append]
  have := rwB_len (x := x) (xs := xs)
  omega
theorem C115z {f : Int32} (hE : CE M fl tc ou da V σ rn ks [] hs sd wd G) : kf_cl 115 [.ref 19, .int f] M = some (some (.int 48), M) := by
  obtain ⟨b1, b2, b4, b5, b6, b7, b8, b9, b10, b11, b12, b13, b14⟩ := hE
  have g := gO_of b2
  have rq := b9.rc
  obtain ⟨qf, qt, qs, y1, y2, y3⟩ := b9
  have k1 := c40 y1
  rw [if_neg (by simp at y2; omega)] at k1
  simp only [cl_115, e115_0, e115_1, e115_4, e115_7, e115_8, e115_9, e115_12, e115_14, e115_15, e115_16, e115_19, e115_22, e115_23, e115_26, e115_29, e115_30, e115_33, e115_35, e115_36, e115_37, e115_38, e115_41, e115_42, e115_43, e115_46, e115_47, e115_48, e115_49, e115_52, e115_55, e115_56, e115_59, e115_60, e115_61, e115_64, e115_65, e115_68, e115_71, e115_72, e115_75, e115_76, e115_77, e115_80, e115_81, e115_84, e115_85, e115_88, e115_89, e115_92, e115_93, e115_94, e115_97, e115_99, e115_102, e115_103, e115_106, e115_107, e115_108, e115_111, e115_114, e115_115, e115_118, e115_121, e115_124, e115_125, e115_128, e115_129, e115_130, e115_133, e115_136, e115_138, e115_141, e115_142, e115_145, e115_146, e115_147, e115_150, e115_151, e115_154, e115_157, e115_158, e115_159, e115_162, e115_163, e115_166, e115_167, e115_168, e115_171, e115_172, ow_115, Int32.reduceOfInt, Int32.reduceOfNat, Int32.reduceToNatClampNeg, Int32.reduceLT, Int32.reduceLE, Int32.reduceAdd, Int32.reduceSub, Int32.reduceMul, Int64.reduceOfNat, Int64.reduceOfInt, Nat.reduceLeDiff, Nat.reduceLT, Nat.reduceEqDiff, Nat.reduceSub, cs_0, cs_1, cs_2, cs_3, cs_4, cs_5, cs_6, cs_7, cs_8, or_false, false_or, not_false_eq_true, and_true, true_and, if_true, if_false, List.length_cons, List.length_nil, List.getElem?_cons_succ, List.getElem?_cons_zero, List.set_cons_succ, List.set_cons_zero, reduceIte, d_G, d_R, s_aload, s_aload_n, s_iload, s_iload_n, s_lload, s_lload_n, s_istore, s_istore_n, s_astore, s_astoreN, s_astore_n, s_astore_nN, s_lstore, s_lstore_n, s_iinc, s_iconst, s_bipush, s_sipush, s_lconst, s_ldc2_w, s_aconst_null, s_dupA, s_dupI, s_dup2, s_iadd, s_isub, s_imul, s_iand, s_ior, s_ixor, s_ishl, s_ishr, s_iushr, s_ineg, s_idiv, s_irem, s_ladd, s_lsub, s_lmul, s_land, s_lor, s_lxor, s_ldiv, s_lshl, s_lshr, s_lushr, s_i2l, s_l2i, s_lcmp, s_goto, s_ieq, s_ine, s_ilt, s_ige, s_igt, s_ile, s_zeq, s_zne, s_zlt, s_zge, s_zgt, s_zle, s_ifnull, s_ifnullN, s_ifnonnull, s_ifnonnullN, s_tableswitch, s_lookupswitch, s_getfield, s_putfield, s_getstatic, s_iaload, s_laload, s_baload, s_aaload, s_iastore, s_lastore, s_bastore, s_aastore, s_arraylength, s_newI, s_newJ, s_newZ, s_anewarray, s_new, s_copy, s_max, s_min, s_invokestatic, s_objinit, s_invokespecial, kf_isr_r, s_invokevirtual, s_ireturn, s_lreturn, s_areturn, s_areturnN, s_return, lI_0, lI_s, lJ_0, lJ_s, lA_0, lA_0N, lA_s, lS1_0, lS1_1, lS1_2, lS2_0, lS2_1, lS2_2, lK_n, lK_i, lK_j, lK_a, lK_N, d_C', kf_w_0, kf_w_i, kf_w_a, kf_w_n, kf_w_j, c_0, c_1, c_2, c_3, c_4, c_5, c_6, tl_0, tl_1, Option.bind_some, Option.bind_none, Option.map_some, Nat.reduceAdd, Nat.reduceMul, Nat.reduceDiv, Nat.reduceMod, Int.reduceToNat, Fin.val_zero, Fin.isValue, Fin.val_one, Fin.val_two, fv_0, fv_1, fv_2, fv_3, fw_0, fw_1, d_ite, true_or, or_true, and_false, false_and, or_self, and_self, ow_40, fobF, g, rq, k1]
theorem qfirst {w : Nat} {wr : List Nat} (b8 : KS M σ ks) (b9 : QW M σ (w :: wr) ks.length) : ∃ k, ks[w]? = some k ∧ w < ks.length ∧ KyAt M (σ.getD w 0) k ∧ okKy k ∧ okc (σ.getD w 0) ∧ kf_cl 40 [.ref 102] M = some (some (.ref (σ.getD w 0)), M) ∧ ∃ M', kf_cl 41 [.ref 102] M = some (none, M') ∧ QW M' σ wr ks.length ∧ Off [102, 103] M M' := by
  obtain ⟨qf, qt, qs, y1, y2, y3⟩ := b9
  obtain ⟨z1, z2⟩ := y3 0 w rfl
  have hk := List.getElem?_eq_getElem z2
  obtain ⟨ka, ok⟩ := b8.2.2.2.2.1 w _ hk
  have hl := b8.2.2.2.2.2
  have k1 := c40 y1
  have hlt : qf < qt := by rw [y2]; simp
  rw [if_pos hlt, ← Nat.add_zero qf, z1] at k1
  obtain ⟨M', k2, q2, o2⟩ := c41 y1 hlt
  refine ⟨_, hk, z2, ka, ok, (b8.get (j := w) (by omega)).2.2.1, k1, M', k2, ⟨qf + 1, qt, qs, q2, by rw [y2]; simp; omega, fun i x hx => ?_⟩, o2⟩
  have := y3 (i + 1) x hx
  rw [show qf + 1 + i = qf + (i + 1) by omega]
  exact this
theorem C115l {f : Int32} {w : Nat} {wr : List Nat} {k : Ky} (hE : CE M fl tc ou da V σ rn ks (w :: wr) hs sd wd G) (hk : ks[w]? = some k) (hc : k.2.2.2 = 4294967295) : ∃ M', kf_cl 115 [.ref 19, .int f] M = some (some (.int 127), M') ∧ CE M' fl tc ou da V σ rn ks wr hs sd wd G ∧ Off [102, 103] M M' := by
  obtain ⟨b1, b2, b4, b5, b6, b7, b8, b9, b10, b11, b12, b13, b14⟩ := hE
  have g := gO_of b2
  have rq := b9.rc
  obtain ⟨k', e1, e2, ka, ok, oc, k1, M1, k2, q2, o1⟩ := qfirst b8 b9
  rw [hk] at e1
  cases e1
  have g1 := gO_of (b2.off o1 (by decide))
  obtain ⟨jj, jj1, jj2⟩ := oc
  have gk := gO_of (o1.at (by rw [jj2]; simp; omega) ka.1)
  have lc : (lg_cmp (Int64.ofNat k.2.2.2) 4294967295 = 0) = True := by rw [lastC ok.2.2.2.2.2]; exact eq_true hc
  refine ⟨M1, ?_, ⟨b1.off o1 (by decide), b2.off o1 (by decide), b4.off o1 (by decide) (by decide), b5.off o1 (by decide) (by decide), b6.off o1 (by decide), b7.off o1 (by decide) (by decide), b8.off o1 (by decide), q2, b10.off o1 (by decide), b11.off o1 (by decide) (by decide) (by decide), b12.off o1 (by decide), b13.off o1 (by decide), b14.off o1 (by decide)⟩, o1⟩
  simp only [cl_115, e115_0, e115_1, e115_4, e115_7, e115_8, e115_9, e115_12, e115_14, e115_15, e115_16, e115_19, e115_22, e115_23, e115_26, e115_29, e115_30, e115_33, e115_35, e115_36, e115_37, e115_38, e115_41, e115_42, e115_43, e115_46, e115_47, e115_48, e115_49, e115_52, e115_55, e115_56, e115_59, e115_60, e115_61, e115_64, e115_65, e115_68, e115_71, e115_72, e115_75, e115_76, e115_77, e115_80, e115_81, e115_84, e115_85, e115_88, e115_89, e115_92, e115_93, e115_94, e115_97, e115_99, e115_102, e115_103, e115_106, e115_107, e115_108, e115_111, e115_114, e115_115, e115_118, e115_121, e115_124, e115_125, e115_128, e115_129, e115_130, e115_133, e115_136, e115_138, e115_141, e115_142, e115_145, e115_146, e115_147, e115_150, e115_151, e115_154, e115_157, e115_158, e115_159, e115_162, e115_163, e115_166, e115_167, e115_168, e115_171, e115_172, ow_115, Int32.reduceOfInt, Int32.reduceOfNat, Int32.reduceToNatClampNeg, Int32.reduceLT, Int32.reduceLE, Int32.reduceAdd, Int32.reduceSub, Int32.reduceMul, Int64.reduceOfNat, Int64.reduceOfInt, Nat.reduceLeDiff, Nat.reduceLT, Nat.reduceEqDiff, Nat.reduceSub, cs_0, cs_1, cs_2, cs_3, cs_4, cs_5, cs_6, cs_7, cs_8, or_false, false_or, not_false_eq_true, and_true, true_and, if_true, if_false, List.length_cons, List.length_nil, List.getElem?_cons_succ, List.getElem?_cons_zero, List.set_cons_succ, List.set_cons_zero, reduceIte, d_G, d_R, s_aload, s_aload_n, s_iload, s_iload_n, s_lload, s_lload_n, s_istore, s_istore_n, s_astore, s_astoreN, s_astore_n, s_astore_nN, s_lstore, s_lstore_n, s_iinc, s_iconst, s_bipush, s_sipush, s_lconst, s_ldc2_w, s_aconst_null, s_dupA, s_dupI, s_dup2, s_iadd, s_isub, s_imul, s_iand, s_ior, s_ixor, s_ishl, s_ishr, s_iushr, s_ineg, s_idiv, s_irem, s_ladd, s_lsub, s_lmul, s_land, s_lor, s_lxor, s_ldiv, s_lshl, s_lshr, s_lushr, s_i2l, s_l2i, s_lcmp, s_goto, s_ieq, s_ine, s_ilt, s_ige, s_igt, s_ile, s_zeq, s_zne, s_zlt, s_zge, s_zgt, s_zle, s_ifnull, s_ifnullN, s_ifnonnull, s_ifnonnullN, s_tableswitch, s_lookupswitch, s_getfield, s_putfield, s_getstatic, s_iaload, s_laload, s_baload, s_aaload, s_iastore, s_lastore, s_bastore, s_aastore, s_arraylength, s_newI, s_newJ, s_newZ, s_anewarray, s_new, s_copy, s_max, s_min, s_invokestatic, s_objinit, s_invokespecial, kf_isr_r, s_invokevirtual, s_ireturn, s_lreturn, s_areturn, s_areturnN, s_return, lI_0, lI_s, lJ_0, lJ_s, lA_0, lA_0N, lA_s, lS1_0, lS1_1, lS1_2, lS2_0, lS2_1, lS2_2, lK_n, lK_i, lK_j, lK_a, lK_N, d_C', kf_w_0, kf_w_i, kf_w_a, kf_w_n, kf_w_j, c_0, c_1, c_2, c_3, c_4, c_5, c_6, tl_0, tl_1, Option.bind_some, Option.bind_none, Option.map_some, Nat.reduceAdd, Nat.reduceMul, Nat.reduceDiv, Nat.reduceMod, Int.reduceToNat, Fin.val_zero, Fin.isValue, Fin.val_one, Fin.val_two, fv_0, fv_1, fv_2, fv_3, fw_0, fw_1, d_ite, true_or, or_true, and_false, false_and, or_self, and_self, ow_40, ow_41, fobF, g, rq, k1, k2, gk, lc]
set_option maxHeartbeats 8000000 in
theorem C115 {found w : Nat} {wr : List Nat} {k : Ky} (hE : CE M fl tc [] da V σ rn ks (w :: wr) hs sd wd G) (hk : ks[w]? = some k) (hc : k.2.2.2 ≠ 4294967295) (hfl : ∃ c, c < 256 ∧ fl = nI c) (bw : isB wd) (hfo : found ≤ 10) : ∃ M' da', kf_cl 115 [.ref 19, .int (nI found)] M = some (some (.int 0), M') ∧ CE M' fl tc (asrO k fl wd found) da' V σ rn (asrK ks w k) wr hs sd wd (G.1 + 1, some (sha (datA (k.1, k.2.1, k.2.2.1, k.2.2.2 + 1) fl ++ wd), k.2.2.1)) ∧ isB (asrO k fl wd found) ∧ Off (List.range' 28 256) M M' := by
  obtain ⟨b1, b2, b4, b5, b6, b7, b8, b9, b10, b11, b12, b13, b14⟩ := hE
  have g := gO_of b2
  have rq := b9.rc
  obtain ⟨k', e1, e2, ka, ok, oc, k1, M1, k2, q2, o1⟩ := qfirst b8 b9
  rw [hk] at e1
  cases e1
  have hl := b8.2.2.2.2.2
  have oc0 := oc
  obtain ⟨jj, jj1, jj2⟩ := oc
  have hlt : k.2.2.2 < 4294967295 := by have := ok.2.2.2.2.2; omega
  obtain ⟨a, ea⟩ : ∃ a, a = σ.getD w 0 := ⟨_, rfl⟩
  rw [← ea] at ka oc0 k1 jj2
  have ka1 := ka.off o1 (by intro x hx; simp at hx; omega)
  have g1 := gO_of (b2.off o1 (by decide))
  have gk := gO_of ka1.1
  have lc : (lg_cmp (Int64.ofNat k.2.2.2) 4294967295 = 0) = False := by rw [lastC ok.2.2.2.2.2]; exact eq_false hc
  obtain ⟨kn, ekn⟩ : ∃ kn : Ky, kn = (k.1, k.2.1, k.2.2.1, k.2.2.2 + 1) := ⟨_, rfl⟩
  have okn : okKy kn := by rw [ekn]; exact ⟨ok.1, ok.2.1, ok.2.2.1, ok.2.2.2.1, ok.2.2.2.2.1, by show k.2.2.2 + 1 < _; omega⟩
  -- the counter goes up
  obtain ⟨M2, e2m⟩ : ∃ X, X = M1.set a (oO 3 [.ref (a + 1), .ref (a + 2), .ref (a + 3), .ref (a + 4), .ref (a + 5), .int (nI k.2.1.length), .long (Int64.ofNat (k.2.2.2 + 1))]) := ⟨_, rfl⟩
  have o2 : Off [a] M1 M2 := by rw [e2m]; exact Off.set (by simp)
  have ka2 : KyAt M2 a kn := by
    rw [ekn]
    exact ⟨by rw [e2m]; exact m_self (m_lt ka1.1), ka1.2.1.off o2 (by simp), (by obtain ⟨ua, u1, u2⟩ := ka1.2.2.1; exact ⟨ua, u1.off o2 (by simp), u2⟩), ka1.2.2.2.1.off o2 (by simp), ka1.2.2.2.2.1.off o2 (by simp), ka1.2.2.2.2.2.off o2 (by simp)⟩
  have b82 : KS M2 σ (asrK ks w k) := by
    unfold asrK
    rw [← ekn]
    exact (b8.off o1 (by decide)).upd e2 o2 (fun x hx => by rw [List.mem_singleton] at hx; rw [← ea]; omega) (by rw [← ea]; exact ka2) okn
  have na : ∀ c, (c < 42 ∨ 101 < c) → c ∉ [a] := fun c hc w => by rw [List.mem_singleton] at w; omega
  have f2 := (b2.off o1 (by decide)).off o2 (na 19 (by omega))
  have g2 := gO_of f2
  -- data
  obtain ⟨M3, k3, r3, o3⟩ := C112 (x := fl) f2 ((b5.off o1 (by decide) (by decide)).off o2 (na 30 (by omega)) (na 31 (by omega))) ka2 okn oc0 hfl
  have f3 := f2.off o3 (by decide)
  have g3 := gO_of f3
  have ka3 := ka2.off o3 (by intro x hx; simp at hx; omega)
  have G3 := ((b10.off o1 (by decide)).off o2 (fun x hx => by rw [List.mem_singleton] at hx; omega)).off o3 (by decide)
  have S3 := ((b1.off o1 (by decide)).off o2 (fun x hx => by rw [List.mem_singleton] at hx; omega)).off o3 (by decide)
  have w3 := ((b14.off o1 (by decide)).off o2 (na 283 (by omega))).off o3 (by decide)
  -- signature
  obtain ⟨M4, k4, G4, s4, o4⟩ := sgn S3 G3 ka3 okn oc0 r3 (datA_b okn hfl) w3 bw
  have f4 := f3.off o4 (by decide)
  have g4 := gO_of f4
  have ka4 := ka3.off o4 (fun x hx => by have := (by decide : ∀ x ∈ A60s, 104 ≤ x) x hx; omega)
  have r44 := r3.off o4 (by decide) (by decide)
  have c4 := (((b4.off o1 (by decide) (by decide)).off o2 (na 28 (by omega)) (na 29 (by omega))).off o3 (by decide) (by decide)).off o4 (by decide) (by decide)
  have gG4 : ∃ fs4, gO M4 104 = some (8, fs4) ∧ fs4[3]? = some (.ref 196) := by
    obtain ⟨cf, own, dig, sig, s1, -⟩ := G4
    exact ⟨_, gO_of s1, rfl⟩
  obtain ⟨fs4, gs4, gs4'⟩ := gG4
  have rs3 : kf_rcv M3 8 (some (.ref 104)) = true := by obtain ⟨cf, own, dig, sig, s1, -⟩ := G3; exact s1.rc
  -- the reply
  obtain ⟨M5, k5, r5, o5⟩ := c54 (x := if 1 < found then 5 else 4) c4 (by decide) (by decide) (by decide)
  have e5 : ([] ++ [((160 : Int32) + if 1 < found then 5 else 4) &&& 255] : List Int32) = [if 1 < found then 165 else 164] := by
    split <;> rfl
  rw [e5] at r5
  have f5 := f4.off o5 (by decide)
  have g5 := gO_of f5
  have ka5 := ka4.off o5 (by intro x hx; simp at hx; omega)
  have gk5 := gO_of ka5.1
  have i5 := ka5.2.2.2.2.1
  have li : (kId kn.2.2.1).length = 16 := kId_len
  obtain ⟨M6, k6, r6, l6, o6⟩ := putRw (b := a + 4) (x := 1) (xs := kId kn.2.2.1) r5 i5.1 (List.take_of_length_le (Nat.le_refl _)) (Nat.le_refl _) (by omega) (by rw [i5.2]; decide) (by rw [li]; show 1 + 16 + 3 ≤ 200; decide) (by decide)
  have o56 := o5.tr o6
  have f6 := f4.off o56 (by decide)
  have g6 := gO_of f6
  have d6 := r44.off o56 (by decide) (by decide)
  obtain ⟨ds6, y1_, y2_, y3_, y4_⟩ := id d6
  have gd6 := gO_of y1_
  have ld : (datA kn fl).length = 37 := datA_len okn
  obtain ⟨M7, k7, r7, l7, o7⟩ := putRw (b := 31) (x := 2) (xs := datA kn fl) r6 y2_ y4_ (by rw [y3_, ld]; decide) (by decide) (by rw [y3_]; decide) (by rw [ld]; rw [li] at l6; have : ([if 1 < found then (165 : Int32) else 164]).length = 1 := rfl; omega) (by decide)
  have o57 := o56.tr o7
  have f7 := f4.off o57 (by decide)
  have g7 := gO_of f7
  have gs7 : gO M7 104 = some (8, fs4) := by
    have := o57.2 104 (by decide)
    unfold gO at gs4 ⊢
    rw [this]; exact gs4
  have s7 := s4.off o57 (by decide)
  have ls : (sgB (nBL 32 kn.2.2.1) (sha (datA kn fl ++ wd))).length = 64 := s4.2
  obtain ⟨M8, k8, r8, l8, o8⟩ := putRw (b := 196) (x := 3) (xs := sgB (nBL 32 kn.2.2.1) (sha (datA kn fl ++ wd))) r7 s7.1 (List.take_of_length_le (Nat.le_refl _)) (Nat.le_refl _) (by decide) (by rw [ls]; decide) (by rw [ls]; rw [ld] at l7; rw [li] at l6; have : ([if 1 < found then (165 : Int32) else 164]).length = 1 := rfl; omega) (by decide)
  have o58 := o57.tr o8
  have f8 := f4.off o58 (by decide)
  have g8 := gO_of f8
  have ka8 := ka4.off o58 (by intro x hx; simp at hx; omega)
  have gk8 := gO_of ka8.1
  obtain ⟨ua, u1, u2⟩ := ka8.2.2.1
  have lu := okn.2.2.1
  obtain ⟨M9, k9, r9, l9, o9⟩ := putRw (b := a + 2) (x := 4) (xs := kn.2.1) r8 u1.1 u2 (by rw [u1.2]; omega) (by omega) (by rw [u1.2]; decide) (by rw [ls] at l8; rw [ld] at l7; rw [li] at l6; have : ([if 1 < found then (165 : Int32) else 164]).length = 1 := rfl; omega) (by decide)
  have o59 := o58.tr o9
  have f9 := f4.off o59 (by decide)
  have g9 := gO_of f9
  have rr4 := c4.rc
  have rr5 := r5.rc
  have rr6 := r6.rc
  have rr7 := r7.rc
  have rr8 := r8.rc
  have rr9 := r9.rc
  rw [li, show nI 16 = 16 from rfl] at k6
  rw [ld] at k7 y1_ gd6
  rw [ls, show nI 64 = 64 from rfl] at k8
  have i1 := i64_1p hlt
  -- the rest of the state
  have nr : ∀ A : List Nat, (∀ x ∈ A, 28 ≤ x ∧ x ≤ 283) → ∀ x ∈ A, x ∈ List.range' 28 256 := fun A hA x hx => by have := hA x hx; rw [List.mem_range'_1]; omega
  have o14 : Off (List.range' 28 256) M M4 := (((o1.wk (nr _ (by decide))).tr (o2.wk (nr _ (fun x hx => by rw [List.mem_singleton] at hx; omega)))).tr (o3.wk (nr _ (by decide)))).tr (o4.wk (nr _ (by decide)))
  have ek : asrO k fl wd found = [if 1 < found then 165 else 164] ++ rwB 1 (kId kn.2.2.1) ++ rwB 2 (datA kn fl) ++ rwB 3 (sgB (nBL 32 kn.2.2.1) (sha (datA kn fl ++ wd))) ++ rwB 4 kn.2.1 ++ (if 1 < found then [5, nI found] else []) := by
    unfold asrO
    rw [← ekn]
    rw [show kn.2.2.1 = k.2.2.1 from by rw [ekn], show kn.2.1 = k.2.1 from by rw [ekn]]
  have hd : kn.2.2.1 = k.2.2.1 := by rw [ekn]
  have bO : isB ([if 1 < found then 165 else 164] ++ rwB 1 (kId kn.2.2.1) ++ rwB 2 (datA kn fl) ++ rwB 3 (sgB (nBL 32 kn.2.2.1) (sha (datA kn fl ++ wd))) ++ rwB 4 kn.2.1) := by
    refine isB_app (isB_app (isB_app (isB_app ?_ (isB_rw ⟨1, by decide, rfl⟩ (isB_sub isB_sha (fun _ w => List.mem_of_mem_take w)))) (isB_rw ⟨2, by decide, rfl⟩ (datA_b okn hfl))) (isB_rw ⟨3, by decide, rfl⟩ isB_sg)) (isB_rw ⟨4, by decide, rfl⟩ okn.2.2.2.1)
    intro y hy
    rw [List.mem_singleton] at hy
    rw [hy]
    split
    · exact ⟨165, by decide, rfl⟩
    · exact ⟨164, by decide, rfl⟩
  have fin : ∀ (MX : kf_M) (oX : List Int32), Off [28, 29] M4 MX → RowIs MX 28 200 oX → CE MX fl tc oX (datA kn fl) V σ rn (asrK ks w k) wr hs sd wd (G.1 + 1, some (sha (datA kn fl ++ wd), k.2.2.1)) := by
    intro MX oX oo rX
    have lk : (asrK ks w k).length = ks.length := by unfold asrK; rw [List.length_set]
    rw [hd] at G4
    have p9 := ((q2.off o2 (na 102 (by omega)) (na 103 (by omega))).off o3 (by decide) (by decide)).off o4 (by decide) (by decide)
    refine ⟨(S3.off o4 (by decide)).off oo (by decide), f4.off oo (by decide), rX, r44.off oo (by decide) (by decide), ?_, ?_, ?_, ?_, G4.off oo (by decide), ?_, ?_, ?_, ?_⟩
    · exact ((((b6.off o1 (by decide)).off o2 (fun x hx => by rw [List.mem_singleton] at hx; omega)).off o3 (by decide)).off o4 (by decide)).off oo (by decide)
    · exact ((((b7.off o1 (by decide) (by decide)).off o2 (na 40 (by omega)) (na 41 (by omega))).off o3 (by decide) (by decide)).off o4 (by decide) (by decide)).off oo (by decide) (by decide)
    · exact ((b82.off o3 (by decide)).off o4 (by decide)).off oo (by decide)
    · rw [lk]; exact p9.off oo (by decide) (by decide)
    · exact ((((b11.off o1 (by decide) (by decide) (by decide)).off o2 (na 278 (by omega)) (na 279 (by omega)) (na 280 (by omega))).off o3 (by decide) (by decide) (by decide)).off o4 (by decide) (by decide) (by decide)).off oo (by decide) (by decide) (by decide)
    · exact ((((b12.off o1 (by decide)).off o2 (na 281 (by omega))).off o3 (by decide)).off o4 (by decide)).off oo (by decide)
    · exact ((((b13.off o1 (by decide)).off o2 (na 282 (by omega))).off o3 (by decide)).off o4 (by decide)).off oo (by decide)
    · exact (w3.off o4 (by decide)).off oo (by decide)
  rw [← ekn, ek]
  by_cases cf : 1 < found
  · have gt1 : ¬ nI found ≤ 1 := nI_ge (a := 1) cf (by omega)
    obtain ⟨M10, k10, r10, o10⟩ := c55 (x := 5) (y := nI found) r9 (by decide) (by rw [ls] at l8; rw [ld] at l7; rw [li] at l6; have : ([if 1 < found then (165 : Int32) else 164]).length = 1 := rfl; omega) (by decide)
    rw [nI_b (show found < 256 by omega), show ((5 : Int32) &&& 255) = 5 from rfl] at r10
    rw [if_pos cf] at r10 bO k5 ⊢
    rw [if_pos cf]
    refine ⟨M10, datA kn fl, ?_, fin M10 _ (o59.tr o10) r10, ?_, o14.tr ((o59.tr o10).wk (nr _ (by decide)))⟩
    · simp only [cl_115, e115_0, e115_1, e115_4, e115_7, e115_8, e115_9, e115_12, e115_14, e115_15, e115_16, e115_19, e115_22, e115_23, e115_26, e115_29, e115_30, e115_33, e115_35, e115_36, e115_37, e115_38, e115_41, e115_42, e115_43, e115_46, e115_47, e115_48, e115_49, e115_52, e115_55, e115_56, e115_59, e115_60, e115_61, e115_64, e115_65, e115_68, e115_71, e115_72, e115_75, e115_76, e115_77, e115_80, e115_81, e115_84, e115_85, e115_88, e115_89, e115_92, e115_93, e115_94, e115_97, e115_99, e115_102, e115_103, e115_106, e115_107, e115_108, e115_111, e115_114, e115_115, e115_118, e115_121, e115_124, e115_125, e115_128, e115_129, e115_130, e115_133, e115_136, e115_138, e115_141, e115_142, e115_145, e115_146, e115_147, e115_150, e115_151, e115_154, e115_157, e115_158, e115_159, e115_162, e115_163, e115_166, e115_167, e115_168, e115_171, e115_172, ow_115, Int32.reduceOfInt, Int32.reduceOfNat, Int32.reduceToNatClampNeg, Int32.reduceLT, Int32.reduceLE, Int32.reduceAdd, Int32.reduceSub, Int32.reduceMul, Int64.reduceOfNat, Int64.reduceOfInt, Nat.reduceLeDiff, Nat.reduceLT, Nat.reduceEqDiff, Nat.reduceSub, cs_0, cs_1, cs_2, cs_3, cs_4, cs_5, cs_6, cs_7, cs_8, or_false, false_or, not_false_eq_true, and_true, true_and, if_true, if_false, List.length_cons, List.length_nil, List.getElem?_cons_succ, List.getElem?_cons_zero, List.set_cons_succ, List.set_cons_zero, reduceIte, d_G, d_R, s_aload, s_aload_n, s_iload, s_iload_n, s_lload, s_lload_n, s_istore, s_istore_n, s_astore, s_astoreN, s_astore_n, s_astore_nN, s_lstore, s_lstore_n, s_iinc, s_iconst, s_bipush, s_sipush, s_lconst, s_ldc2_w, s_aconst_null, s_dupA, s_dupI, s_dup2, s_iadd, s_isub, s_imul, s_iand, s_ior, s_ixor, s_ishl, s_ishr, s_iushr, s_ineg, s_idiv, s_irem, s_ladd, s_lsub, s_lmul, s_land, s_lor, s_lxor, s_ldiv, s_lshl, s_lshr, s_lushr, s_i2l, s_l2i, s_lcmp, s_goto, s_ieq, s_ine, s_ilt, s_ige, s_igt, s_ile, s_zeq, s_zne, s_zlt, s_zge, s_zgt, s_zle, s_ifnull, s_ifnullN, s_ifnonnull, s_ifnonnullN, s_tableswitch, s_lookupswitch, s_getfield, s_putfield, s_getstatic, s_iaload, s_laload, s_baload, s_aaload, s_iastore, s_lastore, s_bastore, s_aastore, s_arraylength, s_newI, s_newJ, s_newZ, s_anewarray, s_new, s_copy, s_max, s_min, s_invokestatic, s_objinit, s_invokespecial, kf_isr_r, s_invokevirtual, s_ireturn, s_lreturn, s_areturn, s_areturnN, s_return, lI_0, lI_s, lJ_0, lJ_s, lA_0, lA_0N, lA_s, lS1_0, lS1_1, lS1_2, lS2_0, lS2_1, lS2_2, lK_n, lK_i, lK_j, lK_a, lK_N, d_C', kf_w_0, kf_w_i, kf_w_a, kf_w_n, kf_w_j, c_0, c_1, c_2, c_3, c_4, c_5, c_6, tl_0, tl_1, Option.bind_some, Option.bind_none, Option.map_some, Nat.reduceAdd, Nat.reduceMul, Nat.reduceDiv, Nat.reduceMod, Int.reduceToNat, Fin.val_zero, Fin.isValue, Fin.val_one, Fin.val_two, fv_0, fv_1, fv_2, fv_3, fw_0, fw_1, d_ite, true_or, or_true, and_false, false_and, or_self, and_self, ow_40, ow_41, ow_112, ow_60, ow_54, ow_55, ow_56, fobF, g, rq, k1, k2, g1, gk, lc, i1, kf_fit, ← e2m, f2.rc, g2, k3, g3, rs3, k4, g4, gt1, rr4, k5, g5, gk5, rr5, k6, g6, gd6, rr6, k7, g7, gs7, gs4', rr7, k8, g8, gk8, rr8, k9, g9, rr9, k10]
    · refine isB_app bO (fun y hy => ?_)
      simp only [List.mem_cons, List.not_mem_nil, or_false] at hy
      rcases hy with rfl | rfl
      · exact ⟨5, by decide, rfl⟩
      · exact ⟨found, by omega, rfl⟩
  · have gt1 : nI found ≤ 1 := nI_le (b := 1) (by omega) (by omega)
    rw [if_neg cf] at r9 bO k5 ⊢
    rw [if_neg cf, List.append_nil]
    refine ⟨M9, datA kn fl, ?_, fin M9 _ o59 r9, bO, o14.tr (o59.wk (nr _ (by decide)))⟩
    simp only [cl_115, e115_0, e115_1, e115_4, e115_7, e115_8, e115_9, e115_12, e115_14, e115_15, e115_16, e115_19, e115_22, e115_23, e115_26, e115_29, e115_30, e115_33, e115_35, e115_36, e115_37, e115_38, e115_41, e115_42, e115_43, e115_46, e115_47, e115_48, e115_49, e115_52, e115_55, e115_56, e115_59, e115_60, e115_61, e115_64, e115_65, e115_68, e115_71, e115_72, e115_75, e115_76, e115_77, e115_80, e115_81, e115_84, e115_85, e115_88, e115_89, e115_92, e115_93, e115_94, e115_97, e115_99, e115_102, e115_103, e115_106, e115_107, e115_108, e115_111, e115_114, e115_115, e115_118, e115_121, e115_124, e115_125, e115_128, e115_129, e115_130, e115_133, e115_136, e115_138, e115_141, e115_142, e115_145, e115_146, e115_147, e115_150, e115_151, e115_154, e115_157, e115_158, e115_159, e115_162, e115_163, e115_166, e115_167, e115_168, e115_171, e115_172, ow_115, Int32.reduceOfInt, Int32.reduceOfNat, Int32.reduceToNatClampNeg, Int32.reduceLT, Int32.reduceLE, Int32.reduceAdd, Int32.reduceSub, Int32.reduceMul, Int64.reduceOfNat, Int64.reduceOfInt, Nat.reduceLeDiff, Nat.reduceLT, Nat.reduceEqDiff, Nat.reduceSub, cs_0, cs_1, cs_2, cs_3, cs_4, cs_5, cs_6, cs_7, cs_8, or_false, false_or, not_false_eq_true, and_true, true_and, if_true, if_false, List.length_cons, List.length_nil, List.getElem?_cons_succ, List.getElem?_cons_zero, List.set_cons_succ, List.set_cons_zero, reduceIte, d_G, d_R, s_aload, s_aload_n, s_iload, s_iload_n, s_lload, s_lload_n, s_istore, s_istore_n, s_astore, s_astoreN, s_astore_n, s_astore_nN, s_lstore, s_lstore_n, s_iinc, s_iconst, s_bipush, s_sipush, s_lconst, s_ldc2_w, s_aconst_null, s_dupA, s_dupI, s_dup2, s_iadd, s_isub, s_imul, s_iand, s_ior, s_ixor, s_ishl, s_ishr, s_iushr, s_ineg, s_idiv, s_irem, s_ladd, s_lsub, s_lmul, s_land, s_lor, s_lxor, s_ldiv, s_lshl, s_lshr, s_lushr, s_i2l, s_l2i, s_lcmp, s_goto, s_ieq, s_ine, s_ilt, s_ige, s_igt, s_ile, s_zeq, s_zne, s_zlt, s_zge, s_zgt, s_zle, s_ifnull, s_ifnullN, s_ifnonnull, s_ifnonnullN, s_tableswitch, s_lookupswitch, s_getfield, s_putfield, s_getstatic, s_iaload, s_laload, s_baload, s_aaload, s_iastore, s_lastore, s_bastore, s_aastore, s_arraylength, s_newI, s_newJ, s_newZ, s_anewarray, s_new, s_copy, s_max, s_min, s_invokestatic, s_objinit, s_invokespecial, kf_isr_r, s_invokevirtual, s_ireturn, s_lreturn, s_areturn, s_areturnN, s_return, lI_0, lI_s, lJ_0, lJ_s, lA_0, lA_0N, lA_s, lS1_0, lS1_1, lS1_2, lS2_0, lS2_1, lS2_2, lK_n, lK_i, lK_j, lK_a, lK_N, d_C', kf_w_0, kf_w_i, kf_w_a, kf_w_n, kf_w_j, c_0, c_1, c_2, c_3, c_4, c_5, c_6, tl_0, tl_1, Option.bind_some, Option.bind_none, Option.map_some, Nat.reduceAdd, Nat.reduceMul, Nat.reduceDiv, Nat.reduceMod, Int.reduceToNat, Fin.val_zero, Fin.isValue, Fin.val_one, Fin.val_two, fv_0, fv_1, fv_2, fv_3, fw_0, fw_1, d_ite, true_or, or_true, and_false, false_and, or_self, and_self, ow_40, ow_41, ow_112, ow_60, ow_54, ow_55, ow_56, fobF, g, rq, k1, k2, g1, gk, lc, i1, kf_fit, ← e2m, f2.rc, g2, k3, g3, rs3, k4, g4, gt1, rr4, k5, g5, gk5, rr5, k6, g6, gd6, rr6, k7, g7, gs7, gs4', rr7, k8, g8, gk8, rr8, k9]
end CASR
