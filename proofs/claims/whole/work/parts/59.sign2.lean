/-! Signer: drawSecret, remember, sign -/
theorem pm_v (P : Pt) (h : vP P) (k : Nat) : vP (pmul k P) := pmul_v h k
theorem Gm_v (k : Nat) : vP (pmul k Gpt) := pm_v Gpt Gpt_v k
theorem cpI {M : kf_M} {a b n : Nat} {N : Int32} {xs ys : List Int32} (hN : N = nI n) (ga : M[a]? = some (oI xs)) (gb : M[b]? = some (oI ys)) (lx : n ≤ xs.length) (ly : n ≤ ys.length) (hb : 19 ≤ b) (hn : n < 2 ^ 20) (pc : Nat) (ls : kf_L) : kf_copy 0 0 N a b pc ls [] M = aG pc ls [] (M.set b (oI (kf_cp xs ys 0 0 n))) := by
  unfold kf_copy
  have z : ¬ ((0 : Int32) < 0 ∨ (0 : Int32) < 0 ∨ N < 0 ∨ b < kf_NS ∨ 8 < kf_w []) := by
    rw [show kf_NS = 19 from rfl, show kf_w [] = 0 from rfl, hN]
    intro h
    rcases h with h | h | h | h | h
    · exact absurd h (by decide)
    · exact absurd h (by decide)
    · exact nI_pos (by omega) h
    · omega
    · omega
  have c1 : N.toNatClampNeg = n := by rw [hN]; exact nI_clamp (by omega)
  rw [if_neg z]
  simp only [gI, ga, gb]
  rw [c1, show (0 : Int32).toNatClampNeg = 0 from rfl, if_pos ⟨by omega, by omega⟩]
theorem cp_all {xs ys : List Int32} {n : Nat} (hx : xs.length = n) (hy : ys.length = n) : kf_cp xs ys 0 0 n = xs := by
  unfold kf_cp
  rw [List.take_zero, List.nil_append, List.drop_zero, List.take_of_length_le (by omega), List.drop_of_length_le (l := ys) (by omega), List.append_nil]
/-- a key: its object and arrays -/
def KyO (M : kf_M) (a : Nat) (ul : Int32) (ct : Int64) : Prop := M[a]? = some (oO 3 [.ref (a + 1), .ref (a + 2), .ref (a + 3), .ref (a + 4), .ref (a + 5), .int ul, .long ct])
/-- the bytes of a point -/
def ptB (P : Pt) : List Int32 := nBL 32 (fpx P).toNat ++ nBL 32 (fpy P).toNat
theorem ptB_len {P : Pt} : (ptB P).length = 64 := by simp [ptB, nBL_len]
theorem fp_b : ∀ {P : Pt}, vP P → 0 ≤ fpx P ∧ fpx P < pP ∧ 0 ≤ fpy P ∧ fpy P < pP
  | none, _ => ⟨Int.le_refl 0, by have := pP_pos; simp only [fpx]; omega, Int.le_refl 0, by have := pP_pos; simp only [fpy]; omega⟩
  | some (x, y), h => ⟨h.1, h.2.1, h.2.2.1, h.2.2.2.1⟩
/-- the secret number out of a seed -/
noncomputable def secN (seed : List Int32) : Nat := (drw nN (nb seed)).toNat
theorem secN_ok {seed : List Int32} (h : isB seed) (hl : seed.length = 32) : 0 < secN seed ∧ secN seed < nN ∧ (secN seed : Int) = drw nN (nb seed) := by
  have h1 := drw_ok (nb_32 h hl).1
  unfold secN
  omega
theorem SgK.f1 {M M' : kf_M} {P : Pt} (h : SgK M) (ho : Off (cvs ++ [265 + 1, 265 + 2, 265 + 3]) M M') (hC : CvIs M') (hr : RepM M' 265 P) : SgK M' := by
  obtain ⟨a1, a2, a3, a4, a5, a6, a7, a8, a9, a10, a11, a12⟩ := h
  exact ⟨hC, a2.off2 ho (by decide), a3.off ho (by decide), a4.off2 ho (by decide), hr.j, a6.off ho (by decide) (by decide) (by decide) (by decide), a7.off ho (by decide), a8.off ho (by decide), a9.off ho (by decide), a10.off ho (by decide), a11.off ho (by decide), ho.at (by decide) a12⟩
theorem SgK.f3 {M M' : kf_M} (h : SgK M) (ho : Off [111, 265 + 1, 265 + 2, 265 + 3] M M') (hF : FldIs M' 106 pP) (hp : PtJ M' 265) : SgK M' := by
  obtain ⟨a1, a2, a3, a4, a5, a6, a7, a8, a9, a10, a11, a12⟩ := h
  exact ⟨a1.off3 ho (by decide), hF, a3.off ho (by decide), a4.off2 ho (by decide), hp, a6.off ho (by decide) (by decide) (by decide) (by decide), a7.off ho (by decide), a8.off ho (by decide), a9.off ho (by decide), a10.off ho (by decide), a11.off ho (by decide), ho.at (by decide) a12⟩
set_option maxRecDepth 100000 in
set_option maxHeartbeats 4000000 in
theorem f59 {M : kf_M} {made cf ul : Int32} {ct : Int64} {kk sd : Nat} {seed sec0 pt0 : List Int32} (hO : SgO M made cf) (hK : SgK M) (hk : KyO M kk ul ct) (hkk : 19 ≤ kk ∧ kk + 5 ≤ 103) (hs : ArI M sd 32 seed) (bs : isB seed) (hsd : 277 < sd) (h3 : ArI M (kk + 3) 32 sec0) (h5 : ArI M (kk + 5) 64 pt0) : ∃ M', kf_cl 59 [.ref 104, .ref kk, .ref sd] M = some (none, M') ∧ SgK M' ∧ ArI M' (kk + 3) 32 (nBL 32 (secN seed)) ∧ ArI M' (kk + 5) 64 (ptB (pmul (secN seed) Gpt)) ∧ Off (cvs ++ [kk + 3, kk + 5, 111, 266, 267, 268, 273, 275]) M M' := by
  have hnl := nN_lt
  have hpl := pP_lt
  obtain ⟨nb1, nb2⟩ := nb_32 bs hs.2
  obtain ⟨s0, s1, s2⟩ := secN_ok bs hs.2
  generalize secN seed = dd at *
  have vQ := Gm_v dd
  have g0 := gO_of hO
  have gk0 := gO_of hk
  have hK0 := hK
  obtain ⟨a1, a2, a3, a4, a5, a6, a7, a8, a9, a10, a11, a12⟩ := hK0
  obtain ⟨M1, k1, n1, o1⟩ := f9b (f := 0) (n := nb seed) a9 (by decide) (by omega) hs.1 (by have := hs.2; omega) (by have := hs.2; omega) (by rw [List.drop_zero, List.take_of_length_le (by have := hs.2; omega)]; exact nb2) nb1
  have K1 := hK.jar o1 (by decide) n1.jar
  have hO1 := o1.at (by decide) hO
  have g1 := gO_of hO1
  have K1' := K1
  obtain ⟨b1, b2, b3, b4, b5, b6, b7, b8, b9, b10, b11, b12⟩ := K1'
  obtain ⟨M2, k2, n2, o2⟩ := f21 b4.1 b12 n1 b7 (by decide) (by decide) (by decide) (by omega) (by omega)
  rw [← s2] at n2
  have K2 := K1.jar o2 (by decide) n2.jar
  have o12 : Off [275, 273] M M2 := (o1.wk (by decide)).tr (o2.wk (by decide))
  have hO2 := o12.at (by decide) hO
  have g2 := gO_of hO2
  have gk2 := gO_of (o12.at (by simp; omega) hk)
  have h32 := h3.off o12 (by simp; omega)
  have k3 := f10 (f := 0) (v := (dd : Int)) (by omega) h32.1 n2 (by omega) (by omega) (by rw [h3.2]; omega) (by rw [h3.2]; omega)
  rw [List.take_zero, List.nil_append, List.drop_of_length_le (by rw [h3.2]; omega), List.append_nil, Int.toNat_natCast, nI_0] at k3
  have o3 : Off [kk + 3] M2 (M2.set (kk + 3) (oI (nBL 32 (dd)))) := Off.set (by simp)
  obtain ⟨M3, hM3⟩ : ∃ X, X = M2.set (kk + 3) (oI (nBL 32 (dd))) := ⟨_, rfl⟩
  have e3 : M3[kk + 3]? = some (oI (nBL 32 (dd))) := by rw [hM3]; exact m_self (m_lt h32.1)
  rw [← hM3] at k3 o3
  have K3 := K2.off o3 (by intro x hx; simp at hx; omega)
  have n3 := n2.off o3 (by simp; omega)
  have hO3 := o3.at (by simp; omega) hO2
  have g3 := gO_of hO3
  have K3' := K3
  obtain ⟨d1, d2, d3, d4, d5, d6, d7, d8, d9, d10, d11, d12⟩ := K3'
  obtain ⟨M4, k4, c4, r4, o4⟩ := f1 d1 d2 d3 n3 d5 Gpt_v (by omega) (Or.inr (by decide)) (Or.inl rfl) (Or.inr (by decide)) (by decide)
  have K4 := K3.f1 o4 c4 r4
  have hO4 := o4.at (by decide) hO3
  have g4 := gO_of hO4
  have K4' := K4
  obtain ⟨e1, e2, -, -, -, -, -, -, -, -, -, e12⟩ := K4'
  obtain ⟨M5, k5, x5, y5, p5, f5_, o5⟩ := f3 e1 e2 e12 r4 vQ (Or.inr (by decide))
  have K5 := K4.f3 o5 f5_ p5
  have hO5 := o5.at (by decide) hO4
  have g5 := gO_of hO5
  have gp5 := gO_of p5.1
  have fb := fp_b vQ
  have o35 : Off (cvs ++ [111, 266, 267, 268]) M3 M5 := (o4.wk (by decide)).tr (o5.wk (by decide))
  have nk3 : kk + 3 ∉ cvs ++ [111, 266, 267, 268] := by simp [cvs]; omega
  have nk5 : kk + 5 ∉ cvs ++ [111, 266, 267, 268] := by simp [cvs]; omega
  have nk0 : kk ∉ cvs ++ [111, 266, 267, 268] := by simp [cvs]; omega
  have hk5 := o35.at nk0 (o3.at (by simp) (o12.at (by simp; omega) hk))
  have gk5 := gO_of hk5
  have p55 := (((h5.off o12 (by simp; omega)).off o3 (by simp)).off o35 nk5)
  have k6 := f10 (f := 0) (by omega) p55.1 x5 fb.1 (by omega) (by rw [h5.2]; omega) (by rw [h5.2]; omega)
  rw [List.take_zero, List.nil_append, nI_0] at k6
  have o6 : Off [kk + 5] M5 (M5.set (kk + 5) (oI (nBL 32 (fpx (pmul (dd) Gpt)).toNat ++ pt0.drop (0 + 32)))) := Off.set (by simp)
  obtain ⟨M6, hM6⟩ : ∃ X, X = M5.set (kk + 5) (oI (nBL 32 (fpx (pmul (dd) Gpt)).toNat ++ pt0.drop (0 + 32))) := ⟨_, rfl⟩
  have e6 : M6[kk + 5]? = some (oI (nBL 32 (fpx (pmul (dd) Gpt)).toNat ++ pt0.drop (0 + 32))) := by rw [hM6]; exact m_self (m_lt p55.1)
  rw [← hM6] at k6 o6
  have l6 : (nBL 32 (fpx (pmul (dd) Gpt)).toNat ++ pt0.drop (0 + 32)).length = 64 := by rw [List.length_append, nBL_len, List.length_drop, h5.2]
  have y6 := y5.off o6 (by simp; omega)
  have k7 := f10 (f := 32) (by omega) e6 y6 fb.2.2.1 (by omega) (by rw [l6]; omega) (by rw [l6]; omega)
  rw [List.take_left' nBL_len, List.drop_of_length_le (by rw [l6]; omega), List.append_nil, show nI 32 = 32 from rfl] at k7
  have o7 : Off [kk + 5] M6 (M6.set (kk + 5) (oI (ptB (pmul (dd) Gpt)))) := Off.set (by simp)
  have hO6 := o6.at (by simp; omega) hO5
  have g6 := gO_of hO6
  have gp6 := gO_of (o6.at (by simp; omega) p5.1)
  have gk6 := gO_of (o6.at (by simp) hk5)
  have rf := b4.1.rc
  have gc3 := gO_of d1.1
  have rc3 := d1.rc
  have rc4 := e1.rc
  have K6 := K5.off o6 (by intro x hx; simp at hx; omega)
  have K7 := K6.off o7 (by intro x hx; simp at hx; omega)
  rw [nI_0] at k1
  refine ⟨_, by (simp only [cl_59, e59_0, e59_1, e59_4, e59_5, e59_6, e59_9, e59_10, e59_13, e59_14, e59_17, e59_18, e59_21, e59_24, e59_25, e59_28, e59_29, e59_30, e59_33, e59_36, e59_37, e59_40, e59_41, e59_44, e59_45, e59_48, e59_51, e59_52, e59_55, e59_58, e59_59, e59_62, e59_63, e59_66, e59_69, e59_70, e59_73, e59_74, e59_75, e59_78, e59_81, e59_84, e59_85, e59_88, e59_90, e59_91, e59_94, e59_97, e59_100, ow_59, Int32.reduceOfInt, Int32.reduceOfNat, Int32.reduceToNatClampNeg, Int32.reduceLT, Int32.reduceLE, Int32.reduceAdd, Int32.reduceSub, Int32.reduceMul, Int64.reduceOfNat, Int64.reduceOfInt, Nat.reduceLeDiff, Nat.reduceLT, Nat.reduceEqDiff, Nat.reduceSub, cs_0, cs_1, cs_2, cs_3, cs_4, cs_5, cs_6, cs_7, cs_8, or_false, false_or, not_false_eq_true, and_true, true_and, if_true, if_false, List.length_cons, List.length_nil, List.getElem?_cons_succ, List.getElem?_cons_zero, List.set_cons_succ, List.set_cons_zero, reduceIte, d_G, d_R, s_aload, s_aload_n, s_iload, s_iload_n, s_lload, s_lload_n, s_istore, s_istore_n, s_astore, s_astoreN, s_astore_n, s_astore_nN, s_lstore, s_lstore_n, s_iinc, s_iconst, s_bipush, s_sipush, s_lconst, s_ldc2_w, s_aconst_null, s_dupA, s_dupI, s_dup2, s_iadd, s_isub, s_imul, s_iand, s_ior, s_ixor, s_ishl, s_ishr, s_iushr, s_ineg, s_idiv, s_irem, s_ladd, s_lsub, s_lmul, s_land, s_lor, s_lxor, s_ldiv, s_lshl, s_lshr, s_lushr, s_i2l, s_l2i, s_lcmp, s_goto, s_ieq, s_ine, s_ilt, s_ige, s_igt, s_ile, s_zeq, s_zne, s_zlt, s_zge, s_zgt, s_zle, s_ifnull, s_ifnullN, s_ifnonnull, s_ifnonnullN, s_tableswitch, s_lookupswitch, s_getfield, s_putfield, s_getstatic, s_iaload, s_laload, s_baload, s_aaload, s_iastore, s_lastore, s_bastore, s_aastore, s_arraylength, s_newI, s_newJ, s_newZ, s_anewarray, s_new, s_copy, s_max, s_min, s_invokestatic, s_objinit, s_invokespecial, kf_isr_r, s_invokevirtual, s_ireturn, s_lreturn, s_areturn, s_areturnN, s_return, lI_0, lI_s, lJ_0, lJ_s, lA_0, lA_0N, lA_s, lS1_0, lS1_1, lS1_2, lS2_0, lS2_1, lS2_2, lK_n, lK_i, lK_j, lK_a, lK_N, d_C', kf_w_0, kf_w_i, kf_w_a, kf_w_n, kf_w_j, c_0, c_1, c_2, c_3, c_4, c_5, c_6, tl_0, tl_1, Option.bind_some, Option.bind_none, Option.map_some, Nat.reduceAdd, Nat.reduceMul, Nat.reduceDiv, Nat.reduceMod, Int.reduceToNat, Fin.val_zero, Fin.isValue, Fin.val_one, Fin.val_two, fv_0, fv_1, fv_2, fv_3, fw_0, fw_1, d_ite, true_or, or_true, and_false, false_and, or_self, and_self, ow_21, ow_1, ow_3, sgF, g0, g1, g2, g3, g4, g5, g6, gk0, gk2, gk5, gk6, gp5, gp6, gc3, rf, rc3, rc4, k1, k2, k3, k4, k5, k6, k7] <;> rfl), K7, ⟨o7.at (by simp) (o6.at (by simp) (o35.at nk3 e3)), nBL_len⟩, ⟨m_self (m_lt e6), ptB_len⟩, ?_⟩
  exact (o12.wk (by simp)).tr ((o3.wk (by simp)).tr ((o35.wk (by simp [cvs])).tr ((o6.wk (by simp)).tr (o7.wk (by simp)))))
