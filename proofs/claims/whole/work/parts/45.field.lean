/-! numbers in arrays -/
/-- ten longs -/
def Jar (M : kf_M) (a : Nat) : Prop := ∃ l : List Int64, M[a]? = some (oJ l) ∧ l.length = 10
def Num (M : kf_M) (a : Nat) (v : Int) : Prop := ∃ l : List Int64, M[a]? = some (oJ l) ∧ lmb l v
theorem lmb_len {l : List Int64} {v : Int} (h : lmb l v) : l.length = 10 := by
  obtain ⟨l0, l1, l2, l3, l4, l5, l6, l7, l8, l9, rfl, -⟩ := h
  rfl
theorem Num.jar {M : kf_M} {a : Nat} {v : Int} (h : Num M a v) : Jar M a := by
  obtain ⟨l, h1, h2⟩ := h
  exact ⟨l, h1, lmb_len h2⟩
theorem Num.off {M M' : kf_M} {A : List Nat} {a : Nat} {v : Int} (h : Num M a v) (ho : Off A M M') (h0 : a ∉ A) : Num M' a v := by
  obtain ⟨l, h1, h2⟩ := h
  exact ⟨l, ho.at h0 h1, h2⟩
theorem Jar.off {M M' : kf_M} {A : List Nat} {a : Nat} (h : Jar M a) (ho : Off A M M') (h0 : a ∉ A) : Jar M' a := by
  obtain ⟨l, h1, h2⟩ := h
  exact ⟨l, ho.at h0 h1, h2⟩
theorem len10 {l : List Int64} (h : l.length = 10) : ∃ c0 c1 c2 c3 c4 c5 c6 c7 c8 c9, l = [c0, c1, c2, c3, c4, c5, c6, c7, c8, c9] := by
  match l, h with
  | [c0, c1, c2, c3, c4, c5, c6, c7, c8, c9], _ => exact ⟨c0, c1, c2, c3, c4, c5, c6, c7, c8, c9, rfl⟩
/-- the limbs are digits: a number has one form -/
theorem lmb_inj {l k : List Int64} {v : Int} (h1 : lmb l v) (h2 : lmb k v) : l = k := by
  obtain ⟨l0, l1, l2, l3, l4, l5, l6, l7, l8, l9, rfl, p0, p1, p2, p3, p4, p5, p6, p7, p8, e1⟩ := h1
  obtain ⟨k0, k1, k2, k3, k4, k5, k6, k7, k8, k9, rfl, q0, q1, q2, q3, q4, q5, q6, q7, q8, e2⟩ := h2
  have d0 : l0.toInt = k0.toInt := by omega
  have d1 : l1.toInt = k1.toInt := by omega
  have d2 : l2.toInt = k2.toInt := by omega
  have d3 : l3.toInt = k3.toInt := by omega
  have d4 : l4.toInt = k4.toInt := by omega
  have d5 : l5.toInt = k5.toInt := by omega
  have d6 : l6.toInt = k6.toInt := by omega
  have d7 : l7.toInt = k7.toInt := by omega
  have d8 : l8.toInt = k8.toInt := by omega
  have d9 : l9.toInt = k9.toInt := by omega
  rw [Int64.toInt_inj.mp d0, Int64.toInt_inj.mp d1, Int64.toInt_inj.mp d2, Int64.toInt_inj.mp d3, Int64.toInt_inj.mp d4, Int64.toInt_inj.mp d5, Int64.toInt_inj.mp d6, Int64.toInt_inj.mp d7, Int64.toInt_inj.mp d8, Int64.toInt_inj.mp d9]
/-- each limb is small -/
theorem lmb_b {l : List Int64} {v : Int} (h : lmb l v) (h1 : -(2 ^ 270) ≤ v) (h2 : v ≤ 2 ^ 270) : ∃ l0 l1 l2 l3 l4 l5 l6 l7 l8 l9, l = [l0, l1, l2, l3, l4, l5, l6, l7, l8, l9] ∧ (i64 l0 l0.toInt 268435456 ∧ i64 l1 l1.toInt 268435456 ∧ i64 l2 l2.toInt 268435456 ∧ i64 l3 l3.toInt 268435456 ∧ i64 l4 l4.toInt 268435456 ∧ i64 l5 l5.toInt 268435456 ∧ i64 l6 l6.toInt 268435456 ∧ i64 l7 l7.toInt 268435456 ∧ i64 l8 l8.toInt 268435456 ∧ i64 l9 l9.toInt 268435456) ∧ (0 ≤ l0.toInt ∧ l0.toInt < 268435456) ∧ v = l0.toInt + 268435456 * l1.toInt + 72057594037927936 * l2.toInt + 19342813113834066795298816 * l3.toInt + 5192296858534827628530496329220096 * l4.toInt + 1393796574908163946345982392040522594123776 * l5.toInt + 374144419156711147060143317175368453031918731001856 * l6.toInt + 100433627766186892221372630771322662657637687111424552206336 * l7.toInt + 26959946667150639794667015087019630673637144422540572481103610249216 * l8.toInt + 7237005577332262213973186563042994240829374041602535252466099000494570602496 * l9.toInt := by
  obtain ⟨l0, l1, l2, l3, l4, l5, l6, l7, l8, l9, rfl, p0, p1, p2, p3, p4, p5, p6, p7, p8, e1⟩ := h
  exact ⟨l0, l1, l2, l3, l4, l5, l6, l7, l8, l9, rfl, ⟨⟨rfl, by omega, by omega⟩, ⟨rfl, by omega, by omega⟩, ⟨rfl, by omega, by omega⟩, ⟨rfl, by omega, by omega⟩, ⟨rfl, by omega, by omega⟩, ⟨rfl, by omega, by omega⟩, ⟨rfl, by omega, by omega⟩, ⟨rfl, by omega, by omega⟩, ⟨rfl, by omega, by omega⟩, ⟨rfl, by omega, by omega⟩⟩, p0, e1⟩
/-- a field: its modulus m and what stands beside it -/
def FldO (M : kf_M) (f : Nat) (inv : Int64) : Prop := M[f]? = some (oO 1 [.ref (f + 1), .ref (f + 2), .ref (f + 3), .ref (f + 4), .ref (f + 5), .long inv])
theorem FldO.rc {M : kf_M} {f : Nat} {inv : Int64} (h : FldO M f inv) : kf_rcv M 1 (some (.ref f)) = true := kf_rcv_ok (gO_of h)
/-- the modulus is right: its number, and the number that kills its lowest limb -/
def Mod (M : kf_M) (f : Nat) (m : Int) : Prop := ∃ inv : Int64, FldO M f inv ∧ Num M (f + 1) m ∧ (inv.toInt * (m % 268435456) + 1) % 268435456 = 0 ∧ 0 < m ∧ m < 2 ^ 256
theorem Mod.off {M M' : kf_M} {A : List Nat} {f : Nat} {m : Int} (h : Mod M f m) (ho : Off A M M') (h0 : f ∉ A) (h1 : f + 1 ∉ A) : Mod M' f m := by
  obtain ⟨inv, a, b, c⟩ := h
  exact ⟨inv, ho.at h0 a, b.off ho h1, c⟩
theorem Mod.rc {M : kf_M} {f : Nat} {m : Int} (h : Mod M f m) : kf_rcv M 1 (some (.ref f)) = true := by
  obtain ⟨inv, a, -⟩ := h
  exact a.rc
set_option maxHeartbeats 4000000 in
set_option maxRecDepth 100000 in
theorem f16 {M : kf_M} {f to a b : Nat} {m va vb : Int} (hF : Mod M f m) (ha : Num M a va) (hb : Num M b vb) (ht : Jar M to) (hto : 19 ≤ to) (a1 : -(2 ^ 270) ≤ va) (a2 : va ≤ 2 ^ 270) (b1 : -(2 ^ 270) ≤ vb) (b2 : vb ≤ 2 ^ 270) : ∃ M' v Q, kf_cl 16 [.ref f, .ref to, .ref a, .ref b] M = some (none, M') ∧ Num M' to v ∧ v * 2 ^ 280 = va * vb + Q * m ∧ 0 ≤ Q ∧ Q < 2 ^ 280 ∧ Off [to] M M' := by
  obtain ⟨inv, hO, ⟨lm, gm, hm⟩, hinv, m0, m1⟩ := hF
  obtain ⟨la, ga, hla⟩ := ha
  obtain ⟨lb, gb, hlb⟩ := hb
  obtain ⟨lt, gt, hlt⟩ := ht
  obtain ⟨c0, c1, c2, c3, c4, c5, c6, c7, c8, c9, rfl⟩ := len10 hlt
  obtain ⟨x0, x1, x2, x3, x4, x5, x6, x7, x8, x9, rfl, ⟨ia0, ia1, ia2, ia3, ia4, ia5, ia6, ia7, ia8, ia9⟩, -, ea⟩ := lmb_b hla a1 a2
  obtain ⟨y0, y1, y2, y3, y4, y5, y6, y7, y8, y9, rfl, ⟨ib0, ib1, ib2, ib3, ib4, ib5, ib6, ib7, ib8, ib9⟩, -, eb⟩ := lmb_b hlb b1 b2
  obtain ⟨m0_, m1_, m2_, m3_, m4_, m5_, m6_, m7_, m8_, m9_, rfl, ⟨im0, im1, im2, im3, im4, im5, im6, im7, im8, im9⟩, ⟨mm0, mm1⟩, em⟩ := lmb_b hm (by omega) (by omega)
  have k1 := c16 (gO_of hO) (gJ_of gm) (gJ_of gb) (gJ_of ga) rfl gt hto
  have hi : (inv.toInt * m0_.toInt + 1) % 268435456 = 0 := by
    have : m % 268435456 = m0_.toInt := by omega
    rw [← this]
    exact hinv
  have hall : ∀ i, i64 ([x0, x1, x2, x3, x4, x5, x6, x7, x8, x9].getD i 0) ([x0, x1, x2, x3, x4, x5, x6, x7, x8, x9].getD i 0).toInt 268435456 := by
    intro i
    match i with
    | 0 => exact ia0
    | 1 => exact ia1
    | 2 => exact ia2
    | 3 => exact ia3
    | 4 => exact ia4
    | 5 => exact ia5
    | 6 => exact ia6
    | 7 => exact ia7
    | 8 => exact ia8
    | 9 => exact ia9
    | n + 10 => exact ⟨rfl, by show (-268435456 : Int) ≤ (0 : Int64).toInt; decide, by show (0 : Int64).toInt ≤ 268435456; decide⟩
  have z : i64 (0 : Int64) 0 0 := ⟨rfl, by decide, by decide⟩
  obtain ⟨r0, r1, r2, r3, r4, r5, r6, r7, r8, Q, ht9, Q0, Q1, hv⟩ := mit_ok ib0 ib1 ib2 ib3 ib4 ib5 ib6 ib7 ib8 ib9 im0 im1 im2 im3 im4 im5 im6 im7 im8 im9 rfl hi eb em hall 10 0 (0, 0, 0, 0, 0, 0, 0, 0, 0) 0 0 0 0 0 0 0 0 0 0 rfl rfl ⟨z, z, z, z, z, z, z, z, z⟩
  have hc := mca_ok ht9
  refine ⟨_, _, Q, k1, ⟨_, m_self (m_lt gt), hc⟩, ?_, Q0, Q1, Off.set (by simp)⟩
  have hav : av [x0, x1, x2, x3, x4, x5, x6, x7, x8, x9] 0 10 = va := by
    rw [ea]
    simp only [av, List.getD_cons_succ, List.getD_cons_zero, Nat.reduceAdd]
    omega
  rw [hav] at hv
  rw [show (2 : Int) ^ 280 = 268435456 ^ 10 by decide, hv]
  omega
/-! Field.plus -/
def pls (f : Int64) (la lb : List Int64) (i : Nat) : Nat → Int64 → List Int64 → Int64 × List Int64
  | 0, c, X => (c, X)
  | n + 1, c, X => pls f la lb (i + 1) n (sr28 (la.getD i 0 + f * lb.getD i 0 + c)) (X.set i ((la.getD i 0 + f * lb.getD i 0 + c) &&& 268435455))
theorem pls_len {f : Int64} {la lb : List Int64} : ∀ (n i : Nat) (c : Int64) (X : List Int64), (pls f la lb i n c X).2.length = X.length
  | 0, _, _, _ => rfl
  | n + 1, i, c, X => by
    show (pls f la lb (i + 1) n _ _).2.length = _
    rw [pls_len n, List.length_set]
/-- what stands at an index, read through an array that may be the one that is written -/
theorem rdx {M : kf_M} {to a i : Nat} {X la : List Int64} (hl : to < M.length) (ha : a ≠ to → gJ M a = some la) (he : a = to → X.getD i 0 = la.getD i 0) (h1 : i < X.length) (h2 : i < la.length) : ∃ xs, gJ (M.set to (oJ X)) a = some xs ∧ xs[i]? = some (la.getD i 0) := by
  by_cases q : a = to
  · subst q
    exact ⟨X, gJ_self hl, by rw [jD_of h1, he rfl]⟩
  · exact ⟨la, by rw [gJ_ne (Ne.symm q)]; exact ha q, jD_of h2⟩
theorem jset_ne {X : List Int64} {i j : Nat} {v : Int64} (h : i ≠ j) : (X.set i v).getD j 0 = X.getD j 0 := by rw [List.getD_eq_getElem?_getD, List.getElem?_set_ne h, List.getD_eq_getElem?_getD]
theorem c15l {M : kf_M} {to a b : Nat} {f : Int64} {la lb : List Int64} (hto : 19 ≤ to) (hl : to < M.length) (ha : a ≠ to → gJ M a = some la) (hb : b ≠ to → gJ M b = some lb) (lla : la.length = 10) (llb : lb.length = 10) : ∀ (n i : Nat) (c : Int64) (X : List Int64) (u8 u9 : Option Value), i + n = 9 → X.length = 10 → (a = to → ∀ j, i ≤ j → X.getD j 0 = la.getD j 0) → (b = to → ∀ j, i ≤ j → X.getD j 0 = lb.getD j 0) → kf_ev 15 6 [some (.ref to), some (.ref a), some (.long f), none, some (.ref b), some (.long c), none, some (.int (nI i)), u8, u9] [] (M.set to (oJ X)) = some (none, M.set to (oJ ((pls f la lb i n c X).2.set 9 (la.getD 9 0 + f * lb.getD 9 0 + (pls f la lb i n c X).1)))) := by
  intro n
  induction n with
  | zero =>
    intro i c X u8 u9 hi hX hA hB
    have hi : i = 9 := by omega
    subst hi
    have e : (9 : Int32) ≤ nI 9 := by decide
    obtain ⟨xa, g1, g2⟩ := rdx (i := 9) hl ha (fun q => hA q 9 (Nat.le_refl _)) (by omega) (by omega)
    obtain ⟨xb, g3, g4⟩ := rdx (i := 9) hl hb (fun q => hB q 9 (Nat.le_refl _)) (by omega) (by omega)
    have g5 : gJ (M.set to (oJ X)) to = some X := gJ_self hl
    have n1 : ¬ to < 19 := by omega
    have n2 : ¬ X.length ≤ 9 := by omega
    refine (e15_6 _ _ _).trans ?_
    simp only [cl_15, e15_0, e15_1, e15_3, e15_4, e15_8, e15_10, e15_13, e15_14, e15_16, e15_17, e15_18, e15_20, e15_22, e15_23, e15_24, e15_25, e15_27, e15_28, e15_30, e15_31, e15_33, e15_35, e15_38, e15_39, e15_40, e15_42, e15_44, e15_45, e15_47, e15_50, e15_53, e15_54, e15_56, e15_57, e15_59, e15_60, e15_61, e15_63, e15_65, e15_66, e15_67, e15_68, e15_70, e15_71, e15_72, ow_15, Int32.reduceOfInt, Int32.reduceOfNat, Int32.reduceToNatClampNeg, Int32.reduceLT, Int32.reduceLE, Int32.reduceAdd, Int32.reduceSub, Int32.reduceMul, Int64.reduceOfNat, Int64.reduceOfInt, Nat.reduceLeDiff, Nat.reduceLT, Nat.reduceEqDiff, Nat.reduceSub, cs_0, cs_1, cs_2, cs_3, cs_4, cs_5, cs_6, cs_7, cs_8, or_false, false_or, not_false_eq_true, and_true, true_and, if_true, if_false, List.length_cons, List.length_nil, List.getElem?_cons_succ, List.getElem?_cons_zero, List.set_cons_succ, List.set_cons_zero, reduceIte, d_G, d_R, s_aload, s_aload_n, s_iload, s_iload_n, s_lload, s_lload_n, s_istore, s_istore_n, s_astore, s_astoreN, s_astore_n, s_astore_nN, s_lstore, s_lstore_n, s_iinc, s_iconst, s_bipush, s_sipush, s_lconst, s_ldc2_w, s_aconst_null, s_dupA, s_dupI, s_dup2, s_iadd, s_isub, s_imul, s_iand, s_ior, s_ixor, s_ishl, s_ishr, s_iushr, s_ineg, s_idiv, s_irem, s_ladd, s_lsub, s_lmul, s_land, s_lor, s_lxor, s_ldiv, s_lshl, s_lshr, s_lushr, s_i2l, s_l2i, s_lcmp, s_goto, s_ieq, s_ine, s_ilt, s_ige, s_igt, s_ile, s_zeq, s_zne, s_zlt, s_zge, s_zgt, s_zle, s_ifnull, s_ifnullN, s_ifnonnull, s_ifnonnullN, s_tableswitch, s_lookupswitch, s_getfield, s_putfield, s_getstatic, s_iaload, s_laload, s_baload, s_aaload, s_iastore, s_lastore, s_bastore, s_aastore, s_arraylength, s_newI, s_newJ, s_newZ, s_anewarray, s_new, s_copy, s_max, s_min, s_invokestatic, s_objinit, s_invokespecial, kf_isr_r, s_invokevirtual, s_ireturn, s_lreturn, s_areturn, s_areturnN, s_return, lI_0, lI_s, lJ_0, lJ_s, lA_0, lA_0N, lA_s, lS1_0, lS1_1, lS1_2, lS2_0, lS2_1, lS2_2, lK_n, lK_i, lK_j, lK_a, lK_N, d_C', kf_w_0, kf_w_i, kf_w_a, kf_w_n, kf_w_j, c_0, c_1, c_2, c_3, c_4, c_5, c_6, tl_0, tl_1, Option.bind_some, Option.bind_none, Option.map_some, Nat.reduceAdd, Nat.reduceMul, Nat.reduceDiv, Nat.reduceMod, Int.reduceToNat, Fin.val_zero, Fin.isValue, Fin.val_one, Fin.val_two, fv_0, fv_1, fv_2, fv_3, fw_0, fw_1, d_ite, true_or, or_true, and_false, false_and, or_self, and_self, e, g1, g2, g3, g4, g5, n1, n2, kf_NS, List.set_set]
    rfl
  | succ n ih =>
    intro i c X u8 u9 hi hX hA hB
    have e : ¬ (9 : Int32) ≤ nI i := nI_ge (a := i) (b := 9) (by omega) (by omega)
    have p0 : ¬ nI i < 0 := nI_pos (by omega)
    have p1 : (nI i).toNatClampNeg = i := nI_clamp (by omega)
    obtain ⟨xa, g1, g2⟩ := rdx (i := i) hl ha (fun q => hA q i (Nat.le_refl _)) (by omega) (by omega)
    obtain ⟨xb, g3, g4⟩ := rdx (i := i) hl hb (fun q => hB q i (Nat.le_refl _)) (by omega) (by omega)
    have g5 : gJ (M.set to (oJ X)) to = some X := gJ_self hl
    have n1 : ¬ to < 19 := by omega
    have n2 : ¬ X.length ≤ i := by omega
    have ih' := ih (i + 1) (sr28 (la.getD i 0 + f * lb.getD i 0 + c)) (X.set i ((la.getD i 0 + f * lb.getD i 0 + c) &&& 268435455)) (some (.long (la.getD i 0 + f * lb.getD i 0 + c))) none (by omega) (by rw [List.length_set]; exact hX) (fun q j hj => by rw [jset_ne (by omega)]; exact hA q j (by omega)) (fun q j hj => by rw [jset_ne (by omega)]; exact hB q j (by omega))
    refine (e15_6 _ _ _).trans (Eq.trans ?_ ih')
    simp only [cl_15, e15_0, e15_1, e15_3, e15_4, e15_8, e15_10, e15_13, e15_14, e15_16, e15_17, e15_18, e15_20, e15_22, e15_23, e15_24, e15_25, e15_27, e15_28, e15_30, e15_31, e15_33, e15_35, e15_38, e15_39, e15_40, e15_42, e15_44, e15_45, e15_47, e15_50, e15_53, e15_54, e15_56, e15_57, e15_59, e15_60, e15_61, e15_63, e15_65, e15_66, e15_67, e15_68, e15_70, e15_71, e15_72, ow_15, Int32.reduceOfInt, Int32.reduceOfNat, Int32.reduceToNatClampNeg, Int32.reduceLT, Int32.reduceLE, Int32.reduceAdd, Int32.reduceSub, Int32.reduceMul, Int64.reduceOfNat, Int64.reduceOfInt, Nat.reduceLeDiff, Nat.reduceLT, Nat.reduceEqDiff, Nat.reduceSub, cs_0, cs_1, cs_2, cs_3, cs_4, cs_5, cs_6, cs_7, cs_8, or_false, false_or, not_false_eq_true, and_true, true_and, if_true, if_false, List.length_cons, List.length_nil, List.getElem?_cons_succ, List.getElem?_cons_zero, List.set_cons_succ, List.set_cons_zero, reduceIte, d_G, d_R, s_aload, s_aload_n, s_iload, s_iload_n, s_lload, s_lload_n, s_istore, s_istore_n, s_astore, s_astoreN, s_astore_n, s_astore_nN, s_lstore, s_lstore_n, s_iinc, s_iconst, s_bipush, s_sipush, s_lconst, s_ldc2_w, s_aconst_null, s_dupA, s_dupI, s_dup2, s_iadd, s_isub, s_imul, s_iand, s_ior, s_ixor, s_ishl, s_ishr, s_iushr, s_ineg, s_idiv, s_irem, s_ladd, s_lsub, s_lmul, s_land, s_lor, s_lxor, s_ldiv, s_lshl, s_lshr, s_lushr, s_i2l, s_l2i, s_lcmp, s_goto, s_ieq, s_ine, s_ilt, s_ige, s_igt, s_ile, s_zeq, s_zne, s_zlt, s_zge, s_zgt, s_zle, s_ifnull, s_ifnullN, s_ifnonnull, s_ifnonnullN, s_tableswitch, s_lookupswitch, s_getfield, s_putfield, s_getstatic, s_iaload, s_laload, s_baload, s_aaload, s_iastore, s_lastore, s_bastore, s_aastore, s_arraylength, s_newI, s_newJ, s_newZ, s_anewarray, s_new, s_copy, s_max, s_min, s_invokestatic, s_objinit, s_invokespecial, kf_isr_r, s_invokevirtual, s_ireturn, s_lreturn, s_areturn, s_areturnN, s_return, lI_0, lI_s, lJ_0, lJ_s, lA_0, lA_0N, lA_s, lS1_0, lS1_1, lS1_2, lS2_0, lS2_1, lS2_2, lK_n, lK_i, lK_j, lK_a, lK_N, d_C', kf_w_0, kf_w_i, kf_w_a, kf_w_n, kf_w_j, c_0, c_1, c_2, c_3, c_4, c_5, c_6, tl_0, tl_1, Option.bind_some, Option.bind_none, Option.map_some, Nat.reduceAdd, Nat.reduceMul, Nat.reduceDiv, Nat.reduceMod, Int.reduceToNat, Fin.val_zero, Fin.isValue, Fin.val_one, Fin.val_two, fv_0, fv_1, fv_2, fv_3, fw_0, fw_1, d_ite, true_or, or_true, and_false, false_and, or_self, and_self, e, g1, g2, g3, g4, g5, n1, n2, p0, p1, kf_NS, nI_1, List.set_set]
    rfl
set_option maxHeartbeats 4000000 in
set_option maxRecDepth 100000 in
theorem pls_ok {fc : Int64} {ff va vb : Int} {la lb X : List Int64} (hf : i64 fc ff 256) (ha : lmb la va) (hb : lmb lb vb) (hX : X.length = 10) (a1 : -(2 ^ 270) ≤ va) (a2 : va ≤ 2 ^ 270) (b1 : -(2 ^ 270) ≤ vb) (b2 : vb ≤ 2 ^ 270) : lmb ((pls fc la lb 0 9 0 X).2.set 9 (la.getD 9 0 + fc * lb.getD 9 0 + (pls fc la lb 0 9 0 X).1)) (va + ff * vb) := by
  obtain ⟨c0, c1, c2, c3, c4, c5, c6, c7, c8, c9, rfl⟩ := len10 hX
  obtain ⟨x0, x1, x2, x3, x4, x5, x6, x7, x8, x9, rfl, ⟨ia0, ia1, ia2, ia3, ia4, ia5, ia6, ia7, ia8, ia9⟩, -, ea⟩ := lmb_b ha a1 a2
  obtain ⟨y0, y1, y2, y3, y4, y5, y6, y7, y8, y9, rfl, ⟨ib0, ib1, ib2, ib3, ib4, ib5, ib6, ib7, ib8, ib9⟩, -, eb⟩ := lmb_b hb b1 b2
  have p0 := i64_ml (D := 68719476736) hf ib0 (by decide) (by decide)
  have p1 := i64_ml (D := 68719476736) hf ib1 (by decide) (by decide)
  have p2 := i64_ml (D := 68719476736) hf ib2 (by decide) (by decide)
  have p3 := i64_ml (D := 68719476736) hf ib3 (by decide) (by decide)
  have p4 := i64_ml (D := 68719476736) hf ib4 (by decide) (by decide)
  have p5 := i64_ml (D := 68719476736) hf ib5 (by decide) (by decide)
  have p6 := i64_ml (D := 68719476736) hf ib6 (by decide) (by decide)
  have p7 := i64_ml (D := 68719476736) hf ib7 (by decide) (by decide)
  have p8 := i64_ml (D := 68719476736) hf ib8 (by decide) (by decide)
  have p9 := i64_ml (D := 68719476736) hf ib9 (by decide) (by decide)
  have z : i64 (0 : Int64) 0 1 := ⟨rfl, by decide, by decide⟩
  have s0 := i64_wk (C := 137438953472) (i64_ad (i64_ad ia0 p0 (by decide)) z (by decide)) (by decide)
  have s1 := i64_wk (C := 137438953472) (i64_ad (i64_ad ia1 p1 (by decide)) (i64_sr (C := 1024) s0 (by decide)) (by decide)) (by decide)
  have s2 := i64_wk (C := 137438953472) (i64_ad (i64_ad ia2 p2 (by decide)) (i64_sr (C := 1024) s1 (by decide)) (by decide)) (by decide)
  have s3 := i64_wk (C := 137438953472) (i64_ad (i64_ad ia3 p3 (by decide)) (i64_sr (C := 1024) s2 (by decide)) (by decide)) (by decide)
  have s4 := i64_wk (C := 137438953472) (i64_ad (i64_ad ia4 p4 (by decide)) (i64_sr (C := 1024) s3 (by decide)) (by decide)) (by decide)
  have s5 := i64_wk (C := 137438953472) (i64_ad (i64_ad ia5 p5 (by decide)) (i64_sr (C := 1024) s4 (by decide)) (by decide)) (by decide)
  have s6 := i64_wk (C := 137438953472) (i64_ad (i64_ad ia6 p6 (by decide)) (i64_sr (C := 1024) s5 (by decide)) (by decide)) (by decide)
  have s7 := i64_wk (C := 137438953472) (i64_ad (i64_ad ia7 p7 (by decide)) (i64_sr (C := 1024) s6 (by decide)) (by decide)) (by decide)
  have s8 := i64_wk (C := 137438953472) (i64_ad (i64_ad ia8 p8 (by decide)) (i64_sr (C := 1024) s7 (by decide)) (by decide)) (by decide)
  have s9 := i64_wk (C := 137438953472) (i64_ad (i64_ad ia9 p9 (by decide)) (i64_sr (C := 1024) s8 (by decide)) (by decide)) (by decide)
  have e0 := s0.1
  have e1 := s1.1
  have e2 := s2.1
  have e3 := s3.1
  have e4 := s4.1
  have e5 := s5.1
  have e6 := s6.1
  have e7 := s7.1
  have e8 := s8.1
  have e9 := s9.1
  refine ⟨_, _, _, _, _, _, _, _, _, _, rfl, ?_⟩
  simp only [pls, mk28_ok, List.getD_cons_succ, List.getD_cons_zero, Nat.reduceAdd]
  rw [e0, e1, e2, e3, e4, e5, e6, e7, e8, e9]
  have hfb : ff * vb = ff * y0.toInt + 268435456 * (ff * y1.toInt) + 72057594037927936 * (ff * y2.toInt) + 19342813113834066795298816 * (ff * y3.toInt) + 5192296858534827628530496329220096 * (ff * y4.toInt) + 1393796574908163946345982392040522594123776 * (ff * y5.toInt) + 374144419156711147060143317175368453031918731001856 * (ff * y6.toInt) + 100433627766186892221372630771322662657637687111424552206336 * (ff * y7.toInt) + 26959946667150639794667015087019630673637144422540572481103610249216 * (ff * y8.toInt) + 7237005577332262213973186563042994240829374041602535252466099000494570602496 * (ff * y9.toInt) := by rw [eb]; grind
  rw [hfb, ea]
  clear hfb ea eb e0 s0 p0 ia0 ib0 e1 s1 p1 ia1 ib1 e2 s2 p2 ia2 ib2 e3 s3 p3 ia3 ib3 e4 s4 p4 ia4 ib4 e5 s5 p5 ia5 ib5 e6 s6 p6 ia6 ib6 e7 s7 p7 ia7 ib7 e8 s8 p8 ia8 ib8 e9 s9 p9 ia9 ib9 z a1 a2 b1 b2 hX ha hb
  generalize ff * y0.toInt = w0 at *
  generalize x0.toInt = v0 at *
  generalize ff * y1.toInt = w1 at *
  generalize x1.toInt = v1 at *
  generalize ff * y2.toInt = w2 at *
  generalize x2.toInt = v2 at *
  generalize ff * y3.toInt = w3 at *
  generalize x3.toInt = v3 at *
  generalize ff * y4.toInt = w4 at *
  generalize x4.toInt = v4 at *
  generalize ff * y5.toInt = w5 at *
  generalize x5.toInt = v5 at *
  generalize ff * y6.toInt = w6 at *
  generalize x6.toInt = v6 at *
  generalize ff * y7.toInt = w7 at *
  generalize x7.toInt = v7 at *
  generalize ff * y8.toInt = w8 at *
  generalize x8.toInt = v8 at *
  generalize ff * y9.toInt = w9 at *
  generalize x9.toInt = v9 at *
  obtain ⟨d0, hd0⟩ : ∃ d, d = v0 + w0 + 0 := ⟨_, rfl⟩
  rw [← hd0]
  obtain ⟨d1, hd1⟩ : ∃ d, d = v1 + w1 + d0 / 268435456 := ⟨_, rfl⟩
  rw [← hd1]
  obtain ⟨d2, hd2⟩ : ∃ d, d = v2 + w2 + d1 / 268435456 := ⟨_, rfl⟩
  rw [← hd2]
  obtain ⟨d3, hd3⟩ : ∃ d, d = v3 + w3 + d2 / 268435456 := ⟨_, rfl⟩
  rw [← hd3]
  obtain ⟨d4, hd4⟩ : ∃ d, d = v4 + w4 + d3 / 268435456 := ⟨_, rfl⟩
  rw [← hd4]
  obtain ⟨d5, hd5⟩ : ∃ d, d = v5 + w5 + d4 / 268435456 := ⟨_, rfl⟩
  rw [← hd5]
  obtain ⟨d6, hd6⟩ : ∃ d, d = v6 + w6 + d5 / 268435456 := ⟨_, rfl⟩
  rw [← hd6]
  obtain ⟨d7, hd7⟩ : ∃ d, d = v7 + w7 + d6 / 268435456 := ⟨_, rfl⟩
  rw [← hd7]
  obtain ⟨d8, hd8⟩ : ∃ d, d = v8 + w8 + d7 / 268435456 := ⟨_, rfl⟩
  rw [← hd8]
  obtain ⟨d9, hd9⟩ : ∃ d, d = v9 + w9 + d8 / 268435456 := ⟨_, rfl⟩
  rw [← hd9]
  omega
theorem f15 {M : kf_M} {to a b : Nat} {fc : Int64} {ff va vb : Int} (hf : i64 fc ff 256) (ha : Num M a va) (hb : Num M b vb) (ht : Jar M to) (hto : 19 ≤ to) (a1 : -(2 ^ 270) ≤ va) (a2 : va ≤ 2 ^ 270) (b1 : -(2 ^ 270) ≤ vb) (b2 : vb ≤ 2 ^ 270) : ∃ M', kf_cl 15 [.ref to, .ref a, .long fc, .ref b] M = some (none, M') ∧ Num M' to (va + ff * vb) ∧ Off [to] M M' := by
  obtain ⟨la, ga, hla⟩ := ha
  obtain ⟨lb, gb, hlb⟩ := hb
  obtain ⟨lt, gt, hlt⟩ := ht
  have es : M.set to (oJ lt) = M := by
    apply List.ext_getElem?
    intro j
    by_cases hj : to = j
    · subst hj; rw [m_self (m_lt gt), gt]
    · rw [m_ne hj]
  have k1 := c15l (M := M) (to := to) (a := a) (b := b) (f := fc) hto (m_lt gt) (fun _ => gJ_of ga) (fun _ => gJ_of gb) (lmb_len hla) (lmb_len hlb) 9 0 0 lt none none rfl hlt (fun q j _ => by subst q; rw [gt] at ga; injection ga with ga; injection ga with ga; injection ga with ga; injection ga with ga; rw [ga]) (fun q j _ => by subst q; rw [gt] at gb; injection gb with gb; injection gb with gb; injection gb with gb; injection gb with gb; rw [gb])
  rw [es, nI_0] at k1
  exact ⟨_, by simp only [cl_15, e15_0, e15_1, e15_3, e15_4, e15_8, e15_10, e15_13, e15_14, e15_16, e15_17, e15_18, e15_20, e15_22, e15_23, e15_24, e15_25, e15_27, e15_28, e15_30, e15_31, e15_33, e15_35, e15_38, e15_39, e15_40, e15_42, e15_44, e15_45, e15_47, e15_50, e15_53, e15_54, e15_56, e15_57, e15_59, e15_60, e15_61, e15_63, e15_65, e15_66, e15_67, e15_68, e15_70, e15_71, e15_72, ow_15, Int32.reduceOfInt, Int32.reduceOfNat, Int32.reduceToNatClampNeg, Int32.reduceLT, Int32.reduceLE, Int32.reduceAdd, Int32.reduceSub, Int32.reduceMul, Int64.reduceOfNat, Int64.reduceOfInt, Nat.reduceLeDiff, Nat.reduceLT, Nat.reduceEqDiff, Nat.reduceSub, cs_0, cs_1, cs_2, cs_3, cs_4, cs_5, cs_6, cs_7, cs_8, or_false, false_or, not_false_eq_true, and_true, true_and, if_true, if_false, List.length_cons, List.length_nil, List.getElem?_cons_succ, List.getElem?_cons_zero, List.set_cons_succ, List.set_cons_zero, reduceIte, d_G, d_R, s_aload, s_aload_n, s_iload, s_iload_n, s_lload, s_lload_n, s_istore, s_istore_n, s_astore, s_astoreN, s_astore_n, s_astore_nN, s_lstore, s_lstore_n, s_iinc, s_iconst, s_bipush, s_sipush, s_lconst, s_ldc2_w, s_aconst_null, s_dupA, s_dupI, s_dup2, s_iadd, s_isub, s_imul, s_iand, s_ior, s_ixor, s_ishl, s_ishr, s_iushr, s_ineg, s_idiv, s_irem, s_ladd, s_lsub, s_lmul, s_land, s_lor, s_lxor, s_ldiv, s_lshl, s_lshr, s_lushr, s_i2l, s_l2i, s_lcmp, s_goto, s_ieq, s_ine, s_ilt, s_ige, s_igt, s_ile, s_zeq, s_zne, s_zlt, s_zge, s_zgt, s_zle, s_ifnull, s_ifnullN, s_ifnonnull, s_ifnonnullN, s_tableswitch, s_lookupswitch, s_getfield, s_putfield, s_getstatic, s_iaload, s_laload, s_baload, s_aaload, s_iastore, s_lastore, s_bastore, s_aastore, s_arraylength, s_newI, s_newJ, s_newZ, s_anewarray, s_new, s_copy, s_max, s_min, s_invokestatic, s_objinit, s_invokespecial, kf_isr_r, s_invokevirtual, s_ireturn, s_lreturn, s_areturn, s_areturnN, s_return, lI_0, lI_s, lJ_0, lJ_s, lA_0, lA_0N, lA_s, lS1_0, lS1_1, lS1_2, lS2_0, lS2_1, lS2_2, lK_n, lK_i, lK_j, lK_a, lK_N, d_C', kf_w_0, kf_w_i, kf_w_a, kf_w_n, kf_w_j, c_0, c_1, c_2, c_3, c_4, c_5, c_6, tl_0, tl_1, Option.bind_some, Option.bind_none, Option.map_some, Nat.reduceAdd, Nat.reduceMul, Nat.reduceDiv, Nat.reduceMod, Int.reduceToNat, Fin.val_zero, Fin.isValue, Fin.val_one, Fin.val_two, fv_0, fv_1, fv_2, fv_3, fw_0, fw_1, d_ite, true_or, or_true, and_false, false_and, or_self, and_self, k1], ⟨_, m_self (m_lt gt), pls_ok hf hla hlb hlt a1 a2 b1 b2⟩, Off.set (by simp)⟩
/-- copy -/
theorem f14 {M : kf_M} {to a : Nat} {va : Int} (ha : Num M a va) (ht : Jar M to) (hto : 19 ≤ to) : ∃ M', kf_cl 14 [.ref to, .ref a] M = some (none, M') ∧ Num M' to va ∧ Off [to] M M' := by
  obtain ⟨la, ga, hla⟩ := ha
  obtain ⟨lt, gt, hlt⟩ := ht
  have l1 := lmb_len hla
  have ec : kf_cp la lt 0 0 10 = la := by
    unfold kf_cp
    rw [List.take_zero, List.nil_append, List.drop_zero, List.take_of_length_le (by omega), List.drop_of_length_le (l := lt) (by omega), List.append_nil]
  have kc : ∀ pc ls, kf_copy 0 0 10 a to pc ls [] M = aG pc ls [] (M.set to (oJ la)) := by
    intro pc ls
    unfold kf_copy
    have z : ¬ ((0 : Int32) < 0 ∨ (0 : Int32) < 0 ∨ (10 : Int32) < 0 ∨ to < kf_NS ∨ 8 < kf_w []) := by
      rw [show kf_NS = 19 from rfl, show kf_w [] = 0 from rfl]
      intro h
      rcases h with h | h | h | h | h
      · exact absurd h (by decide)
      · exact absurd h (by decide)
      · exact absurd h (by decide)
      · omega
      · omega
    rw [if_neg z]
    simp only [gI, gJ, ga, gt]
    rw [if_pos (by rw [l1, hlt]; decide)]
    rw [show (0 : Int32).toNatClampNeg = 0 from rfl, show (10 : Int32).toNatClampNeg = 10 from rfl, ec]
  exact ⟨_, by simp only [cl_14, e14_0, e14_1, e14_2, e14_3, e14_4, e14_6, e14_9, ow_14, Int32.reduceOfInt, Int32.reduceOfNat, Int32.reduceToNatClampNeg, Int32.reduceLT, Int32.reduceLE, Int32.reduceAdd, Int32.reduceSub, Int32.reduceMul, Int64.reduceOfNat, Int64.reduceOfInt, Nat.reduceLeDiff, Nat.reduceLT, Nat.reduceEqDiff, Nat.reduceSub, cs_0, cs_1, cs_2, cs_3, cs_4, cs_5, cs_6, cs_7, cs_8, or_false, false_or, not_false_eq_true, and_true, true_and, if_true, if_false, List.length_cons, List.length_nil, List.getElem?_cons_succ, List.getElem?_cons_zero, List.set_cons_succ, List.set_cons_zero, reduceIte, d_G, d_R, s_aload, s_aload_n, s_iload, s_iload_n, s_lload, s_lload_n, s_istore, s_istore_n, s_astore, s_astoreN, s_astore_n, s_astore_nN, s_lstore, s_lstore_n, s_iinc, s_iconst, s_bipush, s_sipush, s_lconst, s_ldc2_w, s_aconst_null, s_dupA, s_dupI, s_dup2, s_iadd, s_isub, s_imul, s_iand, s_ior, s_ixor, s_ishl, s_ishr, s_iushr, s_ineg, s_idiv, s_irem, s_ladd, s_lsub, s_lmul, s_land, s_lor, s_lxor, s_ldiv, s_lshl, s_lshr, s_lushr, s_i2l, s_l2i, s_lcmp, s_goto, s_ieq, s_ine, s_ilt, s_ige, s_igt, s_ile, s_zeq, s_zne, s_zlt, s_zge, s_zgt, s_zle, s_ifnull, s_ifnullN, s_ifnonnull, s_ifnonnullN, s_tableswitch, s_lookupswitch, s_getfield, s_putfield, s_getstatic, s_iaload, s_laload, s_baload, s_aaload, s_iastore, s_lastore, s_bastore, s_aastore, s_arraylength, s_newI, s_newJ, s_newZ, s_anewarray, s_new, s_copy, s_max, s_min, s_invokestatic, s_objinit, s_invokespecial, kf_isr_r, s_invokevirtual, s_ireturn, s_lreturn, s_areturn, s_areturnN, s_return, lI_0, lI_s, lJ_0, lJ_s, lA_0, lA_0N, lA_s, lS1_0, lS1_1, lS1_2, lS2_0, lS2_1, lS2_2, lK_n, lK_i, lK_j, lK_a, lK_N, d_C', kf_w_0, kf_w_i, kf_w_a, kf_w_n, kf_w_j, c_0, c_1, c_2, c_3, c_4, c_5, c_6, tl_0, tl_1, Option.bind_some, Option.bind_none, Option.map_some, Nat.reduceAdd, Nat.reduceMul, Nat.reduceDiv, Nat.reduceMod, Int.reduceToNat, Fin.val_zero, Fin.isValue, Fin.val_one, Fin.val_two, fv_0, fv_1, fv_2, fv_3, fw_0, fw_1, d_ite, true_or, or_true, and_false, false_and, or_self, and_self, kc], ⟨la, m_self (m_lt gt), hla⟩, Off.set (by simp)⟩
