/-! Signer: what it holds; nonces, secrets, the owner -/
theorem isB_sha {bs : List Int32} : isB (sha bs) := by
  intro x hx
  obtain ⟨i, -, rfl⟩ := List.mem_map.mp hx
  obtain ⟨j, h1, h2⟩ := pk_andE (((bfo (padd1 bs) sx_0 0 ((bs.length + 72) / 64)).getD (i / 4) 0 >>> (nI (24 - 8 * (i % 4)) &&& 31))) (m := 255) 8 (by decide)
  exact ⟨j, by omega, h2⟩
theorem byt_id : ∀ {xs : List Int32}, isB xs → byt xs = xs
  | [], _ => rfl
  | x :: t, h => by
    obtain ⟨c, hc, e⟩ := h x (by simp)
    have ih := byt_id (xs := t) (fun y hy => h y (by simp [hy]))
    unfold byt at ih ⊢
    rw [List.map_cons, ih, e, pk_andN (k := 8) (by omega) (by decide)]
    show nI (c % 256) :: t = _
    rw [Nat.mod_eq_of_lt hc]
/-- the number that bytes tell -/
noncomputable def nb (xs : List Int32) : Nat := Classical.epsilon (fun n => n < 256 ^ xs.length ∧ xs = nBL xs.length n)
theorem nb_ok {xs : List Int32} (h : isB xs) : nb xs < 256 ^ xs.length ∧ xs = nBL xs.length (nb xs) := Classical.epsilon_spec (bytes_ex xs h)
theorem nb_32 {xs : List Int32} (h : isB xs) (hl : xs.length = 32) : nb xs < 2 ^ 256 ∧ xs = nBL 32 (nb xs) := by
  have := nb_ok h
  rw [hl] at this
  exact ⟨by omega, this.2⟩
theorem isB_app {xs ys : List Int32} (h1 : isB xs) (h2 : isB ys) : isB (xs ++ ys) := fun x hx => (List.mem_append.mp hx).elim (h1 x) (h2 x)
theorem isB_sub {xs ys : List Int32} (h : isB xs) (hs : ∀ y ∈ ys, y ∈ xs) : isB ys := fun y hy => h y (hs y hy)
def Gpt : Pt := some (48439561293906451759052585252797914202762949526041747995844080717082404635286, 36134250956749795798585127919587881956611106672985015071877198253568414405109)
theorem Gpt_v : vP Gpt := ⟨by decide +kernel, by decide +kernel, by decide +kernel, by decide +kernel, (-981570988164258562257936101525215858910690391106138407341175333813841188485201771743408849884010754226965632845910189239885256093057339116530079505515608 : Int), by decide +kernel⟩
theorem drw_ok {s : Nat} (hs : s < 2 ^ 256) : 0 < drw nN s ∧ drw nN s < nN := by
  have h1 : (nN : Int) = 115792089210356248762697446949407573529996955224135760342422259061068512044369 := by decide +kernel
  unfold drw
  split <;> omega
/-- the number machinery of the signer -/
def SgK (M : kf_M) : Prop := CvIs M ∧ FldIs M 106 pP ∧ Comb M 113 Gpt ∧ FldIs M 187 nN ∧ PtJ M 265 ∧ PtJ M 269 ∧ Jar M 273 ∧ Jar M 274 ∧ Jar M 275 ∧ Jar M 276 ∧ Jar M 277 ∧ M[4]? = some (oJ sx_4)
theorem SgK.off {M M' : kf_M} {A : List Nat} (h : SgK M) (ho : Off A M M') (hA : ∀ x ∈ A, x ≠ 4 ∧ (x < 105 ∨ (192 < x ∧ x < 265) ∨ 277 < x)) : SgK M' := by
  obtain ⟨a1, a2, a3, a4, a5, a6, a7, a8, a9, a10, a11, a12⟩ := h
  have n1 : ∀ y, 105 ≤ y → y ≤ 192 → y ∉ A := fun y h1 h2 q => by have := (hA y q).2; omega
  have n2 : ∀ y, 265 ≤ y → y ≤ 277 → y ∉ A := fun y h1 h2 q => by have := (hA y q).2; omega
  refine ⟨a1.off ho ?_, a2.off2 ho ?_, a3.off ho ?_, a4.off2 ho ?_, a5.off ho (n2 _ (by decide) (by decide)) (n2 _ (by decide) (by decide)) (n2 _ (by decide) (by decide)) (n2 _ (by decide) (by decide)), a6.off ho (n2 _ (by decide) (by decide)) (n2 _ (by decide) (by decide)) (n2 _ (by decide) (by decide)) (n2 _ (by decide) (by decide)), a7.off ho (n2 _ (by decide) (by decide)), a8.off ho (n2 _ (by decide) (by decide)), a9.off ho (n2 _ (by decide) (by decide)), a10.off ho (n2 _ (by decide) (by decide)), a11.off ho (n2 _ (by decide) (by decide)), ho.at (fun q => (hA 4 q).1 rfl) a12⟩
  · intro x hx
    have := (hA x hx).2
    omega
  · intro x hx
    have := (hA x hx).2
    omega
  · intro x hx
    have := (hA x hx).2
    omega
  · intro x hx
    have := (hA x hx).2
    omega
/-- the numbers' arrays may be written -/
theorem SgK.jar {M M' : kf_M} {c : Nat} (h : SgK M) (ho : Off [c] M M') (hc : c ∈ [273, 274, 275, 276, 277]) (hj : Jar M' c) : SgK M' := by
  obtain ⟨a1, a2, a3, a4, a5, a6, a7, a8, a9, a10, a11, a12⟩ := h
  have hc2 : c = 273 ∨ c = 274 ∨ c = 275 ∨ c = 276 ∨ c = 277 := by simpa using hc
  have k : ∀ d, d ∈ [273, 274, 275, 276, 277] → Jar M d → Jar M' d := by
    intro d hd hJ
    by_cases e : d = c
    · rw [e]; exact hj
    · exact hJ.off ho (by simpa using e)
  refine ⟨a1.off ho (by intro x hx; simp at hx; omega), a2.off2 ho (by intro x hx; simp at hx; omega), a3.off ho (by intro x hx; simp at hx; omega), a4.off2 ho (by intro x hx; simp at hx; omega), a5.off ho (by simp; omega) (by simp; omega) (by simp; omega) (by simp; omega), a6.off ho (by simp; omega) (by simp; omega) (by simp; omega) (by simp; omega), k _ (by decide) a7, k _ (by decide) a8, k _ (by decide) a9, k _ (by decide) a10, k _ (by decide) a11, ho.at (by simp; omega) a12⟩
/-- the nonce of a try -/
noncomputable def nonce (sec dig : List Int32) (i : Nat) : Int := drw nN (nb (sha (sec ++ dig ++ [nI i &&& 255])))
theorem f63 {M : kf_M} {made cf : Int32} {ks i : Nat} {sec dig rw1 : List Int32} (hO : SgO M made cf) (hK : SgK M) (hS : SH M) (hH : HA M 193) (hs : ArI M ks 32 sec) (bs : isB sec) (hd : ArI M 197 32 dig) (bd : isB dig) (hr : ArI M 264 64 rw1) (hks : 19 ≤ ks ∧ ks ≤ 103) : ∃ M', kf_cl 63 [.ref 104, .ref ks, .int (nI i)] M = some (none, M') ∧ Num M' 275 (nonce sec dig i) ∧ SgK M' ∧ HA M' 193 ∧ (∃ rw2, ArI M' 264 64 rw2) ∧ Off [193, 194, 195, 264, 275, 277] M M' := by
  have g0 := gO_of hO
  have q0 := hH.rc
  obtain ⟨M1, k1, r1, o1⟩ := h25 hH hS.1 (by decide)
  have S1 := hS.off o1 (by decide) (by decide)
  obtain ⟨M2, k2, r2, o2⟩ := h27 (f := 0) (n := 32) r1 (by simp) S1.2 (o1.at (by simp; omega) hs.1) (by have := hs.2; omega) (by have := hs.2; omega) (by decide) (by simp; omega)
  have S2 := S1.off o2 (by decide) (by decide)
  have o12 := o1.tr o2
  rw [List.nil_append, List.drop_zero, List.take_of_length_le (by have := hs.2; omega)] at r2
  obtain ⟨M3, k3, r3, o3⟩ := h27 (f := 0) (n := 32) r2 (by have := hs.2; omega) S2.2 (o12.at (by decide) hd.1) (by have := hd.2; omega) (by have := hd.2; omega) (by decide) (by decide)
  have S3 := S2.off o3 (by decide) (by decide)
  rw [List.drop_zero, List.take_of_length_le (by have := hd.2; omega)] at r3
  obtain ⟨M4, k4, r4, o4⟩ := h26 (nI i) r3 (by have := hs.2; have := hd.2; simp; omega) S3.2 (by decide)
  have S4 := S3.off o4 (by decide) (by decide)
  have o14 := o12.tr (o3.tr o4)
  obtain ⟨M5, k5, r5, g5, o5⟩ := h28 r4 (by have := hs.2; have := hd.2; simp; omega) S4.2 (o14.at (by decide) hr.1) (by have := hr.2; omega) (by have := hr.2; omega) (by decide) (by decide) (by decide)
  have e5 : sha (byt (sec ++ dig ++ [nI i])) = sha (sec ++ dig ++ [nI i &&& 255]) := by
    have h1 := byt_id bs
    have h2 := byt_id bd
    unfold byt at h1 h2 ⊢
    rw [List.map_append, List.map_append, h1, h2]
    rfl
  rw [e5] at g5
  obtain ⟨dg1, hdg⟩ : ∃ d, d = sha (sec ++ dig ++ [nI i &&& 255]) := ⟨_, rfl⟩
  have ldg : dg1.length = 32 := by rw [hdg]; exact sha_len
  have bdg : isB dg1 := by rw [hdg]; exact isB_sha
  obtain ⟨nb1, nb2⟩ := nb_32 bdg ldg
  rw [← hdg] at g5
  have o15 : Off [193, 194, 195, 264] M M5 := (o14.wk (by decide)).tr o5
  have K5 := hK.off o15 (by decide)
  obtain ⟨a1, a2, a3, a4, a5, a6, a7, a8, a9, a10, a11, a12⟩ := K5
  have lrow : (dg1 ++ rw1.drop 32).length = 64 := by rw [List.length_append, List.length_drop, ldg, hr.2]
  obtain ⟨M6, k6, n6, o6⟩ := f9b (f := 0) (n := nb dg1) a11 (by decide) (by decide) g5 (by omega) (by omega) (by rw [List.drop_zero, List.take_left' ldg]; exact nb2) nb1
  have K6 : SgK M6 := SgK.jar ⟨a1, a2, a3, a4, a5, a6, a7, a8, a9, a10, a11, a12⟩ o6 (by decide) n6.jar
  obtain ⟨b1, b2, b3, b4, b5, b6, b7, b8, b9, b10, b11, b12⟩ := K6
  obtain ⟨M7, k7, n7, o7⟩ := f21 b4.1 b12 n6 b9 (by decide) (by decide) (by decide) (by omega) (by omega)
  have K7 : SgK M7 := SgK.jar ⟨b1, b2, b3, b4, b5, b6, b7, b8, b9, b10, b11, b12⟩ o7 (by decide) n7.jar
  have hO1 := o1.at (by decide) hO
  have hO2 := o2.at (by decide) hO1
  have hO3 := o3.at (by decide) hO2
  have hO4 := o4.at (by decide) hO3
  have hO5 := o5.at (by decide) hO4
  have hO6 := o6.at (by decide) hO5
  have gg1 := gO_of hO1
  have gg2 := gO_of hO2
  have gg3 := gO_of hO3
  have gg4 := gO_of hO4
  have gg5 := gO_of hO5
  have gg6 := gO_of hO6
  have q1 := r1.ha.rc
  have q2 := r2.ha.rc
  have q3 := r3.ha.rc
  have q4 := r4.ha.rc
  have qf := b4.1.rc
  rw [nI_0] at k2 k3 k6
  rw [show nI 32 = 32 from rfl] at k2 k3
  have en : drw nN (nb dg1 : Int) = nonce sec dig i := by unfold nonce; rw [← hdg]
  rw [en] at n7
  refine ⟨M7, by simp only [cl_63, e63_0, e63_1, e63_4, e63_7, e63_8, e63_11, e63_12, e63_13, e63_15, e63_18, e63_19, e63_22, e63_23, e63_26, e63_27, e63_29, e63_32, e63_33, e63_36, e63_37, e63_40, e63_41, e63_44, e63_45, e63_48, e63_51, e63_52, e63_55, e63_56, e63_59, e63_60, e63_63, e63_64, e63_67, e63_68, e63_71, e63_72, e63_75, e63_78, ow_63, Int32.reduceOfInt, Int32.reduceOfNat, Int32.reduceToNatClampNeg, Int32.reduceLT, Int32.reduceLE, Int32.reduceAdd, Int32.reduceSub, Int32.reduceMul, Int64.reduceOfNat, Int64.reduceOfInt, Nat.reduceLeDiff, Nat.reduceLT, Nat.reduceEqDiff, Nat.reduceSub, cs_0, cs_1, cs_2, cs_3, cs_4, cs_5, cs_6, cs_7, cs_8, or_false, false_or, not_false_eq_true, and_true, true_and, if_true, if_false, List.length_cons, List.length_nil, List.getElem?_cons_succ, List.getElem?_cons_zero, List.set_cons_succ, List.set_cons_zero, reduceIte, d_G, d_R, s_aload, s_aload_n, s_iload, s_iload_n, s_lload, s_lload_n, s_istore, s_istore_n, s_astore, s_astoreN, s_astore_n, s_astore_nN, s_lstore, s_lstore_n, s_iinc, s_iconst, s_bipush, s_sipush, s_lconst, s_ldc2_w, s_aconst_null, s_dupA, s_dupI, s_dup2, s_iadd, s_isub, s_imul, s_iand, s_ior, s_ixor, s_ishl, s_ishr, s_iushr, s_ineg, s_idiv, s_irem, s_ladd, s_lsub, s_lmul, s_land, s_lor, s_lxor, s_ldiv, s_lshl, s_lshr, s_lushr, s_i2l, s_l2i, s_lcmp, s_goto, s_ieq, s_ine, s_ilt, s_ige, s_igt, s_ile, s_zeq, s_zne, s_zlt, s_zge, s_zgt, s_zle, s_ifnull, s_ifnullN, s_ifnonnull, s_ifnonnullN, s_tableswitch, s_lookupswitch, s_getfield, s_putfield, s_getstatic, s_iaload, s_laload, s_baload, s_aaload, s_iastore, s_lastore, s_bastore, s_aastore, s_arraylength, s_newI, s_newJ, s_newZ, s_anewarray, s_new, s_copy, s_max, s_min, s_invokestatic, s_objinit, s_invokespecial, kf_isr_r, s_invokevirtual, s_ireturn, s_lreturn, s_areturn, s_areturnN, s_return, lI_0, lI_s, lJ_0, lJ_s, lA_0, lA_0N, lA_s, lS1_0, lS1_1, lS1_2, lS2_0, lS2_1, lS2_2, lK_n, lK_i, lK_j, lK_a, lK_N, d_C', kf_w_0, kf_w_i, kf_w_a, kf_w_n, kf_w_j, c_0, c_1, c_2, c_3, c_4, c_5, c_6, tl_0, tl_1, Option.bind_some, Option.bind_none, Option.map_some, Nat.reduceAdd, Nat.reduceMul, Nat.reduceDiv, Nat.reduceMod, Int.reduceToNat, Fin.val_zero, Fin.isValue, Fin.val_one, Fin.val_two, fv_0, fv_1, fv_2, fv_3, fw_0, fw_1, d_ite, true_or, or_true, and_false, false_and, or_self, and_self, ow_25, ow_26, ow_27, ow_28, ow_21, sgF, g0, gg1, gg2, gg3, gg4, gg5, gg6, q0, q1, q2, q3, q4, qf, k1, k2, k3, k4, k5, k6, k7], n7, K7, (r5.off o6 (by decide) (by decide) (by decide)).off o7 (by decide) (by decide) (by decide), ⟨_, o7.at (by decide) (o6.at (by decide) g5), lrow⟩, (o15.wk (by decide)).tr ((o6.wk (by decide)).tr (o7.wk (by decide)))⟩
