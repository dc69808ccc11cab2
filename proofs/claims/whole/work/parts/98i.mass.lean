/-! The reference: asserts -/
section MASS
variable {M : kf_M} {fs : List Value} {tp ou : List Int32} {tl ol n w : Nat} {V : Vs} {tc fl g : Int32} {ks : List Ky} {wt : List Nat} {wd : List Int32} {W : Ws} {G : Gs}
def A191 : List Nat := [284, 286, 295, 340] ++ A187
set_option maxHeartbeats 8000000 in
theorem R191 {j found : Nat} {k : Ky} {x : Int32} (m1 : MdIs M fs) (m2 : MF fs tl 0 V tc n w fl G.1) (m3 : MAr M tp [] V ks wt wd G) (hk : ks[j]? = some k) (hc : k.2.2.2 ≠ 4294967295) (hx : ∃ c, c < 256 ∧ x = nI c) (bw : isB wd) (hfo : found ≤ 10) : ∃ M' fs', kf_cl 191 [.ref 284, .int (nI j), .ref 298, .int 0, .int x, .int (nI found)] M = some (none, M') ∧ MdIs M' fs' ∧ MF fs' tl (asrO k x wd found).length V tc n w fl (G.1 + 1) ∧ MAr M' tp (asrO k x wd found) V (asrK ks j k) wt wd (G.1 + 1, some (sha (datA (k.1, k.2.1, k.2.2.1, k.2.2.2 + 1) x ++ wd), k.2.2.1)) ∧ isB (asrO k x wd found) ∧ (asrO k x wd found).length ≤ 200 ∧ Off A191 M M' := by
  obtain ⟨a1, a2, a3, a4, a5, a6, a7, a8, a9, a10, a11, a12, a13, a14, a15, a16, a17, a18, a19, a20, a21, a22⟩ := m3
  obtain ⟨hos, ul, us, se, ide, ct, po, h7, hr, hl⟩ := id a6
  obtain ⟨ok, r1, r2, r3, r4, r5, r6, r7⟩ := hr j k hk
  have hj : j < ks.length := (List.getElem?_eq_some_iff.mp hk).1
  have hlt : k.2.2.2 < 4294967295 := by have := ok.2.2.2.2.2; omega
  obtain ⟨kn, ekn⟩ : ∃ kn : Ky, kn = (k.1, k.2.1, k.2.2.1, k.2.2.2 + 1) := ⟨_, rfl⟩
  have okn : okKy kn := by rw [ekn]; exact ⟨ok.1, ok.2.1, ok.2.2.1, ok.2.2.2.1, ok.2.2.2.2.1, by show k.2.2.2 + 1 < _; omega⟩
  -- the counter
  have g0 := gO_of m1.1
  have gc := gI_of h7.2.2.2.2.2.1.1
  have r19 := m1.rf 19 295 (by decide)
  have p0 : ¬ nI j < 0 := nI_pos (by omega)
  have p1 : (nI j).toNatClampNeg = j := nI_clamp (by omega)
  have b1 : ¬ ct.length ≤ j := by rw [h7.2.2.2.2.2.1.2]; omega
  have b2 : ¬ 295 < 19 := by decide
  obtain ⟨M1, e1⟩ : ∃ X, X = M.set 295 (oI (ct.set j (nI (k.2.2.2 + 1)))) := ⟨_, rfl⟩
  have o1 : Off [295] M M1 := by rw [e1]; exact Off.set (by simp)
  have n1 := m1.off o1 (by decide)
  have hk1 : MK M1 (asrK ks j k) := MK.upd h7 hr hl o1 ⟨by rw [e1]; exact m_self (m_lt h7.2.2.2.2.2.1.1), by rw [List.length_set]; exact h7.2.2.2.2.2.1.2⟩ rfl hk (by omega)
  have lk : (asrK ks j k).length = ks.length := by unfold asrK; rw [List.length_set]
  have hkn : (asrK ks j k)[j]? = some kn := by unfold asrK; rw [List.getElem?_set_self hj, ekn]
  have q1 : MAr M1 tp [] V (asrK ks j k) wt wd G := ⟨a1.off o1 (by decide), a2.off o1 (by decide), a3.off o1 (by decide), a4.off o1 (by decide), a5.off o1 (by decide), hk1, by rw [lk]; exact a7.off o1 (by decide), a8.off o1 (by decide), a9.off o1 (by decide), a10.of5 o1 (by decide), a11.off o1 (by decide), a12.off' o1 (by decide), a13.off o1 (by decide), a14.off o1 (by decide), a15.off o1 (by decide), a16.off o1 (by decide), a17.off o1 (by decide), a18.off o1 (by decide), a19.off o1 (by decide), a20.off o1 (by decide), a21.off o1 (by decide), a22.off o1 (by decide)⟩
  -- the data
  have rc1 := n1.rc
  obtain ⟨M2, fs2, k2, D2, F2, o2⟩ := R186 (x := x) n1 hk1 (a21.off o1 (by decide)) hkn
  have q2 : MAr M2 tp [] V (asrK ks j k) wt wd G := by
    obtain ⟨a1, a2, a3, a4, a5, a6, a7, a8, a9, a10, a11, a12, a13, a14, a15, a16, a17, a18, a19, a20, a21, a22⟩ := q1
    exact ⟨a1.off o2 (by decide), a2.off o2 (by decide), a3.off o2 (by decide), a4.off o2 (by decide), a5.off o2 (by decide), a6.off o2 (by decide), a7.off o2 (by decide), a8.off o2 (by decide), a9.off o2 (by decide), a10.of5 o2 (by decide), a11.off o2 (by decide), a12.off' o2 (by decide), a13.off o2 (by decide), a14.off o2 (by decide), a15.off o2 (by decide), a16.off o2 (by decide), a17.off o2 (by decide), a18.off o2 (by decide), a19.off o2 (by decide), a20.off o2 (by decide), (by obtain ⟨t, y1, -⟩ := D2.2.2; exact ⟨t, y1⟩), a22.off o2 (by decide)⟩
  have rc2 := D2.1.rc
  -- the signature
  have ld : (datA kn x).length = 37 := datA_len okn
  have a8' := q2.2.2.2.2.2.2.2.1
  obtain ⟨M3, fs3, k3, n3, q3, s3, D3, f25, F3, o3⟩ := R187 (b := 298) (at1 := 0) (ww := wd) D2 (datA_b okn hx) (by rw [ld]; decide) q2 ((F2 25 (by decide)).trans m2.2.2.2.2.2.2.2.2.2.2) hkn a8'.1 (Or.inl rfl) (by rw [a8'.2]; decide) (by rw [a8'.2]; decide) (by rw [List.drop_zero, List.take_of_length_le (by rw [a8'.2]; decide)]) bw
  rw [nI_0] at k3
  have g3 := gO_of n3.1
  have rc3 := n3.rc
  -- the reply
  have f4 : fs3[4]? = some (.int (nI 0)) := (F3 4 (by decide)).trans ((F2 4 (by decide)).trans m2.2.1)
  have W3 : OW M3 fs3 [] := ⟨n3, f4, q3.2.1⟩
  obtain ⟨hd, ehd⟩ : ∃ hd : Int32, hd = if 1 < found then 165 else 164 := ⟨_, rfl⟩
  obtain ⟨M4, fs4, k4, W4, F4, o4⟩ := R166 (b := hd) W3 (by decide)
  have rc4 := W4.1.rc
  have g4 := gO_of W4.1.1
  have r18 := W4.1.rf 18 294 (by decide)
  have e16 : (16 : Int32) * nI j = nI (16 * j) := pk_mul 16 j
  obtain ⟨ho3, ul3, us3, se3, ide3, ct3, po3, h73, hr3, -⟩ := id q3.2.2.2.2.2.1
  obtain ⟨-, t1, t2, t3, t4, t5, t6, t7⟩ := hr3 j kn hkn
  have li : (kId kn.2.2.1).length = 16 := kId_len
  have i4 := h73.2.2.2.2.1.off o4 (by decide)
  obtain ⟨M5, fs5, k5, W5, F5, o5⟩ := R167 (x := 1) (b := 294) (at1 := 16 * j) (N := 16) W4 i4.1 (by rw [i4.2]; omega) (by rw [i4.2]; decide) (by decide) (by show 1 + 16 + 3 ≤ 400; decide) (by decide)
  rw [t5] at W5
  rw [show nI 16 = 16 from rfl] at k5
  have l5 : ([] ++ [hd] ++ rwB 1 (kId kn.2.2.1)).length ≤ 20 := by
    rw [List.length_append]
    have := rwB_len (x := 1) (xs := kId kn.2.2.1)
    rw [li] at this
    show 1 + _ ≤ _
    omega
  have rc5 := W5.1.rc
  have g5 := gO_of W5.1.1
  have r72 := W5.1.rf 72 340 (by decide)
  have o35 := o4.tr o5
  have F35 := F4.tr F5
  have f73 : fs5[73]? = some (.int (nI (datA kn x).length)) := (F35 73 (by decide)).trans D3.2.1
  obtain ⟨dt, hdt, hdr⟩ := D3.2.2
  have dt5 := hdt.off o35 (by decide)
  obtain ⟨M6, fs6, k6, W6, F6, o6⟩ := R167 (x := 2) (b := 340) (at1 := 0) (N := (datA kn x).length) W5 dt5.1 (by rw [dt5.2, ld]; decide) (by rw [dt5.2]; decide) (by decide) (by omega) (by rw [ld]; decide)
  rw [List.drop_zero, hdr] at W6
  rw [nI_0] at k6
  have l6 : ([] ++ [hd] ++ rwB 1 (kId kn.2.2.1) ++ rwB 2 (datA kn x)).length ≤ 60 := by
    rw [List.length_append]
    have := rwB_len (x := 2) (xs := datA kn x)
    omega
  have rc6 := W6.1.rc
  have g6 := gO_of W6.1.1
  have r28 := W6.1.rf 28 301 (by decide)
  have o36 := o35.tr o6
  have s6 := s3.off o36 (by decide)
  obtain ⟨sg, esg⟩ : ∃ X, X = sgB (nBL 32 kn.2.2.1) (sha (datA kn x ++ wd)) := ⟨_, rfl⟩
  rw [← esg] at s6
  have bsg : isB sg := by rw [esg]; exact isB_sg
  obtain ⟨M7, fs7, k7, W7, F7, o7⟩ := R167 (x := 3) (b := 301) (at1 := 0) (N := 64) W6 s6.1 (by rw [s6.2]; decide) (by rw [s6.2]; decide) (by decide) (by omega) (by decide)
  rw [List.drop_zero, List.take_of_length_le (by rw [s6.2]; decide)] at W7
  rw [nI_0, show nI 64 = 64 from rfl] at k7
  have l7 : ([] ++ [hd] ++ rwB 1 (kId kn.2.2.1) ++ rwB 2 (datA kn x) ++ rwB 3 sg).length ≤ 127 := by
    rw [List.length_append]
    have := rwB_len (x := 3) (xs := sg)
    have := s6.2
    omega
  have rc7 := W7.1.rc
  have g7 := gO_of W7.1.1
  have r16 := W7.1.rf 16 292 (by decide)
  have r15 := W7.1.rf 15 291 (by decide)
  have o37 := o36.tr o7
  have u7 := h73.2.2.1.off o37 (by decide)
  have gu := gI_of (h73.2.1.off o37 (by decide)).1
  have lu := okn.2.2.1
  obtain ⟨M8, fs8, k8, W8, F8, o8⟩ := R167 (x := 4) (b := 292) (at1 := 16 * j) (N := kn.2.1.length) W7 u7.1 (by rw [u7.2]; omega) (by rw [u7.2]; decide) (by decide) (by omega) (by omega)
  rw [t3] at W8
  have l8 : ([] ++ [hd] ++ rwB 1 (kId kn.2.2.1) ++ rwB 2 (datA kn x) ++ rwB 3 sg ++ rwB 4 kn.2.1).length ≤ 146 := by
    rw [List.length_append]
    have := rwB_len (x := 4) (xs := kn.2.1)
    omega
  have rc8 := W8.1.rc
  have o38 := o37.tr o8
  have F38 : Fo [4] fs3 fs8 := ((F35.tr F6).tr F7).tr F8
  have ek : asrO k x wd found = [] ++ [hd] ++ rwB 1 (kId kn.2.2.1) ++ rwB 2 (datA kn x) ++ rwB 3 sg ++ rwB 4 kn.2.1 ++ (if 1 < found then [5, nI found] else []) := by
    unfold asrO
    rw [esg, ehd, ekn, List.nil_append]
  have bO : isB ([] ++ [hd] ++ rwB 1 (kId kn.2.2.1) ++ rwB 2 (datA kn x) ++ rwB 3 sg ++ rwB 4 kn.2.1) := by
    refine isB_app (isB_app (isB_app (isB_app ?_ (isB_rw ⟨1, by decide, rfl⟩ (isB_sub isB_sha (fun _ q => List.mem_of_mem_take q)))) (isB_rw ⟨2, by decide, rfl⟩ (datA_b okn hx))) (isB_rw ⟨3, by decide, rfl⟩ bsg)) (isB_rw ⟨4, by decide, rfl⟩ okn.2.2.2.1)
    intro y hy
    rw [List.nil_append, List.mem_singleton] at hy
    rw [hy, ehd]
    split
    · exact ⟨165, by decide, rfl⟩
    · exact ⟨164, by decide, rfl⟩
  have oM3 : Off A191 M M3 := ((o1.wk (by decide)).tr (o2.wk (by decide))).tr (o3.wk (by decide))
  have F03 : MF fs3 tl 0 V tc n w fl (G.1 + 1) := by
    obtain ⟨h2, h4, h6, h9, h10, h11, h12, h13, h21, h24, h25⟩ := m2
    have e : ∀ k, k ∉ [25, 30, 43] → k ∉ [73] → ∀ y, fs[k]? = y → fs3[k]? = y := fun k w1 w2 y hy => (F3 k w1).trans ((F2 k w2).trans hy)
    exact ⟨e 2 (by decide) (by decide) _ h2, e 4 (by decide) (by decide) _ h4, e 6 (by decide) (by decide) _ h6, e 9 (by decide) (by decide) _ h9, e 10 (by decide) (by decide) _ h10, e 11 (by decide) (by decide) _ h11, e 12 (by decide) (by decide) _ h12, e 13 (by decide) (by decide) _ h13, e 21 (by decide) (by decide) _ h21, e 24 (by decide) (by decide) _ h24, f25⟩
  have hdn : kn.2.2.1 = k.2.2.1 := by rw [ekn]
  rw [hdn] at q3
  rw [← ekn, ek]
  have fin : ∀ (MX : kf_M) (fX : List Value) (oX : List Int32), OW MX fX oX → Fo [4] fs3 fX → Off [284, 286] M3 MX → MdIs MX fX ∧ MF fX tl oX.length V tc n w fl (G.1 + 1) ∧ MAr MX tp oX V (asrK ks j k) wt wd (G.1 + 1, some (sha (datA kn x ++ wd), k.2.2.1)) ∧ Off A191 M MX := by
    intro MX fX oX h1 h2 h3
    exact ⟨h1.1, F03.t4 h2 h1.2.1, q3.nu h3 h1.2.2, oM3.tr (h3.wk (by decide))⟩
  by_cases cf : 1 < found
  · have gt1 : ¬ nI found ≤ 1 := nI_ge (a := 1) cf (by omega)
    rw [if_pos cf] at ehd ⊢
    obtain ⟨M9, fs9, k9, W9, F9, o9⟩ := R168 (x := 5) (y := nI found) W8 (by omega)
    obtain ⟨z1, z2, z3, z4⟩ := fin M9 fs9 _ W9 (F38.tr F9) (o38.tr o9)
    subst ehd
    refine ⟨M9, fs9, ?_, z1, z2, z3, ?_, ?_, z4⟩
    · simp only [cl_191, e191_0, e191_1, e191_4, e191_5, e191_6, e191_7, e191_8, e191_9, e191_10, e191_11, e191_12, e191_14, e191_17, e191_18, e191_19, e191_20, e191_21, e191_24, e191_25, e191_27, e191_28, e191_31, e191_34, e191_37, e191_40, e191_43, e191_44, e191_45, e191_46, e191_49, e191_51, e191_52, e191_53, e191_55, e191_58, e191_59, e191_60, e191_61, e191_64, e191_65, e191_66, e191_69, e191_72, e191_73, e191_74, e191_75, e191_78, e191_79, e191_81, e191_84, e191_85, e191_86, e191_87, e191_90, e191_92, e191_93, e191_94, e191_95, e191_98, e191_99, e191_100, e191_103, e191_105, e191_106, e191_109, e191_110, e191_111, e191_113, e191_116, ow_191, Int32.reduceOfInt, Int32.reduceOfNat, Int32.reduceToNatClampNeg, Int32.reduceLT, Int32.reduceLE, Int32.reduceAdd, Int32.reduceSub, Int32.reduceMul, Int64.reduceOfNat, Int64.reduceOfInt, Nat.reduceLeDiff, Nat.reduceLT, Nat.reduceEqDiff, Nat.reduceSub, cs_0, cs_1, cs_2, cs_3, cs_4, cs_5, cs_6, cs_7, cs_8, or_false, false_or, not_false_eq_true, and_true, true_and, if_true, if_false, List.length_cons, List.length_nil, List.getElem?_cons_succ, List.getElem?_cons_zero, List.set_cons_succ, List.set_cons_zero, reduceIte, d_G, d_R, s_aload, s_aload_n, s_iload, s_iload_n, s_lload, s_lload_n, s_istore, s_istore_n, s_astore, s_astoreN, s_astore_n, s_astore_nN, s_lstore, s_lstore_n, s_iinc, s_iconst, s_bipush, s_sipush, s_lconst, s_ldc2_w, s_aconst_null, s_dupA, s_dupI, s_dup2, s_iadd, s_isub, s_imul, s_iand, s_ior, s_ixor, s_ishl, s_ishr, s_iushr, s_ineg, s_idiv, s_irem, s_ladd, s_lsub, s_lmul, s_land, s_lor, s_lxor, s_ldiv, s_lshl, s_lshr, s_lushr, s_i2l, s_l2i, s_lcmp, s_goto, s_ieq, s_ine, s_ilt, s_ige, s_igt, s_ile, s_zeq, s_zne, s_zlt, s_zge, s_zgt, s_zle, s_ifnull, s_ifnullN, s_ifnonnull, s_ifnonnullN, s_tableswitch, s_lookupswitch, s_getfield, s_putfield, s_getstatic, s_iaload, s_laload, s_baload, s_aaload, s_iastore, s_lastore, s_bastore, s_aastore, s_arraylength, s_newI, s_newJ, s_newZ, s_anewarray, s_new, s_copy, s_max, s_min, s_invokestatic, s_objinit, s_invokespecial, kf_isr_r, s_invokevirtual, s_ireturn, s_lreturn, s_areturn, s_areturnN, s_return, lI_0, lI_s, lJ_0, lJ_s, lA_0, lA_0N, lA_s, lS1_0, lS1_1, lS1_2, lS2_0, lS2_1, lS2_2, lK_n, lK_i, lK_j, lK_a, lK_N, d_C', kf_w_0, kf_w_i, kf_w_a, kf_w_n, kf_w_j, c_0, c_1, c_2, c_3, c_4, c_5, c_6, tl_0, tl_1, Option.bind_some, Option.bind_none, Option.map_some, Nat.reduceAdd, Nat.reduceMul, Nat.reduceDiv, Nat.reduceMod, Int.reduceToNat, Fin.val_zero, Fin.isValue, Fin.val_one, Fin.val_two, fv_0, fv_1, fv_2, fv_3, fw_0, fw_1, d_ite, true_or, or_true, and_false, false_and, or_self, and_self, ow_186, ow_187, ow_166, ow_167, ow_168, g0, r19, gc, p0, p1, r6, nI_1, b1, b2, kf_NS, ← e1, rc1, k2, rc2, k3, rc3, gt1, k4, g4, r18, e16, rc4, k5, g5, r72, f73, rc5, k6, g6, r28, rc6, k7, g7, r16, r15, gu, t2, rc7, k8, rc8, k9]
    · refine isB_app bO (fun y hy => ?_)
      simp only [List.mem_cons, List.not_mem_nil, or_false] at hy
      rcases hy with rfl | rfl
      · exact ⟨5, by decide, rfl⟩
      · exact ⟨found, by omega, rfl⟩
    · rw [List.length_append]
      show _ + 2 ≤ _
      omega
  · have gt1 : nI found ≤ 1 := nI_le (b := 1) (by omega) (by omega)
    rw [if_neg cf] at ehd ⊢
    rw [List.append_nil]
    obtain ⟨z1, z2, z3, z4⟩ := fin M8 fs8 _ W8 F38 o38
    subst ehd
    refine ⟨M8, fs8, ?_, z1, z2, z3, bO, by omega, z4⟩
    simp only [cl_191, e191_0, e191_1, e191_4, e191_5, e191_6, e191_7, e191_8, e191_9, e191_10, e191_11, e191_12, e191_14, e191_17, e191_18, e191_19, e191_20, e191_21, e191_24, e191_25, e191_27, e191_28, e191_31, e191_34, e191_37, e191_40, e191_43, e191_44, e191_45, e191_46, e191_49, e191_51, e191_52, e191_53, e191_55, e191_58, e191_59, e191_60, e191_61, e191_64, e191_65, e191_66, e191_69, e191_72, e191_73, e191_74, e191_75, e191_78, e191_79, e191_81, e191_84, e191_85, e191_86, e191_87, e191_90, e191_92, e191_93, e191_94, e191_95, e191_98, e191_99, e191_100, e191_103, e191_105, e191_106, e191_109, e191_110, e191_111, e191_113, e191_116, ow_191, Int32.reduceOfInt, Int32.reduceOfNat, Int32.reduceToNatClampNeg, Int32.reduceLT, Int32.reduceLE, Int32.reduceAdd, Int32.reduceSub, Int32.reduceMul, Int64.reduceOfNat, Int64.reduceOfInt, Nat.reduceLeDiff, Nat.reduceLT, Nat.reduceEqDiff, Nat.reduceSub, cs_0, cs_1, cs_2, cs_3, cs_4, cs_5, cs_6, cs_7, cs_8, or_false, false_or, not_false_eq_true, and_true, true_and, if_true, if_false, List.length_cons, List.length_nil, List.getElem?_cons_succ, List.getElem?_cons_zero, List.set_cons_succ, List.set_cons_zero, reduceIte, d_G, d_R, s_aload, s_aload_n, s_iload, s_iload_n, s_lload, s_lload_n, s_istore, s_istore_n, s_astore, s_astoreN, s_astore_n, s_astore_nN, s_lstore, s_lstore_n, s_iinc, s_iconst, s_bipush, s_sipush, s_lconst, s_ldc2_w, s_aconst_null, s_dupA, s_dupI, s_dup2, s_iadd, s_isub, s_imul, s_iand, s_ior, s_ixor, s_ishl, s_ishr, s_iushr, s_ineg, s_idiv, s_irem, s_ladd, s_lsub, s_lmul, s_land, s_lor, s_lxor, s_ldiv, s_lshl, s_lshr, s_lushr, s_i2l, s_l2i, s_lcmp, s_goto, s_ieq, s_ine, s_ilt, s_ige, s_igt, s_ile, s_zeq, s_zne, s_zlt, s_zge, s_zgt, s_zle, s_ifnull, s_ifnullN, s_ifnonnull, s_ifnonnullN, s_tableswitch, s_lookupswitch, s_getfield, s_putfield, s_getstatic, s_iaload, s_laload, s_baload, s_aaload, s_iastore, s_lastore, s_bastore, s_aastore, s_arraylength, s_newI, s_newJ, s_newZ, s_anewarray, s_new, s_copy, s_max, s_min, s_invokestatic, s_objinit, s_invokespecial, kf_isr_r, s_invokevirtual, s_ireturn, s_lreturn, s_areturn, s_areturnN, s_return, lI_0, lI_s, lJ_0, lJ_s, lA_0, lA_0N, lA_s, lS1_0, lS1_1, lS1_2, lS2_0, lS2_1, lS2_2, lK_n, lK_i, lK_j, lK_a, lK_N, d_C', kf_w_0, kf_w_i, kf_w_a, kf_w_n, kf_w_j, c_0, c_1, c_2, c_3, c_4, c_5, c_6, tl_0, tl_1, Option.bind_some, Option.bind_none, Option.map_some, Nat.reduceAdd, Nat.reduceMul, Nat.reduceDiv, Nat.reduceMod, Int.reduceToNat, Fin.val_zero, Fin.isValue, Fin.val_one, Fin.val_two, fv_0, fv_1, fv_2, fv_3, fw_0, fw_1, d_ite, true_or, or_true, and_false, false_and, or_self, and_self, ow_186, ow_187, ow_166, ow_167, g0, r19, gc, p0, p1, r6, nI_1, b1, b2, kf_NS, ← e1, rc1, k2, rc2, k3, rc3, gt1, k4, g4, r18, e16, rc4, k5, g5, r72, f73, rc5, k6, g6, r28, rc6, k7, g7, r16, r15, gu, t2, rc7, k8]
end MASS
