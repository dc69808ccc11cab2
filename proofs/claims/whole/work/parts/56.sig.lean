/-! Signer: the numbers modulo the order -/
def stq (m s v w : Int) : Prop := cg m (v * s) w
theorem stq_m {m s a b v u w : Int} (hs : cg m (s * 2 ^ 280) 1) (ha : stq m s a u) (hb : stq m s b w) (h : cg m (v * 2 ^ 280) (a * b)) : stq m s v (u * w) := by
  have h1 := mont_s hs h
  have h2 : cg m (v * s) (a * b * s * s) := cg_ml h1 cg_rf
  refine cg_tr h2 ?_
  rw [show a * b * s * s = a * s * (b * s) by grind]
  exact cg_ml ha hb
theorem stq_a {m s a b u w : Int} (f : Int) (ha : stq m s a u) (hb : stq m s b w) : stq m s (a + f * b) (u + f * w) := by
  unfold stq
  rw [show (a + f * b) * s = a * s + f * (b * s) by grind]
  exact cg_ad ha (cg_ml cg_rf hb)
/-- enter -/
theorem stq_e {m s v w : Int} (hs : cg m (s * 2 ^ 280) 1) (h : cg m (v * 2 ^ 280) (w * 2 ^ 560)) : stq m s v w := by
  have h1 := mont_s hs h
  have h2 : cg m (v * s) (w * 2 ^ 560 * s * s) := cg_ml h1 cg_rf
  refine cg_tr h2 ?_
  rw [show (2 : Int) ^ 560 = 2 ^ 280 * 2 ^ 280 by rw [← Int.pow_add]]
  have h3 : cg m (w * ((s * 2 ^ 280) * (s * 2 ^ 280))) (w * (1 * 1)) := cg_ml cg_rf (cg_ml hs hs)
  rw [Int.mul_one, Int.mul_one] at h3
  generalize (2 : Int) ^ 280 = R at *
  rw [show w * (R * R) * s * s = w * ((s * R) * (s * R)) by grind]
  exact h3
theorem stq_i {m s a v u : Int} {e : Nat} (hs : cg m (s * 2 ^ 280) 1) (ha : stq m s a u) (h : cg m v (2 ^ 280 * (a * s) ^ e)) : stq m s v (u ^ e) := by
  have h2 : cg m (v * s) (2 ^ 280 * (a * s) ^ e * s) := cg_ml h cg_rf
  refine cg_tr h2 (cg_tr ?_ (cg_pw ha e))
  have h3 : cg m ((a * s) ^ e * (s * 2 ^ 280)) ((a * s) ^ e * 1) := cg_ml cg_rf hs
  rw [Int.mul_one] at h3
  generalize (a * s) ^ e = W at *
  generalize (2 : Int) ^ 280 = R at *
  rw [show R * W * s = W * (s * R) by grind]
  exact h3
/-- leave -/
theorem stq_l {m s a v u : Int} (hs : cg m (s * 2 ^ 280) 1) (ha : stq m s a u) (h : cg m (v * 2 ^ 280) a) : cg m v u := cg_tr (mont_s hs h) ha
theorem pw_inv {m : Nat} (hm : prm m) {w : Int} (h : ¬ (m : Int) ∣ w) : cg m (w * w ^ (m - 2)) 1 := by
  have h2 := hm.1
  have hn0 : 0 ≤ w % m := Int.emod_nonneg _ (by omega)
  obtain ⟨n, hn⟩ := Int.eq_ofNat_of_zero_le hn0
  have hwn : cg m w (n : Int) := by
    refine ⟨w / m, ?_⟩
    have := Int.emod_add_mul_ediv w m
    omega
  have hnd : ¬ m ∣ n := by
    intro q
    apply h
    obtain ⟨k, hk⟩ := q
    obtain ⟨l, hl⟩ := hwn
    refine ⟨k + l, ?_⟩
    rw [Int.mul_add, ← hl, ← Int.natCast_mul, ← hk]
    omega
  have h3 := flt hm hnd
  have h4 : cg m ((n : Int) ^ (m - 1)) 1 := by
    refine ⟨((n ^ (m - 1) / m : Nat) : Int), ?_⟩
    have := Nat.mod_add_div (n ^ (m - 1)) m
    rw [h3] at this
    rw [← Int.natCast_pow, ← Int.natCast_mul]
    omega
  have h5 := cg_tr (cg_pw hwn (m - 1)) h4
  have a2 := Int.pow_succ' w (m - 2)
  rw [show m - 2 + 1 = m - 1 by omega] at a2
  rw [a2] at h5
  exact h5
theorem nN_lt : nN < 2 ^ 256 := by decide +kernel
theorem nN_pos : 2 ≤ nN := nN_prm.1
theorem FldIs.off1 {M M' : kf_M} {f to : Nat} {m : Int} (h : FldIs M f m) (ho : Off [f + 5, to] M M') (hj : Jar M' (f + 5)) (h0 : to < f ∨ f + 5 < to) : FldIs M' f m := by
  obtain ⟨q1, q2, ⟨sq, q3, q4⟩, ⟨on, q5, q6⟩, q7⟩ := h
  exact ⟨q1.off ho (by simp; omega) (by simp; omega), q2.off ho (by simp; omega), ⟨sq, q3.off ho (by simp; omega), q4⟩, ⟨on, q5.off ho (by simp; omega), q6⟩, hj⟩
theorem FldIs.off2 {M M' : kf_M} {f : Nat} {m : Int} {A : List Nat} (h : FldIs M f m) (ho : Off A M M') (hA : ∀ x ∈ A, x < f ∨ f + 5 < x) : FldIs M' f m := by
  have n : ∀ y, f ≤ y → y ≤ f + 5 → y ∉ A := fun y h1 h2 q => by have := hA y q; omega
  exact h.off ho (n _ (by omega) (by omega)) (n _ (by omega) (by omega)) (n _ (by omega) (by omega)) (n _ (by omega) (by omega)) (n _ (by omega) (by omega)) (n _ (by omega) (by omega))
def sgF (made cf : Int32) : List Value := [.ref 105, .ref 187, .ref 193, .ref 196, .int made, .ref 197, .ref 198, .ref 199, .int cf, .ref 264, .ref 265, .ref 269, .ref 273, .ref 274, .ref 275, .ref 276, .ref 277]
def SgO (M : kf_M) (made cf : Int32) : Prop := M[104]? = some (oO 8 (sgF made cf))
theorem SgO.rc {M : kf_M} {made cf : Int32} (h : SgO M made cf) : kf_rcv M 8 (some (.ref 104)) = true := kf_rcv_ok (gO_of h)
theorem bN_ {v : Int} (h0 : 0 ≤ v) (h1 : v < 2 ^ 256) : bgi v := by unfold bgi; omega
set_option maxHeartbeats 4000000 in
set_option maxRecDepth 100000 in
theorem f64 {M : kf_M} {ks D H : Nat} {X K : Int} {made cf : Int32} {sec dig : List Int32} (hO : SgO M made cf) (hF : FldIs M 187 nN) (g4 : M[4]? = some (oJ sx_4)) (gs : M[ks]? = some (oI sec)) (hs : sec = nBL 32 D) (hks : 19 ≤ ks ∧ ks ≤ 103) (gd : M[197]? = some (oI dig)) (hd : dig = nBL 32 H) (hD : D < 2 ^ 256) (hH : H < 2 ^ 256) (pO : PtO M 265) (hX : Num M 266 X) (x0 : 0 ≤ X) (x1 : X < 2 ^ 256) (hK : Num M 275 K) (c0 : 0 < K) (c1 : K < nN) (j273 : Jar M 273) (j274 : Jar M 274) (j276 : Jar M 276) (j277 : Jar M 277) : ∃ M' r v, kf_cl 64 [.ref 104, .ref ks] M = some (none, M') ∧ Num M' 276 r ∧ 0 ≤ r ∧ r < nN ∧ cg nN r X ∧ Num M' 277 v ∧ 0 ≤ v ∧ v < nN ∧ cg nN (v * K) (X * D + H) ∧ Jar M' 273 ∧ Jar M' 274 ∧ Jar M' 275 ∧ FldIs M' 187 nN ∧ Off [192, 273, 274, 275, 276, 277] M M' := by
  have hnl := nN_lt
  have hn2 := nN_pos
  have ls : sec.length = 32 := by rw [hs, nBL_len]
  have ld : dig.length = 32 := by rw [hd, nBL_len]
  have ts : (sec.drop 0).take 32 = nBL 32 D := by rw [List.drop_zero, List.take_of_length_le (by omega), hs]
  have td : (dig.drop 0).take 32 = nBL 32 H := by rw [List.drop_zero, List.take_of_length_le (by omega), hd]
  have he : ((nN - 2 : Nat) : Int) = (nN : Int) - 2 := by omega
  have gO0 := gO_of hO
  have gp0 := gO_of pO
  have rf0 := hF.1.rc
  obtain ⟨M1, k1, n1, o1⟩ := f9b (to := 273) (f := 0) (n := D) j273 (by decide) (by omega) gs (by omega) (by omega) ts hD
  rw [nI_0] at k1
  have e266_1 := hX.off o1 (by decide)
  have e275_1 := hK.off o1 (by decide)
  have j274_1 := j274.off o1 (by decide)
  have j276_1 := j276.off o1 (by decide)
  have j277_1 := j277.off o1 (by decide)
  have F1 := hF.off2 o1 (by decide)
  have O1 := o1.at (by decide) hO
  have g4_1 := o1.at (by decide) g4
  have pO1 := o1.at (by decide) pO
  have gO1 := gO_of O1
  have gp1 := gO_of pO1
  have rf1 := F1.1.rc
  have gd1 := o1.at (by decide) gd
  obtain ⟨M2, k2, n2, o2⟩ := f9b (to := 274) (f := 0) (n := H) j274_1 (by decide) (by decide) gd1 (by omega) (by omega) td hH
  rw [nI_0] at k2
  have e266_2 := e266_1.off o2 (by decide)
  have e275_2 := e275_1.off o2 (by decide)
  have e273_2 := n1.off o2 (by decide)
  have j276_2 := j276_1.off o2 (by decide)
  have j277_2 := j277_1.off o2 (by decide)
  have F2 := F1.off2 o2 (by decide)
  have O2 := o2.at (by decide) O1
  have g4_2 := o2.at (by decide) g4_1
  have pO2 := o2.at (by decide) pO1
  have gO2 := gO_of O2
  have gp2 := gO_of pO2
  have rf2 := F2.1.rc
  obtain ⟨M3, v3, k3, n3, d3, s3, o3⟩ := f18 (to := 273) F2 e273_2 e273_2.jar (by decide) (bN_ (by omega) (by omega))
  have e266_3 := e266_2.off o3 (by decide)
  have e275_3 := e275_2.off o3 (by decide)
  have e274_3 := n2.off o3 (by decide)
  have j276_3 := j276_2.off o3 (by decide)
  have j277_3 := j277_2.off o3 (by decide)
  have F3 := F2.off2 o3 (by decide)
  have O3 := o3.at (by decide) O2
  have g4_3 := o3.at (by decide) g4_2
  have pO3 := o3.at (by decide) pO2
  have gO3 := gO_of O3
  have gp3 := gO_of pO3
  have rf3 := F3.1.rc
  obtain ⟨M4, v4, k4, n4, d4, s4, o4⟩ := f18 (to := 274) F3 e274_3 e274_3.jar (by decide) (bN_ (by omega) (by omega))
  have e266_4 := e266_3.off o4 (by decide)
  have e275_4 := e275_3.off o4 (by decide)
  have e273_4 := n3.off o4 (by decide)
  have j276_4 := j276_3.off o4 (by decide)
  have j277_4 := j277_3.off o4 (by decide)
  have F4 := F3.off2 o4 (by decide)
  have O4 := o4.at (by decide) O3
  have g4_4 := o4.at (by decide) g4_3
  have pO4 := o4.at (by decide) pO3
  have gO4 := gO_of O4
  have gp4 := gO_of pO4
  have rf4 := F4.1.rc
  obtain ⟨M5, v5, k5, n5, d5, s5, o5⟩ := f18 (to := 276) F4 e266_4 j276_4 (by decide) (bN_ x0 x1)
  have e266_5 := e266_4.off o5 (by decide)
  have e275_5 := e275_4.off o5 (by decide)
  have e273_5 := e273_4.off o5 (by decide)
  have e274_5 := n4.off o5 (by decide)
  have j277_5 := j277_4.off o5 (by decide)
  have F5 := F4.off2 o5 (by decide)
  have O5 := o5.at (by decide) O4
  have g4_5 := o5.at (by decide) g4_4
  have pO5 := o5.at (by decide) pO4
  have gO5 := gO_of O5
  have gp5 := gO_of pO5
  have rf5 := F5.1.rc
  obtain ⟨M6, v6, k6, n6, d6, s6, o6⟩ := f16c (to := 277) F5.1 n5 e273_5 j277_5 (by decide) (sml_b s5) (sml_b s3)
  have e266_6 := e266_5.off o6 (by decide)
  have e275_6 := e275_5.off o6 (by decide)
  have e273_6 := e273_5.off o6 (by decide)
  have e274_6 := e274_5.off o6 (by decide)
  have e276_6 := n5.off o6 (by decide)
  have F6 := F5.off2 o6 (by decide)
  have O6 := o6.at (by decide) O5
  have g4_6 := o6.at (by decide) g4_5
  have pO6 := o6.at (by decide) pO5
  have gO6 := gO_of O6
  have gp6 := gO_of pO6
  have rf6 := F6.1.rc
  have sa7 := sml_b s6
  have sb7 := sml_b s4
  unfold bgi at sa7 sb7
  obtain ⟨M7, k7, n7, o7⟩ := f15 (to := 277) i64_1 n6 e274_6 n6.jar (by decide) (by omega) (by omega) (by omega) (by omega)
  have sc7 : bgi (v6 + 1 * v4) := by unfold bgi; unfold sml at s6 s4; omega
  have e266_7 := e266_6.off o7 (by decide)
  have e275_7 := e275_6.off o7 (by decide)
  have e273_7 := e273_6.off o7 (by decide)
  have e274_7 := e274_6.off o7 (by decide)
  have e276_7 := e276_6.off o7 (by decide)
  have F7 := F6.off2 o7 (by decide)
  have O7 := o7.at (by decide) O6
  have g4_7 := o7.at (by decide) g4_6
  have pO7 := o7.at (by decide) pO6
  have gO7 := gO_of O7
  have gp7 := gO_of pO7
  have rf7 := F7.1.rc
  obtain ⟨M8, v8, k8, n8, d8, s8, o8⟩ := f18 (to := 275) F7 e275_7 e275_7.jar (by decide) (bN_ (by omega) (by omega))
  have e266_8 := e266_7.off o8 (by decide)
  have e273_8 := e273_7.off o8 (by decide)
  have e274_8 := e274_7.off o8 (by decide)
  have e276_8 := e276_7.off o8 (by decide)
  have e277_8 := n7.off o8 (by decide)
  have F8 := F7.off2 o8 (by decide)
  have O8 := o8.at (by decide) O7
  have g4_8 := o8.at (by decide) g4_7
  have pO8 := o8.at (by decide) pO7
  have gO8 := gO_of O8
  have gp8 := gO_of pO8
  have rf8 := F8.1.rc
  obtain ⟨M9, v9, k9, n9, s9, d9, jr9, o9⟩ := f17 (to := 275) F8 n8 n8.jar (by decide) (by decide) (by decide) (by decide) (sml_b s8) sN_ok he
  have e266_9 := e266_8.off o9 (by decide)
  have e273_9 := e273_8.off o9 (by decide)
  have e274_9 := e274_8.off o9 (by decide)
  have e276_9 := e276_8.off o9 (by decide)
  have e277_9 := e277_8.off o9 (by decide)
  have F9 := F8.off1 o9 jr9 (by decide)
  have O9 := o9.at (by decide) O8
  have g4_9 := o9.at (by decide) g4_8
  have pO9 := o9.at (by decide) pO8
  have gO9 := gO_of O9
  have gp9 := gO_of pO9
  have rf9 := F9.1.rc
  obtain ⟨M10, v10, k10, n10, d10, s10, o10⟩ := f16c (to := 277) F9.1 e277_9 n9 e277_9.jar (by decide) (sc7) (sml_b s9)
  have e266_10 := e266_9.off o10 (by decide)
  have e275_10 := n9.off o10 (by decide)
  have e273_10 := e273_9.off o10 (by decide)
  have e274_10 := e274_9.off o10 (by decide)
  have e276_10 := e276_9.off o10 (by decide)
  have F10 := F9.off2 o10 (by decide)
  have O10 := o10.at (by decide) O9
  have g4_10 := o10.at (by decide) g4_9
  have pO10 := o10.at (by decide) pO9
  have gO10 := gO_of O10
  have gp10 := gO_of pO10
  have rf10 := F10.1.rc
  obtain ⟨M11, v11, k11, n11, d11, p11, q11, o11⟩ := f19 (to := 276) F10.1 g4_10 e276_10 e276_10.jar (by decide) (by decide) (by decide) (sml_b s5)
  have e266_11 := e266_10.off o11 (by decide)
  have e275_11 := e275_10.off o11 (by decide)
  have e273_11 := e273_10.off o11 (by decide)
  have e274_11 := e274_10.off o11 (by decide)
  have e277_11 := n10.off o11 (by decide)
  have F11 := F10.off2 o11 (by decide)
  have O11 := o11.at (by decide) O10
  have g4_11 := o11.at (by decide) g4_10
  have pO11 := o11.at (by decide) pO10
  have gO11 := gO_of O11
  have gp11 := gO_of pO11
  have rf11 := F11.1.rc
  obtain ⟨M12, v12, k12, n12, d12, p12, q12, o12⟩ := f19 (to := 277) F11.1 g4_11 e277_11 e277_11.jar (by decide) (by decide) (by decide) (sml_b s10)
  have e266_12 := e266_11.off o12 (by decide)
  have e275_12 := e275_11.off o12 (by decide)
  have e273_12 := e273_11.off o12 (by decide)
  have e274_12 := e274_11.off o12 (by decide)
  have e276_12 := n11.off o12 (by decide)
  have F12 := F11.off2 o12 (by decide)
  have O12 := o12.at (by decide) O11
  have g4_12 := o12.at (by decide) g4_11
  have pO12 := o12.at (by decide) pO11
  have gO12 := gO_of O12
  have gp12 := gO_of pO12
  have rf12 := F12.1.rc
  have u3 := stq_e sN_ok d3
  have u4 := stq_e sN_ok d4
  have u5 := stq_e sN_ok d5
  have u6 := stq_m sN_ok u5 u3 d6
  have u7 := stq_a 1 u6 u4
  have u8 := stq_e sN_ok d8
  have u9 := stq_i sN_ok u8 d9
  have u10 := stq_m sN_ok u7 u9 d10
  have u11 := stq_l sN_ok u5 d11
  have u12 := stq_l sN_ok u10 d12
  have oo : Off [192, 273, 274, 275, 276, 277] M M12 := Off.tr (o1.wk (by decide)) (Off.tr (o2.wk (by decide)) (Off.tr (o3.wk (by decide)) (Off.tr (o4.wk (by decide)) (Off.tr (o5.wk (by decide)) (Off.tr (o6.wk (by decide)) (Off.tr (o7.wk (by decide)) (Off.tr (o8.wk (by decide)) (Off.tr (o9.wk (by decide)) (Off.tr (o10.wk (by decide)) (Off.tr (o11.wk (by decide)) (o12.wk (by decide))))))))))))
  refine ⟨M12, v11, v12, by simp only [cl_64, e64_0, e64_1, e64_4, e64_5, e64_6, e64_9, e64_10, e64_13, e64_14, e64_17, e64_18, e64_21, e64_22, e64_25, e64_26, e64_29, e64_30, e64_33, e64_36, e64_37, e64_40, e64_41, e64_44, e64_45, e64_48, e64_51, e64_52, e64_55, e64_56, e64_59, e64_60, e64_63, e64_66, e64_69, e64_70, e64_73, e64_74, e64_77, e64_78, e64_81, e64_82, e64_85, e64_88, e64_89, e64_92, e64_93, e64_96, e64_97, e64_98, e64_101, e64_104, e64_105, e64_108, e64_109, e64_112, e64_113, e64_116, e64_119, e64_120, e64_123, e64_124, e64_127, e64_128, e64_131, e64_134, e64_135, e64_138, e64_139, e64_142, e64_143, e64_146, e64_147, e64_150, e64_153, e64_154, e64_157, e64_158, e64_161, e64_162, e64_165, e64_168, e64_169, e64_172, e64_173, e64_176, e64_177, e64_180, e64_183, ow_64, Int32.reduceOfInt, Int32.reduceOfNat, Int32.reduceToNatClampNeg, Int32.reduceLT, Int32.reduceLE, Int32.reduceAdd, Int32.reduceSub, Int32.reduceMul, Int64.reduceOfNat, Int64.reduceOfInt, Nat.reduceLeDiff, Nat.reduceLT, Nat.reduceEqDiff, Nat.reduceSub, cs_0, cs_1, cs_2, cs_3, cs_4, cs_5, cs_6, cs_7, cs_8, or_false, false_or, not_false_eq_true, and_true, true_and, if_true, if_false, List.length_cons, List.length_nil, List.getElem?_cons_succ, List.getElem?_cons_zero, List.set_cons_succ, List.set_cons_zero, reduceIte, d_G, d_R, s_aload, s_aload_n, s_iload, s_iload_n, s_lload, s_lload_n, s_istore, s_istore_n, s_astore, s_astoreN, s_astore_n, s_astore_nN, s_lstore, s_lstore_n, s_iinc, s_iconst, s_bipush, s_sipush, s_lconst, s_ldc2_w, s_aconst_null, s_dupA, s_dupI, s_dup2, s_iadd, s_isub, s_imul, s_iand, s_ior, s_ixor, s_ishl, s_ishr, s_iushr, s_ineg, s_idiv, s_irem, s_ladd, s_lsub, s_lmul, s_land, s_lor, s_lxor, s_ldiv, s_lshl, s_lshr, s_lushr, s_i2l, s_l2i, s_lcmp, s_goto, s_ieq, s_ine, s_ilt, s_ige, s_igt, s_ile, s_zeq, s_zne, s_zlt, s_zge, s_zgt, s_zle, s_ifnull, s_ifnullN, s_ifnonnull, s_ifnonnullN, s_tableswitch, s_lookupswitch, s_getfield, s_putfield, s_getstatic, s_iaload, s_laload, s_baload, s_aaload, s_iastore, s_lastore, s_bastore, s_aastore, s_arraylength, s_newI, s_newJ, s_newZ, s_anewarray, s_new, s_copy, s_max, s_min, s_invokestatic, s_objinit, s_invokespecial, kf_isr_r, s_invokevirtual, s_ireturn, s_lreturn, s_areturn, s_areturnN, s_return, lI_0, lI_s, lJ_0, lJ_s, lA_0, lA_0N, lA_s, lS1_0, lS1_1, lS1_2, lS2_0, lS2_1, lS2_2, lK_n, lK_i, lK_j, lK_a, lK_N, d_C', kf_w_0, kf_w_i, kf_w_a, kf_w_n, kf_w_j, c_0, c_1, c_2, c_3, c_4, c_5, c_6, tl_0, tl_1, Option.bind_some, Option.bind_none, Option.map_some, Nat.reduceAdd, Nat.reduceMul, Nat.reduceDiv, Nat.reduceMod, Int.reduceToNat, Fin.val_zero, Fin.isValue, Fin.val_one, Fin.val_two, fv_0, fv_1, fv_2, fv_3, fw_0, fw_1, d_ite, true_or, or_true, and_false, false_and, or_self, and_self, ow_16, ow_17, ow_18, ow_19, sgF, gO0, gp0, rf0, gO1, gp1, rf1, gO2, gp2, rf2, gO3, gp3, rf3, gO4, gp4, rf4, gO5, gp5, rf5, gO6, gp6, rf6, gO7, gp7, rf7, gO8, gp8, rf8, gO9, gp9, rf9, gO10, gp10, rf10, gO11, gp11, rf11, gO12, gp12, rf12, k1, k2, k3, k4, k5, k6, k7, k8, k9, k10, k11, k12], e276_12, p11, q11, u11, n12, p12, q12, ?_, e273_12.jar, e274_12.jar, e275_12.jar, F12, oo⟩
  have hnd : ¬ (nN : Int) ∣ K := by
    intro q
    have := Int.le_of_dvd c0 q
    omega
  have h1 := pw_inv nN_prm hnd
  have h2 : cg nN (v12 * K) ((X * D + 1 * H) * K ^ (nN - 2) * K) := cg_ml u12 cg_rf
  refine cg_tr h2 ?_
  have h3 : cg nN ((X * D + H) * (K * K ^ (nN - 2))) ((X * D + H) * 1) := cg_ml cg_rf h1
  rw [Int.mul_one] at h3
  generalize K ^ (nN - 2) = W at *
  rw [show (X * (D : Int) + 1 * H) * W * K = (X * D + H) * (K * W) by grind]
  exact h3
