/-! The reference's points -/
def gXn : Nat := 48439561293906451759052585252797914202762949526041747995844080717082404635286
def gYn : Nat := 36134250956749795798585127919587881956611106672985015071877198253568414405109
def cals : List Nat := [309, 310, 311, 312, 313, 314, 315, 316, 317, 318, 319, 320, 321, 322, 323, 324, 325, 326, 328, 329, 330, 331]
def Cal (M : kf_M) : Prop := Prd M ∧ (∀ a ∈ cals, War M a) ∧ Wd M 17 pP ∧ Wd M 14 nN ∧ Wd M 15 gXn ∧ Wd M 16 gYn
theorem cals_ok : ∀ a ∈ cals, 309 ≤ a := by decide
theorem Cal.off' {M M' : kf_M} {A : List Nat} (h : Cal M) (ho : Off A M M') (hA : ∀ a ∈ A, a ∉ cals ∧ a ∉ [308, 14, 15, 16, 17]) : Cal M' := by
  obtain ⟨h1, h2, h3, h4, h5, h6⟩ := h
  have n : ∀ c, c ∈ [308, 14, 15, 16, 17] → c ∉ A := fun c hc h => (hA c h).2 hc
  exact ⟨h1.off ho (n 308 (by simp)), fun a ha => (h2 a ha).off ho (fun q => (hA a q).1 ha), h3.off ho (n 17 (by simp)), h4.off ho (n 14 (by simp)), h5.off ho (n 15 (by simp)), h6.off ho (n 16 (by simp))⟩
theorem Cal.put {M M' : kf_M} {to : Nat} (h : Cal M) (ho : Off [to] M M') (hw : War M' to) (ht : to ∈ cals) : Cal M' := by
  obtain ⟨h1, h2, h3, h4, h5, h6⟩ := h
  have := cals_ok to ht
  refine ⟨h1.off ho (by simp; omega), fun a ha => ?_, h3.off ho (by simp; omega), h4.off ho (by simp; omega), h5.off ho (by simp; omega), h6.off ho (by simp; omega)⟩
  by_cases q : a = to
  · rw [q]; exact hw
  · exact (h2 a ha).off ho (by simpa using q)
theorem Cal.tim {M M' : kf_M} {to : Nat} (h : Cal M) (ho : Off [308, to] M M') (hp : Prd M') (hw : War M' to) (ht : to ∈ cals) : Cal M' := by
  obtain ⟨h1, h2, h3, h4, h5, h6⟩ := h
  have := cals_ok to ht
  refine ⟨hp, fun a ha => ?_, h3.off ho (by simp; omega), h4.off ho (by simp; omega), h5.off ho (by simp; omega), h6.off ho (by simp; omega)⟩
  have := cals_ok a ha
  by_cases q : a = to
  · rw [q]; exact hw
  · exact (h2 a ha).off ho (by simp; omega)
theorem Cal.inv {M M' : kf_M} {to : Nat} (h : Cal M) (ho : Off [309, 310, 311, 312, to] M M') (hi : Iv4 M') (hw : War M' to) (ht : to ∈ cals) : Cal M' := by
  obtain ⟨h1, h2, h3, h4, h5, h6⟩ := h
  have := cals_ok to ht
  refine ⟨h1.off ho (by simp; omega), fun a ha => ?_, h3.off ho (by simp; omega), h4.off ho (by simp; omega), h5.off ho (by simp; omega), h6.off ho (by simp; omega)⟩
  obtain ⟨i1, i2, i3, i4⟩ := hi
  by_cases q : a = to
  · rw [q]; exact hw
  by_cases q1 : a = 309
  · rw [q1]; exact i1
  by_cases q2 : a = 310
  · rw [q2]; exact i2
  by_cases q3 : a = 311
  · rw [q3]; exact i3
  by_cases q4 : a = 312
  · rw [q4]; exact i4
  exact (h2 a ha).off ho (by simp; omega)
def Mo (mo m : Nat) : Prop := (mo = 17 ∧ m = pP) ∨ (mo = 14 ∧ m = nN)
theorem Mo17 : Mo 17 pP := Or.inl ⟨rfl, rfl⟩
theorem Mo14 : Mo 14 nN := Or.inr ⟨rfl, rfl⟩
theorem pP_o : pP % 2 = 1 ∧ 2 ^ 255 ≤ pP ∧ pP < 2 ^ 256 := by decide +kernel
theorem nN_o : nN % 2 = 1 ∧ 2 ^ 255 ≤ nN ∧ nN < 2 ^ 256 := by decide +kernel
theorem Mo.ok {mo m : Nat} (h : Mo mo m) : m % 2 = 1 ∧ 2 ^ 255 ≤ m ∧ m < 2 ^ 256 ∧ prm m ∧ mo < 19 := by
  rcases h with ⟨rfl, rfl⟩ | ⟨rfl, rfl⟩
  · exact ⟨pP_o.1, pP_o.2.1, pP_o.2.2, pP_prm, by decide⟩
  · exact ⟨nN_o.1, nN_o.2.1, nN_o.2.2, nN_prm, by decide⟩
theorem Cal.mo {M : kf_M} {mo m : Nat} (h : Cal M) (hm : Mo mo m) : Wd M mo m := by
  rcases hm with ⟨rfl, rfl⟩ | ⟨rfl, rfl⟩
  · exact h.2.2.1
  · exact h.2.2.2.1
theorem cg_mod {a m : Nat} : cg m (a % m : Nat) a := by
  refine ⟨-(a / m : Nat), ?_⟩
  have h := Nat.div_add_mod a m
  have h2 : ((m * (a / m) : Nat) : Int) = m * (a / m : Nat) := Int.natCast_mul _ _
  rw [Int.mul_neg, ← h2]
  generalize m * (a / m) = z at *
  omega
section PTS
variable {M : kf_M} {fs : List Value} {to a b mo m va vb : Nat}
theorem q145 (hC : Cal M) (hm : Mo mo m) (ha : Wd M a va) (hb : Wd M b vb) (ht : to ∈ cals) (a1 : va < m) (b1 : vb < m) : ∃ (M' : kf_M) (v : Nat), kf_cl 145 [.ref to, .ref a, .ref b, .ref mo] M = some (none, M') ∧ Wd M' to v ∧ v < m ∧ cg m v (va + vb) ∧ Cal M' ∧ Off [to] M M' := by
  have h9 := cals_ok to ht
  have ho := hm.ok
  obtain ⟨M', k, w, o⟩ := n145 ha hb (hC.mo hm) (hC.2.1 to ht) (by omega) (by omega) a1 b1
  exact ⟨M', _, k, w, Nat.mod_lt _ (by omega), by rw [← Int.natCast_add]; exact cg_mod, hC.put o w.ar ht, o⟩
theorem q146 (hC : Cal M) (hm : Mo mo m) (ha : Wd M a va) (hb : Wd M b vb) (ht : to ∈ cals) (a1 : va < m) (b1 : vb < m) : ∃ (M' : kf_M) (v : Nat), kf_cl 146 [.ref to, .ref a, .ref b, .ref mo] M = some (none, M') ∧ Wd M' to v ∧ v < m ∧ cg m v (va - vb) ∧ Cal M' ∧ Off [to] M M' := by
  have h9 := cals_ok to ht
  have ho := hm.ok
  obtain ⟨M', k, w, o⟩ := n146 ha hb (hC.mo hm) (hC.2.1 to ht) (by omega) (by omega) a1 b1
  exact ⟨M', _, k, w, Nat.mod_lt _ (by omega), cg_less (by omega), hC.put o w.ar ht, o⟩
theorem q147 (hM : MdIs M fs) (hC : Cal M) (hm : Mo mo m) (ha : Wd M a va) (hb : Wd M b vb) (ht : to ∈ cals) (a8 : a ≠ 308) (b8 : b ≠ 308) : ∃ (M' : kf_M) (v : Nat), kf_cl 147 [.ref 284, .ref to, .ref a, .ref b, .ref mo] M = some (none, M') ∧ Wd M' to v ∧ v < m ∧ cg m v (va * vb) ∧ Cal M' ∧ Off [308, to] M M' := by
  have h9 := cals_ok to ht
  have ho := hm.ok
  obtain ⟨M', k, w, p, o⟩ := n147 hM hC.1 ha hb (hC.mo hm) (hC.2.1 to ht) (by omega) a8 b8 (by omega) (by omega) (by omega) ho.2.1
  exact ⟨M', _, k, w, Nat.mod_lt _ (by omega), by rw [← Int.natCast_mul]; exact cg_mod, hC.tim o p w.ar ht, o⟩
theorem q151 (hM : MdIs M fs) (hC : Cal M) (hm : Mo mo m) (ha : Wd M a va) (ht : to ∈ cals) (ht4 : 312 < to) (ha4 : a < 309 ∨ 312 < a) (a0 : 0 < va) (a1 : va < m) : ∃ (M' : kf_M) (v : Nat), kf_cl 151 [.ref 284, .ref to, .ref a, .ref mo] M = some (none, M') ∧ Wd M' to v ∧ v < m ∧ cg m (v * va) 1 ∧ Cal M' ∧ Off [309, 310, 311, 312, to] M M' := by
  have ho := hm.ok
  have hg : Nat.gcd va m = 1 := by
    rw [Nat.gcd_comm]
    exact prm_cop ho.2.2.2.1 (Nat.not_dvd_of_pos_of_lt a0 a1)
  obtain ⟨M', v, k, w, b, c, i, o⟩ := n151 hM ⟨hC.2.1 309 (by decide), hC.2.1 310 (by decide), hC.2.1 311 (by decide), hC.2.1 312 (by decide)⟩ ha (hC.mo hm) (hC.2.1 to ht) ht4 ha4 ho.2.2.2.2 ho.1 (by omega) hg
  exact ⟨M', v, k, w, b, c, hC.inv o i w.ar ht, o⟩
theorem q140 (hC : Cal M) (ha : Wd M a va) (ht : to ∈ cals) (hne : a ≠ to) : ∃ M' : kf_M, kf_cl 140 [.ref to, .ref a] M = some (none, M') ∧ Wd M' to va ∧ Cal M' ∧ Off [to] M M' := by
  have h9 := cals_ok to ht
  obtain ⟨M', k, w, o⟩ := n140 ha (hC.2.1 to ht) (by omega) hne
  exact ⟨M', k, w, hC.put o w.ar ht, o⟩
theorem q141 {v : Int32} (hC : Cal M) (ht : to ∈ cals) : ∃ M' : kf_M, kf_cl 141 [.ref to, .int v] M = some (none, M') ∧ Wd M' to (uw v) ∧ Cal M' ∧ Off [to] M M' := by
  have h9 := cals_ok to ht
  obtain ⟨M', k, w, o⟩ := n141 (v := v) (hC.2.1 to ht) (by omega)
  exact ⟨M', k, w, hC.put o w.ar ht, o⟩
theorem q144 (hC : Cal M) (hm : Mo mo m) (ht : to ∈ cals) (ha : Wd M to va) : ∃ M' : kf_M, kf_cl 144 [.ref to, .ref mo] M = some (none, M') ∧ Wd M' to (va % m) ∧ Cal M' ∧ Off [to] M M' := by
  have h9 := cals_ok to ht
  have ho := hm.ok
  have la := ha.lt
  obtain ⟨M', k, w, o⟩ := n144 ha (hC.mo hm) (by omega)
  rw [← md2 (x := va) (m := m) (by omega)] at w
  exact ⟨M', k, w, hC.put o w.ar ht, o⟩
theorem q152 {row at1 N : Nat} {rs : List Int32} (hC : Cal M) (ht : to ∈ cals) (hrt : row ≠ to) (gr : M[row]? = some (oI rs)) (hr : rs.length < 2 ^ 20) (ha : at1 + 32 ≤ rs.length) (hb : (rs.drop at1).take 32 = nBL 32 N) (hN : N < 2 ^ 256) : ∃ M' : kf_M, kf_cl 152 [.ref to, .ref row, .int (nI at1)] M = some (none, M') ∧ Wd M' to N ∧ Cal M' ∧ Off [to] M M' := by
  have h9 := cals_ok to ht
  obtain ⟨M', k, w, o⟩ := n152 (hC.2.1 to ht) (by omega) hrt gr hr ha hb hN
  exact ⟨M', k, w, hC.put o w.ar ht, o⟩
end PTS
def A156 : List Nat := [308, 309, 310, 311, 312, 313, 314, 315, 316, 317, 318, 319]
theorem n156 {M : kf_M} {fs : List Value} {xr x1 y1 x2 vs vb : Nat} (hM : MdIs M fs) (hC : Cal M) (hx : Wd M 313 x1) (hy : Wd M 314 y1) (hs : Wd M 315 vs) (hb : Wd M 316 vb) (hr : Wd M xr x2) (hxr : 318 ≤ xr ∧ xr ≠ 319) (lx : x1 < pP) (ly : y1 < pP) (lr : x2 < pP) (b0 : 0 < vb) (b1 : vb < pP) : ∃ (M' : kf_M) (x3 y3 l : Nat), kf_cl 156 [.ref 284, .ref xr] M = some (none, M') ∧ Wd M' 313 x3 ∧ Wd M' 314 y3 ∧ x3 < pP ∧ y3 < pP ∧ cg pP (l * vb) vs ∧ cg pP x3 (l * l - x1 - x2) ∧ cg pP y3 (l * (x1 - x3) - y1) ∧ Cal M' ∧ Off A156 M M' := by
  have r41 := hM.rf 41 313 (by decide)
  have r42 := hM.rf 42 314 (by decide)
  have r44 := hM.rf 44 315 (by decide)
  have r45 := hM.rf 45 316 (by decide)
  have r46 := hM.rf 46 317 (by decide)
  have r48 := hM.rf 48 319 (by decide)
  have g0 := gO_of hM.1
  have rc0 := hM.rc
  obtain ⟨M1, v1, k1, w1, b1, c1, C1, o1⟩ := q151 (to := 317) hM hC Mo17 hb (by decide) (by decide) (by decide) b0 b1
  have hM_1 := hM.off o1 (by decide)
  have px_1 := hx.off o1 (by decide)
  have py_1 := hy.off o1 (by decide)
  have sl_1 := hs.off o1 (by decide)
  have be_1 := hb.off o1 (by decide)
  have xr_1 := hr.off o1 (by simp; omega)
  have O1 : Off A156 M M1 := o1.wk (by decide)
  have g1 := gO_of hM_1.1
  have rc1 := hM_1.rc
  obtain ⟨M2, v2, k2, w2, b2, c2, C2, o2⟩ := q147 (to := 315) hM_1 C1 Mo17 sl_1 w1 (by decide) (by decide) (by decide)
  have hM_2 := hM_1.off o2 (by decide)
  have px_2 := px_1.off o2 (by decide)
  have py_2 := py_1.off o2 (by decide)
  have be_2 := be_1.off o2 (by decide)
  have xr_2 := xr_1.off o2 (by simp; omega)
  have mid_2 := w1.off o2 (by decide)
  have O2 : Off A156 M M2 := O1.tr (o2.wk (by decide))
  have g2 := gO_of hM_2.1
  have rc2 := hM_2.rc
  obtain ⟨M3, v3, k3, w3, b3, c3, C3, o3⟩ := q147 (to := 319) hM_2 C2 Mo17 w2 w2 (by decide) (by decide) (by decide)
  have hM_3 := hM_2.off o3 (by decide)
  have px_3 := px_2.off o3 (by decide)
  have py_3 := py_2.off o3 (by decide)
  have sl_3 := w2.off o3 (by decide)
  have be_3 := be_2.off o3 (by decide)
  have xr_3 := xr_2.off o3 (by simp; omega)
  have mid_3 := mid_2.off o3 (by decide)
  have O3 : Off A156 M M3 := O2.tr (o3.wk (by decide))
  have g3 := gO_of hM_3.1
  have rc3 := hM_3.rc
  obtain ⟨M4, v4, k4, w4, b4, c4, C4, o4⟩ := q146 (to := 319) C3 Mo17 w3 px_3 (by decide) b3 lx
  have hM_4 := hM_3.off o4 (by decide)
  have px_4 := px_3.off o4 (by decide)
  have py_4 := py_3.off o4 (by decide)
  have sl_4 := sl_3.off o4 (by decide)
  have be_4 := be_3.off o4 (by decide)
  have xr_4 := xr_3.off o4 (by simp; omega)
  have mid_4 := mid_3.off o4 (by decide)
  have O4 : Off A156 M M4 := O3.tr (o4.wk (by decide))
  have g4 := gO_of hM_4.1
  have rc4 := hM_4.rc
  obtain ⟨M5, v5, k5, w5, b5, c5, C5, o5⟩ := q146 (to := 319) C4 Mo17 w4 xr_4 (by decide) b4 lr
  have hM_5 := hM_4.off o5 (by decide)
  have px_5 := px_4.off o5 (by decide)
  have py_5 := py_4.off o5 (by decide)
  have sl_5 := sl_4.off o5 (by decide)
  have be_5 := be_4.off o5 (by decide)
  have xr_5 := xr_4.off o5 (by simp; omega)
  have mid_5 := mid_4.off o5 (by decide)
  have O5 : Off A156 M M5 := O4.tr (o5.wk (by decide))
  have g5 := gO_of hM_5.1
  have rc5 := hM_5.rc
  obtain ⟨M6, v6, k6, w6, b6, c6, C6, o6⟩ := q146 (to := 317) C5 Mo17 px_5 w5 (by decide) lx b5
  have hM_6 := hM_5.off o6 (by decide)
  have px_6 := px_5.off o6 (by decide)
  have py_6 := py_5.off o6 (by decide)
  have sl_6 := sl_5.off o6 (by decide)
  have be_6 := be_5.off o6 (by decide)
  have xr_6 := xr_5.off o6 (by simp; omega)
  have th_6 := w5.off o6 (by decide)
  have O6 : Off A156 M M6 := O5.tr (o6.wk (by decide))
  have g6 := gO_of hM_6.1
  have rc6 := hM_6.rc
  obtain ⟨M7, v7, k7, w7, b7, c7, C7, o7⟩ := q147 (to := 317) hM_6 C6 Mo17 w6 sl_6 (by decide) (by decide) (by decide)
  have hM_7 := hM_6.off o7 (by decide)
  have px_7 := px_6.off o7 (by decide)
  have py_7 := py_6.off o7 (by decide)
  have sl_7 := sl_6.off o7 (by decide)
  have be_7 := be_6.off o7 (by decide)
  have xr_7 := xr_6.off o7 (by simp; omega)
  have th_7 := th_6.off o7 (by decide)
  have O7 : Off A156 M M7 := O6.tr (o7.wk (by decide))
  have g7 := gO_of hM_7.1
  have rc7 := hM_7.rc
  obtain ⟨M8, v8, k8, w8, b8, c8, C8, o8⟩ := q146 (to := 314) C7 Mo17 w7 py_7 (by decide) b7 ly
  have hM_8 := hM_7.off o8 (by decide)
  have px_8 := px_7.off o8 (by decide)
  have sl_8 := sl_7.off o8 (by decide)
  have be_8 := be_7.off o8 (by decide)
  have xr_8 := xr_7.off o8 (by simp; omega)
  have mid_8 := w7.off o8 (by decide)
  have th_8 := th_7.off o8 (by decide)
  have O8 : Off A156 M M8 := O7.tr (o8.wk (by decide))
  have g8 := gO_of hM_8.1
  have rc8 := hM_8.rc
  obtain ⟨M9, k9, w9, C9, o9⟩ := q140 (to := 313) C8 th_8 (by decide) (by decide)
  have hM_9 := hM_8.off o9 (by decide)
  have py_9 := w8.off o9 (by decide)
  have sl_9 := sl_8.off o9 (by decide)
  have be_9 := be_8.off o9 (by decide)
  have xr_9 := xr_8.off o9 (by simp; omega)
  have mid_9 := mid_8.off o9 (by decide)
  have th_9 := th_8.off o9 (by decide)
  have O9 : Off A156 M M9 := O8.tr (o9.wk (by decide))
  have g9 := gO_of hM_9.1
  have rc9 := hM_9.rc
  refine ⟨M9, v5, v8, v2, ?_, w9, py_9, b5, b8, ?_, ?_, ?_, C9, O9⟩
  · simp only [cl_156, e156_0, e156_1, e156_2, e156_5, e156_6, e156_9, e156_12, e156_15, e156_16, e156_17, e156_20, e156_21, e156_24, e156_25, e156_28, e156_31, e156_34, e156_35, e156_36, e156_39, e156_40, e156_43, e156_44, e156_47, e156_50, e156_53, e156_54, e156_57, e156_58, e156_61, e156_62, e156_65, e156_68, e156_71, e156_72, e156_75, e156_76, e156_79, e156_80, e156_83, e156_86, e156_87, e156_90, e156_91, e156_94, e156_95, e156_98, e156_101, e156_104, e156_105, e156_106, e156_109, e156_110, e156_113, e156_114, e156_117, e156_120, e156_123, e156_124, e156_127, e156_128, e156_131, e156_132, e156_135, e156_138, e156_141, e156_142, e156_145, e156_146, e156_149, e156_152, ow_156, Int32.reduceOfInt, Int32.reduceOfNat, Int32.reduceToNatClampNeg, Int32.reduceLT, Int32.reduceLE, Int32.reduceAdd, Int32.reduceSub, Int32.reduceMul, Int64.reduceOfNat, Int64.reduceOfInt, Nat.reduceLeDiff, Nat.reduceLT, Nat.reduceEqDiff, Nat.reduceSub, cs_0, cs_1, cs_2, cs_3, cs_4, cs_5, cs_6, cs_7, cs_8, or_false, false_or, not_false_eq_true, and_true, true_and, if_true, if_false, List.length_cons, List.length_nil, List.getElem?_cons_succ, List.getElem?_cons_zero, List.set_cons_succ, List.set_cons_zero, reduceIte, d_G, d_R, s_aload, s_aload_n, s_iload, s_iload_n, s_lload, s_lload_n, s_istore, s_istore_n, s_astore, s_astoreN, s_astore_n, s_astore_nN, s_lstore, s_lstore_n, s_iinc, s_iconst, s_bipush, s_sipush, s_lconst, s_ldc2_w, s_aconst_null, s_dupA, s_dupI, s_dup2, s_iadd, s_isub, s_imul, s_iand, s_ior, s_ixor, s_ishl, s_ishr, s_iushr, s_ineg, s_idiv, s_irem, s_ladd, s_lsub, s_lmul, s_land, s_lor, s_lxor, s_ldiv, s_lshl, s_lshr, s_lushr, s_i2l, s_l2i, s_lcmp, s_goto, s_ieq, s_ine, s_ilt, s_ige, s_igt, s_ile, s_zeq, s_zne, s_zlt, s_zge, s_zgt, s_zle, s_ifnull, s_ifnullN, s_ifnonnull, s_ifnonnullN, s_tableswitch, s_lookupswitch, s_getfield, s_putfield, s_getstatic, s_iaload, s_laload, s_baload, s_aaload, s_iastore, s_lastore, s_bastore, s_aastore, s_arraylength, s_newI, s_newJ, s_newZ, s_anewarray, s_new, s_copy, s_max, s_min, s_invokestatic, s_objinit, s_invokespecial, kf_isr_r, s_invokevirtual, s_ireturn, s_lreturn, s_areturn, s_areturnN, s_return, lI_0, lI_s, lJ_0, lJ_s, lA_0, lA_0N, lA_s, lS1_0, lS1_1, lS1_2, lS2_0, lS2_1, lS2_2, lK_n, lK_i, lK_j, lK_a, lK_N, d_C', kf_w_0, kf_w_i, kf_w_a, kf_w_n, kf_w_j, c_0, c_1, c_2, c_3, c_4, c_5, c_6, tl_0, tl_1, Option.bind_some, Option.bind_none, Option.map_some, Nat.reduceAdd, Nat.reduceMul, Nat.reduceDiv, Nat.reduceMod, Int.reduceToNat, Fin.val_zero, Fin.isValue, Fin.val_one, Fin.val_two, fv_0, fv_1, fv_2, fv_3, fw_0, fw_1, d_ite, true_or, or_true, and_false, false_and, or_self, and_self, ow_147, ow_151, r41, r42, r44, r45, r46, r48, g0, g1, g2, g3, g4, g5, g6, g7, g8, g9, rc0, rc1, rc2, rc3, rc4, rc5, rc6, rc7, rc8, rc9, k1, k2, k3, k4, k5, k6, k7, k8, k9]
  · have e1 := cg_ml c2 (cg_rf (m := pP) (a := (vb : Int)))
    have e2 := cg_ml (cg_rf (m := pP) (a := (vs : Int))) c1
    rw [Int.mul_one] at e2
    refine cg_tr e1 ?_
    rw [Int.mul_assoc]
    exact e2
  · exact cg_tr c5 (cg_sb (cg_tr c4 (cg_sb c3 cg_rf)) cg_rf)
  · refine cg_tr c8 (cg_sb (cg_tr c7 ?_) cg_rf)
    rw [Int.mul_comm]
    exact cg_ml cg_rf c6
def PtM (M : kf_M) (fs : List Value) : Pt → Prop
  | none => fs[43]? = some (.int 1)
  | some (x, y) => fs[43]? = some (.int 0) ∧ Wd M 313 x.toNat ∧ Wd M 314 y.toNat
theorem toN {x : Int} (h : 0 ≤ x) : ((x.toNat : Nat) : Int) = x := Int.toNat_of_nonneg h
theorem ndv {v : Nat} (h0 : v ≠ 0) (h1 : v < pP) : ¬ zp (v : Int) := fun h => Nat.not_dvd_of_pos_of_lt (Nat.pos_of_ne_zero h0) h1 (Int.natCast_dvd_natCast.mp h)
theorem zp_md0 {v : Nat} {w : Int} (h : cg pP v w) (hw : ¬ zp w) : v ≠ 0 := by
  rintro rfl
  apply hw
  exact zp1 (u := -1) h (by omega)
theorem n155 {M : kf_M} {fs : List Value} {x y : Int} (hM : MdIs M fs) (hC : Cal M) (hp : PtM M fs (some (x, y))) (hv : vP (some (x, y))) : ∃ (M' : kf_M), kf_cl 155 [.ref 284] M = some (none, M') ∧ PtM M' fs (padd (some (x, y)) (some (x, y))) ∧ Cal M' ∧ Off A156 M M' := by
  obtain ⟨hn, hx, hy⟩ := hp
  obtain ⟨x0, x1, y0, y1, hc⟩ := hv
  have hv : vP (some (x, y)) := ⟨x0, x1, y0, y1, hc⟩
  have hyz := y_nz hc
  have ex := toN x0
  have ey := toN y0
  generalize x.toNat = X at *
  generalize y.toNat = Y at *
  have lx : X < pP := by omega
  have ly : Y < pP := by omega
  have yz := n138 hy
  have Y0 : Y ≠ 0 := by
    rintro rfl
    apply hyz
    rw [← ey]
    exact zp_0
  rw [if_neg Y0] at yz
  have r41 := hM.rf 41 313 (by decide)
  have r42 := hM.rf 42 314 (by decide)
  have r44 := hM.rf 44 315 (by decide)
  have r45 := hM.rf 45 316 (by decide)
  have r46 := hM.rf 46 317 (by decide)
  have r47 := hM.rf 47 318 (by decide)
  have g0 := gO_of hM.1
  have rc0 := hM.rc
  obtain ⟨M1, v1, k1, w1, b1, c1, C1, o1⟩ := q147 (to := 315) hM hC Mo17 hx hx (by decide) (by decide) (by decide)
  have hM_1 := hM.off o1 (by decide)
  have px_1 := hx.off o1 (by decide)
  have py_1 := hy.off o1 (by decide)
  have O1 : Off A156 M M1 := o1.wk (by decide)
  have g1 := gO_of hM_1.1
  have rc1 := hM_1.rc
  obtain ⟨M2, k2, w2, C2, o2⟩ := q141 (to := 317) (v := 1) C1 (by decide)
  have hM_2 := hM_1.off o2 (by decide)
  have px_2 := px_1.off o2 (by decide)
  have py_2 := py_1.off o2 (by decide)
  have sl_2 := w1.off o2 (by decide)
  have O2 : Off A156 M M2 := O1.tr (o2.wk (by decide))
  have g2 := gO_of hM_2.1
  have rc2 := hM_2.rc
  obtain ⟨M3, v3, k3, w3, b3, c3, C3, o3⟩ := q146 (to := 315) C2 Mo17 sl_2 w2 (by decide) b1 (by decide +kernel)
  have hM_3 := hM_2.off o3 (by decide)
  have px_3 := px_2.off o3 (by decide)
  have py_3 := py_2.off o3 (by decide)
  have mid_3 := w2.off o3 (by decide)
  have O3 : Off A156 M M3 := O2.tr (o3.wk (by decide))
  have g3 := gO_of hM_3.1
  have rc3 := hM_3.rc
  obtain ⟨M4, v4, k4, w4, b4, c4, C4, o4⟩ := q145 (to := 317) C3 Mo17 w3 w3 (by decide) b3 b3
  have hM_4 := hM_3.off o4 (by decide)
  have px_4 := px_3.off o4 (by decide)
  have py_4 := py_3.off o4 (by decide)
  have sl_4 := w3.off o4 (by decide)
  have O4 : Off A156 M M4 := O3.tr (o4.wk (by decide))
  have g4 := gO_of hM_4.1
  have rc4 := hM_4.rc
  obtain ⟨M5, v5, k5, w5, b5, c5, C5, o5⟩ := q145 (to := 315) C4 Mo17 sl_4 w4 (by decide) b3 b4
  have hM_5 := hM_4.off o5 (by decide)
  have px_5 := px_4.off o5 (by decide)
  have py_5 := py_4.off o5 (by decide)
  have mid_5 := w4.off o5 (by decide)
  have O5 : Off A156 M M5 := O4.tr (o5.wk (by decide))
  have g5 := gO_of hM_5.1
  have rc5 := hM_5.rc
  obtain ⟨M6, v6, k6, w6, b6, c6, C6, o6⟩ := q145 (to := 316) C5 Mo17 py_5 py_5 (by decide) ly ly
  have hM_6 := hM_5.off o6 (by decide)
  have px_6 := px_5.off o6 (by decide)
  have py_6 := py_5.off o6 (by decide)
  have sl_6 := w5.off o6 (by decide)
  have mid_6 := mid_5.off o6 (by decide)
  have O6 : Off A156 M M6 := O5.tr (o6.wk (by decide))
  have g6 := gO_of hM_6.1
  have rc6 := hM_6.rc
  obtain ⟨M7, k7, w7, C7, o7⟩ := q140 (to := 318) C6 px_6 (by decide) (by decide)
  have hM_7 := hM_6.off o7 (by decide)
  have px_7 := px_6.off o7 (by decide)
  have py_7 := py_6.off o7 (by decide)
  have sl_7 := sl_6.off o7 (by decide)
  have mid_7 := mid_6.off o7 (by decide)
  have be_7 := w6.off o7 (by decide)
  have O7 : Off A156 M M7 := O6.tr (o7.wk (by decide))
  have g7 := gO_of hM_7.1
  have rc7 := hM_7.rc
  rw [show uw 1 = 1 from rfl] at c3
  have hb0 : 0 < v6 := Nat.pos_of_ne_zero (zp_md0 c6 (by
    rw [ey, show y + y = 2 * y by omega]
    exact zp_nm zp_8 hyz))
  obtain ⟨M8, x3, y3, l, k8, w8, u8, bx, byy, d1, d2, d3, C8, o8⟩ := n156 (xr := 318) hM_7 C7 px_7 py_7 sl_7 be_7 w7 (by decide) lx ly lx hb0 b6
  have e3 : cg pP v5 (3 * (x * x - 1)) := by
    have a1 := cg_tr c3 (cg_sb c1 (cg_rf (m := pP) (a := ((1 : Nat) : Int))))
    have a2 := cg_tr c4 (cg_ad a1 a1)
    have a3 := cg_tr c5 (cg_ad a1 a2)
    rw [ex] at a3
    have : ((x * x - ((1 : Nat) : Int)) + ((x * x - ((1 : Nat) : Int)) + (x * x - ((1 : Nat) : Int)))) = 3 * (x * x - 1) := by omega
    rw [this] at a3
    exact a3
  rw [ex] at d2 d3
  rw [ey] at d3
  have hl : zp (l * (y + y) - 3 * (x * x - 1)) := by
    have a1 := cg_ml (cg_rf (m := pP) (a := (l : Int))) c6
    rw [ey] at a1
    exact cg_tr (cg_tr (cg_sy a1) d1) e3
  have e := padd_db (x3 := x3) (y3 := y3) hv hl d2 d3 (by omega) (by omega) (by omega) (by omega)
  refine ⟨M8, ?_, ?_, C8, O7.tr (o8.wk (by decide))⟩
  · simp only [cl_155, e155_0, e155_1, e155_4, e155_7, e155_8, e155_11, e155_14, e155_17, e155_18, e155_19, e155_22, e155_23, e155_24, e155_25, e155_28, e155_29, e155_32, e155_33, e155_36, e155_39, e155_42, e155_43, e155_46, e155_47, e155_50, e155_51, e155_54, e155_55, e155_58, e155_59, e155_62, e155_65, e155_68, e155_69, e155_72, e155_73, e155_76, e155_77, e155_80, e155_83, e155_86, e155_87, e155_90, e155_91, e155_94, e155_95, e155_98, e155_101, e155_104, e155_105, e155_108, e155_109, e155_112, e155_113, e155_116, e155_119, e155_122, e155_123, e155_126, e155_127, e155_130, e155_133, e155_134, e155_135, e155_138, e155_141, ow_155, Int32.reduceOfInt, Int32.reduceOfNat, Int32.reduceToNatClampNeg, Int32.reduceLT, Int32.reduceLE, Int32.reduceAdd, Int32.reduceSub, Int32.reduceMul, Int64.reduceOfNat, Int64.reduceOfInt, Nat.reduceLeDiff, Nat.reduceLT, Nat.reduceEqDiff, Nat.reduceSub, cs_0, cs_1, cs_2, cs_3, cs_4, cs_5, cs_6, cs_7, cs_8, or_false, false_or, not_false_eq_true, and_true, true_and, if_true, if_false, List.length_cons, List.length_nil, List.getElem?_cons_succ, List.getElem?_cons_zero, List.set_cons_succ, List.set_cons_zero, reduceIte, d_G, d_R, s_aload, s_aload_n, s_iload, s_iload_n, s_lload, s_lload_n, s_istore, s_istore_n, s_astore, s_astoreN, s_astore_n, s_astore_nN, s_lstore, s_lstore_n, s_iinc, s_iconst, s_bipush, s_sipush, s_lconst, s_ldc2_w, s_aconst_null, s_dupA, s_dupI, s_dup2, s_iadd, s_isub, s_imul, s_iand, s_ior, s_ixor, s_ishl, s_ishr, s_iushr, s_ineg, s_idiv, s_irem, s_ladd, s_lsub, s_lmul, s_land, s_lor, s_lxor, s_ldiv, s_lshl, s_lshr, s_lushr, s_i2l, s_l2i, s_lcmp, s_goto, s_ieq, s_ine, s_ilt, s_ige, s_igt, s_ile, s_zeq, s_zne, s_zlt, s_zge, s_zgt, s_zle, s_ifnull, s_ifnullN, s_ifnonnull, s_ifnonnullN, s_tableswitch, s_lookupswitch, s_getfield, s_putfield, s_getstatic, s_iaload, s_laload, s_baload, s_aaload, s_iastore, s_lastore, s_bastore, s_aastore, s_arraylength, s_newI, s_newJ, s_newZ, s_anewarray, s_new, s_copy, s_max, s_min, s_invokestatic, s_objinit, s_invokespecial, kf_isr_r, s_invokevirtual, s_ireturn, s_lreturn, s_areturn, s_areturnN, s_return, lI_0, lI_s, lJ_0, lJ_s, lA_0, lA_0N, lA_s, lS1_0, lS1_1, lS1_2, lS2_0, lS2_1, lS2_2, lK_n, lK_i, lK_j, lK_a, lK_N, d_C', kf_w_0, kf_w_i, kf_w_a, kf_w_n, kf_w_j, c_0, c_1, c_2, c_3, c_4, c_5, c_6, tl_0, tl_1, Option.bind_some, Option.bind_none, Option.map_some, Nat.reduceAdd, Nat.reduceMul, Nat.reduceDiv, Nat.reduceMod, Int.reduceToNat, Fin.val_zero, Fin.isValue, Fin.val_one, Fin.val_two, fv_0, fv_1, fv_2, fv_3, fw_0, fw_1, d_ite, true_or, or_true, and_false, false_and, or_self, and_self, hn, ow_147, ow_156, r41, r42, r44, r45, r46, r47, yz, g0, g1, g2, g3, g4, g5, g6, g7, rc0, rc1, rc2, rc3, rc4, rc5, rc6, rc7, k1, k2, k3, k4, k5, k6, k7, k8]
  · rw [e]
    exact ⟨hn, w8, u8⟩
def A154 : List Nat := [284, 308, 309, 310, 311, 312, 313, 314, 315, 316, 317, 318, 319]
def fs43 (fs fs' : List Value) : Prop := ∀ k, k ≠ 43 → fs'[k]? = fs[k]?
theorem fs43.rf {fs : List Value} : fs43 fs fs := fun _ _ => rfl
theorem fs43.tr {f1 f2 f3 : List Value} (h1 : fs43 f1 f2) (h2 : fs43 f2 f3) : fs43 f1 f3 := fun k hk => (h2 k hk).trans (h1 k hk)
theorem fs43.set {fs : List Value} {v : Value} : fs43 fs (fs.set 43 v) := fun k hk => List.getElem?_set_ne (Ne.symm hk)
theorem MdIs.s43 {M : kf_M} {fs : List Value} {v : Value} (h : MdIs M fs) : MdIs (M.set 284 (oO 12 (fs.set 43 v))) (fs.set 43 v) := h.set (by decide)
theorem cg_z {a b : Nat} {v : Nat} (h : cg pP v ((a : Int) - b)) (hv : v < pP) (ha : a < pP) (hb : b < pP) : (v = 0) = (a = b) := by
  apply propext
  constructor
  · rintro rfl
    have := zp_eq (a := (a : Int)) (c := b) (by omega) (by omega) (by omega) (by omega) (zp1 (u := -1) h (by omega))
    omega
  · rintro rfl
    have := zp_eq (a := (v : Int)) (c := 0) (by omega) (by omega) (by omega) (by omega) (by
      have e : ((v : Int) - (((a : Nat) : Int) - a)) = (v : Int) - 0 := by omega
      rw [← e]; exact h)
    omega
theorem n154 {M : kf_M} {fs : List Value} {P : Pt} {xr yr : Nat} {x2 y2 : Int} (hM : MdIs M fs) (hC : Cal M) (hp : PtM M fs P) (hv : vP P) (hx2 : Wd M xr x2.toNat) (hy2 : Wd M yr y2.toNat) (hv2 : vP (some (x2, y2))) (hxr : 319 < xr) (hyr : 319 < yr) : ∃ (M' : kf_M) (fs' : List Value), kf_cl 154 [.ref 284, .ref xr, .ref yr] M = some (none, M') ∧ MdIs M' fs' ∧ PtM M' fs' (padd P (some (x2, y2))) ∧ Cal M' ∧ fs43 fs fs' ∧ Off A154 M M' := by
  have r41 := hM.rf 41 313 (by decide)
  have r42 := hM.rf 42 314 (by decide)
  have r44 := hM.rf 44 315 (by decide)
  have r45 := hM.rf 45 316 (by decide)
  have r46 := hM.rf 46 317 (by decide)
  have g0 := gO_of hM.1
  have rc0 := hM.rc
  have l43 : 43 < fs.length := by rw [hM.2.1]; decide
  have z1 : ¬ (1 : Int32) = 0 := by decide
  have b0 : (((0 : Int32) == 0) || ((0 : Int32) == 1)) = true := by decide
  have b1 : (((1 : Int32) == 0) || ((1 : Int32) == 1)) = true := by decide
  cases P with
  | none =>
    have hn : fs[43]? = some (.int 1) := hp
    obtain ⟨M1, k1, w1, C1, o1⟩ := q140 (to := 313) hC hx2 (by decide) (by omega)
    have hM1 := hM.off o1 (by decide)
    have g1 := gO_of hM1.1
    obtain ⟨M2, k2, w2, C2, o2⟩ := q140 (to := 314) C1 (hy2.off o1 (by simp; omega)) (by decide) (by omega)
    have hM2 := hM1.off o2 (by decide)
    have g2 := gO_of hM2.1
    have o3 : Off [284] M2 (M2.set 284 (oO 12 (fs.set 43 (.int 0)))) := Off.set (by simp)
    refine ⟨_, fs.set 43 (.int 0), ?_, hM2.s43, ?_, C2.off' o3 (by decide), fs43.set, ((o1.wk (by decide)).tr (o2.wk (by decide))).tr (o3.wk (by decide))⟩
    · simp only [cl_154, e154_0, e154_1, e154_4, e154_7, e154_8, e154_11, e154_12, e154_15, e154_16, e154_19, e154_20, e154_23, e154_24, e154_25, e154_28, e154_29, e154_30, e154_33, e154_34, e154_35, e154_38, e154_41, e154_44, e154_45, e154_48, e154_51, e154_54, e154_55, e154_58, e154_59, e154_60, e154_63, e154_66, e154_69, e154_70, e154_73, e154_76, e154_79, e154_80, e154_81, e154_84, e154_85, e154_86, e154_89, e154_90, e154_91, e154_94, e154_95, e154_96, e154_99, e154_102, e154_105, e154_106, e154_107, e154_110, ow_154, Int32.reduceOfInt, Int32.reduceOfNat, Int32.reduceToNatClampNeg, Int32.reduceLT, Int32.reduceLE, Int32.reduceAdd, Int32.reduceSub, Int32.reduceMul, Int64.reduceOfNat, Int64.reduceOfInt, Nat.reduceLeDiff, Nat.reduceLT, Nat.reduceEqDiff, Nat.reduceSub, cs_0, cs_1, cs_2, cs_3, cs_4, cs_5, cs_6, cs_7, cs_8, or_false, false_or, not_false_eq_true, and_true, true_and, if_true, if_false, List.length_cons, List.length_nil, List.getElem?_cons_succ, List.getElem?_cons_zero, List.set_cons_succ, List.set_cons_zero, reduceIte, d_G, d_R, s_aload, s_aload_n, s_iload, s_iload_n, s_lload, s_lload_n, s_istore, s_istore_n, s_astore, s_astoreN, s_astore_n, s_astore_nN, s_lstore, s_lstore_n, s_iinc, s_iconst, s_bipush, s_sipush, s_lconst, s_ldc2_w, s_aconst_null, s_dupA, s_dupI, s_dup2, s_iadd, s_isub, s_imul, s_iand, s_ior, s_ixor, s_ishl, s_ishr, s_iushr, s_ineg, s_idiv, s_irem, s_ladd, s_lsub, s_lmul, s_land, s_lor, s_lxor, s_ldiv, s_lshl, s_lshr, s_lushr, s_i2l, s_l2i, s_lcmp, s_goto, s_ieq, s_ine, s_ilt, s_ige, s_igt, s_ile, s_zeq, s_zne, s_zlt, s_zge, s_zgt, s_zle, s_ifnull, s_ifnullN, s_ifnonnull, s_ifnonnullN, s_tableswitch, s_lookupswitch, s_getfield, s_putfield, s_getstatic, s_iaload, s_laload, s_baload, s_aaload, s_iastore, s_lastore, s_bastore, s_aastore, s_arraylength, s_newI, s_newJ, s_newZ, s_anewarray, s_new, s_copy, s_max, s_min, s_invokestatic, s_objinit, s_invokespecial, kf_isr_r, s_invokevirtual, s_ireturn, s_lreturn, s_areturn, s_areturnN, s_return, lI_0, lI_s, lJ_0, lJ_s, lA_0, lA_0N, lA_s, lS1_0, lS1_1, lS1_2, lS2_0, lS2_1, lS2_2, lK_n, lK_i, lK_j, lK_a, lK_N, d_C', kf_w_0, kf_w_i, kf_w_a, kf_w_n, kf_w_j, c_0, c_1, c_2, c_3, c_4, c_5, c_6, tl_0, tl_1, Option.bind_some, Option.bind_none, Option.map_some, Nat.reduceAdd, Nat.reduceMul, Nat.reduceDiv, Nat.reduceMod, Int.reduceToNat, Fin.val_zero, Fin.isValue, Fin.val_one, Fin.val_two, fv_0, fv_1, fv_2, fv_3, fw_0, fw_1, d_ite, true_or, or_true, and_false, false_and, or_self, and_self, g0, g1, g2, hn, r41, r42, k1, k2, z1, l43, kf_fit, b0]
    · rw [padd_0 hv2]
      exact ⟨List.getElem?_set_self l43, (w1.off o2 (by decide)).off o3 (by decide), w2.off o3 (by decide)⟩
  | some xy =>
    obtain ⟨x1, y1⟩ := xy
    obtain ⟨hn, hx, hy⟩ := hp
    have hp : PtM M fs (some (x1, y1)) := ⟨hn, hx, hy⟩
    obtain ⟨x10, x11, y10, y11, hc⟩ := hv
    have hv : vP (some (x1, y1)) := ⟨x10, x11, y10, y11, hc⟩
    obtain ⟨x20, x21, y20, y21, hc2⟩ := hv2
    have hv2 : vP (some (x2, y2)) := ⟨x20, x21, y20, y21, hc2⟩
    have ex1 := toN x10
    have ey1 := toN y10
    have ex2 := toN x20
    have ey2 := toN y20
    have lx1 : x1.toNat < pP := by omega
    have ly1 : y1.toNat < pP := by omega
    have lx2 : x2.toNat < pP := by omega
    have ly2 : y2.toNat < pP := by omega
    obtain ⟨M1, v1, k1, w1, bb1, c1, C1, o1⟩ := q146 (to := 316) hC Mo17 hx2 hx (by decide) lx2 lx1
    have hM1 := hM.off o1 (by decide)
    have g1 := gO_of hM1.1
    have rc1 := hM1.rc
    have i1 := n138 w1
    have hz1 := cg_z c1 bb1 lx2 lx1
    have hx_1 := hx.off o1 (by decide)
    have hy_1 := hy.off o1 (by decide)
    have hx2_1 := hx2.off o1 (by simp; omega)
    have hy2_1 := hy2.off o1 (by simp; omega)
    by_cases q1 : x2.toNat = x1.toNat
    · have e1 : v1 = 0 := by rw [hz1]; exact q1
      have exx : x2 = x1 := by omega
      rw [if_pos e1] at i1
      obtain ⟨M2, v2, k2, w2, bb2, c2, C2, o2⟩ := q146 (to := 317) C1 Mo17 hy2_1 hy_1 (by decide) ly2 ly1
      have hM2 := hM1.off o2 (by decide)
      have g2 := gO_of hM2.1
      have rc2 := hM2.rc
      have i2 := n138 w2
      have hz2 := cg_z c2 bb2 ly2 ly1
      have o12 : Off A154 M M2 := (o1.wk (by decide)).tr (o2.wk (by decide))
      by_cases q2 : y2.toNat = y1.toNat
      · have e2 : v2 = 0 := by rw [hz2]; exact q2
        have eyy : y2 = y1 := by omega
        rw [if_pos e2] at i2
        subst exx eyy
        obtain ⟨M3, k3, p3, C3, o3⟩ := n155 hM2 C2 ⟨hn, hx_1.off o2 (by decide), hy_1.off o2 (by decide)⟩ hv
        refine ⟨M3, fs, ?_, hM2.off o3 (by decide), p3, C3, fs43.rf, o12.tr (o3.wk (by decide))⟩
        simp only [cl_154, e154_0, e154_1, e154_4, e154_7, e154_8, e154_11, e154_12, e154_15, e154_16, e154_19, e154_20, e154_23, e154_24, e154_25, e154_28, e154_29, e154_30, e154_33, e154_34, e154_35, e154_38, e154_41, e154_44, e154_45, e154_48, e154_51, e154_54, e154_55, e154_58, e154_59, e154_60, e154_63, e154_66, e154_69, e154_70, e154_73, e154_76, e154_79, e154_80, e154_81, e154_84, e154_85, e154_86, e154_89, e154_90, e154_91, e154_94, e154_95, e154_96, e154_99, e154_102, e154_105, e154_106, e154_107, e154_110, ow_154, Int32.reduceOfInt, Int32.reduceOfNat, Int32.reduceToNatClampNeg, Int32.reduceLT, Int32.reduceLE, Int32.reduceAdd, Int32.reduceSub, Int32.reduceMul, Int64.reduceOfNat, Int64.reduceOfInt, Nat.reduceLeDiff, Nat.reduceLT, Nat.reduceEqDiff, Nat.reduceSub, cs_0, cs_1, cs_2, cs_3, cs_4, cs_5, cs_6, cs_7, cs_8, or_false, false_or, not_false_eq_true, and_true, true_and, if_true, if_false, List.length_cons, List.length_nil, List.getElem?_cons_succ, List.getElem?_cons_zero, List.set_cons_succ, List.set_cons_zero, reduceIte, d_G, d_R, s_aload, s_aload_n, s_iload, s_iload_n, s_lload, s_lload_n, s_istore, s_istore_n, s_astore, s_astoreN, s_astore_n, s_astore_nN, s_lstore, s_lstore_n, s_iinc, s_iconst, s_bipush, s_sipush, s_lconst, s_ldc2_w, s_aconst_null, s_dupA, s_dupI, s_dup2, s_iadd, s_isub, s_imul, s_iand, s_ior, s_ixor, s_ishl, s_ishr, s_iushr, s_ineg, s_idiv, s_irem, s_ladd, s_lsub, s_lmul, s_land, s_lor, s_lxor, s_ldiv, s_lshl, s_lshr, s_lushr, s_i2l, s_l2i, s_lcmp, s_goto, s_ieq, s_ine, s_ilt, s_ige, s_igt, s_ile, s_zeq, s_zne, s_zlt, s_zge, s_zgt, s_zle, s_ifnull, s_ifnullN, s_ifnonnull, s_ifnonnullN, s_tableswitch, s_lookupswitch, s_getfield, s_putfield, s_getstatic, s_iaload, s_laload, s_baload, s_aaload, s_iastore, s_lastore, s_bastore, s_aastore, s_arraylength, s_newI, s_newJ, s_newZ, s_anewarray, s_new, s_copy, s_max, s_min, s_invokestatic, s_objinit, s_invokespecial, kf_isr_r, s_invokevirtual, s_ireturn, s_lreturn, s_areturn, s_areturnN, s_return, lI_0, lI_s, lJ_0, lJ_s, lA_0, lA_0N, lA_s, lS1_0, lS1_1, lS1_2, lS2_0, lS2_1, lS2_2, lK_n, lK_i, lK_j, lK_a, lK_N, d_C', kf_w_0, kf_w_i, kf_w_a, kf_w_n, kf_w_j, c_0, c_1, c_2, c_3, c_4, c_5, c_6, tl_0, tl_1, Option.bind_some, Option.bind_none, Option.map_some, Nat.reduceAdd, Nat.reduceMul, Nat.reduceDiv, Nat.reduceMod, Int.reduceToNat, Fin.val_zero, Fin.isValue, Fin.val_one, Fin.val_two, fv_0, fv_1, fv_2, fv_3, fw_0, fw_1, d_ite, true_or, or_true, and_false, false_and, or_self, and_self, g0, g1, g2, hn, r41, r42, r45, r46, k1, k2, k3, i1, i2, z1, rc2, ow_155]
      · have e2 : ¬ v2 = 0 := by rw [hz2]; exact q2
        rw [if_neg e2] at i2
        have eyy : y1 ≠ y2 := by omega
        have o3 : Off [284] M2 (M2.set 284 (oO 12 (fs.set 43 (.int 1)))) := Off.set (by simp)
        refine ⟨_, fs.set 43 (.int 1), ?_, hM2.s43, ?_, C2.off' o3 (by decide), fs43.set, o12.tr (o3.wk (by decide))⟩
        · simp only [cl_154, e154_0, e154_1, e154_4, e154_7, e154_8, e154_11, e154_12, e154_15, e154_16, e154_19, e154_20, e154_23, e154_24, e154_25, e154_28, e154_29, e154_30, e154_33, e154_34, e154_35, e154_38, e154_41, e154_44, e154_45, e154_48, e154_51, e154_54, e154_55, e154_58, e154_59, e154_60, e154_63, e154_66, e154_69, e154_70, e154_73, e154_76, e154_79, e154_80, e154_81, e154_84, e154_85, e154_86, e154_89, e154_90, e154_91, e154_94, e154_95, e154_96, e154_99, e154_102, e154_105, e154_106, e154_107, e154_110, ow_154, Int32.reduceOfInt, Int32.reduceOfNat, Int32.reduceToNatClampNeg, Int32.reduceLT, Int32.reduceLE, Int32.reduceAdd, Int32.reduceSub, Int32.reduceMul, Int64.reduceOfNat, Int64.reduceOfInt, Nat.reduceLeDiff, Nat.reduceLT, Nat.reduceEqDiff, Nat.reduceSub, cs_0, cs_1, cs_2, cs_3, cs_4, cs_5, cs_6, cs_7, cs_8, or_false, false_or, not_false_eq_true, and_true, true_and, if_true, if_false, List.length_cons, List.length_nil, List.getElem?_cons_succ, List.getElem?_cons_zero, List.set_cons_succ, List.set_cons_zero, reduceIte, d_G, d_R, s_aload, s_aload_n, s_iload, s_iload_n, s_lload, s_lload_n, s_istore, s_istore_n, s_astore, s_astoreN, s_astore_n, s_astore_nN, s_lstore, s_lstore_n, s_iinc, s_iconst, s_bipush, s_sipush, s_lconst, s_ldc2_w, s_aconst_null, s_dupA, s_dupI, s_dup2, s_iadd, s_isub, s_imul, s_iand, s_ior, s_ixor, s_ishl, s_ishr, s_iushr, s_ineg, s_idiv, s_irem, s_ladd, s_lsub, s_lmul, s_land, s_lor, s_lxor, s_ldiv, s_lshl, s_lshr, s_lushr, s_i2l, s_l2i, s_lcmp, s_goto, s_ieq, s_ine, s_ilt, s_ige, s_igt, s_ile, s_zeq, s_zne, s_zlt, s_zge, s_zgt, s_zle, s_ifnull, s_ifnullN, s_ifnonnull, s_ifnonnullN, s_tableswitch, s_lookupswitch, s_getfield, s_putfield, s_getstatic, s_iaload, s_laload, s_baload, s_aaload, s_iastore, s_lastore, s_bastore, s_aastore, s_arraylength, s_newI, s_newJ, s_newZ, s_anewarray, s_new, s_copy, s_max, s_min, s_invokestatic, s_objinit, s_invokespecial, kf_isr_r, s_invokevirtual, s_ireturn, s_lreturn, s_areturn, s_areturnN, s_return, lI_0, lI_s, lJ_0, lJ_s, lA_0, lA_0N, lA_s, lS1_0, lS1_1, lS1_2, lS2_0, lS2_1, lS2_2, lK_n, lK_i, lK_j, lK_a, lK_N, d_C', kf_w_0, kf_w_i, kf_w_a, kf_w_n, kf_w_j, c_0, c_1, c_2, c_3, c_4, c_5, c_6, tl_0, tl_1, Option.bind_some, Option.bind_none, Option.map_some, Nat.reduceAdd, Nat.reduceMul, Nat.reduceDiv, Nat.reduceMod, Int.reduceToNat, Fin.val_zero, Fin.isValue, Fin.val_one, Fin.val_two, fv_0, fv_1, fv_2, fv_3, fw_0, fw_1, d_ite, true_or, or_true, and_false, false_and, or_self, and_self, g0, g1, g2, hn, r41, r42, r45, r46, k1, k2, i1, i2, z1, l43, kf_fit, b1]
        · subst exx
          rw [padd_op hv hv2 eyy]
          exact List.getElem?_set_self l43
    · have e1 : ¬ v1 = 0 := by rw [hz1]; exact q1
      rw [if_neg e1] at i1
      obtain ⟨M2, v2, k2, w2, bb2, c2, C2, o2⟩ := q146 (to := 315) C1 Mo17 hy2_1 hy_1 (by decide) ly2 ly1
      have hM2 := hM1.off o2 (by decide)
      have g2 := gO_of hM2.1
      have rc2 := hM2.rc
      have o12 : Off A154 M M2 := (o1.wk (by decide)).tr (o2.wk (by decide))
      obtain ⟨M3, x3, y3, l, k3, w3, u3, bx, byy, d1, d2, d3, C3, o3⟩ := n156 (xr := xr) hM2 C2 (hx_1.off o2 (by decide)) (hy_1.off o2 (by decide)) w2 (w1.off o2 (by decide)) (hx2_1.off o2 (by simp; omega)) (by omega) lx1 ly1 lx2 (Nat.pos_of_ne_zero e1) bb1
      rw [ex1, ex2] at d2
      rw [ex1, ey1] at d3
      rw [ex1, ex2] at c1
      rw [ey1, ey2] at c2
      have hl : zp (l * (x2 - x1) - (y2 - y1)) := by
        have a1 := cg_ml (cg_rf (m := pP) (a := (l : Int))) c1
        exact cg_tr (cg_tr (cg_sy a1) d1) c2
      have e := padd_ch (x3 := x3) (y3 := y3) hv hv2 (by omega) hl d2 d3 (by omega) (by omega) (by omega) (by omega)
      refine ⟨M3, fs, ?_, hM2.off o3 (by decide), ?_, C3, fs43.rf, o12.tr (o3.wk (by decide))⟩
      · simp only [cl_154, e154_0, e154_1, e154_4, e154_7, e154_8, e154_11, e154_12, e154_15, e154_16, e154_19, e154_20, e154_23, e154_24, e154_25, e154_28, e154_29, e154_30, e154_33, e154_34, e154_35, e154_38, e154_41, e154_44, e154_45, e154_48, e154_51, e154_54, e154_55, e154_58, e154_59, e154_60, e154_63, e154_66, e154_69, e154_70, e154_73, e154_76, e154_79, e154_80, e154_81, e154_84, e154_85, e154_86, e154_89, e154_90, e154_91, e154_94, e154_95, e154_96, e154_99, e154_102, e154_105, e154_106, e154_107, e154_110, ow_154, Int32.reduceOfInt, Int32.reduceOfNat, Int32.reduceToNatClampNeg, Int32.reduceLT, Int32.reduceLE, Int32.reduceAdd, Int32.reduceSub, Int32.reduceMul, Int64.reduceOfNat, Int64.reduceOfInt, Nat.reduceLeDiff, Nat.reduceLT, Nat.reduceEqDiff, Nat.reduceSub, cs_0, cs_1, cs_2, cs_3, cs_4, cs_5, cs_6, cs_7, cs_8, or_false, false_or, not_false_eq_true, and_true, true_and, if_true, if_false, List.length_cons, List.length_nil, List.getElem?_cons_succ, List.getElem?_cons_zero, List.set_cons_succ, List.set_cons_zero, reduceIte, d_G, d_R, s_aload, s_aload_n, s_iload, s_iload_n, s_lload, s_lload_n, s_istore, s_istore_n, s_astore, s_astoreN, s_astore_n, s_astore_nN, s_lstore, s_lstore_n, s_iinc, s_iconst, s_bipush, s_sipush, s_lconst, s_ldc2_w, s_aconst_null, s_dupA, s_dupI, s_dup2, s_iadd, s_isub, s_imul, s_iand, s_ior, s_ixor, s_ishl, s_ishr, s_iushr, s_ineg, s_idiv, s_irem, s_ladd, s_lsub, s_lmul, s_land, s_lor, s_lxor, s_ldiv, s_lshl, s_lshr, s_lushr, s_i2l, s_l2i, s_lcmp, s_goto, s_ieq, s_ine, s_ilt, s_ige, s_igt, s_ile, s_zeq, s_zne, s_zlt, s_zge, s_zgt, s_zle, s_ifnull, s_ifnullN, s_ifnonnull, s_ifnonnullN, s_tableswitch, s_lookupswitch, s_getfield, s_putfield, s_getstatic, s_iaload, s_laload, s_baload, s_aaload, s_iastore, s_lastore, s_bastore, s_aastore, s_arraylength, s_newI, s_newJ, s_newZ, s_anewarray, s_new, s_copy, s_max, s_min, s_invokestatic, s_objinit, s_invokespecial, kf_isr_r, s_invokevirtual, s_ireturn, s_lreturn, s_areturn, s_areturnN, s_return, lI_0, lI_s, lJ_0, lJ_s, lA_0, lA_0N, lA_s, lS1_0, lS1_1, lS1_2, lS2_0, lS2_1, lS2_2, lK_n, lK_i, lK_j, lK_a, lK_N, d_C', kf_w_0, kf_w_i, kf_w_a, kf_w_n, kf_w_j, c_0, c_1, c_2, c_3, c_4, c_5, c_6, tl_0, tl_1, Option.bind_some, Option.bind_none, Option.map_some, Nat.reduceAdd, Nat.reduceMul, Nat.reduceDiv, Nat.reduceMod, Int.reduceToNat, Fin.val_zero, Fin.isValue, Fin.val_one, Fin.val_two, fv_0, fv_1, fv_2, fv_3, fw_0, fw_1, d_ite, true_or, or_true, and_false, false_and, or_self, and_self, g0, g1, g2, hn, r41, r42, r44, r45, k1, k2, k3, i1, rc2, ow_156]
      · rw [e]
        exact ⟨hn, w3, u3⟩
