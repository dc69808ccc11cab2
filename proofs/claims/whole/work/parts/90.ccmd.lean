/-! The class: reset, usePin -/
/-- all but the tape -/
def CE (M : kf_M) (fl tc : Int32) (ou da : List Int32) (V : Vs) (σ : List Nat) (rn : Nat) (ks : List Ky) (wt : List Nat) (hs sd wd : List Int32) (G : Gs) : Prop := StC M ∧ FbO M fl tc ∧ RowIs M 28 200 ou ∧ RowIs M 30 200 da ∧ VV M V ∧ RgIs M 40 rn (σ.map some) ∧ KS M σ ks ∧ QW M σ wt ks.length ∧ SgAll M G ∧ HA M 278 ∧ ArI M 281 32 hs ∧ ArI M 282 32 sd ∧ ArI M 283 32 wd
theorem nf_1 : (nI 1 < 1) = False := eq_false (by decide)
theorem nf_2 : (nI 1 ≤ 4) = True := eq_true (by decide)
theorem nf_3 : (nI 1 < 3) = True := eq_true (by decide)
theorem nf_4 : (nI 1 = 2) = False := eq_false (by decide)
theorem nf_5 : (nI 1 = 3) = False := eq_false (by decide)
theorem nf_6 : (nI 2 < 1) = False := eq_false (by decide)
theorem nf_7 : (nI 2 ≤ 4) = True := eq_true (by decide)
theorem nf_8 : (nI 2 < 3) = True := eq_true (by decide)
theorem nf_9 : (nI 2 = 2) = True := eq_true (by decide)
theorem nf_a : (nI 2 = 3) = False := eq_false (by decide)
theorem nf_b : (nI 3 < 1) = False := eq_false (by decide)
theorem nf_c : (nI 3 ≤ 4) = True := eq_true (by decide)
theorem nf_d : (nI 3 < 3) = False := eq_false (by decide)
theorem nf_e : (nI 3 = 2) = False := eq_false (by decide)
theorem nf_f : (nI 3 = 3) = True := eq_true (by decide)
theorem nf_g : (nI 4 < 1) = False := eq_false (by decide)
theorem nf_h : (nI 4 ≤ 4) = True := eq_true (by decide)
theorem nf_i : (nI 4 < 3) = False := eq_false (by decide)
theorem nf_j : (nI 4 = 2) = False := eq_false (by decide)
theorem nf_k : (nI 4 = 3) = False := eq_false (by decide)
section CCMD
variable {M : kf_M} {fl tc : Int32} {ou da : List Int32} {V : Vs} {σ : List Nat} {rn : Nat} {ks : List Ky} {wt : List Nat} {hs sd wd : List Int32} {G : Gs} {cs K S Z I J : List Int32} {it pl : Nat} {m : PM}
theorem CE.tape {M' : kf_M} {A : List Nat} (h : CE M fl tc ou da V σ rn ks wt hs sd wd G) (ho : Off A M M') (hA : ∀ a ∈ A, 20 ≤ a ∧ a ≤ 27) : CE M' fl tc ou da V σ rn ks wt hs sd wd G := by
  obtain ⟨b1, b2, b4, b5, b6, b7, b8, b9, b10, b11, b12, b13, b14⟩ := h
  have nn : ∀ c, (c < 20 ∨ 27 < c) → c ∉ A := fun c hc w => by have := hA c w; omega
  exact ⟨b1.off ho (fun x hx => by have := hA x hx; omega), b2.off ho (nn 19 (by omega)), b4.off ho (nn 28 (by omega)) (nn 29 (by omega)), b5.off ho (nn 30 (by omega)) (nn 31 (by omega)), b6.off ho (fun x hx => by have := hA x hx; omega), b7.off ho (nn 40 (by omega)) (nn 41 (by omega)), b8.off ho (fun x hx => by have := hA x hx; omega), b9.off ho (nn 102 (by omega)) (nn 103 (by omega)), b10.off ho (fun x hx => by have := hA x hx; omega), b11.off ho (nn 278 (by omega)) (nn 279 (by omega)) (nn 280 (by omega)), b12.off ho (nn 281 (by omega)), b13.off ho (nn 282 (by omega)), b14.off ho (nn 283 (by omega))⟩
def rstV (V : Vs) : Vs := (sha (byt V.1 ++ [1]), V.2.1, frs (sha (byt V.1 ++ [1])) 0, 1, 8, 0, 0)
def A118 : List Nat := [19, 32, 33, 34, 35, 36, 39, 40, 41, 104]
theorem C118n (h : CE M fl 0 ou da V σ rn ks wt hs sd wd G) : kf_cl 118 [.ref 19] M = some (some (.int 39), M) := by
  have g := gO_of h.2.1
  simp only [cl_118, e118_0, e118_1, e118_4, e118_7, e118_9, e118_10, e118_11, e118_14, e118_17, e118_18, e118_21, e118_24, e118_25, e118_28, e118_31, e118_32, e118_35, e118_38, e118_39, e118_40, e118_43, e118_44, ow_118, Int32.reduceOfInt, Int32.reduceOfNat, Int32.reduceToNatClampNeg, Int32.reduceLT, Int32.reduceLE, Int32.reduceAdd, Int32.reduceSub, Int32.reduceMul, Int64.reduceOfNat, Int64.reduceOfInt, Nat.reduceLeDiff, Nat.reduceLT, Nat.reduceEqDiff, Nat.reduceSub, cs_0, cs_1, cs_2, cs_3, cs_4, cs_5, cs_6, cs_7, cs_8, or_false, false_or, not_false_eq_true, and_true, true_and, if_true, if_false, List.length_cons, List.length_nil, List.getElem?_cons_succ, List.getElem?_cons_zero, List.set_cons_succ, List.set_cons_zero, reduceIte, d_G, d_R, s_aload, s_aload_n, s_iload, s_iload_n, s_lload, s_lload_n, s_istore, s_istore_n, s_astore, s_astoreN, s_astore_n, s_astore_nN, s_lstore, s_lstore_n, s_iinc, s_iconst, s_bipush, s_sipush, s_lconst, s_ldc2_w, s_aconst_null, s_dupA, s_dupI, s_dup2, s_iadd, s_isub, s_imul, s_iand, s_ior, s_ixor, s_ishl, s_ishr, s_iushr, s_ineg, s_idiv, s_irem, s_ladd, s_lsub, s_lmul, s_land, s_lor, s_lxor, s_ldiv, s_lshl, s_lshr, s_lushr, s_i2l, s_l2i, s_lcmp, s_goto, s_ieq, s_ine, s_ilt, s_ige, s_igt, s_ile, s_zeq, s_zne, s_zlt, s_zge, s_zgt, s_zle, s_ifnull, s_ifnullN, s_ifnonnull, s_ifnonnullN, s_tableswitch, s_lookupswitch, s_getfield, s_putfield, s_getstatic, s_iaload, s_laload, s_baload, s_aaload, s_iastore, s_lastore, s_bastore, s_aastore, s_arraylength, s_newI, s_newJ, s_newZ, s_anewarray, s_new, s_copy, s_max, s_min, s_invokestatic, s_objinit, s_invokespecial, kf_isr_r, s_invokevirtual, s_ireturn, s_lreturn, s_areturn, s_areturnN, s_return, lI_0, lI_s, lJ_0, lJ_s, lA_0, lA_0N, lA_s, lS1_0, lS1_1, lS1_2, lS2_0, lS2_1, lS2_2, lK_n, lK_i, lK_j, lK_a, lK_N, d_C', kf_w_0, kf_w_i, kf_w_a, kf_w_n, kf_w_j, c_0, c_1, c_2, c_3, c_4, c_5, c_6, tl_0, tl_1, Option.bind_some, Option.bind_none, Option.map_some, Nat.reduceAdd, Nat.reduceMul, Nat.reduceDiv, Nat.reduceMod, Int.reduceToNat, Fin.val_zero, Fin.isValue, Fin.val_one, Fin.val_two, fv_0, fv_1, fv_2, fv_3, fw_0, fw_1, d_ite, true_or, or_true, and_false, false_and, or_self, and_self, fobF, g]
theorem C118y (h : CE M fl 1 ou da V σ rn ks [] hs sd wd G) : ∃ M', kf_cl 118 [.ref 19] M = some (some (.int 0), M') ∧ CE M' fl 0 ou da (rstV V) σ 0 [] [] hs sd wd (0, G.2) ∧ Off A118 M M' := by
  obtain ⟨b1, b2, b4, b5, b6, b7, b8, b9, b10, b11, b12, b13, b14⟩ := h
  have g := gO_of b2
  have z1 : ¬ (1 : Int32) = 0 := by decide
  obtain ⟨M1, k1, V1, o1⟩ := c87 b6.1 b1.1
  have g1 := gO_of (b2.off o1 (by decide))
  obtain ⟨M2, k2, V2, o2⟩ := c93 V1 (b1.1.off o1 (by decide) (by decide))
  have o12 : Off A118 M M2 := (o1.wk (by decide)).tr (o2.wk (by decide))
  have f2 := (b2.off o1 (by decide)).off o2 (by decide)
  have g2 := gO_of f2
  have R2 := (b7.off o1 (by decide) (by decide)).off o2 (by decide) (by decide)
  obtain ⟨M3, k3, R3, o3⟩ := c43 R2
  have f3 := f2.off o3 (by decide)
  have g3 := gO_of f3
  obtain ⟨cf, own, dig, sig, s1, s2, s3, s4, s5, s6, s7, ⟨r, s8⟩, s9⟩ := b10
  have s13 := o3.at (by decide) (o2.at (by decide) (o1.at (by decide) s1))
  obtain ⟨M4, k4, O4, o4⟩ := f58 s13
  have f4 := f3.off o4 (by decide)
  have g4 := gO_of f4
  have o5 : Off [19] M4 (M4.set 19 (oO 11 (fobF fl 0))) := Off.set (by simp)
  obtain ⟨M5, e5⟩ : ∃ X, X = M4.set 19 (oO 11 (fobF fl 0)) := ⟨_, rfl⟩
  rw [← e5] at o5
  have f5 : FbO M5 fl 0 := by rw [e5]; exact m_self (m_lt f4)
  have oo : Off A118 M M5 := ((o12.tr (o3.wk (by decide))).tr (o4.wk (by decide))).tr (o5.wk (by decide))
  have o35 : Off [19, 104] M3 M5 := (o4.wk (by decide)).tr (o5.wk (by decide))
  have o25 : Off [19, 40, 41, 104] M2 M5 := (o3.wk (by decide)).tr (o35.wk (by decide))
  have K5 := b8.off oo (by decide)
  have KK : KS M5 σ [] := ⟨K5.1, K5.2.1, K5.2.2.1, K5.2.2.2.1, (fun j k hk => by cases hk), Nat.zero_le _⟩
  have S5 : SgAll M5 (0, G.2) := by
    refine ⟨cf, own, dig, sig, o5.at (by decide) O4, s2.off oo (by decide), s3.off oo (by decide), s4.off oo (by decide) (by decide) (by decide), s5.off oo (by decide), s6.off oo (by decide), s7.off oo (by decide), ⟨r, s8.off oo (by decide)⟩, ?_⟩
    obtain ⟨sg, si⟩ := G
    cases si with
    | none => rfl
    | some e => exact s9
  obtain ⟨qf, qt, qs, q1_, q2_, -⟩ := b9
  have rv := b6.1.rc
  have rv1 := V1.rc
  have rr := R2.rc
  have rs : kf_rcv M3 8 (some (.ref 104)) = true := SgO.rc s13
  have e5' : M4.set 19 (oO 11 [.ref 20, .ref 28, .ref 30, .ref 32, .ref 40, .ref 102, .ref 104, .ref 278, .ref 281, .ref 282, .ref 283, .int fl, .int 0]) = M5 := e5.symm
  have bb : (((0 : Int32) == 0) || ((0 : Int32) == 1)) = true := by decide
  refine ⟨M5, ?_, ⟨b1.off oo (by decide), f5, b4.off oo (by decide) (by decide), b5.off oo (by decide) (by decide), ⟨V2.off o25 (by decide), isB_sha, b6.2.2.1, isB_frs, Or.inl rfl, 8, by omega, rfl⟩, R3.off o35 (by decide) (by decide), KK, ⟨qf, qt, qs, q1_.off oo (by decide) (by decide), q2_, fun i w hw => by cases hw⟩, S5, b11.off oo (by decide) (by decide) (by decide), b12.off oo (by decide), b13.off oo (by decide), b14.off oo (by decide)⟩, oo⟩
  simp only [cl_118, e118_0, e118_1, e118_4, e118_7, e118_9, e118_10, e118_11, e118_14, e118_17, e118_18, e118_21, e118_24, e118_25, e118_28, e118_31, e118_32, e118_35, e118_38, e118_39, e118_40, e118_43, e118_44, ow_118, Int32.reduceOfInt, Int32.reduceOfNat, Int32.reduceToNatClampNeg, Int32.reduceLT, Int32.reduceLE, Int32.reduceAdd, Int32.reduceSub, Int32.reduceMul, Int64.reduceOfNat, Int64.reduceOfInt, Nat.reduceLeDiff, Nat.reduceLT, Nat.reduceEqDiff, Nat.reduceSub, cs_0, cs_1, cs_2, cs_3, cs_4, cs_5, cs_6, cs_7, cs_8, or_false, false_or, not_false_eq_true, and_true, true_and, if_true, if_false, List.length_cons, List.length_nil, List.getElem?_cons_succ, List.getElem?_cons_zero, List.set_cons_succ, List.set_cons_zero, reduceIte, d_G, d_R, s_aload, s_aload_n, s_iload, s_iload_n, s_lload, s_lload_n, s_istore, s_istore_n, s_astore, s_astoreN, s_astore_n, s_astore_nN, s_lstore, s_lstore_n, s_iinc, s_iconst, s_bipush, s_sipush, s_lconst, s_ldc2_w, s_aconst_null, s_dupA, s_dupI, s_dup2, s_iadd, s_isub, s_imul, s_iand, s_ior, s_ixor, s_ishl, s_ishr, s_iushr, s_ineg, s_idiv, s_irem, s_ladd, s_lsub, s_lmul, s_land, s_lor, s_lxor, s_ldiv, s_lshl, s_lshr, s_lushr, s_i2l, s_l2i, s_lcmp, s_goto, s_ieq, s_ine, s_ilt, s_ige, s_igt, s_ile, s_zeq, s_zne, s_zlt, s_zge, s_zgt, s_zle, s_ifnull, s_ifnullN, s_ifnonnull, s_ifnonnullN, s_tableswitch, s_lookupswitch, s_getfield, s_putfield, s_getstatic, s_iaload, s_laload, s_baload, s_aaload, s_iastore, s_lastore, s_bastore, s_aastore, s_arraylength, s_newI, s_newJ, s_newZ, s_anewarray, s_new, s_copy, s_max, s_min, s_invokestatic, s_objinit, s_invokespecial, kf_isr_r, s_invokevirtual, s_ireturn, s_lreturn, s_areturn, s_areturnN, s_return, lI_0, lI_s, lJ_0, lJ_s, lA_0, lA_0N, lA_s, lS1_0, lS1_1, lS1_2, lS2_0, lS2_1, lS2_2, lK_n, lK_i, lK_j, lK_a, lK_N, d_C', kf_w_0, kf_w_i, kf_w_a, kf_w_n, kf_w_j, c_0, c_1, c_2, c_3, c_4, c_5, c_6, tl_0, tl_1, Option.bind_some, Option.bind_none, Option.map_some, Nat.reduceAdd, Nat.reduceMul, Nat.reduceDiv, Nat.reduceMod, Int.reduceToNat, Fin.val_zero, Fin.isValue, Fin.val_one, Fin.val_two, fv_0, fv_1, fv_2, fv_3, fw_0, fw_1, d_ite, true_or, or_true, and_false, false_and, or_self, and_self, ow_87, ow_93, ow_43, ow_58, fobF, g, z1, rv, k1, g1, rv1, k2, g2, rr, k3, g3, rs, k4, g4, kf_fit, bb, e5']
/-- what stands at a name, as a row -/
def rowOf (cs : List Int32) (m : PM) (k : Nat) : List Int32 := match m.getD k none with | none => [] | some v => (cs.drop v.2.1).take v.2.2.1
def numOf (m : PM) (k : Nat) : Nat := match m.getD k none with | none => 0 | some v => v.2.2.1
/-- kinds and lengths of what a command knows are right -/
theorem flt_0 {m : PM} {tb : List TE} (h : fltS m tb = 0) : (∀ e ∈ tb, chK m e = false) ∧ (∀ e ∈ tb, chM m e = false) ∧ (∀ e ∈ tb, chL m e = false) := by
  unfold fltS at h
  by_cases a1 : tb.any (chK m) = true
  · rw [if_pos a1] at h; cases h
  rw [if_neg a1] at h
  by_cases a2 : tb.any (chM m) = true
  · rw [if_pos a2] at h; cases h
  rw [if_neg a2] at h
  by_cases a3 : tb.any (chL m) = true
  · rw [if_pos a3] at h; cases h
  have f : ∀ (p : TE → Bool), ¬ tb.any p = true → ∀ e ∈ tb, p e = false := by
    intro p hp e he
    cases hpe : p e with
    | false => rfl
    | true => exact absurd (List.any_eq_true.mpr ⟨e, he, hpe⟩) hp
  exact ⟨f _ a1, f _ a2, f _ a3⟩
theorem flt_e {m : PM} {tb : List TE} (h : fltS m tb = 0) {e : TE} (he : e ∈ tb) : (kdm m e.1 = 0 ∨ kdm m e.1 = e.2.1) ∧ (e.2.2.1 = 1 → kdm m e.1 ≠ 0) ∧ fitV e.2.2.2.1 e.2.2.2.2 (m.getD e.1 none) = true := by
  obtain ⟨h1, h2, h3⟩ := flt_0 h
  have a1 := h1 e he
  have a2 := h2 e he
  have a3 := h3 e he
  unfold chK at a1
  unfold chM at a2
  unfold chL at a3
  refine ⟨?_, ?_, ?_⟩
  · by_cases c : kdm m e.1 = 0
    · exact Or.inl c
    · right
      apply Classical.byContradiction
      intro w
      rw [show (kdm m e.1 != 0) = true from bne_iff_ne.mpr c, show (kdm m e.1 != e.2.1) = true from bne_iff_ne.mpr w] at a1
      cases a1
  · intro q w
    rw [q, w] at a2
    cases a2
  · cases hf : fitV e.2.2.2.1 e.2.2.2.2 (m.getD e.1 none) with
    | true => rfl
    | false => rw [hf] at a3; cases a3
theorem kdm_some {m : PM} {k : Nat} (h : kdm m k ≠ 0) : ∃ v, m.getD k none = some v ∧ kdm m k = v.1 := by
  unfold kdm at *
  cases hm : m.getD k none with
  | none => rw [hm] at h; exact absurd rfl h
  | some v => exact ⟨v, rfl, rfl⟩
/-- a row or text of a name that is there -/
theorem flt_r {m : PM} {tb : List TE} (h : fltS m tb = 0) {e : TE} (he : e ∈ tb) (hk : e.2.1 = 2 ∨ e.2.1 = 3) (hn : kdm m e.1 ≠ 0) : ∃ v, m.getD e.1 none = some v ∧ v.1 = e.2.1 ∧ e.2.2.2.1 ≤ v.2.2.1 ∧ v.2.2.1 ≤ e.2.2.2.2 := by
  obtain ⟨a1, a2, a3⟩ := flt_e h he
  obtain ⟨v, v1, v2⟩ := kdm_some hn
  have a1 := a1.resolve_left hn
  rw [v2] at a1
  rw [v1] at a3
  have ef : fitV e.2.2.2.1 e.2.2.2.2 (some v) = decide (e.2.2.2.1 ≤ v.2.2.1 ∧ v.2.2.1 ≤ e.2.2.2.2) := if_pos (by omega)
  rw [ef] at a3
  have := of_decide_eq_true a3
  exact ⟨v, v1, a1, this.1, this.2⟩
def A117 : List Nat := [32]
/-- PIN: refusal, and what becomes of tries and misses -/
def pinA (cs : List Int32) (m : PM) (V : Vs) : Int32 := if numOf m 1 < 1 ∨ 4 < numOf m 1 then 2 else if (3 ≤ numOf m 1 ∧ kdm m 2 = 0) ∨ ((numOf m 1 = 2 ∨ numOf m 1 = 3) ∧ kdm m 3 = 0) then 20 else if 3 ≤ numOf m 1 then tryA V.2.1 (rowOf cs m 2) V.2.2.2.2.1 V.2.2.2.2.2.1 V.2.2.2.2.2.2 else if numOf m 1 = 2 ∧ V.2.2.2.2.2.2 ≠ 0 then 51 else 0
def pinV (cs : List Int32) (m : PM) (V : Vs) : Vs := if numOf m 1 < 1 ∨ 4 < numOf m 1 then V else if (3 ≤ numOf m 1 ∧ kdm m 2 = 0) ∨ ((numOf m 1 = 2 ∨ numOf m 1 = 3) ∧ kdm m 3 = 0) then V else if 3 ≤ numOf m 1 then (V.1, V.2.1, V.2.2.1, V.2.2.2.1, tryT V.2.1 (rowOf cs m 2) V.2.2.2.2.1 V.2.2.2.2.2.1 V.2.2.2.2.2.2, tryI V.2.1 (rowOf cs m 2) V.2.2.2.2.1 V.2.2.2.2.2.1 V.2.2.2.2.2.2, V.2.2.2.2.2.2) else V
theorem has_k {n : Nat} (h : TT M cs K S Z I J it pl) (hR : TR K S Z I J it m) (ho : okM cs m) (hn : n < 24) : kf_cl 68 [.ref 20, .int (nI n)] M = some (some (.int (if kdm m n = 0 then 0 else 1)), M) := by
  have k := c68 h.1 hn
  rw [hR.kd hn] at k
  have hl := kdm_le ho n
  rw [k]
  by_cases c : kdm m n = 0
  · rw [if_pos c, if_pos (by rw [c]; rfl)]
  · rw [if_neg c, if_neg (nI_ne0 (by omega) (by omega))]
theorem siz_k {n : Nat} {v : PV} (h : TT M cs K S Z I J it pl) (hR : TR K S Z I J it m) (hn : n < 24) (hm : m.getD n none = some v) : kf_cl 71 [.ref 20, .int (nI n)] M = some (some (.int (nI v.2.2.1)), M) := by
  have k := c71 h.1 hn
  have hr := hR.2 n hn
  rw [hm] at hr
  rw [hr.2.1] at k
  exact k
theorem tryT_8 {pn od : List Int32} {tr mi hp : Int32} (h : ∃ j : Nat, j ≤ 8 ∧ tr = nI j) : ∃ j : Nat, j ≤ 8 ∧ tryT pn od tr mi hp = nI j := by
  unfold tryT
  by_cases c1 : hp = 0
  · rw [if_pos c1]; exact h
  rw [if_neg c1]
  by_cases c2 : tr = 0
  · rw [if_pos c2]; exact h
  rw [if_neg c2]
  by_cases c3 : mi = 3
  · rw [if_pos c3]; exact h
  rw [if_neg c3]
  by_cases c4 : od = pn
  · rw [if_pos c4]; exact ⟨8, by omega, rfl⟩
  rw [if_neg c4]
  obtain ⟨j, j1, j2⟩ := h
  cases j with
  | zero => exact absurd j2 c2
  | succ j =>
    refine ⟨j, by omega, ?_⟩
    rw [j2]
    exact nI_pred j
theorem C117 (h : TT M cs K S Z I J it pl) (hR : TR K S Z I J it m) (ho : okM cs m) (hf : fltS m tbP = 0) (hE : CE M fl tc ou da V σ rn ks wt hs sd wd G) : ∃ M', kf_cl 117 [.ref 19, .int (nI (numOf m 1))] M = some (some (.int (pinA cs m V)), M') ∧ CE M' fl tc ou da (pinV cs m V) σ rn ks wt hs sd wd G ∧ TT M' cs K S Z I J it pl ∧ Off [32] M M' := by
  have hE0 := hE
  obtain ⟨b1, b2, b4, b5, b6, b7, b8, b9, b10, b11, b12, b13, b14⟩ := hE
  have g := gO_of b2
  have rcT := h.1.rc
  have rv := b6.1.rc
  have gv := gO_of b6.1.1
  have z1 : ¬ (1 : Int32) = 0 := by decide
  have h2 := has_k (n := 2) h hR ho (by decide)
  have h3 := has_k (n := 3) h hR ho (by decide)
  rw [show nI 2 = 2 from rfl] at h2
  rw [show nI 3 = 3 from rfl] at h3
  have hk : numOf m 1 < 65536 := by
    unfold numOf
    cases hm : m.getD 1 none with
    | none => decide
    | some v => exact (ho.2 1 v (mG_some hm)).2.1
  by_cases c1 : numOf m 1 < 1 ∨ 4 < numOf m 1
  · have eA : pinA cs m V = 2 := by unfold pinA; rw [if_pos c1]
    have eV : pinV cs m V = V := by unfold pinV; rw [if_pos c1]
    rw [eA, eV]
    refine ⟨M, ?_, hE0, h, Off.rf⟩
    by_cases d : numOf m 1 < 1
    · have e : nI (numOf m 1) < 1 := nI_lt (b := 1) d (by omega)
      simp only [cl_117, e117_0, e117_1, e117_2, e117_5, e117_6, e117_7, e117_10, e117_11, e117_12, e117_13, e117_14, e117_17, e117_18, e117_21, e117_22, e117_23, e117_24, e117_25, e117_28, e117_29, e117_30, e117_33, e117_34, e117_37, e117_38, e117_39, e117_40, e117_43, e117_44, e117_47, e117_48, e117_51, e117_54, e117_55, e117_58, e117_59, e117_62, e117_63, e117_66, e117_69, e117_71, e117_72, e117_73, e117_76, e117_77, e117_80, e117_81, e117_84, e117_85, e117_88, e117_89, e117_90, e117_93, e117_94, e117_97, e117_100, e117_103, e117_105, e117_108, e117_109, ow_117, Int32.reduceOfInt, Int32.reduceOfNat, Int32.reduceToNatClampNeg, Int32.reduceLT, Int32.reduceLE, Int32.reduceAdd, Int32.reduceSub, Int32.reduceMul, Int64.reduceOfNat, Int64.reduceOfInt, Nat.reduceLeDiff, Nat.reduceLT, Nat.reduceEqDiff, Nat.reduceSub, cs_0, cs_1, cs_2, cs_3, cs_4, cs_5, cs_6, cs_7, cs_8, or_false, false_or, not_false_eq_true, and_true, true_and, if_true, if_false, List.length_cons, List.length_nil, List.getElem?_cons_succ, List.getElem?_cons_zero, List.set_cons_succ, List.set_cons_zero, reduceIte, d_G, d_R, s_aload, s_aload_n, s_iload, s_iload_n, s_lload, s_lload_n, s_istore, s_istore_n, s_astore, s_astoreN, s_astore_n, s_astore_nN, s_lstore, s_lstore_n, s_iinc, s_iconst, s_bipush, s_sipush, s_lconst, s_ldc2_w, s_aconst_null, s_dupA, s_dupI, s_dup2, s_iadd, s_isub, s_imul, s_iand, s_ior, s_ixor, s_ishl, s_ishr, s_iushr, s_ineg, s_idiv, s_irem, s_ladd, s_lsub, s_lmul, s_land, s_lor, s_lxor, s_ldiv, s_lshl, s_lshr, s_lushr, s_i2l, s_l2i, s_lcmp, s_goto, s_ieq, s_ine, s_ilt, s_ige, s_igt, s_ile, s_zeq, s_zne, s_zlt, s_zge, s_zgt, s_zle, s_ifnull, s_ifnullN, s_ifnonnull, s_ifnonnullN, s_tableswitch, s_lookupswitch, s_getfield, s_putfield, s_getstatic, s_iaload, s_laload, s_baload, s_aaload, s_iastore, s_lastore, s_bastore, s_aastore, s_arraylength, s_newI, s_newJ, s_newZ, s_anewarray, s_new, s_copy, s_max, s_min, s_invokestatic, s_objinit, s_invokespecial, kf_isr_r, s_invokevirtual, s_ireturn, s_lreturn, s_areturn, s_areturnN, s_return, lI_0, lI_s, lJ_0, lJ_s, lA_0, lA_0N, lA_s, lS1_0, lS1_1, lS1_2, lS2_0, lS2_1, lS2_2, lK_n, lK_i, lK_j, lK_a, lK_N, d_C', kf_w_0, kf_w_i, kf_w_a, kf_w_n, kf_w_j, c_0, c_1, c_2, c_3, c_4, c_5, c_6, tl_0, tl_1, Option.bind_some, Option.bind_none, Option.map_some, Nat.reduceAdd, Nat.reduceMul, Nat.reduceDiv, Nat.reduceMod, Int.reduceToNat, Fin.val_zero, Fin.isValue, Fin.val_one, Fin.val_two, fv_0, fv_1, fv_2, fv_3, fw_0, fw_1, d_ite, true_or, or_true, and_false, false_and, or_self, and_self, e]
    · have e : ¬ nI (numOf m 1) < 1 := nI_nlt (b := 1) (by omega) (by omega)
      have e2 : ¬ nI (numOf m 1) ≤ 4 := nI_ge (a := 4) (by omega) (by omega)
      simp only [cl_117, e117_0, e117_1, e117_2, e117_5, e117_6, e117_7, e117_10, e117_11, e117_12, e117_13, e117_14, e117_17, e117_18, e117_21, e117_22, e117_23, e117_24, e117_25, e117_28, e117_29, e117_30, e117_33, e117_34, e117_37, e117_38, e117_39, e117_40, e117_43, e117_44, e117_47, e117_48, e117_51, e117_54, e117_55, e117_58, e117_59, e117_62, e117_63, e117_66, e117_69, e117_71, e117_72, e117_73, e117_76, e117_77, e117_80, e117_81, e117_84, e117_85, e117_88, e117_89, e117_90, e117_93, e117_94, e117_97, e117_100, e117_103, e117_105, e117_108, e117_109, ow_117, Int32.reduceOfInt, Int32.reduceOfNat, Int32.reduceToNatClampNeg, Int32.reduceLT, Int32.reduceLE, Int32.reduceAdd, Int32.reduceSub, Int32.reduceMul, Int64.reduceOfNat, Int64.reduceOfInt, Nat.reduceLeDiff, Nat.reduceLT, Nat.reduceEqDiff, Nat.reduceSub, cs_0, cs_1, cs_2, cs_3, cs_4, cs_5, cs_6, cs_7, cs_8, or_false, false_or, not_false_eq_true, and_true, true_and, if_true, if_false, List.length_cons, List.length_nil, List.getElem?_cons_succ, List.getElem?_cons_zero, List.set_cons_succ, List.set_cons_zero, reduceIte, d_G, d_R, s_aload, s_aload_n, s_iload, s_iload_n, s_lload, s_lload_n, s_istore, s_istore_n, s_astore, s_astoreN, s_astore_n, s_astore_nN, s_lstore, s_lstore_n, s_iinc, s_iconst, s_bipush, s_sipush, s_lconst, s_ldc2_w, s_aconst_null, s_dupA, s_dupI, s_dup2, s_iadd, s_isub, s_imul, s_iand, s_ior, s_ixor, s_ishl, s_ishr, s_iushr, s_ineg, s_idiv, s_irem, s_ladd, s_lsub, s_lmul, s_land, s_lor, s_lxor, s_ldiv, s_lshl, s_lshr, s_lushr, s_i2l, s_l2i, s_lcmp, s_goto, s_ieq, s_ine, s_ilt, s_ige, s_igt, s_ile, s_zeq, s_zne, s_zlt, s_zge, s_zgt, s_zle, s_ifnull, s_ifnullN, s_ifnonnull, s_ifnonnullN, s_tableswitch, s_lookupswitch, s_getfield, s_putfield, s_getstatic, s_iaload, s_laload, s_baload, s_aaload, s_iastore, s_lastore, s_bastore, s_aastore, s_arraylength, s_newI, s_newJ, s_newZ, s_anewarray, s_new, s_copy, s_max, s_min, s_invokestatic, s_objinit, s_invokespecial, kf_isr_r, s_invokevirtual, s_ireturn, s_lreturn, s_areturn, s_areturnN, s_return, lI_0, lI_s, lJ_0, lJ_s, lA_0, lA_0N, lA_s, lS1_0, lS1_1, lS1_2, lS2_0, lS2_1, lS2_2, lK_n, lK_i, lK_j, lK_a, lK_N, d_C', kf_w_0, kf_w_i, kf_w_a, kf_w_n, kf_w_j, c_0, c_1, c_2, c_3, c_4, c_5, c_6, tl_0, tl_1, Option.bind_some, Option.bind_none, Option.map_some, Nat.reduceAdd, Nat.reduceMul, Nat.reduceDiv, Nat.reduceMod, Int.reduceToNat, Fin.val_zero, Fin.isValue, Fin.val_one, Fin.val_two, fv_0, fv_1, fv_2, fv_3, fw_0, fw_1, d_ite, true_or, or_true, and_false, false_and, or_self, and_self, e, e2]
  -- old is tried
  have old : kdm m 2 ≠ 0 → ∃ M', kf_cl 91 [.ref 32, .ref 20, .int 2] M = some (some (.int (tryA V.2.1 (rowOf cs m 2) V.2.2.2.2.1 V.2.2.2.2.2.1 V.2.2.2.2.2.2)), M') ∧ CE M' fl tc ou da (V.1, V.2.1, V.2.2.1, V.2.2.2.1, tryT V.2.1 (rowOf cs m 2) V.2.2.2.2.1 V.2.2.2.2.2.1 V.2.2.2.2.2.2, tryI V.2.1 (rowOf cs m 2) V.2.2.2.2.1 V.2.2.2.2.2.1 V.2.2.2.2.2.2, V.2.2.2.2.2.2) σ rn ks wt hs sd wd G ∧ TT M' cs K S Z I J it pl ∧ Off [32] M M' := by
    intro q2
    obtain ⟨v, v1, v2, v3, v4⟩ := flt_r hf (e := (2, 2, 0, 16, 16)) (by decide) (Or.inl rfl) q2
    have v1 : m.getD 2 none = some v := v1
    have v2 : v.1 = 2 := v2
    have v3 : 16 ≤ v.2.2.1 := v3
    have v4 : v.2.2.1 ≤ 16 := v4
    have hz : v.2.2.1 = 16 := by omega
    have er : rowOf cs m 2 = (cs.drop v.2.1).take 16 := by
      unfold rowOf
      rw [v1, ← hz]
    rw [er]
    obtain ⟨M1, k1, V1, o1⟩ := t91 h hR ho b6.1 (by decide) v1 v2 hz
    rw [show nI 2 = 2 from rfl] at k1
    exact ⟨M1, k1, ⟨b1.off o1 (by decide), b2.off o1 (by decide), b4.off o1 (by decide) (by decide), b5.off o1 (by decide) (by decide), ⟨V1, b6.2.1, b6.2.2.1, b6.2.2.2.1, b6.2.2.2.2.1, tryT_8 b6.2.2.2.2.2⟩, b7.off o1 (by decide) (by decide), b8.off o1 (by decide), b9.off o1 (by decide) (by decide), b10.off o1 (by decide), b11.off o1 (by decide) (by decide) (by decide), b12.off o1 (by decide), b13.off o1 (by decide), b14.off o1 (by decide)⟩, h.vt o1 (by decide), o1⟩
  have kc : numOf m 1 = 1 ∨ numOf m 1 = 2 ∨ numOf m 1 = 3 ∨ numOf m 1 = 4 := by omega
  rcases kc with k_ | k_ | k_ | k_
  · have eA : pinA cs m V = 0 := by unfold pinA; rw [if_neg c1, if_neg (by omega), if_neg (by omega), if_neg (by omega)]
    have eV : pinV cs m V = V := by unfold pinV; rw [if_neg c1, if_neg (by omega), if_neg (by omega)]
    rw [eA, eV, k_]
    exact ⟨M, by simp only [cl_117, e117_0, e117_1, e117_2, e117_5, e117_6, e117_7, e117_10, e117_11, e117_12, e117_13, e117_14, e117_17, e117_18, e117_21, e117_22, e117_23, e117_24, e117_25, e117_28, e117_29, e117_30, e117_33, e117_34, e117_37, e117_38, e117_39, e117_40, e117_43, e117_44, e117_47, e117_48, e117_51, e117_54, e117_55, e117_58, e117_59, e117_62, e117_63, e117_66, e117_69, e117_71, e117_72, e117_73, e117_76, e117_77, e117_80, e117_81, e117_84, e117_85, e117_88, e117_89, e117_90, e117_93, e117_94, e117_97, e117_100, e117_103, e117_105, e117_108, e117_109, ow_117, Int32.reduceOfInt, Int32.reduceOfNat, Int32.reduceToNatClampNeg, Int32.reduceLT, Int32.reduceLE, Int32.reduceAdd, Int32.reduceSub, Int32.reduceMul, Int64.reduceOfNat, Int64.reduceOfInt, Nat.reduceLeDiff, Nat.reduceLT, Nat.reduceEqDiff, Nat.reduceSub, cs_0, cs_1, cs_2, cs_3, cs_4, cs_5, cs_6, cs_7, cs_8, or_false, false_or, not_false_eq_true, and_true, true_and, if_true, if_false, List.length_cons, List.length_nil, List.getElem?_cons_succ, List.getElem?_cons_zero, List.set_cons_succ, List.set_cons_zero, reduceIte, d_G, d_R, s_aload, s_aload_n, s_iload, s_iload_n, s_lload, s_lload_n, s_istore, s_istore_n, s_astore, s_astoreN, s_astore_n, s_astore_nN, s_lstore, s_lstore_n, s_iinc, s_iconst, s_bipush, s_sipush, s_lconst, s_ldc2_w, s_aconst_null, s_dupA, s_dupI, s_dup2, s_iadd, s_isub, s_imul, s_iand, s_ior, s_ixor, s_ishl, s_ishr, s_iushr, s_ineg, s_idiv, s_irem, s_ladd, s_lsub, s_lmul, s_land, s_lor, s_lxor, s_ldiv, s_lshl, s_lshr, s_lushr, s_i2l, s_l2i, s_lcmp, s_goto, s_ieq, s_ine, s_ilt, s_ige, s_igt, s_ile, s_zeq, s_zne, s_zlt, s_zge, s_zgt, s_zle, s_ifnull, s_ifnullN, s_ifnonnull, s_ifnonnullN, s_tableswitch, s_lookupswitch, s_getfield, s_putfield, s_getstatic, s_iaload, s_laload, s_baload, s_aaload, s_iastore, s_lastore, s_bastore, s_aastore, s_arraylength, s_newI, s_newJ, s_newZ, s_anewarray, s_new, s_copy, s_max, s_min, s_invokestatic, s_objinit, s_invokespecial, kf_isr_r, s_invokevirtual, s_ireturn, s_lreturn, s_areturn, s_areturnN, s_return, lI_0, lI_s, lJ_0, lJ_s, lA_0, lA_0N, lA_s, lS1_0, lS1_1, lS1_2, lS2_0, lS2_1, lS2_2, lK_n, lK_i, lK_j, lK_a, lK_N, d_C', kf_w_0, kf_w_i, kf_w_a, kf_w_n, kf_w_j, c_0, c_1, c_2, c_3, c_4, c_5, c_6, tl_0, tl_1, Option.bind_some, Option.bind_none, Option.map_some, Nat.reduceAdd, Nat.reduceMul, Nat.reduceDiv, Nat.reduceMod, Int.reduceToNat, Fin.val_zero, Fin.isValue, Fin.val_one, Fin.val_two, fv_0, fv_1, fv_2, fv_3, fw_0, fw_1, d_ite, true_or, or_true, and_false, false_and, or_self, and_self, nf_1, nf_2, nf_3, nf_4, nf_5, nf_6, nf_7, nf_8, nf_9, nf_a, nf_b, nf_c, nf_d, nf_e, nf_f, nf_g, nf_h, nf_i, nf_j, nf_k, fobF, g], hE0, h, Off.rf⟩
  · by_cases a3 : kdm m 3 = 0
    · rw [if_pos a3] at h3
      have eA : pinA cs m V = 20 := by unfold pinA; rw [if_neg c1, if_pos (by omega)]
      have eV : pinV cs m V = V := by unfold pinV; rw [if_neg c1, if_pos (by omega)]
      rw [eA, eV, k_]
      exact ⟨M, by simp only [cl_117, e117_0, e117_1, e117_2, e117_5, e117_6, e117_7, e117_10, e117_11, e117_12, e117_13, e117_14, e117_17, e117_18, e117_21, e117_22, e117_23, e117_24, e117_25, e117_28, e117_29, e117_30, e117_33, e117_34, e117_37, e117_38, e117_39, e117_40, e117_43, e117_44, e117_47, e117_48, e117_51, e117_54, e117_55, e117_58, e117_59, e117_62, e117_63, e117_66, e117_69, e117_71, e117_72, e117_73, e117_76, e117_77, e117_80, e117_81, e117_84, e117_85, e117_88, e117_89, e117_90, e117_93, e117_94, e117_97, e117_100, e117_103, e117_105, e117_108, e117_109, ow_117, Int32.reduceOfInt, Int32.reduceOfNat, Int32.reduceToNatClampNeg, Int32.reduceLT, Int32.reduceLE, Int32.reduceAdd, Int32.reduceSub, Int32.reduceMul, Int64.reduceOfNat, Int64.reduceOfInt, Nat.reduceLeDiff, Nat.reduceLT, Nat.reduceEqDiff, Nat.reduceSub, cs_0, cs_1, cs_2, cs_3, cs_4, cs_5, cs_6, cs_7, cs_8, or_false, false_or, not_false_eq_true, and_true, true_and, if_true, if_false, List.length_cons, List.length_nil, List.getElem?_cons_succ, List.getElem?_cons_zero, List.set_cons_succ, List.set_cons_zero, reduceIte, d_G, d_R, s_aload, s_aload_n, s_iload, s_iload_n, s_lload, s_lload_n, s_istore, s_istore_n, s_astore, s_astoreN, s_astore_n, s_astore_nN, s_lstore, s_lstore_n, s_iinc, s_iconst, s_bipush, s_sipush, s_lconst, s_ldc2_w, s_aconst_null, s_dupA, s_dupI, s_dup2, s_iadd, s_isub, s_imul, s_iand, s_ior, s_ixor, s_ishl, s_ishr, s_iushr, s_ineg, s_idiv, s_irem, s_ladd, s_lsub, s_lmul, s_land, s_lor, s_lxor, s_ldiv, s_lshl, s_lshr, s_lushr, s_i2l, s_l2i, s_lcmp, s_goto, s_ieq, s_ine, s_ilt, s_ige, s_igt, s_ile, s_zeq, s_zne, s_zlt, s_zge, s_zgt, s_zle, s_ifnull, s_ifnullN, s_ifnonnull, s_ifnonnullN, s_tableswitch, s_lookupswitch, s_getfield, s_putfield, s_getstatic, s_iaload, s_laload, s_baload, s_aaload, s_iastore, s_lastore, s_bastore, s_aastore, s_arraylength, s_newI, s_newJ, s_newZ, s_anewarray, s_new, s_copy, s_max, s_min, s_invokestatic, s_objinit, s_invokespecial, kf_isr_r, s_invokevirtual, s_ireturn, s_lreturn, s_areturn, s_areturnN, s_return, lI_0, lI_s, lJ_0, lJ_s, lA_0, lA_0N, lA_s, lS1_0, lS1_1, lS1_2, lS2_0, lS2_1, lS2_2, lK_n, lK_i, lK_j, lK_a, lK_N, d_C', kf_w_0, kf_w_i, kf_w_a, kf_w_n, kf_w_j, c_0, c_1, c_2, c_3, c_4, c_5, c_6, tl_0, tl_1, Option.bind_some, Option.bind_none, Option.map_some, Nat.reduceAdd, Nat.reduceMul, Nat.reduceDiv, Nat.reduceMod, Int.reduceToNat, Fin.val_zero, Fin.isValue, Fin.val_one, Fin.val_two, fv_0, fv_1, fv_2, fv_3, fw_0, fw_1, d_ite, true_or, or_true, and_false, false_and, or_self, and_self, nf_1, nf_2, nf_3, nf_4, nf_5, nf_6, nf_7, nf_8, nf_9, nf_a, nf_b, nf_c, nf_d, nf_e, nf_f, nf_g, nf_h, nf_i, nf_j, nf_k, ow_68, fobF, g, rcT, h3, z1], hE0, h, Off.rf⟩
    · rw [if_neg a3] at h3
      have eV : pinV cs m V = V := by unfold pinV; rw [if_neg c1, if_neg (by omega), if_neg (by omega)]
      by_cases c5 : V.2.2.2.2.2.2 = 0
      · have c5' : (V.2.2.2.2.2.2 = 0) = True := eq_true c5
        have eA : pinA cs m V = 0 := by unfold pinA; rw [if_neg c1, if_neg (by omega), if_neg (by omega), if_neg (fun w => w.2 c5)]
        rw [eA, eV, k_]
        exact ⟨M, by simp only [cl_117, e117_0, e117_1, e117_2, e117_5, e117_6, e117_7, e117_10, e117_11, e117_12, e117_13, e117_14, e117_17, e117_18, e117_21, e117_22, e117_23, e117_24, e117_25, e117_28, e117_29, e117_30, e117_33, e117_34, e117_37, e117_38, e117_39, e117_40, e117_43, e117_44, e117_47, e117_48, e117_51, e117_54, e117_55, e117_58, e117_59, e117_62, e117_63, e117_66, e117_69, e117_71, e117_72, e117_73, e117_76, e117_77, e117_80, e117_81, e117_84, e117_85, e117_88, e117_89, e117_90, e117_93, e117_94, e117_97, e117_100, e117_103, e117_105, e117_108, e117_109, ow_117, Int32.reduceOfInt, Int32.reduceOfNat, Int32.reduceToNatClampNeg, Int32.reduceLT, Int32.reduceLE, Int32.reduceAdd, Int32.reduceSub, Int32.reduceMul, Int64.reduceOfNat, Int64.reduceOfInt, Nat.reduceLeDiff, Nat.reduceLT, Nat.reduceEqDiff, Nat.reduceSub, cs_0, cs_1, cs_2, cs_3, cs_4, cs_5, cs_6, cs_7, cs_8, or_false, false_or, not_false_eq_true, and_true, true_and, if_true, if_false, List.length_cons, List.length_nil, List.getElem?_cons_succ, List.getElem?_cons_zero, List.set_cons_succ, List.set_cons_zero, reduceIte, d_G, d_R, s_aload, s_aload_n, s_iload, s_iload_n, s_lload, s_lload_n, s_istore, s_istore_n, s_astore, s_astoreN, s_astore_n, s_astore_nN, s_lstore, s_lstore_n, s_iinc, s_iconst, s_bipush, s_sipush, s_lconst, s_ldc2_w, s_aconst_null, s_dupA, s_dupI, s_dup2, s_iadd, s_isub, s_imul, s_iand, s_ior, s_ixor, s_ishl, s_ishr, s_iushr, s_ineg, s_idiv, s_irem, s_ladd, s_lsub, s_lmul, s_land, s_lor, s_lxor, s_ldiv, s_lshl, s_lshr, s_lushr, s_i2l, s_l2i, s_lcmp, s_goto, s_ieq, s_ine, s_ilt, s_ige, s_igt, s_ile, s_zeq, s_zne, s_zlt, s_zge, s_zgt, s_zle, s_ifnull, s_ifnullN, s_ifnonnull, s_ifnonnullN, s_tableswitch, s_lookupswitch, s_getfield, s_putfield, s_getstatic, s_iaload, s_laload, s_baload, s_aaload, s_iastore, s_lastore, s_bastore, s_aastore, s_arraylength, s_newI, s_newJ, s_newZ, s_anewarray, s_new, s_copy, s_max, s_min, s_invokestatic, s_objinit, s_invokespecial, kf_isr_r, s_invokevirtual, s_ireturn, s_lreturn, s_areturn, s_areturnN, s_return, lI_0, lI_s, lJ_0, lJ_s, lA_0, lA_0N, lA_s, lS1_0, lS1_1, lS1_2, lS2_0, lS2_1, lS2_2, lK_n, lK_i, lK_j, lK_a, lK_N, d_C', kf_w_0, kf_w_i, kf_w_a, kf_w_n, kf_w_j, c_0, c_1, c_2, c_3, c_4, c_5, c_6, tl_0, tl_1, Option.bind_some, Option.bind_none, Option.map_some, Nat.reduceAdd, Nat.reduceMul, Nat.reduceDiv, Nat.reduceMod, Int.reduceToNat, Fin.val_zero, Fin.isValue, Fin.val_one, Fin.val_two, fv_0, fv_1, fv_2, fv_3, fw_0, fw_1, d_ite, true_or, or_true, and_false, false_and, or_self, and_self, nf_1, nf_2, nf_3, nf_4, nf_5, nf_6, nf_7, nf_8, nf_9, nf_a, nf_b, nf_c, nf_d, nf_e, nf_f, nf_g, nf_h, nf_i, nf_j, nf_k, ow_68, fobF, g, gv, rcT, h3, z1, c5'], hE0, h, Off.rf⟩
      · have eA : pinA cs m V = 51 := by unfold pinA; rw [if_neg c1, if_neg (by omega), if_neg (by omega), if_pos ⟨k_, c5⟩]
        rw [eA, eV, k_]
        exact ⟨M, by simp only [cl_117, e117_0, e117_1, e117_2, e117_5, e117_6, e117_7, e117_10, e117_11, e117_12, e117_13, e117_14, e117_17, e117_18, e117_21, e117_22, e117_23, e117_24, e117_25, e117_28, e117_29, e117_30, e117_33, e117_34, e117_37, e117_38, e117_39, e117_40, e117_43, e117_44, e117_47, e117_48, e117_51, e117_54, e117_55, e117_58, e117_59, e117_62, e117_63, e117_66, e117_69, e117_71, e117_72, e117_73, e117_76, e117_77, e117_80, e117_81, e117_84, e117_85, e117_88, e117_89, e117_90, e117_93, e117_94, e117_97, e117_100, e117_103, e117_105, e117_108, e117_109, ow_117, Int32.reduceOfInt, Int32.reduceOfNat, Int32.reduceToNatClampNeg, Int32.reduceLT, Int32.reduceLE, Int32.reduceAdd, Int32.reduceSub, Int32.reduceMul, Int64.reduceOfNat, Int64.reduceOfInt, Nat.reduceLeDiff, Nat.reduceLT, Nat.reduceEqDiff, Nat.reduceSub, cs_0, cs_1, cs_2, cs_3, cs_4, cs_5, cs_6, cs_7, cs_8, or_false, false_or, not_false_eq_true, and_true, true_and, if_true, if_false, List.length_cons, List.length_nil, List.getElem?_cons_succ, List.getElem?_cons_zero, List.set_cons_succ, List.set_cons_zero, reduceIte, d_G, d_R, s_aload, s_aload_n, s_iload, s_iload_n, s_lload, s_lload_n, s_istore, s_istore_n, s_astore, s_astoreN, s_astore_n, s_astore_nN, s_lstore, s_lstore_n, s_iinc, s_iconst, s_bipush, s_sipush, s_lconst, s_ldc2_w, s_aconst_null, s_dupA, s_dupI, s_dup2, s_iadd, s_isub, s_imul, s_iand, s_ior, s_ixor, s_ishl, s_ishr, s_iushr, s_ineg, s_idiv, s_irem, s_ladd, s_lsub, s_lmul, s_land, s_lor, s_lxor, s_ldiv, s_lshl, s_lshr, s_lushr, s_i2l, s_l2i, s_lcmp, s_goto, s_ieq, s_ine, s_ilt, s_ige, s_igt, s_ile, s_zeq, s_zne, s_zlt, s_zge, s_zgt, s_zle, s_ifnull, s_ifnullN, s_ifnonnull, s_ifnonnullN, s_tableswitch, s_lookupswitch, s_getfield, s_putfield, s_getstatic, s_iaload, s_laload, s_baload, s_aaload, s_iastore, s_lastore, s_bastore, s_aastore, s_arraylength, s_newI, s_newJ, s_newZ, s_anewarray, s_new, s_copy, s_max, s_min, s_invokestatic, s_objinit, s_invokespecial, kf_isr_r, s_invokevirtual, s_ireturn, s_lreturn, s_areturn, s_areturnN, s_return, lI_0, lI_s, lJ_0, lJ_s, lA_0, lA_0N, lA_s, lS1_0, lS1_1, lS1_2, lS2_0, lS2_1, lS2_2, lK_n, lK_i, lK_j, lK_a, lK_N, d_C', kf_w_0, kf_w_i, kf_w_a, kf_w_n, kf_w_j, c_0, c_1, c_2, c_3, c_4, c_5, c_6, tl_0, tl_1, Option.bind_some, Option.bind_none, Option.map_some, Nat.reduceAdd, Nat.reduceMul, Nat.reduceDiv, Nat.reduceMod, Int.reduceToNat, Fin.val_zero, Fin.isValue, Fin.val_one, Fin.val_two, fv_0, fv_1, fv_2, fv_3, fw_0, fw_1, d_ite, true_or, or_true, and_false, false_and, or_self, and_self, nf_1, nf_2, nf_3, nf_4, nf_5, nf_6, nf_7, nf_8, nf_9, nf_a, nf_b, nf_c, nf_d, nf_e, nf_f, nf_g, nf_h, nf_i, nf_j, nf_k, ow_68, fobF, g, gv, rcT, h3, z1, c5], hE0, h, Off.rf⟩
  · by_cases a2 : kdm m 2 = 0
    · rw [if_pos a2] at h2
      have eA : pinA cs m V = 20 := by unfold pinA; rw [if_neg c1, if_pos (by omega)]
      have eV : pinV cs m V = V := by unfold pinV; rw [if_neg c1, if_pos (by omega)]
      rw [eA, eV, k_]
      exact ⟨M, by simp only [cl_117, e117_0, e117_1, e117_2, e117_5, e117_6, e117_7, e117_10, e117_11, e117_12, e117_13, e117_14, e117_17, e117_18, e117_21, e117_22, e117_23, e117_24, e117_25, e117_28, e117_29, e117_30, e117_33, e117_34, e117_37, e117_38, e117_39, e117_40, e117_43, e117_44, e117_47, e117_48, e117_51, e117_54, e117_55, e117_58, e117_59, e117_62, e117_63, e117_66, e117_69, e117_71, e117_72, e117_73, e117_76, e117_77, e117_80, e117_81, e117_84, e117_85, e117_88, e117_89, e117_90, e117_93, e117_94, e117_97, e117_100, e117_103, e117_105, e117_108, e117_109, ow_117, Int32.reduceOfInt, Int32.reduceOfNat, Int32.reduceToNatClampNeg, Int32.reduceLT, Int32.reduceLE, Int32.reduceAdd, Int32.reduceSub, Int32.reduceMul, Int64.reduceOfNat, Int64.reduceOfInt, Nat.reduceLeDiff, Nat.reduceLT, Nat.reduceEqDiff, Nat.reduceSub, cs_0, cs_1, cs_2, cs_3, cs_4, cs_5, cs_6, cs_7, cs_8, or_false, false_or, not_false_eq_true, and_true, true_and, if_true, if_false, List.length_cons, List.length_nil, List.getElem?_cons_succ, List.getElem?_cons_zero, List.set_cons_succ, List.set_cons_zero, reduceIte, d_G, d_R, s_aload, s_aload_n, s_iload, s_iload_n, s_lload, s_lload_n, s_istore, s_istore_n, s_astore, s_astoreN, s_astore_n, s_astore_nN, s_lstore, s_lstore_n, s_iinc, s_iconst, s_bipush, s_sipush, s_lconst, s_ldc2_w, s_aconst_null, s_dupA, s_dupI, s_dup2, s_iadd, s_isub, s_imul, s_iand, s_ior, s_ixor, s_ishl, s_ishr, s_iushr, s_ineg, s_idiv, s_irem, s_ladd, s_lsub, s_lmul, s_land, s_lor, s_lxor, s_ldiv, s_lshl, s_lshr, s_lushr, s_i2l, s_l2i, s_lcmp, s_goto, s_ieq, s_ine, s_ilt, s_ige, s_igt, s_ile, s_zeq, s_zne, s_zlt, s_zge, s_zgt, s_zle, s_ifnull, s_ifnullN, s_ifnonnull, s_ifnonnullN, s_tableswitch, s_lookupswitch, s_getfield, s_putfield, s_getstatic, s_iaload, s_laload, s_baload, s_aaload, s_iastore, s_lastore, s_bastore, s_aastore, s_arraylength, s_newI, s_newJ, s_newZ, s_anewarray, s_new, s_copy, s_max, s_min, s_invokestatic, s_objinit, s_invokespecial, kf_isr_r, s_invokevirtual, s_ireturn, s_lreturn, s_areturn, s_areturnN, s_return, lI_0, lI_s, lJ_0, lJ_s, lA_0, lA_0N, lA_s, lS1_0, lS1_1, lS1_2, lS2_0, lS2_1, lS2_2, lK_n, lK_i, lK_j, lK_a, lK_N, d_C', kf_w_0, kf_w_i, kf_w_a, kf_w_n, kf_w_j, c_0, c_1, c_2, c_3, c_4, c_5, c_6, tl_0, tl_1, Option.bind_some, Option.bind_none, Option.map_some, Nat.reduceAdd, Nat.reduceMul, Nat.reduceDiv, Nat.reduceMod, Int.reduceToNat, Fin.val_zero, Fin.isValue, Fin.val_one, Fin.val_two, fv_0, fv_1, fv_2, fv_3, fw_0, fw_1, d_ite, true_or, or_true, and_false, false_and, or_self, and_self, nf_1, nf_2, nf_3, nf_4, nf_5, nf_6, nf_7, nf_8, nf_9, nf_a, nf_b, nf_c, nf_d, nf_e, nf_f, nf_g, nf_h, nf_i, nf_j, nf_k, ow_68, fobF, g, rcT, h2, z1], hE0, h, Off.rf⟩
    · rw [if_neg a2] at h2
      by_cases a3 : kdm m 3 = 0
      · rw [if_pos a3] at h3
        have eA : pinA cs m V = 20 := by unfold pinA; rw [if_neg c1, if_pos (by omega)]
        have eV : pinV cs m V = V := by unfold pinV; rw [if_neg c1, if_pos (by omega)]
        rw [eA, eV, k_]
        exact ⟨M, by simp only [cl_117, e117_0, e117_1, e117_2, e117_5, e117_6, e117_7, e117_10, e117_11, e117_12, e117_13, e117_14, e117_17, e117_18, e117_21, e117_22, e117_23, e117_24, e117_25, e117_28, e117_29, e117_30, e117_33, e117_34, e117_37, e117_38, e117_39, e117_40, e117_43, e117_44, e117_47, e117_48, e117_51, e117_54, e117_55, e117_58, e117_59, e117_62, e117_63, e117_66, e117_69, e117_71, e117_72, e117_73, e117_76, e117_77, e117_80, e117_81, e117_84, e117_85, e117_88, e117_89, e117_90, e117_93, e117_94, e117_97, e117_100, e117_103, e117_105, e117_108, e117_109, ow_117, Int32.reduceOfInt, Int32.reduceOfNat, Int32.reduceToNatClampNeg, Int32.reduceLT, Int32.reduceLE, Int32.reduceAdd, Int32.reduceSub, Int32.reduceMul, Int64.reduceOfNat, Int64.reduceOfInt, Nat.reduceLeDiff, Nat.reduceLT, Nat.reduceEqDiff, Nat.reduceSub, cs_0, cs_1, cs_2, cs_3, cs_4, cs_5, cs_6, cs_7, cs_8, or_false, false_or, not_false_eq_true, and_true, true_and, if_true, if_false, List.length_cons, List.length_nil, List.getElem?_cons_succ, List.getElem?_cons_zero, List.set_cons_succ, List.set_cons_zero, reduceIte, d_G, d_R, s_aload, s_aload_n, s_iload, s_iload_n, s_lload, s_lload_n, s_istore, s_istore_n, s_astore, s_astoreN, s_astore_n, s_astore_nN, s_lstore, s_lstore_n, s_iinc, s_iconst, s_bipush, s_sipush, s_lconst, s_ldc2_w, s_aconst_null, s_dupA, s_dupI, s_dup2, s_iadd, s_isub, s_imul, s_iand, s_ior, s_ixor, s_ishl, s_ishr, s_iushr, s_ineg, s_idiv, s_irem, s_ladd, s_lsub, s_lmul, s_land, s_lor, s_lxor, s_ldiv, s_lshl, s_lshr, s_lushr, s_i2l, s_l2i, s_lcmp, s_goto, s_ieq, s_ine, s_ilt, s_ige, s_igt, s_ile, s_zeq, s_zne, s_zlt, s_zge, s_zgt, s_zle, s_ifnull, s_ifnullN, s_ifnonnull, s_ifnonnullN, s_tableswitch, s_lookupswitch, s_getfield, s_putfield, s_getstatic, s_iaload, s_laload, s_baload, s_aaload, s_iastore, s_lastore, s_bastore, s_aastore, s_arraylength, s_newI, s_newJ, s_newZ, s_anewarray, s_new, s_copy, s_max, s_min, s_invokestatic, s_objinit, s_invokespecial, kf_isr_r, s_invokevirtual, s_ireturn, s_lreturn, s_areturn, s_areturnN, s_return, lI_0, lI_s, lJ_0, lJ_s, lA_0, lA_0N, lA_s, lS1_0, lS1_1, lS1_2, lS2_0, lS2_1, lS2_2, lK_n, lK_i, lK_j, lK_a, lK_N, d_C', kf_w_0, kf_w_i, kf_w_a, kf_w_n, kf_w_j, c_0, c_1, c_2, c_3, c_4, c_5, c_6, tl_0, tl_1, Option.bind_some, Option.bind_none, Option.map_some, Nat.reduceAdd, Nat.reduceMul, Nat.reduceDiv, Nat.reduceMod, Int.reduceToNat, Fin.val_zero, Fin.isValue, Fin.val_one, Fin.val_two, fv_0, fv_1, fv_2, fv_3, fw_0, fw_1, d_ite, true_or, or_true, and_false, false_and, or_self, and_self, nf_1, nf_2, nf_3, nf_4, nf_5, nf_6, nf_7, nf_8, nf_9, nf_a, nf_b, nf_c, nf_d, nf_e, nf_f, nf_g, nf_h, nf_i, nf_j, nf_k, ow_68, fobF, g, rcT, h2, h3, z1], hE0, h, Off.rf⟩
      · rw [if_neg a3] at h3
        obtain ⟨M1, k1, E1, T1, o1⟩ := old a2
        have eA : pinA cs m V = tryA V.2.1 (rowOf cs m 2) V.2.2.2.2.1 V.2.2.2.2.2.1 V.2.2.2.2.2.2 := by unfold pinA; rw [if_neg c1, if_neg (by omega), if_pos (by omega)]
        have eV : pinV cs m V = (V.1, V.2.1, V.2.2.1, V.2.2.2.1, tryT V.2.1 (rowOf cs m 2) V.2.2.2.2.1 V.2.2.2.2.2.1 V.2.2.2.2.2.2, tryI V.2.1 (rowOf cs m 2) V.2.2.2.2.1 V.2.2.2.2.2.1 V.2.2.2.2.2.2, V.2.2.2.2.2.2) := by unfold pinV; rw [if_neg c1, if_neg (by omega), if_pos (by omega)]
        rw [eA, eV, k_]
        exact ⟨M1, by simp only [cl_117, e117_0, e117_1, e117_2, e117_5, e117_6, e117_7, e117_10, e117_11, e117_12, e117_13, e117_14, e117_17, e117_18, e117_21, e117_22, e117_23, e117_24, e117_25, e117_28, e117_29, e117_30, e117_33, e117_34, e117_37, e117_38, e117_39, e117_40, e117_43, e117_44, e117_47, e117_48, e117_51, e117_54, e117_55, e117_58, e117_59, e117_62, e117_63, e117_66, e117_69, e117_71, e117_72, e117_73, e117_76, e117_77, e117_80, e117_81, e117_84, e117_85, e117_88, e117_89, e117_90, e117_93, e117_94, e117_97, e117_100, e117_103, e117_105, e117_108, e117_109, ow_117, Int32.reduceOfInt, Int32.reduceOfNat, Int32.reduceToNatClampNeg, Int32.reduceLT, Int32.reduceLE, Int32.reduceAdd, Int32.reduceSub, Int32.reduceMul, Int64.reduceOfNat, Int64.reduceOfInt, Nat.reduceLeDiff, Nat.reduceLT, Nat.reduceEqDiff, Nat.reduceSub, cs_0, cs_1, cs_2, cs_3, cs_4, cs_5, cs_6, cs_7, cs_8, or_false, false_or, not_false_eq_true, and_true, true_and, if_true, if_false, List.length_cons, List.length_nil, List.getElem?_cons_succ, List.getElem?_cons_zero, List.set_cons_succ, List.set_cons_zero, reduceIte, d_G, d_R, s_aload, s_aload_n, s_iload, s_iload_n, s_lload, s_lload_n, s_istore, s_istore_n, s_astore, s_astoreN, s_astore_n, s_astore_nN, s_lstore, s_lstore_n, s_iinc, s_iconst, s_bipush, s_sipush, s_lconst, s_ldc2_w, s_aconst_null, s_dupA, s_dupI, s_dup2, s_iadd, s_isub, s_imul, s_iand, s_ior, s_ixor, s_ishl, s_ishr, s_iushr, s_ineg, s_idiv, s_irem, s_ladd, s_lsub, s_lmul, s_land, s_lor, s_lxor, s_ldiv, s_lshl, s_lshr, s_lushr, s_i2l, s_l2i, s_lcmp, s_goto, s_ieq, s_ine, s_ilt, s_ige, s_igt, s_ile, s_zeq, s_zne, s_zlt, s_zge, s_zgt, s_zle, s_ifnull, s_ifnullN, s_ifnonnull, s_ifnonnullN, s_tableswitch, s_lookupswitch, s_getfield, s_putfield, s_getstatic, s_iaload, s_laload, s_baload, s_aaload, s_iastore, s_lastore, s_bastore, s_aastore, s_arraylength, s_newI, s_newJ, s_newZ, s_anewarray, s_new, s_copy, s_max, s_min, s_invokestatic, s_objinit, s_invokespecial, kf_isr_r, s_invokevirtual, s_ireturn, s_lreturn, s_areturn, s_areturnN, s_return, lI_0, lI_s, lJ_0, lJ_s, lA_0, lA_0N, lA_s, lS1_0, lS1_1, lS1_2, lS2_0, lS2_1, lS2_2, lK_n, lK_i, lK_j, lK_a, lK_N, d_C', kf_w_0, kf_w_i, kf_w_a, kf_w_n, kf_w_j, c_0, c_1, c_2, c_3, c_4, c_5, c_6, tl_0, tl_1, Option.bind_some, Option.bind_none, Option.map_some, Nat.reduceAdd, Nat.reduceMul, Nat.reduceDiv, Nat.reduceMod, Int.reduceToNat, Fin.val_zero, Fin.isValue, Fin.val_one, Fin.val_two, fv_0, fv_1, fv_2, fv_3, fw_0, fw_1, d_ite, true_or, or_true, and_false, false_and, or_self, and_self, nf_1, nf_2, nf_3, nf_4, nf_5, nf_6, nf_7, nf_8, nf_9, nf_a, nf_b, nf_c, nf_d, nf_e, nf_f, nf_g, nf_h, nf_i, nf_j, nf_k, ow_68, ow_91, fobF, g, rcT, rv, h2, h3, z1, k1], E1, T1, o1⟩
  · by_cases a2 : kdm m 2 = 0
    · rw [if_pos a2] at h2
      have eA : pinA cs m V = 20 := by unfold pinA; rw [if_neg c1, if_pos (by omega)]
      have eV : pinV cs m V = V := by unfold pinV; rw [if_neg c1, if_pos (by omega)]
      rw [eA, eV, k_]
      exact ⟨M, by simp only [cl_117, e117_0, e117_1, e117_2, e117_5, e117_6, e117_7, e117_10, e117_11, e117_12, e117_13, e117_14, e117_17, e117_18, e117_21, e117_22, e117_23, e117_24, e117_25, e117_28, e117_29, e117_30, e117_33, e117_34, e117_37, e117_38, e117_39, e117_40, e117_43, e117_44, e117_47, e117_48, e117_51, e117_54, e117_55, e117_58, e117_59, e117_62, e117_63, e117_66, e117_69, e117_71, e117_72, e117_73, e117_76, e117_77, e117_80, e117_81, e117_84, e117_85, e117_88, e117_89, e117_90, e117_93, e117_94, e117_97, e117_100, e117_103, e117_105, e117_108, e117_109, ow_117, Int32.reduceOfInt, Int32.reduceOfNat, Int32.reduceToNatClampNeg, Int32.reduceLT, Int32.reduceLE, Int32.reduceAdd, Int32.reduceSub, Int32.reduceMul, Int64.reduceOfNat, Int64.reduceOfInt, Nat.reduceLeDiff, Nat.reduceLT, Nat.reduceEqDiff, Nat.reduceSub, cs_0, cs_1, cs_2, cs_3, cs_4, cs_5, cs_6, cs_7, cs_8, or_false, false_or, not_false_eq_true, and_true, true_and, if_true, if_false, List.length_cons, List.length_nil, List.getElem?_cons_succ, List.getElem?_cons_zero, List.set_cons_succ, List.set_cons_zero, reduceIte, d_G, d_R, s_aload, s_aload_n, s_iload, s_iload_n, s_lload, s_lload_n, s_istore, s_istore_n, s_astore, s_astoreN, s_astore_n, s_astore_nN, s_lstore, s_lstore_n, s_iinc, s_iconst, s_bipush, s_sipush, s_lconst, s_ldc2_w, s_aconst_null, s_dupA, s_dupI, s_dup2, s_iadd, s_isub, s_imul, s_iand, s_ior, s_ixor, s_ishl, s_ishr, s_iushr, s_ineg, s_idiv, s_irem, s_ladd, s_lsub, s_lmul, s_land, s_lor, s_lxor, s_ldiv, s_lshl, s_lshr, s_lushr, s_i2l, s_l2i, s_lcmp, s_goto, s_ieq, s_ine, s_ilt, s_ige, s_igt, s_ile, s_zeq, s_zne, s_zlt, s_zge, s_zgt, s_zle, s_ifnull, s_ifnullN, s_ifnonnull, s_ifnonnullN, s_tableswitch, s_lookupswitch, s_getfield, s_putfield, s_getstatic, s_iaload, s_laload, s_baload, s_aaload, s_iastore, s_lastore, s_bastore, s_aastore, s_arraylength, s_newI, s_newJ, s_newZ, s_anewarray, s_new, s_copy, s_max, s_min, s_invokestatic, s_objinit, s_invokespecial, kf_isr_r, s_invokevirtual, s_ireturn, s_lreturn, s_areturn, s_areturnN, s_return, lI_0, lI_s, lJ_0, lJ_s, lA_0, lA_0N, lA_s, lS1_0, lS1_1, lS1_2, lS2_0, lS2_1, lS2_2, lK_n, lK_i, lK_j, lK_a, lK_N, d_C', kf_w_0, kf_w_i, kf_w_a, kf_w_n, kf_w_j, c_0, c_1, c_2, c_3, c_4, c_5, c_6, tl_0, tl_1, Option.bind_some, Option.bind_none, Option.map_some, Nat.reduceAdd, Nat.reduceMul, Nat.reduceDiv, Nat.reduceMod, Int.reduceToNat, Fin.val_zero, Fin.isValue, Fin.val_one, Fin.val_two, fv_0, fv_1, fv_2, fv_3, fw_0, fw_1, d_ite, true_or, or_true, and_false, false_and, or_self, and_self, nf_1, nf_2, nf_3, nf_4, nf_5, nf_6, nf_7, nf_8, nf_9, nf_a, nf_b, nf_c, nf_d, nf_e, nf_f, nf_g, nf_h, nf_i, nf_j, nf_k, ow_68, fobF, g, rcT, h2, z1], hE0, h, Off.rf⟩
    · rw [if_neg a2] at h2
      obtain ⟨M1, k1, E1, T1, o1⟩ := old a2
      have eA : pinA cs m V = tryA V.2.1 (rowOf cs m 2) V.2.2.2.2.1 V.2.2.2.2.2.1 V.2.2.2.2.2.2 := by unfold pinA; rw [if_neg c1, if_neg (by omega), if_pos (by omega)]
      have eV : pinV cs m V = (V.1, V.2.1, V.2.2.1, V.2.2.2.1, tryT V.2.1 (rowOf cs m 2) V.2.2.2.2.1 V.2.2.2.2.2.1 V.2.2.2.2.2.2, tryI V.2.1 (rowOf cs m 2) V.2.2.2.2.1 V.2.2.2.2.2.1 V.2.2.2.2.2.2, V.2.2.2.2.2.2) := by unfold pinV; rw [if_neg c1, if_neg (by omega), if_pos (by omega)]
      rw [eA, eV, k_]
      exact ⟨M1, by simp only [cl_117, e117_0, e117_1, e117_2, e117_5, e117_6, e117_7, e117_10, e117_11, e117_12, e117_13, e117_14, e117_17, e117_18, e117_21, e117_22, e117_23, e117_24, e117_25, e117_28, e117_29, e117_30, e117_33, e117_34, e117_37, e117_38, e117_39, e117_40, e117_43, e117_44, e117_47, e117_48, e117_51, e117_54, e117_55, e117_58, e117_59, e117_62, e117_63, e117_66, e117_69, e117_71, e117_72, e117_73, e117_76, e117_77, e117_80, e117_81, e117_84, e117_85, e117_88, e117_89, e117_90, e117_93, e117_94, e117_97, e117_100, e117_103, e117_105, e117_108, e117_109, ow_117, Int32.reduceOfInt, Int32.reduceOfNat, Int32.reduceToNatClampNeg, Int32.reduceLT, Int32.reduceLE, Int32.reduceAdd, Int32.reduceSub, Int32.reduceMul, Int64.reduceOfNat, Int64.reduceOfInt, Nat.reduceLeDiff, Nat.reduceLT, Nat.reduceEqDiff, Nat.reduceSub, cs_0, cs_1, cs_2, cs_3, cs_4, cs_5, cs_6, cs_7, cs_8, or_false, false_or, not_false_eq_true, and_true, true_and, if_true, if_false, List.length_cons, List.length_nil, List.getElem?_cons_succ, List.getElem?_cons_zero, List.set_cons_succ, List.set_cons_zero, reduceIte, d_G, d_R, s_aload, s_aload_n, s_iload, s_iload_n, s_lload, s_lload_n, s_istore, s_istore_n, s_astore, s_astoreN, s_astore_n, s_astore_nN, s_lstore, s_lstore_n, s_iinc, s_iconst, s_bipush, s_sipush, s_lconst, s_ldc2_w, s_aconst_null, s_dupA, s_dupI, s_dup2, s_iadd, s_isub, s_imul, s_iand, s_ior, s_ixor, s_ishl, s_ishr, s_iushr, s_ineg, s_idiv, s_irem, s_ladd, s_lsub, s_lmul, s_land, s_lor, s_lxor, s_ldiv, s_lshl, s_lshr, s_lushr, s_i2l, s_l2i, s_lcmp, s_goto, s_ieq, s_ine, s_ilt, s_ige, s_igt, s_ile, s_zeq, s_zne, s_zlt, s_zge, s_zgt, s_zle, s_ifnull, s_ifnullN, s_ifnonnull, s_ifnonnullN, s_tableswitch, s_lookupswitch, s_getfield, s_putfield, s_getstatic, s_iaload, s_laload, s_baload, s_aaload, s_iastore, s_lastore, s_bastore, s_aastore, s_arraylength, s_newI, s_newJ, s_newZ, s_anewarray, s_new, s_copy, s_max, s_min, s_invokestatic, s_objinit, s_invokespecial, kf_isr_r, s_invokevirtual, s_ireturn, s_lreturn, s_areturn, s_areturnN, s_return, lI_0, lI_s, lJ_0, lJ_s, lA_0, lA_0N, lA_s, lS1_0, lS1_1, lS1_2, lS2_0, lS2_1, lS2_2, lK_n, lK_i, lK_j, lK_a, lK_N, d_C', kf_w_0, kf_w_i, kf_w_a, kf_w_n, kf_w_j, c_0, c_1, c_2, c_3, c_4, c_5, c_6, tl_0, tl_1, Option.bind_some, Option.bind_none, Option.map_some, Nat.reduceAdd, Nat.reduceMul, Nat.reduceDiv, Nat.reduceMod, Int.reduceToNat, Fin.val_zero, Fin.isValue, Fin.val_one, Fin.val_two, fv_0, fv_1, fv_2, fv_3, fw_0, fw_1, d_ite, true_or, or_true, and_false, false_and, or_self, and_self, nf_1, nf_2, nf_3, nf_4, nf_5, nf_6, nf_7, nf_8, nf_9, nf_a, nf_b, nf_c, nf_d, nf_e, nf_f, nf_g, nf_h, nf_i, nf_j, nf_k, ow_68, ow_91, fobF, g, rcT, rv, h2, z1, k1], E1, T1, o1⟩
end CCMD
