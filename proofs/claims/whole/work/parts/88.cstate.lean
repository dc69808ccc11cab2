/-! The class's state -/
def CC : List Nat := List.range' 19 265
theorem Off.cc {M M' : kf_M} {A : List Nat} (h : Off A M M') (hA : ∀ a ∈ A, 19 ≤ a ∧ a ≤ 283) : Off CC M M' := h.wk (fun a ha => by
  have := hA a ha
  unfold CC
  rw [List.mem_range'_1]
  omega)
def fobF (fl tc : Int32) : List Value := [.ref 20, .ref 28, .ref 30, .ref 32, .ref 40, .ref 102, .ref 104, .ref 278, .ref 281, .ref 282, .ref 283, .int fl, .int tc]
def FbO (M : kf_M) (fl tc : Int32) : Prop := M[19]? = some (oO 11 (fobF fl tc))
theorem FbO.rc {M : kf_M} {fl tc : Int32} (h : FbO M fl tc) : kf_rcv M 11 (some (.ref 19)) = true := kf_rcv_ok (gO_of h)
theorem FbO.off {M M' : kf_M} {A : List Nat} {fl tc : Int32} (h : FbO M fl tc) (ho : Off A M M') (h0 : 19 ∉ A) : FbO M' fl tc := ho.at h0 h
def StC (M : kf_M) : Prop := SH M ∧ M[9]? = some (oI sx_9) ∧ M[10]? = some (oI sx_10) ∧ M[11]? = some (oI sx_11)
theorem StC.off {M M' : kf_M} {A : List Nat} (h : StC M) (ho : Off A M M') (hA : ∀ a ∈ A, 19 ≤ a) : StC M' := by
  have n : ∀ c, c < 19 → c ∉ A := fun c hc w => by have := hA _ w; omega
  exact ⟨h.1.off ho (n 0 (by omega)) (n 1 (by omega)), ho.at (n 9 (by omega)) h.2.1, ho.at (n 10 (by omega)) h.2.2.1, ho.at (n 11 (by omega)) h.2.2.2⟩
abbrev Gs : Type := Int32 × Option (List Int32 × Nat)
def SgAll (M : kf_M) (G : Gs) : Prop := ∃ cf own dig sig, SgO M G.1 cf ∧ SgK M ∧ SgQ M cf own ∧ HA M 193 ∧ ArI M 196 64 sig ∧ ArI M 197 32 dig ∧ ArI M 198 64 own ∧ (∃ r, ArI M 264 64 r) ∧ (match G.2 with | none => G.1 = 0 | some e => sig = sgB (nBL 32 e.2) e.1 ∧ dig = e.1 ∧ own = kPt e.2 ∧ isB e.1 ∧ e.1.length = 32 ∧ 0 < e.2 ∧ e.2 < nN)
theorem SgAll.off {M M' : kf_M} {A : List Nat} {G : Gs} (h : SgAll M G) (ho : Off A M M') (hA : ∀ x ∈ A, x ≠ 4 ∧ (x < 104 ∨ 277 < x)) : SgAll M' G := by
  obtain ⟨cf, own, dig, sig, h1, h2, h3, h4, h5, h6, h7, ⟨r, h8⟩, h9⟩ := h
  have n : ∀ c, 104 ≤ c → c ≤ 277 → c ∉ A := fun c hc hd w => by have := hA _ w; omega
  exact ⟨cf, own, dig, sig, ho.at (n 104 (by omega) (by omega)) h1, h2.off ho (fun x hx => by have := hA x hx; omega), h3.off ho (fun x hx => by have := hA x hx; omega), h4.off ho (n 193 (by omega) (by omega)) (n 194 (by omega) (by omega)) (n 195 (by omega) (by omega)), h5.off ho (n 196 (by omega) (by omega)), h6.off ho (n 197 (by omega) (by omega)), h7.off ho (n 198 (by omega) (by omega)), ⟨r, h8.off ho (n 264 (by omega) (by omega))⟩, h9⟩
def QW (M : kf_M) (σ : List Nat) (wt : List Nat) (n : Nat) : Prop := ∃ f t qs, QIs M 102 f t qs ∧ t = f + wt.length ∧ ∀ (i w : Nat), wt[i]? = some w → qs[f + i]? = some (some (σ.getD w 0)) ∧ w < n
theorem QW.off {M M' : kf_M} {A σ wt : List Nat} {n : Nat} (h : QW M σ wt n) (ho : Off A M M') (h1 : 102 ∉ A) (h2 : 103 ∉ A) : QW M' σ wt n := by
  obtain ⟨f, t, qs, a1, a2⟩ := h
  exact ⟨f, t, qs, a1.off ho h1 h2, a2⟩
theorem QW.rc {M : kf_M} {σ wt : List Nat} {n : Nat} (h : QW M σ wt n) : kf_rcv M 5 (some (.ref 102)) = true := by
  obtain ⟨f, t, qs, a1, a2⟩ := h
  exact a1.rc
theorem QW.clr {M : kf_M} {σ wt : List Nat} {n : Nat} (h : QW M σ wt n) : ∃ M', kf_cl 37 [.ref 102] M = some (none, M') ∧ (∀ τ k, QW M' τ [] k) ∧ Off [102, 103] M M' := by
  obtain ⟨f, t, qs, a1, a2⟩ := h
  obtain ⟨M', k, q, o⟩ := c37 a1
  exact ⟨M', k, fun τ k => ⟨0, 0, qs, q, rfl, fun i w hw => by cases hw⟩, o⟩
theorem RgIs.off {M M' : kf_M} {A : List Nat} {a n : Nat} {rs : List (Option Nat)} (h : RgIs M a n rs) (ho : Off A M M') (h0 : a ∉ A) (h1 : a + 1 ∉ A) : RgIs M' a n rs := ⟨ho.at h0 h.1, ho.at h1 h.2.1, h.2.2⟩
theorem RgIs.rc {M : kf_M} {a n : Nat} {rs : List (Option Nat)} (h : RgIs M a n rs) : kf_rcv M 6 (some (.ref a)) = true := kf_rcv_ok (gO_of h.1)
abbrev Vs : Type := List Int32 × List Int32 × List Int32 × Int32 × Int32 × Int32 × Int32
def VV (M : kf_M) (V : Vs) : Prop := VtIs M V.1 V.2.1 V.2.2.1 V.2.2.2.1 V.2.2.2.2.1 V.2.2.2.2.2.1 V.2.2.2.2.2.2 ∧ isB V.1 ∧ isB V.2.1 ∧ isB V.2.2.1 ∧ (V.2.2.2.2.2.2 = 0 ∨ V.2.2.2.2.2.2 = 1) ∧ ∃ j : Nat, j ≤ 8 ∧ V.2.2.2.2.1 = nI j
theorem VV.off {M M' : kf_M} {A : List Nat} {V : Vs} (h : VV M V) (ho : Off A M M') (hA : ∀ a ∈ A, a < 32 ∨ 39 < a) : VV M' V := ⟨h.1.off ho hA, h.2⟩
abbrev Ws : Type := List Nat × List Int32 × Int32
def CW (W : Ws) (wd : List Int32) (fl : Int32) : Prop := W.1 ≠ [] → wd = W.2.1 ∧ fl = W.2.2 ∧ isB wd ∧ ∃ c, c < 256 ∧ fl = nI c
/-- the state of the class: tape, reply, vault, touched, keys, those that wait, signatures -/
def CI (M : kf_M) (tp ou : List Int32) (V : Vs) (tc : Int32) (ks : List Ky) (W : Ws) (G : Gs) : Prop := ∃ fl σ da hs sd wd, StC M ∧ FbO M fl tc ∧ (TJ M tp ∧ isB tp) ∧ (RowIs M 28 200 ou ∧ isB ou) ∧ RowIs M 30 200 da ∧ VV M V ∧ RgIs M 40 ks.length (σ.map some) ∧ KS M σ ks ∧ QW M σ W.1 ks.length ∧ SgAll M G ∧ HA M 278 ∧ ArI M 281 32 hs ∧ ArI M 282 32 sd ∧ ArI M 283 32 wd ∧ CW W wd fl ∧ (tc = 0 ∨ tc = 1)
theorem CI.rc {M : kf_M} {tp ou : List Int32} {V : Vs} {tc : Int32} {ks : List Ky} {W : Ws} {G : Gs} (h : CI M tp ou V tc ks W G) : kf_rcv M 11 (some (.ref 19)) = true := by
  obtain ⟨fl, σ, da, hs, sd, wd, -, h2, -⟩ := h
  exact h2.rc
theorem TJ.row {M : kf_M} {cs : List Int32} (h : TJ M cs) : RowIs M 21 400 cs ∧ ∃ it pl, M[20]? = some (oO 9 [.ref 21, .ref 23, .ref 24, .ref 25, .ref 26, .ref 27, .int it, .int pl]) := by
  obtain ⟨K, S, Z, I, J, it, pl, h, hr⟩ := h
  exact ⟨hr, nI it, nI pl, h.1⟩
theorem TJ.set {M M' : kf_M} {cs cs' : List Int32} (h : TJ M cs) (ho : Off [21, 22] M M') (hr : RowIs M' 21 400 cs') : TJ M' cs' := by
  obtain ⟨K, S, Z, I, J, it, pl, h, -⟩ := h
  exact ⟨K, S, Z, I, J, it, pl, h.off ho (by decide), hr⟩
/-! feed, trim, out, keep, touch -/
def w4 (x : Int32) : List Int32 := [sh32 x 24 &&& 255, sh32 x 16 &&& 255, sh32 x 8 &&& 255, sh32 x 0 &&& 255]
theorem w4_len {x : Int32} : (w4 x).length = 4 := rfl
theorem isB_and {x : Int32} : ∃ c, c < 256 ∧ x &&& 255 = nI c := pk_andE x (m := 255) 8 rfl
theorem w4_b {x : Int32} : isB (w4 x) := by
  intro y hy
  simp only [w4, List.mem_cons, List.not_mem_nil, or_false] at hy
  rcases hy with rfl | rfl | rfl | rfl <;> exact isB_and
theorem sh_eq (x : Int32) {s : Nat} (hs : s ≤ 24) (h32 : ((nI s &&& 31).toBitVec.smod 32).toNat = s) : sh64 x.toInt64 (nI s) &&& 255 = sh32 x (nI s) &&& 255 := by
  unfold sh64 sh32
  rw [pk_and _ (m := 255) 8 rfl, pk_and _ (m := 255) 8 rfl]
  congr 1
  show uw _ % 2 ^ 8 = uw _ % 2 ^ 8
  have h1 := uw_l (x.toInt64 >>> ((nI s).toInt64 &&& 63))
  rw [jshr _ (by omega), Int32.toInt_toInt64] at h1
  have h2 := uw_int (x >>> (nI s &&& 31))
  rw [pk_shr x _ _ h32, Int.shiftRight_eq_div_pow, show ((2 ^ s : Nat) : Int) = 2 ^ s from Int.natCast_pow 2 s] at h2
  rw [← h1] at h2
  omega
theorem w4_eq (x : Int32) : [sh64 x.toInt64 24 &&& 255, sh64 x.toInt64 16 &&& 255, sh64 x.toInt64 8 &&& 255, sh64 x.toInt64 0 &&& 255] = w4 x := by
  unfold w4
  have a := sh_eq x (s := 24) (by decide) (by decide)
  have b := sh_eq x (s := 16) (by decide) (by decide)
  have c := sh_eq x (s := 8) (by decide) (by decide)
  have d := sh_eq x (s := 0) (by decide) (by decide)
  rw [show nI 24 = 24 from rfl] at a
  rw [show nI 16 = 16 from rfl] at b
  rw [show nI 8 = 8 from rfl] at c
  rw [show nI 0 = 0 from rfl] at d
  rw [a, b, c, d]
theorem put4 {M : kf_M} {cs : List Int32} (x : Int32) (h : RowIs M 21 400 cs) (hn : cs.length + 4 ≤ 400) : ∃ M', kf_cl 52 [.ref 21, .long x.toInt64] M = some (none, M') ∧ RowIs M' 21 400 (cs ++ w4 x) ∧ Off [21, 22] M M' := by
  obtain ⟨M', k, r, o⟩ := c52 (x := x.toInt64) h (by decide) hn (by decide)
  rw [w4_eq] at r
  exact ⟨M', k, r, o⟩
section CPUB
variable {M : kf_M} {tp ou : List Int32} {V : Vs} {tc : Int32} {ks : List Ky} {W : Ws} {G : Gs}
theorem CI.tape {M' : kf_M} {tp' : List Int32} (h : CI M tp ou V tc ks W G) (ho : Off [21, 22] M M') (hr : RowIs M' 21 400 tp') (hb : isB tp') : CI M' tp' ou V tc ks W G := by
  obtain ⟨fl, σ, da, hs, sd, wd, b1, b2, ⟨b3, b3b⟩, ⟨b4, b4b⟩, b5, b6, b7, b8, b9, b10, b11, b12, b13, b14, b15, b16⟩ := h
  exact ⟨fl, σ, da, hs, sd, wd, b1.off ho (by decide), b2.off ho (by decide), ⟨b3.set ho hr, hb⟩, ⟨b4.off ho (by decide) (by decide), b4b⟩, b5.off ho (by decide) (by decide), b6.off ho (by decide), b7.off ho (by decide) (by decide), b8.off ho (by decide), b9.off ho (by decide) (by decide), b10.off ho (by decide), b11.off ho (by decide) (by decide) (by decide), b12.off ho (by decide), b13.off ho (by decide), b14.off ho (by decide), b15, b16⟩
def feedT (tp : List Int32) (a b c d e : Int32) : List Int32 := if tp.length + 20 ≤ 400 then tp ++ w4 a ++ w4 b ++ w4 c ++ w4 d ++ w4 e else tp
def feedA (tp : List Int32) : Int32 := if tp.length + 20 ≤ 400 then nI (tp.length + 20) else -5
theorem C96 {a b c d e : Int32} (h : CI M tp ou V tc ks W G) : ∃ M', kf_cl 96 [.ref 19, .int a, .int b, .int c, .int d, .int e] M = some (some (.int (feedA tp)), M') ∧ CI M' (feedT tp a b c d e) ou V tc ks W G ∧ Off CC M M' := by
  have h0 := h
  obtain ⟨fl, σ, da, hs, sd, wd, b1, b2, ⟨b3, b3b⟩, -⟩ := h
  obtain ⟨r0, it, pl, t0⟩ := b3.row
  have hle := r0.le
  have g := gO_of b2
  have gt := gO_of t0
  unfold feedT feedA
  by_cases hc : tp.length + 20 ≤ 400
  · rw [if_pos hc, if_pos hc]
    have k0 := c48p (n := 20) r0 (by decide) (by omega)
    rw [show nI 20 = 20 from rfl] at k0
    have z1 : ¬ (1 : Int32) = 0 := by decide
    obtain ⟨M1, k1, r1, o1⟩ := put4 a r0 (by omega)
    have g1 := gO_of (b2.off o1 (by decide))
    have gt1 := gO_of (o1.at (by decide) t0)
    obtain ⟨M2, k2, r2, o2⟩ := put4 b r1 (by rw [List.length_append, w4_len]; omega)
    have o12 := o1.tr o2
    have g2 := gO_of (b2.off o12 (by decide))
    have gt2 := gO_of (o12.at (by decide) t0)
    obtain ⟨M3, k3, r3, o3⟩ := put4 c r2 (by rw [List.length_append, List.length_append, w4_len, w4_len]; omega)
    have o13 := o12.tr o3
    have g3 := gO_of (b2.off o13 (by decide))
    have gt3 := gO_of (o13.at (by decide) t0)
    obtain ⟨M4, k4, r4, o4⟩ := put4 d r3 (by rw [List.length_append, List.length_append, List.length_append, w4_len, w4_len, w4_len]; omega)
    have o14 := o13.tr o4
    have g4 := gO_of (b2.off o14 (by decide))
    have gt4 := gO_of (o14.at (by decide) t0)
    obtain ⟨M5, k5, r5, o5⟩ := put4 e r4 (by rw [List.length_append, List.length_append, List.length_append, List.length_append, w4_len, w4_len, w4_len, w4_len]; omega)
    have o15 := o14.tr o5
    have g5 := gO_of (b2.off o15 (by decide))
    have gt5 := gO_of (o15.at (by decide) t0)
    have l5 : (tp ++ w4 a ++ w4 b ++ w4 c ++ w4 d ++ w4 e).length = tp.length + 20 := by
      rw [List.length_append, List.length_append, List.length_append, List.length_append, List.length_append, w4_len, w4_len, w4_len, w4_len, w4_len]
    obtain ⟨bs5, q1_, q2_, q3_, q4_⟩ := id r5
    rw [l5] at q1_
    have gr5 := gO_of q1_
    have rc0 := r0.rc
    have rc1 := r1.rc
    have rc2 := r2.rc
    have rc3 := r3.rc
    have rc4 := r4.rc
    refine ⟨M5, ?_, h0.tape o15 r5 (isB_app (isB_app (isB_app (isB_app (isB_app b3b w4_b) w4_b) w4_b) w4_b) w4_b), o15.cc (by decide)⟩
    simp only [cl_96, e96_0, e96_1, e96_4, e96_7, e96_9, e96_12, e96_15, e96_17, e96_18, e96_19, e96_22, e96_25, e96_26, e96_27, e96_30, e96_31, e96_34, e96_37, e96_38, e96_39, e96_42, e96_43, e96_46, e96_49, e96_50, e96_51, e96_54, e96_55, e96_58, e96_61, e96_63, e96_64, e96_67, e96_68, e96_71, e96_74, e96_76, e96_77, e96_80, e96_81, e96_84, e96_87, e96_90, ow_96, Int32.reduceOfInt, Int32.reduceOfNat, Int32.reduceToNatClampNeg, Int32.reduceLT, Int32.reduceLE, Int32.reduceAdd, Int32.reduceSub, Int32.reduceMul, Int64.reduceOfNat, Int64.reduceOfInt, Nat.reduceLeDiff, Nat.reduceLT, Nat.reduceEqDiff, Nat.reduceSub, cs_0, cs_1, cs_2, cs_3, cs_4, cs_5, cs_6, cs_7, cs_8, or_false, false_or, not_false_eq_true, and_true, true_and, if_true, if_false, List.length_cons, List.length_nil, List.getElem?_cons_succ, List.getElem?_cons_zero, List.set_cons_succ, List.set_cons_zero, reduceIte, d_G, d_R, s_aload, s_aload_n, s_iload, s_iload_n, s_lload, s_lload_n, s_istore, s_istore_n, s_astore, s_astoreN, s_astore_n, s_astore_nN, s_lstore, s_lstore_n, s_iinc, s_iconst, s_bipush, s_sipush, s_lconst, s_ldc2_w, s_aconst_null, s_dupA, s_dupI, s_dup2, s_iadd, s_isub, s_imul, s_iand, s_ior, s_ixor, s_ishl, s_ishr, s_iushr, s_ineg, s_idiv, s_irem, s_ladd, s_lsub, s_lmul, s_land, s_lor, s_lxor, s_ldiv, s_lshl, s_lshr, s_lushr, s_i2l, s_l2i, s_lcmp, s_goto, s_ieq, s_ine, s_ilt, s_ige, s_igt, s_ile, s_zeq, s_zne, s_zlt, s_zge, s_zgt, s_zle, s_ifnull, s_ifnullN, s_ifnonnull, s_ifnonnullN, s_tableswitch, s_lookupswitch, s_getfield, s_putfield, s_getstatic, s_iaload, s_laload, s_baload, s_aaload, s_iastore, s_lastore, s_bastore, s_aastore, s_arraylength, s_newI, s_newJ, s_newZ, s_anewarray, s_new, s_copy, s_max, s_min, s_invokestatic, s_objinit, s_invokespecial, kf_isr_r, s_invokevirtual, s_ireturn, s_lreturn, s_areturn, s_areturnN, s_return, lI_0, lI_s, lJ_0, lJ_s, lA_0, lA_0N, lA_s, lS1_0, lS1_1, lS1_2, lS2_0, lS2_1, lS2_2, lK_n, lK_i, lK_j, lK_a, lK_N, d_C', kf_w_0, kf_w_i, kf_w_a, kf_w_n, kf_w_j, c_0, c_1, c_2, c_3, c_4, c_5, c_6, tl_0, tl_1, Option.bind_some, Option.bind_none, Option.map_some, Nat.reduceAdd, Nat.reduceMul, Nat.reduceDiv, Nat.reduceMod, Int.reduceToNat, Fin.val_zero, Fin.isValue, Fin.val_one, Fin.val_two, fv_0, fv_1, fv_2, fv_3, fw_0, fw_1, d_ite, true_or, or_true, and_false, false_and, or_self, and_self, ow_48, ow_52, fobF, g, gt, k0, z1, k1, g1, gt1, k2, g2, gt2, k3, g3, gt3, k4, g4, gt4, k5, g5, gt5, gr5, rc0, rc1, rc2, rc3, rc4]
  · rw [if_neg hc, if_neg hc]
    have k0 := c48n (n := 20) r0 (by decide) (by decide) (by omega)
    rw [show nI 20 = 20 from rfl] at k0
    have rc0 := r0.rc
    refine ⟨M, ?_, h0, Off.rf⟩
    simp only [cl_96, e96_0, e96_1, e96_4, e96_7, e96_9, e96_12, e96_15, e96_17, e96_18, e96_19, e96_22, e96_25, e96_26, e96_27, e96_30, e96_31, e96_34, e96_37, e96_38, e96_39, e96_42, e96_43, e96_46, e96_49, e96_50, e96_51, e96_54, e96_55, e96_58, e96_61, e96_63, e96_64, e96_67, e96_68, e96_71, e96_74, e96_76, e96_77, e96_80, e96_81, e96_84, e96_87, e96_90, ow_96, Int32.reduceOfInt, Int32.reduceOfNat, Int32.reduceToNatClampNeg, Int32.reduceLT, Int32.reduceLE, Int32.reduceAdd, Int32.reduceSub, Int32.reduceMul, Int64.reduceOfNat, Int64.reduceOfInt, Nat.reduceLeDiff, Nat.reduceLT, Nat.reduceEqDiff, Nat.reduceSub, cs_0, cs_1, cs_2, cs_3, cs_4, cs_5, cs_6, cs_7, cs_8, or_false, false_or, not_false_eq_true, and_true, true_and, if_true, if_false, List.length_cons, List.length_nil, List.getElem?_cons_succ, List.getElem?_cons_zero, List.set_cons_succ, List.set_cons_zero, reduceIte, d_G, d_R, s_aload, s_aload_n, s_iload, s_iload_n, s_lload, s_lload_n, s_istore, s_istore_n, s_astore, s_astoreN, s_astore_n, s_astore_nN, s_lstore, s_lstore_n, s_iinc, s_iconst, s_bipush, s_sipush, s_lconst, s_ldc2_w, s_aconst_null, s_dupA, s_dupI, s_dup2, s_iadd, s_isub, s_imul, s_iand, s_ior, s_ixor, s_ishl, s_ishr, s_iushr, s_ineg, s_idiv, s_irem, s_ladd, s_lsub, s_lmul, s_land, s_lor, s_lxor, s_ldiv, s_lshl, s_lshr, s_lushr, s_i2l, s_l2i, s_lcmp, s_goto, s_ieq, s_ine, s_ilt, s_ige, s_igt, s_ile, s_zeq, s_zne, s_zlt, s_zge, s_zgt, s_zle, s_ifnull, s_ifnullN, s_ifnonnull, s_ifnonnullN, s_tableswitch, s_lookupswitch, s_getfield, s_putfield, s_getstatic, s_iaload, s_laload, s_baload, s_aaload, s_iastore, s_lastore, s_bastore, s_aastore, s_arraylength, s_newI, s_newJ, s_newZ, s_anewarray, s_new, s_copy, s_max, s_min, s_invokestatic, s_objinit, s_invokespecial, kf_isr_r, s_invokevirtual, s_ireturn, s_lreturn, s_areturn, s_areturnN, s_return, lI_0, lI_s, lJ_0, lJ_s, lA_0, lA_0N, lA_s, lS1_0, lS1_1, lS1_2, lS2_0, lS2_1, lS2_2, lK_n, lK_i, lK_j, lK_a, lK_N, d_C', kf_w_0, kf_w_i, kf_w_a, kf_w_n, kf_w_j, c_0, c_1, c_2, c_3, c_4, c_5, c_6, tl_0, tl_1, Option.bind_some, Option.bind_none, Option.map_some, Nat.reduceAdd, Nat.reduceMul, Nat.reduceDiv, Nat.reduceMod, Int.reduceToNat, Fin.val_zero, Fin.isValue, Fin.val_one, Fin.val_two, fv_0, fv_1, fv_2, fv_3, fw_0, fw_1, d_ite, true_or, or_true, and_false, false_and, or_self, and_self, ow_48, fobF, g, gt, k0, rc0]
def trimA (tp : List Int32) (n : Int32) : Int32 := if n < 0 then -3 else if nI tp.length < n then -3 else n
def trimT (tp : List Int32) (n : Int32) : List Int32 := if n < 0 then tp else if nI tp.length < n then tp else tp.take n.toNatClampNeg
theorem le_not {x y : Int32} : x ≤ y ↔ ¬ y < x := by
  rw [Int32.le_iff_toInt_le, Int32.lt_iff_toInt_lt]
  omega
theorem C97 {n : Int32} (h : CI M tp ou V tc ks W G) : ∃ M', kf_cl 97 [.ref 19, .int n] M = some (some (.int (trimA tp n)), M') ∧ CI M' (trimT tp n) ou V tc ks W G ∧ Off CC M M' := by
  have h0 := h
  obtain ⟨fl, σ, da, hs, sd, wd, b1, b2, ⟨b3, b3b⟩, -⟩ := h
  obtain ⟨r0, it, pl, t0⟩ := b3.row
  have hle := r0.le
  have g := gO_of b2
  have gt := gO_of t0
  obtain ⟨bs0, q1_, q2_, q3_, q4_⟩ := id r0
  have gr := gO_of q1_
  have rc0 := r0.rc
  unfold trimA trimT
  by_cases c1 : n < 0
  · rw [if_pos c1, if_pos c1]
    exact ⟨M, by simp only [cl_97, e97_0, e97_1, e97_4, e97_5, e97_6, e97_9, e97_12, e97_15, e97_18, e97_20, e97_21, e97_22, e97_25, e97_28, e97_29, e97_32, e97_33, ow_97, Int32.reduceOfInt, Int32.reduceOfNat, Int32.reduceToNatClampNeg, Int32.reduceLT, Int32.reduceLE, Int32.reduceAdd, Int32.reduceSub, Int32.reduceMul, Int64.reduceOfNat, Int64.reduceOfInt, Nat.reduceLeDiff, Nat.reduceLT, Nat.reduceEqDiff, Nat.reduceSub, cs_0, cs_1, cs_2, cs_3, cs_4, cs_5, cs_6, cs_7, cs_8, or_false, false_or, not_false_eq_true, and_true, true_and, if_true, if_false, List.length_cons, List.length_nil, List.getElem?_cons_succ, List.getElem?_cons_zero, List.set_cons_succ, List.set_cons_zero, reduceIte, d_G, d_R, s_aload, s_aload_n, s_iload, s_iload_n, s_lload, s_lload_n, s_istore, s_istore_n, s_astore, s_astoreN, s_astore_n, s_astore_nN, s_lstore, s_lstore_n, s_iinc, s_iconst, s_bipush, s_sipush, s_lconst, s_ldc2_w, s_aconst_null, s_dupA, s_dupI, s_dup2, s_iadd, s_isub, s_imul, s_iand, s_ior, s_ixor, s_ishl, s_ishr, s_iushr, s_ineg, s_idiv, s_irem, s_ladd, s_lsub, s_lmul, s_land, s_lor, s_lxor, s_ldiv, s_lshl, s_lshr, s_lushr, s_i2l, s_l2i, s_lcmp, s_goto, s_ieq, s_ine, s_ilt, s_ige, s_igt, s_ile, s_zeq, s_zne, s_zlt, s_zge, s_zgt, s_zle, s_ifnull, s_ifnullN, s_ifnonnull, s_ifnonnullN, s_tableswitch, s_lookupswitch, s_getfield, s_putfield, s_getstatic, s_iaload, s_laload, s_baload, s_aaload, s_iastore, s_lastore, s_bastore, s_aastore, s_arraylength, s_newI, s_newJ, s_newZ, s_anewarray, s_new, s_copy, s_max, s_min, s_invokestatic, s_objinit, s_invokespecial, kf_isr_r, s_invokevirtual, s_ireturn, s_lreturn, s_areturn, s_areturnN, s_return, lI_0, lI_s, lJ_0, lJ_s, lA_0, lA_0N, lA_s, lS1_0, lS1_1, lS1_2, lS2_0, lS2_1, lS2_2, lK_n, lK_i, lK_j, lK_a, lK_N, d_C', kf_w_0, kf_w_i, kf_w_a, kf_w_n, kf_w_j, c_0, c_1, c_2, c_3, c_4, c_5, c_6, tl_0, tl_1, Option.bind_some, Option.bind_none, Option.map_some, Nat.reduceAdd, Nat.reduceMul, Nat.reduceDiv, Nat.reduceMod, Int.reduceToNat, Fin.val_zero, Fin.isValue, Fin.val_one, Fin.val_two, fv_0, fv_1, fv_2, fv_3, fw_0, fw_1, d_ite, true_or, or_true, and_false, false_and, or_self, and_self, c1], h0, Off.rf⟩
  rw [if_neg c1, if_neg c1]
  by_cases c2 : nI tp.length < n
  · have e : ¬ n ≤ nI tp.length := fun w => le_not.mp w c2
    rw [if_pos c2, if_pos c2]
    exact ⟨M, by simp only [cl_97, e97_0, e97_1, e97_4, e97_5, e97_6, e97_9, e97_12, e97_15, e97_18, e97_20, e97_21, e97_22, e97_25, e97_28, e97_29, e97_32, e97_33, ow_97, Int32.reduceOfInt, Int32.reduceOfNat, Int32.reduceToNatClampNeg, Int32.reduceLT, Int32.reduceLE, Int32.reduceAdd, Int32.reduceSub, Int32.reduceMul, Int64.reduceOfNat, Int64.reduceOfInt, Nat.reduceLeDiff, Nat.reduceLT, Nat.reduceEqDiff, Nat.reduceSub, cs_0, cs_1, cs_2, cs_3, cs_4, cs_5, cs_6, cs_7, cs_8, or_false, false_or, not_false_eq_true, and_true, true_and, if_true, if_false, List.length_cons, List.length_nil, List.getElem?_cons_succ, List.getElem?_cons_zero, List.set_cons_succ, List.set_cons_zero, reduceIte, d_G, d_R, s_aload, s_aload_n, s_iload, s_iload_n, s_lload, s_lload_n, s_istore, s_istore_n, s_astore, s_astoreN, s_astore_n, s_astore_nN, s_lstore, s_lstore_n, s_iinc, s_iconst, s_bipush, s_sipush, s_lconst, s_ldc2_w, s_aconst_null, s_dupA, s_dupI, s_dup2, s_iadd, s_isub, s_imul, s_iand, s_ior, s_ixor, s_ishl, s_ishr, s_iushr, s_ineg, s_idiv, s_irem, s_ladd, s_lsub, s_lmul, s_land, s_lor, s_lxor, s_ldiv, s_lshl, s_lshr, s_lushr, s_i2l, s_l2i, s_lcmp, s_goto, s_ieq, s_ine, s_ilt, s_ige, s_igt, s_ile, s_zeq, s_zne, s_zlt, s_zge, s_zgt, s_zle, s_ifnull, s_ifnullN, s_ifnonnull, s_ifnonnullN, s_tableswitch, s_lookupswitch, s_getfield, s_putfield, s_getstatic, s_iaload, s_laload, s_baload, s_aaload, s_iastore, s_lastore, s_bastore, s_aastore, s_arraylength, s_newI, s_newJ, s_newZ, s_anewarray, s_new, s_copy, s_max, s_min, s_invokestatic, s_objinit, s_invokespecial, kf_isr_r, s_invokevirtual, s_ireturn, s_lreturn, s_areturn, s_areturnN, s_return, lI_0, lI_s, lJ_0, lJ_s, lA_0, lA_0N, lA_s, lS1_0, lS1_1, lS1_2, lS2_0, lS2_1, lS2_2, lK_n, lK_i, lK_j, lK_a, lK_N, d_C', kf_w_0, kf_w_i, kf_w_a, kf_w_n, kf_w_j, c_0, c_1, c_2, c_3, c_4, c_5, c_6, tl_0, tl_1, Option.bind_some, Option.bind_none, Option.map_some, Nat.reduceAdd, Nat.reduceMul, Nat.reduceDiv, Nat.reduceMod, Int.reduceToNat, Fin.val_zero, Fin.isValue, Fin.val_one, Fin.val_two, fv_0, fv_1, fv_2, fv_3, fw_0, fw_1, d_ite, true_or, or_true, and_false, false_and, or_self, and_self, fobF, g, gt, gr, c1, e], h0, Off.rf⟩
  · have e : n ≤ nI tp.length := le_not.mpr c2
    obtain ⟨j, hj, rfl⟩ := nI_of2 (M := nI tp.length) (n := tp.length) (nI_toInt (by omega)) c1 e
    rw [if_neg c2, if_neg c2, nI_clamp (by omega)]
    obtain ⟨M1, k1, r1, o1⟩ := c50 (n := j) r0 (by decide) hj
    refine ⟨M1, ?_, h0.tape o1 r1 (isB_sub b3b (fun _ w => List.mem_of_mem_take w)), o1.cc (by decide)⟩
    simp only [cl_97, e97_0, e97_1, e97_4, e97_5, e97_6, e97_9, e97_12, e97_15, e97_18, e97_20, e97_21, e97_22, e97_25, e97_28, e97_29, e97_32, e97_33, ow_97, Int32.reduceOfInt, Int32.reduceOfNat, Int32.reduceToNatClampNeg, Int32.reduceLT, Int32.reduceLE, Int32.reduceAdd, Int32.reduceSub, Int32.reduceMul, Int64.reduceOfNat, Int64.reduceOfInt, Nat.reduceLeDiff, Nat.reduceLT, Nat.reduceEqDiff, Nat.reduceSub, cs_0, cs_1, cs_2, cs_3, cs_4, cs_5, cs_6, cs_7, cs_8, or_false, false_or, not_false_eq_true, and_true, true_and, if_true, if_false, List.length_cons, List.length_nil, List.getElem?_cons_succ, List.getElem?_cons_zero, List.set_cons_succ, List.set_cons_zero, reduceIte, d_G, d_R, s_aload, s_aload_n, s_iload, s_iload_n, s_lload, s_lload_n, s_istore, s_istore_n, s_astore, s_astoreN, s_astore_n, s_astore_nN, s_lstore, s_lstore_n, s_iinc, s_iconst, s_bipush, s_sipush, s_lconst, s_ldc2_w, s_aconst_null, s_dupA, s_dupI, s_dup2, s_iadd, s_isub, s_imul, s_iand, s_ior, s_ixor, s_ishl, s_ishr, s_iushr, s_ineg, s_idiv, s_irem, s_ladd, s_lsub, s_lmul, s_land, s_lor, s_lxor, s_ldiv, s_lshl, s_lshr, s_lushr, s_i2l, s_l2i, s_lcmp, s_goto, s_ieq, s_ine, s_ilt, s_ige, s_igt, s_ile, s_zeq, s_zne, s_zlt, s_zge, s_zgt, s_zle, s_ifnull, s_ifnullN, s_ifnonnull, s_ifnonnullN, s_tableswitch, s_lookupswitch, s_getfield, s_putfield, s_getstatic, s_iaload, s_laload, s_baload, s_aaload, s_iastore, s_lastore, s_bastore, s_aastore, s_arraylength, s_newI, s_newJ, s_newZ, s_anewarray, s_new, s_copy, s_max, s_min, s_invokestatic, s_objinit, s_invokespecial, kf_isr_r, s_invokevirtual, s_ireturn, s_lreturn, s_areturn, s_areturnN, s_return, lI_0, lI_s, lJ_0, lJ_s, lA_0, lA_0N, lA_s, lS1_0, lS1_1, lS1_2, lS2_0, lS2_1, lS2_2, lK_n, lK_i, lK_j, lK_a, lK_N, d_C', kf_w_0, kf_w_i, kf_w_a, kf_w_n, kf_w_j, c_0, c_1, c_2, c_3, c_4, c_5, c_6, tl_0, tl_1, Option.bind_some, Option.bind_none, Option.map_some, Nat.reduceAdd, Nat.reduceMul, Nat.reduceDiv, Nat.reduceMod, Int.reduceToNat, Fin.val_zero, Fin.isValue, Fin.val_one, Fin.val_two, fv_0, fv_1, fv_2, fv_3, fw_0, fw_1, d_ite, true_or, or_true, and_false, false_and, or_self, and_self, ow_50, fobF, g, gt, gr, rc0, c1, e, k1]
theorem C99 {x : Int32} (h : CI M tp ou V tc ks W G) : kf_cl 99 [.ref 19, .int x] M = some (some (.int (bAt ou x)), M) := by
  obtain ⟨fl, σ, da, hs, sd, wd, b1, b2, -, ⟨b4, b4b⟩, -⟩ := h
  have g := gO_of b2
  have k := c49 (x := x) b4 (by decide)
  have rc := b4.rc
  have e : (if x < 0 then (-1 : Int32) else (ou[x.toNatClampNeg]?).getD (-1)) = bAt ou x := rfl
  rw [e] at k
  simp only [cl_99, e99_0, e99_1, e99_4, e99_5, e99_8, ow_99, Int32.reduceOfInt, Int32.reduceOfNat, Int32.reduceToNatClampNeg, Int32.reduceLT, Int32.reduceLE, Int32.reduceAdd, Int32.reduceSub, Int32.reduceMul, Int64.reduceOfNat, Int64.reduceOfInt, Nat.reduceLeDiff, Nat.reduceLT, Nat.reduceEqDiff, Nat.reduceSub, cs_0, cs_1, cs_2, cs_3, cs_4, cs_5, cs_6, cs_7, cs_8, or_false, false_or, not_false_eq_true, and_true, true_and, if_true, if_false, List.length_cons, List.length_nil, List.getElem?_cons_succ, List.getElem?_cons_zero, List.set_cons_succ, List.set_cons_zero, reduceIte, d_G, d_R, s_aload, s_aload_n, s_iload, s_iload_n, s_lload, s_lload_n, s_istore, s_istore_n, s_astore, s_astoreN, s_astore_n, s_astore_nN, s_lstore, s_lstore_n, s_iinc, s_iconst, s_bipush, s_sipush, s_lconst, s_ldc2_w, s_aconst_null, s_dupA, s_dupI, s_dup2, s_iadd, s_isub, s_imul, s_iand, s_ior, s_ixor, s_ishl, s_ishr, s_iushr, s_ineg, s_idiv, s_irem, s_ladd, s_lsub, s_lmul, s_land, s_lor, s_lxor, s_ldiv, s_lshl, s_lshr, s_lushr, s_i2l, s_l2i, s_lcmp, s_goto, s_ieq, s_ine, s_ilt, s_ige, s_igt, s_ile, s_zeq, s_zne, s_zlt, s_zge, s_zgt, s_zle, s_ifnull, s_ifnullN, s_ifnonnull, s_ifnonnullN, s_tableswitch, s_lookupswitch, s_getfield, s_putfield, s_getstatic, s_iaload, s_laload, s_baload, s_aaload, s_iastore, s_lastore, s_bastore, s_aastore, s_arraylength, s_newI, s_newJ, s_newZ, s_anewarray, s_new, s_copy, s_max, s_min, s_invokestatic, s_objinit, s_invokespecial, kf_isr_r, s_invokevirtual, s_ireturn, s_lreturn, s_areturn, s_areturnN, s_return, lI_0, lI_s, lJ_0, lJ_s, lA_0, lA_0N, lA_s, lS1_0, lS1_1, lS1_2, lS2_0, lS2_1, lS2_2, lK_n, lK_i, lK_j, lK_a, lK_N, d_C', kf_w_0, kf_w_i, kf_w_a, kf_w_n, kf_w_j, c_0, c_1, c_2, c_3, c_4, c_5, c_6, tl_0, tl_1, Option.bind_some, Option.bind_none, Option.map_some, Nat.reduceAdd, Nat.reduceMul, Nat.reduceDiv, Nat.reduceMod, Int.reduceToNat, Fin.val_zero, Fin.isValue, Fin.val_one, Fin.val_two, fv_0, fv_1, fv_2, fv_3, fw_0, fw_1, d_ite, true_or, or_true, and_false, false_and, or_self, and_self, ow_49, fobF, g, rc, k]
def keepA (tp ou : List Int32) (a n : Int32) : Int32 := if a < 0 then -3 else if n < 0 then -3 else if nI ou.length < a then -3 else if nI ou.length - a < n then -3 else if tp.length + n.toNatClampNeg ≤ 400 then nI (tp.length + n.toNatClampNeg) else -5
def keepT (tp ou : List Int32) (a n : Int32) : List Int32 := if a < 0 then tp else if n < 0 then tp else if nI ou.length < a then tp else if nI ou.length - a < n then tp else if tp.length + n.toNatClampNeg ≤ 400 then tp ++ (ou.drop a.toNatClampNeg).take n.toNatClampNeg else tp
theorem C100 {a n : Int32} (h : CI M tp ou V tc ks W G) : ∃ M', kf_cl 100 [.ref 19, .int a, .int n] M = some (some (.int (keepA tp ou a n)), M') ∧ CI M' (keepT tp ou a n) ou V tc ks W G ∧ Off CC M M' := by
  have h0 := h
  obtain ⟨fl, σ, da, hs, sd, wd, b1, b2, ⟨b3, b3b⟩, ⟨b4, b4b⟩, -⟩ := h
  obtain ⟨r0, it, pl, t0⟩ := b3.row
  have hle := r0.le
  have hle4 := b4.le
  have g := gO_of b2
  have gt := gO_of t0
  obtain ⟨bs0, q1_, q2_, q3_, q4_⟩ := id r0
  have gr := gO_of q1_
  obtain ⟨bs4, p1_, p2_, p3_, p4_⟩ := id b4
  have gr4 := gO_of p1_
  have rc0 := r0.rc
  unfold keepA keepT
  by_cases c1 : a < 0
  · rw [if_pos c1, if_pos c1]
    exact ⟨M, by simp only [cl_100, e100_0, e100_1, e100_4, e100_5, e100_8, e100_9, e100_10, e100_13, e100_16, e100_19, e100_20, e100_21, e100_24, e100_27, e100_28, e100_29, e100_32, e100_34, e100_35, e100_36, e100_39, e100_42, e100_43, e100_46, e100_49, e100_51, e100_52, e100_53, e100_56, e100_59, e100_60, e100_63, e100_66, e100_67, e100_68, e100_71, e100_72, e100_75, e100_78, e100_81, ow_100, Int32.reduceOfInt, Int32.reduceOfNat, Int32.reduceToNatClampNeg, Int32.reduceLT, Int32.reduceLE, Int32.reduceAdd, Int32.reduceSub, Int32.reduceMul, Int64.reduceOfNat, Int64.reduceOfInt, Nat.reduceLeDiff, Nat.reduceLT, Nat.reduceEqDiff, Nat.reduceSub, cs_0, cs_1, cs_2, cs_3, cs_4, cs_5, cs_6, cs_7, cs_8, or_false, false_or, not_false_eq_true, and_true, true_and, if_true, if_false, List.length_cons, List.length_nil, List.getElem?_cons_succ, List.getElem?_cons_zero, List.set_cons_succ, List.set_cons_zero, reduceIte, d_G, d_R, s_aload, s_aload_n, s_iload, s_iload_n, s_lload, s_lload_n, s_istore, s_istore_n, s_astore, s_astoreN, s_astore_n, s_astore_nN, s_lstore, s_lstore_n, s_iinc, s_iconst, s_bipush, s_sipush, s_lconst, s_ldc2_w, s_aconst_null, s_dupA, s_dupI, s_dup2, s_iadd, s_isub, s_imul, s_iand, s_ior, s_ixor, s_ishl, s_ishr, s_iushr, s_ineg, s_idiv, s_irem, s_ladd, s_lsub, s_lmul, s_land, s_lor, s_lxor, s_ldiv, s_lshl, s_lshr, s_lushr, s_i2l, s_l2i, s_lcmp, s_goto, s_ieq, s_ine, s_ilt, s_ige, s_igt, s_ile, s_zeq, s_zne, s_zlt, s_zge, s_zgt, s_zle, s_ifnull, s_ifnullN, s_ifnonnull, s_ifnonnullN, s_tableswitch, s_lookupswitch, s_getfield, s_putfield, s_getstatic, s_iaload, s_laload, s_baload, s_aaload, s_iastore, s_lastore, s_bastore, s_aastore, s_arraylength, s_newI, s_newJ, s_newZ, s_anewarray, s_new, s_copy, s_max, s_min, s_invokestatic, s_objinit, s_invokespecial, kf_isr_r, s_invokevirtual, s_ireturn, s_lreturn, s_areturn, s_areturnN, s_return, lI_0, lI_s, lJ_0, lJ_s, lA_0, lA_0N, lA_s, lS1_0, lS1_1, lS1_2, lS2_0, lS2_1, lS2_2, lK_n, lK_i, lK_j, lK_a, lK_N, d_C', kf_w_0, kf_w_i, kf_w_a, kf_w_n, kf_w_j, c_0, c_1, c_2, c_3, c_4, c_5, c_6, tl_0, tl_1, Option.bind_some, Option.bind_none, Option.map_some, Nat.reduceAdd, Nat.reduceMul, Nat.reduceDiv, Nat.reduceMod, Int.reduceToNat, Fin.val_zero, Fin.isValue, Fin.val_one, Fin.val_two, fv_0, fv_1, fv_2, fv_3, fw_0, fw_1, d_ite, true_or, or_true, and_false, false_and, or_self, and_self, c1], h0, Off.rf⟩
  rw [if_neg c1, if_neg c1]
  by_cases c2 : n < 0
  · rw [if_pos c2, if_pos c2]
    exact ⟨M, by simp only [cl_100, e100_0, e100_1, e100_4, e100_5, e100_8, e100_9, e100_10, e100_13, e100_16, e100_19, e100_20, e100_21, e100_24, e100_27, e100_28, e100_29, e100_32, e100_34, e100_35, e100_36, e100_39, e100_42, e100_43, e100_46, e100_49, e100_51, e100_52, e100_53, e100_56, e100_59, e100_60, e100_63, e100_66, e100_67, e100_68, e100_71, e100_72, e100_75, e100_78, e100_81, ow_100, Int32.reduceOfInt, Int32.reduceOfNat, Int32.reduceToNatClampNeg, Int32.reduceLT, Int32.reduceLE, Int32.reduceAdd, Int32.reduceSub, Int32.reduceMul, Int64.reduceOfNat, Int64.reduceOfInt, Nat.reduceLeDiff, Nat.reduceLT, Nat.reduceEqDiff, Nat.reduceSub, cs_0, cs_1, cs_2, cs_3, cs_4, cs_5, cs_6, cs_7, cs_8, or_false, false_or, not_false_eq_true, and_true, true_and, if_true, if_false, List.length_cons, List.length_nil, List.getElem?_cons_succ, List.getElem?_cons_zero, List.set_cons_succ, List.set_cons_zero, reduceIte, d_G, d_R, s_aload, s_aload_n, s_iload, s_iload_n, s_lload, s_lload_n, s_istore, s_istore_n, s_astore, s_astoreN, s_astore_n, s_astore_nN, s_lstore, s_lstore_n, s_iinc, s_iconst, s_bipush, s_sipush, s_lconst, s_ldc2_w, s_aconst_null, s_dupA, s_dupI, s_dup2, s_iadd, s_isub, s_imul, s_iand, s_ior, s_ixor, s_ishl, s_ishr, s_iushr, s_ineg, s_idiv, s_irem, s_ladd, s_lsub, s_lmul, s_land, s_lor, s_lxor, s_ldiv, s_lshl, s_lshr, s_lushr, s_i2l, s_l2i, s_lcmp, s_goto, s_ieq, s_ine, s_ilt, s_ige, s_igt, s_ile, s_zeq, s_zne, s_zlt, s_zge, s_zgt, s_zle, s_ifnull, s_ifnullN, s_ifnonnull, s_ifnonnullN, s_tableswitch, s_lookupswitch, s_getfield, s_putfield, s_getstatic, s_iaload, s_laload, s_baload, s_aaload, s_iastore, s_lastore, s_bastore, s_aastore, s_arraylength, s_newI, s_newJ, s_newZ, s_anewarray, s_new, s_copy, s_max, s_min, s_invokestatic, s_objinit, s_invokespecial, kf_isr_r, s_invokevirtual, s_ireturn, s_lreturn, s_areturn, s_areturnN, s_return, lI_0, lI_s, lJ_0, lJ_s, lA_0, lA_0N, lA_s, lS1_0, lS1_1, lS1_2, lS2_0, lS2_1, lS2_2, lK_n, lK_i, lK_j, lK_a, lK_N, d_C', kf_w_0, kf_w_i, kf_w_a, kf_w_n, kf_w_j, c_0, c_1, c_2, c_3, c_4, c_5, c_6, tl_0, tl_1, Option.bind_some, Option.bind_none, Option.map_some, Nat.reduceAdd, Nat.reduceMul, Nat.reduceDiv, Nat.reduceMod, Int.reduceToNat, Fin.val_zero, Fin.isValue, Fin.val_one, Fin.val_two, fv_0, fv_1, fv_2, fv_3, fw_0, fw_1, d_ite, true_or, or_true, and_false, false_and, or_self, and_self, c1, c2], h0, Off.rf⟩
  rw [if_neg c2, if_neg c2]
  by_cases c3 : nI ou.length < a
  · rw [if_pos c3, if_pos c3]
    exact ⟨M, by simp only [cl_100, e100_0, e100_1, e100_4, e100_5, e100_8, e100_9, e100_10, e100_13, e100_16, e100_19, e100_20, e100_21, e100_24, e100_27, e100_28, e100_29, e100_32, e100_34, e100_35, e100_36, e100_39, e100_42, e100_43, e100_46, e100_49, e100_51, e100_52, e100_53, e100_56, e100_59, e100_60, e100_63, e100_66, e100_67, e100_68, e100_71, e100_72, e100_75, e100_78, e100_81, ow_100, Int32.reduceOfInt, Int32.reduceOfNat, Int32.reduceToNatClampNeg, Int32.reduceLT, Int32.reduceLE, Int32.reduceAdd, Int32.reduceSub, Int32.reduceMul, Int64.reduceOfNat, Int64.reduceOfInt, Nat.reduceLeDiff, Nat.reduceLT, Nat.reduceEqDiff, Nat.reduceSub, cs_0, cs_1, cs_2, cs_3, cs_4, cs_5, cs_6, cs_7, cs_8, or_false, false_or, not_false_eq_true, and_true, true_and, if_true, if_false, List.length_cons, List.length_nil, List.getElem?_cons_succ, List.getElem?_cons_zero, List.set_cons_succ, List.set_cons_zero, reduceIte, d_G, d_R, s_aload, s_aload_n, s_iload, s_iload_n, s_lload, s_lload_n, s_istore, s_istore_n, s_astore, s_astoreN, s_astore_n, s_astore_nN, s_lstore, s_lstore_n, s_iinc, s_iconst, s_bipush, s_sipush, s_lconst, s_ldc2_w, s_aconst_null, s_dupA, s_dupI, s_dup2, s_iadd, s_isub, s_imul, s_iand, s_ior, s_ixor, s_ishl, s_ishr, s_iushr, s_ineg, s_idiv, s_irem, s_ladd, s_lsub, s_lmul, s_land, s_lor, s_lxor, s_ldiv, s_lshl, s_lshr, s_lushr, s_i2l, s_l2i, s_lcmp, s_goto, s_ieq, s_ine, s_ilt, s_ige, s_igt, s_ile, s_zeq, s_zne, s_zlt, s_zge, s_zgt, s_zle, s_ifnull, s_ifnullN, s_ifnonnull, s_ifnonnullN, s_tableswitch, s_lookupswitch, s_getfield, s_putfield, s_getstatic, s_iaload, s_laload, s_baload, s_aaload, s_iastore, s_lastore, s_bastore, s_aastore, s_arraylength, s_newI, s_newJ, s_newZ, s_anewarray, s_new, s_copy, s_max, s_min, s_invokestatic, s_objinit, s_invokespecial, kf_isr_r, s_invokevirtual, s_ireturn, s_lreturn, s_areturn, s_areturnN, s_return, lI_0, lI_s, lJ_0, lJ_s, lA_0, lA_0N, lA_s, lS1_0, lS1_1, lS1_2, lS2_0, lS2_1, lS2_2, lK_n, lK_i, lK_j, lK_a, lK_N, d_C', kf_w_0, kf_w_i, kf_w_a, kf_w_n, kf_w_j, c_0, c_1, c_2, c_3, c_4, c_5, c_6, tl_0, tl_1, Option.bind_some, Option.bind_none, Option.map_some, Nat.reduceAdd, Nat.reduceMul, Nat.reduceDiv, Nat.reduceMod, Int.reduceToNat, Fin.val_zero, Fin.isValue, Fin.val_one, Fin.val_two, fv_0, fv_1, fv_2, fv_3, fw_0, fw_1, d_ite, true_or, or_true, and_false, false_and, or_self, and_self, fobF, g, gr4, c1, c2, c3], h0, Off.rf⟩
  rw [if_neg c3, if_neg c3]
  obtain ⟨j, hj, rfl⟩ := nI_of2 (M := nI ou.length) (n := ou.length) (nI_toInt (by omega)) c1 (le_not.mpr c3)
  have es : nI ou.length - nI j = nI (ou.length - j) := pk_sub hj
  rw [es]
  by_cases c4 : nI (ou.length - j) < n
  · have e : ¬ n ≤ nI (ou.length - j) := fun w => le_not.mp w c4
    rw [if_pos c4, if_pos c4]
    exact ⟨M, by simp only [cl_100, e100_0, e100_1, e100_4, e100_5, e100_8, e100_9, e100_10, e100_13, e100_16, e100_19, e100_20, e100_21, e100_24, e100_27, e100_28, e100_29, e100_32, e100_34, e100_35, e100_36, e100_39, e100_42, e100_43, e100_46, e100_49, e100_51, e100_52, e100_53, e100_56, e100_59, e100_60, e100_63, e100_66, e100_67, e100_68, e100_71, e100_72, e100_75, e100_78, e100_81, ow_100, Int32.reduceOfInt, Int32.reduceOfNat, Int32.reduceToNatClampNeg, Int32.reduceLT, Int32.reduceLE, Int32.reduceAdd, Int32.reduceSub, Int32.reduceMul, Int64.reduceOfNat, Int64.reduceOfInt, Nat.reduceLeDiff, Nat.reduceLT, Nat.reduceEqDiff, Nat.reduceSub, cs_0, cs_1, cs_2, cs_3, cs_4, cs_5, cs_6, cs_7, cs_8, or_false, false_or, not_false_eq_true, and_true, true_and, if_true, if_false, List.length_cons, List.length_nil, List.getElem?_cons_succ, List.getElem?_cons_zero, List.set_cons_succ, List.set_cons_zero, reduceIte, d_G, d_R, s_aload, s_aload_n, s_iload, s_iload_n, s_lload, s_lload_n, s_istore, s_istore_n, s_astore, s_astoreN, s_astore_n, s_astore_nN, s_lstore, s_lstore_n, s_iinc, s_iconst, s_bipush, s_sipush, s_lconst, s_ldc2_w, s_aconst_null, s_dupA, s_dupI, s_dup2, s_iadd, s_isub, s_imul, s_iand, s_ior, s_ixor, s_ishl, s_ishr, s_iushr, s_ineg, s_idiv, s_irem, s_ladd, s_lsub, s_lmul, s_land, s_lor, s_lxor, s_ldiv, s_lshl, s_lshr, s_lushr, s_i2l, s_l2i, s_lcmp, s_goto, s_ieq, s_ine, s_ilt, s_ige, s_igt, s_ile, s_zeq, s_zne, s_zlt, s_zge, s_zgt, s_zle, s_ifnull, s_ifnullN, s_ifnonnull, s_ifnonnullN, s_tableswitch, s_lookupswitch, s_getfield, s_putfield, s_getstatic, s_iaload, s_laload, s_baload, s_aaload, s_iastore, s_lastore, s_bastore, s_aastore, s_arraylength, s_newI, s_newJ, s_newZ, s_anewarray, s_new, s_copy, s_max, s_min, s_invokestatic, s_objinit, s_invokespecial, kf_isr_r, s_invokevirtual, s_ireturn, s_lreturn, s_areturn, s_areturnN, s_return, lI_0, lI_s, lJ_0, lJ_s, lA_0, lA_0N, lA_s, lS1_0, lS1_1, lS1_2, lS2_0, lS2_1, lS2_2, lK_n, lK_i, lK_j, lK_a, lK_N, d_C', kf_w_0, kf_w_i, kf_w_a, kf_w_n, kf_w_j, c_0, c_1, c_2, c_3, c_4, c_5, c_6, tl_0, tl_1, Option.bind_some, Option.bind_none, Option.map_some, Nat.reduceAdd, Nat.reduceMul, Nat.reduceDiv, Nat.reduceMod, Int.reduceToNat, Fin.val_zero, Fin.isValue, Fin.val_one, Fin.val_two, fv_0, fv_1, fv_2, fv_3, fw_0, fw_1, d_ite, true_or, or_true, and_false, false_and, or_self, and_self, fobF, g, gr4, c1, c2, c3, es, e], h0, Off.rf⟩
  rw [if_neg c4, if_neg c4]
  have e : n ≤ nI (ou.length - j) := le_not.mpr c4
  obtain ⟨i, hi, rfl⟩ := nI_of2 (M := nI (ou.length - j)) (n := ou.length - j) (nI_toInt (by omega)) c2 e
  rw [nI_clamp (by omega), nI_clamp (by omega)]
  by_cases c5 : tp.length + i ≤ 400
  · rw [if_pos c5, if_pos c5]
    have k0 := c48p (n := i) r0 (by decide) (by omega)
    obtain ⟨M1, k1, r1, o1⟩ := c53 (b := 29) (st := j) (n := i) r0 (by decide) p2_ (by decide) (by omega) (by omega) (by omega) (by decide)
    rw [seg_eq p4_ (by omega)] at r1
    have z1 : ¬ (1 : Int32) = 0 := by decide
    have g1 := gO_of (b2.off o1 (by decide))
    have gt1 := gO_of (o1.at (by decide) t0)
    have l1 : (tp ++ (ou.drop j).take i).length = tp.length + i := by rw [List.length_append, List.length_take, List.length_drop]; omega
    obtain ⟨bs1, u1_, u2_, u3_, u4_⟩ := id r1
    rw [l1] at u1_
    have gr1 := gO_of u1_
    refine ⟨M1, ?_, h0.tape o1 r1 (isB_app b3b (isB_sub b4b (fun _ w => List.mem_of_mem_drop (List.mem_of_mem_take w)))), o1.cc (by decide)⟩
    simp only [cl_100, e100_0, e100_1, e100_4, e100_5, e100_8, e100_9, e100_10, e100_13, e100_16, e100_19, e100_20, e100_21, e100_24, e100_27, e100_28, e100_29, e100_32, e100_34, e100_35, e100_36, e100_39, e100_42, e100_43, e100_46, e100_49, e100_51, e100_52, e100_53, e100_56, e100_59, e100_60, e100_63, e100_66, e100_67, e100_68, e100_71, e100_72, e100_75, e100_78, e100_81, ow_100, Int32.reduceOfInt, Int32.reduceOfNat, Int32.reduceToNatClampNeg, Int32.reduceLT, Int32.reduceLE, Int32.reduceAdd, Int32.reduceSub, Int32.reduceMul, Int64.reduceOfNat, Int64.reduceOfInt, Nat.reduceLeDiff, Nat.reduceLT, Nat.reduceEqDiff, Nat.reduceSub, cs_0, cs_1, cs_2, cs_3, cs_4, cs_5, cs_6, cs_7, cs_8, or_false, false_or, not_false_eq_true, and_true, true_and, if_true, if_false, List.length_cons, List.length_nil, List.getElem?_cons_succ, List.getElem?_cons_zero, List.set_cons_succ, List.set_cons_zero, reduceIte, d_G, d_R, s_aload, s_aload_n, s_iload, s_iload_n, s_lload, s_lload_n, s_istore, s_istore_n, s_astore, s_astoreN, s_astore_n, s_astore_nN, s_lstore, s_lstore_n, s_iinc, s_iconst, s_bipush, s_sipush, s_lconst, s_ldc2_w, s_aconst_null, s_dupA, s_dupI, s_dup2, s_iadd, s_isub, s_imul, s_iand, s_ior, s_ixor, s_ishl, s_ishr, s_iushr, s_ineg, s_idiv, s_irem, s_ladd, s_lsub, s_lmul, s_land, s_lor, s_lxor, s_ldiv, s_lshl, s_lshr, s_lushr, s_i2l, s_l2i, s_lcmp, s_goto, s_ieq, s_ine, s_ilt, s_ige, s_igt, s_ile, s_zeq, s_zne, s_zlt, s_zge, s_zgt, s_zle, s_ifnull, s_ifnullN, s_ifnonnull, s_ifnonnullN, s_tableswitch, s_lookupswitch, s_getfield, s_putfield, s_getstatic, s_iaload, s_laload, s_baload, s_aaload, s_iastore, s_lastore, s_bastore, s_aastore, s_arraylength, s_newI, s_newJ, s_newZ, s_anewarray, s_new, s_copy, s_max, s_min, s_invokestatic, s_objinit, s_invokespecial, kf_isr_r, s_invokevirtual, s_ireturn, s_lreturn, s_areturn, s_areturnN, s_return, lI_0, lI_s, lJ_0, lJ_s, lA_0, lA_0N, lA_s, lS1_0, lS1_1, lS1_2, lS2_0, lS2_1, lS2_2, lK_n, lK_i, lK_j, lK_a, lK_N, d_C', kf_w_0, kf_w_i, kf_w_a, kf_w_n, kf_w_j, c_0, c_1, c_2, c_3, c_4, c_5, c_6, tl_0, tl_1, Option.bind_some, Option.bind_none, Option.map_some, Nat.reduceAdd, Nat.reduceMul, Nat.reduceDiv, Nat.reduceMod, Int.reduceToNat, Fin.val_zero, Fin.isValue, Fin.val_one, Fin.val_two, fv_0, fv_1, fv_2, fv_3, fw_0, fw_1, d_ite, true_or, or_true, and_false, false_and, or_self, and_self, ow_48, ow_53, fobF, g, gt, gr4, rc0, c1, c2, c3, es, e, k0, z1, k1, g1, gt1, gr1]
  · rw [if_neg c5, if_neg c5]
    have k0 := c48n (n := i) r0 (by decide) (by omega) (by omega)
    refine ⟨M, ?_, h0, Off.rf⟩
    simp only [cl_100, e100_0, e100_1, e100_4, e100_5, e100_8, e100_9, e100_10, e100_13, e100_16, e100_19, e100_20, e100_21, e100_24, e100_27, e100_28, e100_29, e100_32, e100_34, e100_35, e100_36, e100_39, e100_42, e100_43, e100_46, e100_49, e100_51, e100_52, e100_53, e100_56, e100_59, e100_60, e100_63, e100_66, e100_67, e100_68, e100_71, e100_72, e100_75, e100_78, e100_81, ow_100, Int32.reduceOfInt, Int32.reduceOfNat, Int32.reduceToNatClampNeg, Int32.reduceLT, Int32.reduceLE, Int32.reduceAdd, Int32.reduceSub, Int32.reduceMul, Int64.reduceOfNat, Int64.reduceOfInt, Nat.reduceLeDiff, Nat.reduceLT, Nat.reduceEqDiff, Nat.reduceSub, cs_0, cs_1, cs_2, cs_3, cs_4, cs_5, cs_6, cs_7, cs_8, or_false, false_or, not_false_eq_true, and_true, true_and, if_true, if_false, List.length_cons, List.length_nil, List.getElem?_cons_succ, List.getElem?_cons_zero, List.set_cons_succ, List.set_cons_zero, reduceIte, d_G, d_R, s_aload, s_aload_n, s_iload, s_iload_n, s_lload, s_lload_n, s_istore, s_istore_n, s_astore, s_astoreN, s_astore_n, s_astore_nN, s_lstore, s_lstore_n, s_iinc, s_iconst, s_bipush, s_sipush, s_lconst, s_ldc2_w, s_aconst_null, s_dupA, s_dupI, s_dup2, s_iadd, s_isub, s_imul, s_iand, s_ior, s_ixor, s_ishl, s_ishr, s_iushr, s_ineg, s_idiv, s_irem, s_ladd, s_lsub, s_lmul, s_land, s_lor, s_lxor, s_ldiv, s_lshl, s_lshr, s_lushr, s_i2l, s_l2i, s_lcmp, s_goto, s_ieq, s_ine, s_ilt, s_ige, s_igt, s_ile, s_zeq, s_zne, s_zlt, s_zge, s_zgt, s_zle, s_ifnull, s_ifnullN, s_ifnonnull, s_ifnonnullN, s_tableswitch, s_lookupswitch, s_getfield, s_putfield, s_getstatic, s_iaload, s_laload, s_baload, s_aaload, s_iastore, s_lastore, s_bastore, s_aastore, s_arraylength, s_newI, s_newJ, s_newZ, s_anewarray, s_new, s_copy, s_max, s_min, s_invokestatic, s_objinit, s_invokespecial, kf_isr_r, s_invokevirtual, s_ireturn, s_lreturn, s_areturn, s_areturnN, s_return, lI_0, lI_s, lJ_0, lJ_s, lA_0, lA_0N, lA_s, lS1_0, lS1_1, lS1_2, lS2_0, lS2_1, lS2_2, lK_n, lK_i, lK_j, lK_a, lK_N, d_C', kf_w_0, kf_w_i, kf_w_a, kf_w_n, kf_w_j, c_0, c_1, c_2, c_3, c_4, c_5, c_6, tl_0, tl_1, Option.bind_some, Option.bind_none, Option.map_some, Nat.reduceAdd, Nat.reduceMul, Nat.reduceDiv, Nat.reduceMod, Int.reduceToNat, Fin.val_zero, Fin.isValue, Fin.val_one, Fin.val_two, fv_0, fv_1, fv_2, fv_3, fw_0, fw_1, d_ite, true_or, or_true, and_false, false_and, or_self, and_self, ow_48, fobF, g, gt, gr4, rc0, c1, c2, c3, es, e, k0]
theorem C101 (h : CI M tp ou V tc ks W G) : ∃ M', kf_cl 101 [.ref 19] M = some (some (.int (if tc = 0 then 1 else 0)), M') ∧ CI M' tp ou V 1 ks W G ∧ Off CC M M' := by
  have h0 := h
  obtain ⟨fl, σ, da, hs, sd, wd, b1, b2, ⟨b3, b3b⟩, ⟨b4, b4b⟩, b5, b6, b7, b8, b9, b10, b11, b12, b13, b14, b15, b16⟩ := h
  have g := gO_of b2
  by_cases c : tc = 0
  · have c' : (tc = 0) = True := eq_true c
    have ho : Off [19] M (M.set 19 (oO 11 (fobF fl 1))) := Off.set (by simp)
    have bb : (((1 : Int32) == 0) || ((1 : Int32) == 1)) = true := by decide
    rw [if_pos c]
    refine ⟨M.set 19 (oO 11 (fobF fl 1)), ?_, ⟨fl, σ, da, hs, sd, wd, b1.off ho (by decide), m_self (m_lt b2), ⟨b3.off ho (by decide), b3b⟩, ⟨b4.off ho (by decide) (by decide), b4b⟩, b5.off ho (by decide) (by decide), b6.off ho (by decide), b7.off ho (by decide) (by decide), b8.off ho (by decide), b9.off ho (by decide) (by decide), b10.off ho (by decide), b11.off ho (by decide) (by decide) (by decide), b12.off ho (by decide), b13.off ho (by decide), b14.off ho (by decide), b15, Or.inr rfl⟩, ho.cc (by decide)⟩
    simp only [cl_101, e101_0, e101_1, e101_4, e101_7, e101_8, e101_9, e101_10, e101_11, e101_14, e101_15, ow_101, Int32.reduceOfInt, Int32.reduceOfNat, Int32.reduceToNatClampNeg, Int32.reduceLT, Int32.reduceLE, Int32.reduceAdd, Int32.reduceSub, Int32.reduceMul, Int64.reduceOfNat, Int64.reduceOfInt, Nat.reduceLeDiff, Nat.reduceLT, Nat.reduceEqDiff, Nat.reduceSub, cs_0, cs_1, cs_2, cs_3, cs_4, cs_5, cs_6, cs_7, cs_8, or_false, false_or, not_false_eq_true, and_true, true_and, if_true, if_false, List.length_cons, List.length_nil, List.getElem?_cons_succ, List.getElem?_cons_zero, List.set_cons_succ, List.set_cons_zero, reduceIte, d_G, d_R, s_aload, s_aload_n, s_iload, s_iload_n, s_lload, s_lload_n, s_istore, s_istore_n, s_astore, s_astoreN, s_astore_n, s_astore_nN, s_lstore, s_lstore_n, s_iinc, s_iconst, s_bipush, s_sipush, s_lconst, s_ldc2_w, s_aconst_null, s_dupA, s_dupI, s_dup2, s_iadd, s_isub, s_imul, s_iand, s_ior, s_ixor, s_ishl, s_ishr, s_iushr, s_ineg, s_idiv, s_irem, s_ladd, s_lsub, s_lmul, s_land, s_lor, s_lxor, s_ldiv, s_lshl, s_lshr, s_lushr, s_i2l, s_l2i, s_lcmp, s_goto, s_ieq, s_ine, s_ilt, s_ige, s_igt, s_ile, s_zeq, s_zne, s_zlt, s_zge, s_zgt, s_zle, s_ifnull, s_ifnullN, s_ifnonnull, s_ifnonnullN, s_tableswitch, s_lookupswitch, s_getfield, s_putfield, s_getstatic, s_iaload, s_laload, s_baload, s_aaload, s_iastore, s_lastore, s_bastore, s_aastore, s_arraylength, s_newI, s_newJ, s_newZ, s_anewarray, s_new, s_copy, s_max, s_min, s_invokestatic, s_objinit, s_invokespecial, kf_isr_r, s_invokevirtual, s_ireturn, s_lreturn, s_areturn, s_areturnN, s_return, lI_0, lI_s, lJ_0, lJ_s, lA_0, lA_0N, lA_s, lS1_0, lS1_1, lS1_2, lS2_0, lS2_1, lS2_2, lK_n, lK_i, lK_j, lK_a, lK_N, d_C', kf_w_0, kf_w_i, kf_w_a, kf_w_n, kf_w_j, c_0, c_1, c_2, c_3, c_4, c_5, c_6, tl_0, tl_1, Option.bind_some, Option.bind_none, Option.map_some, Nat.reduceAdd, Nat.reduceMul, Nat.reduceDiv, Nat.reduceMod, Int.reduceToNat, Fin.val_zero, Fin.isValue, Fin.val_one, Fin.val_two, fv_0, fv_1, fv_2, fv_3, fw_0, fw_1, d_ite, true_or, or_true, and_false, false_and, or_self, and_self, fobF, g, c', kf_fit, bb]
  · rw [if_neg c]
    have c1 : tc = 1 := b16.resolve_left c
    subst c1
    exact ⟨M, by simp only [cl_101, e101_0, e101_1, e101_4, e101_7, e101_8, e101_9, e101_10, e101_11, e101_14, e101_15, ow_101, Int32.reduceOfInt, Int32.reduceOfNat, Int32.reduceToNatClampNeg, Int32.reduceLT, Int32.reduceLE, Int32.reduceAdd, Int32.reduceSub, Int32.reduceMul, Int64.reduceOfNat, Int64.reduceOfInt, Nat.reduceLeDiff, Nat.reduceLT, Nat.reduceEqDiff, Nat.reduceSub, cs_0, cs_1, cs_2, cs_3, cs_4, cs_5, cs_6, cs_7, cs_8, or_false, false_or, not_false_eq_true, and_true, true_and, if_true, if_false, List.length_cons, List.length_nil, List.getElem?_cons_succ, List.getElem?_cons_zero, List.set_cons_succ, List.set_cons_zero, reduceIte, d_G, d_R, s_aload, s_aload_n, s_iload, s_iload_n, s_lload, s_lload_n, s_istore, s_istore_n, s_astore, s_astoreN, s_astore_n, s_astore_nN, s_lstore, s_lstore_n, s_iinc, s_iconst, s_bipush, s_sipush, s_lconst, s_ldc2_w, s_aconst_null, s_dupA, s_dupI, s_dup2, s_iadd, s_isub, s_imul, s_iand, s_ior, s_ixor, s_ishl, s_ishr, s_iushr, s_ineg, s_idiv, s_irem, s_ladd, s_lsub, s_lmul, s_land, s_lor, s_lxor, s_ldiv, s_lshl, s_lshr, s_lushr, s_i2l, s_l2i, s_lcmp, s_goto, s_ieq, s_ine, s_ilt, s_ige, s_igt, s_ile, s_zeq, s_zne, s_zlt, s_zge, s_zgt, s_zle, s_ifnull, s_ifnullN, s_ifnonnull, s_ifnonnullN, s_tableswitch, s_lookupswitch, s_getfield, s_putfield, s_getstatic, s_iaload, s_laload, s_baload, s_aaload, s_iastore, s_lastore, s_bastore, s_aastore, s_arraylength, s_newI, s_newJ, s_newZ, s_anewarray, s_new, s_copy, s_max, s_min, s_invokestatic, s_objinit, s_invokespecial, kf_isr_r, s_invokevirtual, s_ireturn, s_lreturn, s_areturn, s_areturnN, s_return, lI_0, lI_s, lJ_0, lJ_s, lA_0, lA_0N, lA_s, lS1_0, lS1_1, lS1_2, lS2_0, lS2_1, lS2_2, lK_n, lK_i, lK_j, lK_a, lK_N, d_C', kf_w_0, kf_w_i, kf_w_a, kf_w_n, kf_w_j, c_0, c_1, c_2, c_3, c_4, c_5, c_6, tl_0, tl_1, Option.bind_some, Option.bind_none, Option.map_some, Nat.reduceAdd, Nat.reduceMul, Nat.reduceDiv, Nat.reduceMod, Int.reduceToNat, Fin.val_zero, Fin.isValue, Fin.val_one, Fin.val_two, fv_0, fv_1, fv_2, fv_3, fw_0, fw_1, d_ite, true_or, or_true, and_false, false_and, or_self, and_self, fobF, g, c], h0, Off.rf⟩
end CPUB
