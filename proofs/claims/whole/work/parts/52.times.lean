/-! multiples of a point; the class's points -/
noncomputable def pmul : Nat → Pt → Pt
  | 0, _ => none
  | k + 1, P => padd (pmul k P) P
theorem pmul_v {P : Pt} (h : vP P) : ∀ k, vP (pmul k P)
  | 0 => trivial
  | k + 1 => padd_v (pmul_v h k) h
theorem pmul_add {P : Pt} (h : vP P) (a : Nat) : ∀ b, pmul (a + b) P = padd (pmul a P) (pmul b P)
  | 0 => (padd_n (pmul_v h a)).symm
  | b + 1 => by
    show padd (pmul (a + b) P) P = padd (pmul a P) (padd (pmul b P) P)
    rw [pmul_add h a b, padd_as (pmul_v h a) (pmul_v h b) h]
theorem pmul_1 {P : Pt} (h : vP P) : pmul 1 P = P := padd_0 h
theorem pmul_mul {P : Pt} (h : vP P) (a : Nat) : ∀ b, pmul (b * a) P = pmul b (pmul a P)
  | 0 => by rw [Nat.zero_mul]; rfl
  | b + 1 => by
    rw [Nat.succ_mul, pmul_add h, pmul_mul h a b]
    rfl
def sP : Int := 6901746343576687700413352987558608998254641115104330755028450260550400
theorem sP_ok : cg pP (sP * 2 ^ 280) 1 := ⟨115792089210356248768974548684794254293921932838497980611635986753331132366849, by decide +kernel⟩
def sN : Int := 31784414902932020803566699927781346176320253474371992036415315179848356486735
theorem sN_ok : cg nN (sN * 2 ^ 280) 1 := ⟨533253994384267417052510301352773855504642500392547821273264282449925213180871621711, by decide +kernel⟩
theorem sP_nz : ¬ zp sP := by
  intro h
  have h1 : zp (sP * 2 ^ 280 - 1) := sP_ok
  exact zp_1 (zp2 (u := 2 ^ 280) (v := -1) h h1 (by generalize (2 : Int) ^ 280 = R; grind))
theorem R_nz : ¬ zp (2 ^ 280) := by
  intro h
  have h1 : zp (sP * 2 ^ 280 - 1) := sP_ok
  exact zp_1 (zp2 (u := sP) (v := -1) h h1 (by generalize (2 : Int) ^ 280 = R; grind))
def RepM (M : kf_M) (a : Nat) (P : Pt) : Prop := ∃ X Y Z, PtV M a X Y Z ∧ bco X ∧ bco Y ∧ bco Z ∧ rep (X, Y, Z) P
theorem RepM.off {M M' : kf_M} {A : List Nat} {a : Nat} {P : Pt} (h : RepM M a P) (ho : Off A M M') (h0 : a ∉ A) (h1 : a + 1 ∉ A) (h2 : a + 2 ∉ A) (h3 : a + 3 ∉ A) : RepM M' a P := by
  obtain ⟨X, Y, Z, a, b⟩ := h
  exact ⟨X, Y, Z, a.off ho h0 h1 h2 h3, b⟩
theorem RepM.j {M : kf_M} {a : Nat} {P : Pt} (h : RepM M a P) : PtJ M a := by
  obtain ⟨X, Y, Z, a, b⟩ := h
  exact a.j
theorem CvIs.rc {M : kf_M} (h : CvIs M) : kf_rcv M 0 (some (.ref 105)) = true := kf_rcv_ok (gO_of h.1)
theorem zp_cm (x y : Int) : zp (x * y - y * x) := by rw [Int.mul_comm, Int.sub_self]; exact zp_0
theorem f4 {M : kf_M} {to p q : Nat} {P Q : Pt} (hC : CvIs M) (hp : RepM M p P) (hq : RepM M q Q) (hT : PtJ M to) (vp : vP P) (vq : vP Q) (op : okp p) (oq : okp q) (ot : okp to) : ∃ M', kf_cl 4 [.ref 105, .ref to, .ref p, .ref q] M = some (none, M') ∧ CvIs M' ∧ RepM M' to (padd P Q) ∧ Off (cvs ++ [to + 1, to + 2, to + 3]) M M' := by
  obtain ⟨X1, Y1, Z1, p0, p1, p2, p3, rp⟩ := hp
  obtain ⟨X2, Y2, Z2, q0, q1, q2, q3, rq⟩ := hq
  obtain ⟨M', X, Y, Z, k1, n1, c1, bx, byy, bz, ex, ey, ez, o1⟩ := f4a sP_ok hC p0 q0 hT op oq ot p1 p2 p3 q1 q2 q3
  refine ⟨M', k1, c1, ⟨X, Y, Z, n1, bx, byy, bz, ?_⟩, o1⟩
  have z1 : zt sP (X1 * sP, Y1 * sP, Z1 * sP) (X1, Y1, Z1) := ⟨zp_cm _ _, zp_cm _ _, zp_cm _ _⟩
  have z2 : zt sP (X2 * sP, Y2 * sP, Z2 * sP) (X2, Y2, Z2) := ⟨zp_cm _ _, zp_cm _ _, zp_cm _ _⟩
  have r3 := rep_add (zt_rep sP_nz z1 rp) (zt_rep sP_nz z2 rq) vp vq
  have z3 : zt (2 ^ 280) (X, Y, Z) (iA cB (X1 * sP, Y1 * sP, Z1 * sP) (X2 * sP, Y2 * sP, Z2 * sP)) := by
    have hR : zp (sP * 2 ^ 280 - 1) := sP_ok
    have hx : zp (X * sP - _) := ex
    have hy : zp (Y * sP - _) := ey
    have hz : zp (Z * sP - _) := ez
    refine ⟨zp2 (u := - X) (v := 2 ^ 280) hR hx ?_, zp2 (u := - Y) (v := 2 ^ 280) hR hy ?_, zp2 (u := - Z) (v := 2 ^ 280) hR hz ?_⟩ <;> (generalize (2 : Int) ^ 280 = R; grind)
  exact zt_rep R_nz z3 r3
/-! a comb: at 1 .. 15 the multiples by the sums of 1, 2^64, 2^128, 2^192 -/
def cw (j : Nat) : Nat := j % 2 + j / 2 % 2 * 2 ^ 64 + j / 4 % 2 * 2 ^ 128 + j / 8 % 2 * 2 ^ 192
def cref (c : Nat) : List (Option Nat) := (List.range' 0 16).map (fun j => some (c + 1 + 4 * j))
theorem cref_len {c : Nat} : (cref c).length = 16 := by simp [cref]
theorem cref_get {c j : Nat} (h : j < 16) : (cref c)[j]? = some (some (c + 1 + 4 * j)) := by
  rw [cref, List.getElem?_map, List.getElem?_range' h]
  simp
def Comb (M : kf_M) (c : Nat) (P : Pt) : Prop := M[c]? = some (oR 4 (cref c)) ∧ ∀ j, 1 ≤ j → j < 16 → RepM M (c + 1 + 4 * j) (pmul (cw j) P)
theorem Comb.off {M M' : kf_M} {A : List Nat} {c : Nat} {P : Pt} (h : Comb M c P) (ho : Off A M M') (hA : ∀ x ∈ A, x < c ∨ c + 64 < x) : Comb M' c P := by
  have n : ∀ y, c ≤ y → y ≤ c + 64 → y ∉ A := fun y h1 h2 q => by have := hA y q; omega
  exact ⟨ho.at (n _ (by omega) (by omega)) h.1, fun j h1 h2 => (h.2 j h1 h2).off ho (n _ (by omega) (by omega)) (n _ (by omega) (by omega)) (n _ (by omega) (by omega)) (n _ (by omega) (by omega))⟩
def enn (n i : Nat) : Nat := n % 2 ^ 64 / 2 ^ i + n / 2 ^ 64 % 2 ^ 64 / 2 ^ i * 2 ^ 64 + n / 2 ^ 128 % 2 ^ 64 / 2 ^ i * 2 ^ 128 + n / 2 ^ 192 % 2 ^ 64 / 2 ^ i * 2 ^ 192
theorem enn_64 (n : Nat) : enn n 64 = 0 := by
  unfold enn
  omega
theorem enn_0 {n : Nat} (h : n < 2 ^ 256) : enn n 0 = n := by
  unfold enn
  rw [Nat.pow_zero, Nat.div_one, Nat.div_one, Nat.div_one, Nat.div_one]
  omega
theorem db64 {n i : Nat} (t : Nat) (hi : i < 64) : n / 2 ^ t % 2 ^ 64 / 2 ^ i % 2 = n / 2 ^ (i + t) % 2 := by
  rw [show (2 : Nat) ^ 64 = 2 ^ i * 2 ^ (64 - i) by rw [← Nat.pow_add]; congr 1; omega, Nat.mod_mul_right_div_self, Nat.div_div_eq_div_mul, ← Nat.pow_add, Nat.add_comm i t]
  rw [show (2 : Nat) ^ (64 - i) = 2 ^ (63 - i) * 2 by rw [← Nat.pow_succ]; congr 1; omega]
  exact Nat.mod_mod_of_dvd _ (Nat.dvd_mul_left _ _)
theorem enn_s {n i : Nat} (hi : i < 64) : enn n i = enn n (i + 1) + enn n (i + 1) + (n / 2 ^ i % 2 + n / 2 ^ (i + 64) % 2 * 2 ^ 64 + n / 2 ^ (i + 128) % 2 * 2 ^ 128 + n / 2 ^ (i + 192) % 2 * 2 ^ 192) := by
  have b0 := db64 (n := n) 0 hi
  rw [Nat.pow_zero, Nat.div_one, Nat.add_zero] at b0
  have b1 := db64 (n := n) 64 hi
  have b2 := db64 (n := n) 128 hi
  have b3 := db64 (n := n) 192 hi
  unfold enn
  have e : ∀ x, x / 2 ^ (i + 1) = x / 2 ^ i / 2 := fun x => by rw [Nat.div_div_eq_div_mul, ← Nat.pow_succ]
  rw [e, e, e, e, ← b0, ← b1, ← b2, ← b3]
  generalize n % 2 ^ 64 / 2 ^ i = u0
  generalize n / 2 ^ 64 % 2 ^ 64 / 2 ^ i = u1
  generalize n / 2 ^ 128 % 2 ^ 64 / 2 ^ i = u2
  generalize n / 2 ^ 192 % 2 ^ 64 / 2 ^ i = u3
  omega
theorem pick_ok : ∀ a, a < 2 → ∀ b, b < 2 → ∀ c, c < 2 → ∀ d, d < 2 → nI a + 2 * nI b + 4 * nI c + 8 * nI d = nI (a + 2 * b + 4 * c + 8 * d) := by decide +kernel
theorem cw_ok : ∀ a, a < 2 → ∀ b, b < 2 → ∀ c, c < 2 → ∀ d, d < 2 → cw (a + 2 * b + 4 * c + 8 * d) = a + b * 2 ^ 64 + c * 2 ^ 128 + d * 2 ^ 192 := by decide +kernel
/-- one step of times -/
theorem f1s {to c a n i : Nat} {P : Pt} (hP : vP P) (hn : n < 2 ^ 256) (hi : i < 64) (ot : okp to) (hc : c = 113 ∨ 187 ≤ c) (htc : to + 3 < c ∨ c + 64 < to) (ha : a ∉ cvs ++ [to + 1, to + 2, to + 3]) {M : kf_M} {u5 : Option Value} (hC : CvIs M) (hcb : Comb M c P) (hna : Num M a (n : Int)) (ht : RepM M to (pmul (enn n (i + 1)) P)) : ∃ M' u5', kf_ev 1 32 [some (.ref 105), some (.ref to), some (.ref c), some (.ref a), some (.int (nI i)), u5] [] M = kf_ev 1 32 [some (.ref 105), some (.ref to), some (.ref c), some (.ref a), some (.int (nI i + -1)), u5'] [] M' ∧ CvIs M' ∧ RepM M' to (pmul (enn n i) P) ∧ Off (cvs ++ [to + 1, to + 2, to + 3]) M M' := by
  have vE := pmul_v hP (enn n (i + 1))
  obtain ⟨M1, k1, c1, r1, o1⟩ := f4 hC ht ht ht.j vE vE ot ot ot
  have hA : ∀ x ∈ cvs ++ [to + 1, to + 2, to + 3], x < c ∨ c + 64 < x := by
    intro x hx
    unfold okp at ot
    simp [cvs] at hx
    omega
  have hcb1 := hcb.off o1 hA
  have hna1 := hna.off o1 ha
  have tn : ((n : Int)).toNat = n := Int.toNat_natCast n
  have b0 := f11 (i := i) hna1 (by omega) (by omega) (by omega)
  have b1 := f11 (i := i + 64) hna1 (by omega) (by omega) (by omega)
  have b2 := f11 (i := i + 128) hna1 (by omega) (by omega) (by omega)
  have b3 := f11 (i := i + 192) hna1 (by omega) (by omega) (by omega)
  rw [tn] at b0 b1 b2 b3
  have a1 : nI i + 64 = nI (i + 64) := nI_add i 64
  have a2 : nI i + 128 = nI (i + 128) := nI_add i 128
  have a3 : nI i + 192 = nI (i + 192) := nI_add i 192
  have l0 : n / 2 ^ i % 2 < 2 := Nat.mod_lt _ (by decide)
  have l1 : n / 2 ^ (i + 64) % 2 < 2 := Nat.mod_lt _ (by decide)
  have l2 : n / 2 ^ (i + 128) % 2 < 2 := Nat.mod_lt _ (by decide)
  have l3 : n / 2 ^ (i + 192) % 2 < 2 := Nat.mod_lt _ (by decide)
  have pk := pick_ok _ l0 _ l1 _ l2 _ l3
  have cwk := cw_ok _ l0 _ l1 _ l2 _ l3
  have es := enn_s (n := n) hi
  rw [← cwk] at es
  obtain ⟨pc, hpc⟩ : ∃ pc, pc = n / 2 ^ i % 2 + 2 * (n / 2 ^ (i + 64) % 2) + 4 * (n / 2 ^ (i + 128) % 2) + 8 * (n / 2 ^ (i + 192) % 2) := ⟨_, rfl⟩
  rw [← hpc] at pk es
  have hpl : pc < 16 := by omega
  have p0 : ¬ nI i < 0 := nI_pos (by omega)
  have rc := hC.rc
  rw [← pmul_add hP] at r1
  by_cases q : pc = 0
  · rw [q, show cw 0 = 0 from rfl, Nat.add_zero] at es
    rw [q, nI_0] at pk
    rw [← es] at r1
    exact ⟨M1, some (.int 0), (e1_32 _ _ _).trans (by simp only [cl_1, e1_0, e1_1, e1_4, e1_7, e1_8, e1_11, e1_12, e1_15, e1_18, e1_21, e1_22, e1_25, e1_28, e1_30, e1_34, e1_37, e1_38, e1_39, e1_40, e1_41, e1_44, e1_45, e1_47, e1_50, e1_51, e1_52, e1_54, e1_56, e1_57, e1_60, e1_61, e1_62, e1_63, e1_64, e1_66, e1_69, e1_70, e1_73, e1_74, e1_75, e1_77, e1_78, e1_80, e1_83, e1_84, e1_87, e1_88, e1_89, e1_91, e1_93, e1_96, e1_98, e1_99, e1_100, e1_103, e1_104, e1_105, e1_106, e1_107, e1_109, e1_110, e1_113, e1_116, e1_119, ow_1, Int32.reduceOfInt, Int32.reduceOfNat, Int32.reduceToNatClampNeg, Int32.reduceLT, Int32.reduceLE, Int32.reduceAdd, Int32.reduceSub, Int32.reduceMul, Int64.reduceOfNat, Int64.reduceOfInt, Nat.reduceLeDiff, Nat.reduceLT, Nat.reduceEqDiff, Nat.reduceSub, cs_0, cs_1, cs_2, cs_3, cs_4, cs_5, cs_6, cs_7, cs_8, or_false, false_or, not_false_eq_true, and_true, true_and, if_true, if_false, List.length_cons, List.length_nil, List.getElem?_cons_succ, List.getElem?_cons_zero, List.set_cons_succ, List.set_cons_zero, reduceIte, d_G, d_R, s_aload, s_aload_n, s_iload, s_iload_n, s_lload, s_lload_n, s_istore, s_istore_n, s_astore, s_astoreN, s_astore_n, s_astore_nN, s_lstore, s_lstore_n, s_iinc, s_iconst, s_bipush, s_sipush, s_lconst, s_ldc2_w, s_aconst_null, s_dupA, s_dupI, s_dup2, s_iadd, s_isub, s_imul, s_iand, s_ior, s_ixor, s_ishl, s_ishr, s_iushr, s_ineg, s_idiv, s_irem, s_ladd, s_lsub, s_lmul, s_land, s_lor, s_lxor, s_ldiv, s_lshl, s_lshr, s_lushr, s_i2l, s_l2i, s_lcmp, s_goto, s_ieq, s_ine, s_ilt, s_ige, s_igt, s_ile, s_zeq, s_zne, s_zlt, s_zge, s_zgt, s_zle, s_ifnull, s_ifnullN, s_ifnonnull, s_ifnonnullN, s_tableswitch, s_lookupswitch, s_getfield, s_putfield, s_getstatic, s_iaload, s_laload, s_baload, s_aaload, s_iastore, s_lastore, s_bastore, s_aastore, s_arraylength, s_newI, s_newJ, s_newZ, s_anewarray, s_new, s_copy, s_max, s_min, s_invokestatic, s_objinit, s_invokespecial, kf_isr_r, s_invokevirtual, s_ireturn, s_lreturn, s_areturn, s_areturnN, s_return, lI_0, lI_s, lJ_0, lJ_s, lA_0, lA_0N, lA_s, lS1_0, lS1_1, lS1_2, lS2_0, lS2_1, lS2_2, lK_n, lK_i, lK_j, lK_a, lK_N, d_C', kf_w_0, kf_w_i, kf_w_a, kf_w_n, kf_w_j, c_0, c_1, c_2, c_3, c_4, c_5, c_6, tl_0, tl_1, Option.bind_some, Option.bind_none, Option.map_some, Nat.reduceAdd, Nat.reduceMul, Nat.reduceDiv, Nat.reduceMod, Int.reduceToNat, Fin.val_zero, Fin.isValue, Fin.val_one, Fin.val_two, fv_0, fv_1, fv_2, fv_3, fw_0, fw_1, d_ite, true_or, or_true, and_false, false_and, or_self, and_self, ow_4, p0, rc, k1, b0, b1, b2, b3, a1, a2, a3, pk]), c1, r1, o1⟩
  · have z1 : (nI pc = 0) = False := eq_false (fun h => q ((nI_eq (b := 0) (by omega) (by omega)).mp h))
    have z2 : ¬ nI 16 ≤ nI pc := nI_ge hpl (by decide)
    have gR1 := gR_of hcb1.1
    have g1' := hcb1.1
    have z3 : ¬ nI pc < 0 := nI_pos (by omega)
    have z4 : (nI pc).toNatClampNeg = pc := nI_clamp (by omega)
    have z5 := cref_get (c := c) hpl
    obtain ⟨M2, k2, c2, r2, o2⟩ := f4 c1 r1 (hcb1.2 pc (by omega) hpl) r1.j (pmul_v hP _) (pmul_v hP _) ot (by unfold okp; omega) ot
    rw [← pmul_add hP, ← es] at r2
    have rc1 := c1.rc
    have vr : vR (some (c + 1 + 4 * pc)) = .ref (c + 1 + 4 * pc) := rfl
    exact ⟨M2, some (.int (nI pc)), (e1_32 _ _ _).trans (by simp only [cl_1, e1_0, e1_1, e1_4, e1_7, e1_8, e1_11, e1_12, e1_15, e1_18, e1_21, e1_22, e1_25, e1_28, e1_30, e1_34, e1_37, e1_38, e1_39, e1_40, e1_41, e1_44, e1_45, e1_47, e1_50, e1_51, e1_52, e1_54, e1_56, e1_57, e1_60, e1_61, e1_62, e1_63, e1_64, e1_66, e1_69, e1_70, e1_73, e1_74, e1_75, e1_77, e1_78, e1_80, e1_83, e1_84, e1_87, e1_88, e1_89, e1_91, e1_93, e1_96, e1_98, e1_99, e1_100, e1_103, e1_104, e1_105, e1_106, e1_107, e1_109, e1_110, e1_113, e1_116, e1_119, ow_1, Int32.reduceOfInt, Int32.reduceOfNat, Int32.reduceToNatClampNeg, Int32.reduceLT, Int32.reduceLE, Int32.reduceAdd, Int32.reduceSub, Int32.reduceMul, Int64.reduceOfNat, Int64.reduceOfInt, Nat.reduceLeDiff, Nat.reduceLT, Nat.reduceEqDiff, Nat.reduceSub, cs_0, cs_1, cs_2, cs_3, cs_4, cs_5, cs_6, cs_7, cs_8, or_false, false_or, not_false_eq_true, and_true, true_and, if_true, if_false, List.length_cons, List.length_nil, List.getElem?_cons_succ, List.getElem?_cons_zero, List.set_cons_succ, List.set_cons_zero, reduceIte, d_G, d_R, s_aload, s_aload_n, s_iload, s_iload_n, s_lload, s_lload_n, s_istore, s_istore_n, s_astore, s_astoreN, s_astore_n, s_astore_nN, s_lstore, s_lstore_n, s_iinc, s_iconst, s_bipush, s_sipush, s_lconst, s_ldc2_w, s_aconst_null, s_dupA, s_dupI, s_dup2, s_iadd, s_isub, s_imul, s_iand, s_ior, s_ixor, s_ishl, s_ishr, s_iushr, s_ineg, s_idiv, s_irem, s_ladd, s_lsub, s_lmul, s_land, s_lor, s_lxor, s_ldiv, s_lshl, s_lshr, s_lushr, s_i2l, s_l2i, s_lcmp, s_goto, s_ieq, s_ine, s_ilt, s_ige, s_igt, s_ile, s_zeq, s_zne, s_zlt, s_zge, s_zgt, s_zle, s_ifnull, s_ifnullN, s_ifnonnull, s_ifnonnullN, s_tableswitch, s_lookupswitch, s_getfield, s_putfield, s_getstatic, s_iaload, s_laload, s_baload, s_aaload, s_iastore, s_lastore, s_bastore, s_aastore, s_arraylength, s_newI, s_newJ, s_newZ, s_anewarray, s_new, s_copy, s_max, s_min, s_invokestatic, s_objinit, s_invokespecial, kf_isr_r, s_invokevirtual, s_ireturn, s_lreturn, s_areturn, s_areturnN, s_return, lI_0, lI_s, lJ_0, lJ_s, lA_0, lA_0N, lA_s, lS1_0, lS1_1, lS1_2, lS2_0, lS2_1, lS2_2, lK_n, lK_i, lK_j, lK_a, lK_N, d_C', kf_w_0, kf_w_i, kf_w_a, kf_w_n, kf_w_j, c_0, c_1, c_2, c_3, c_4, c_5, c_6, tl_0, tl_1, Option.bind_some, Option.bind_none, Option.map_some, Nat.reduceAdd, Nat.reduceMul, Nat.reduceDiv, Nat.reduceMod, Int.reduceToNat, Fin.val_zero, Fin.isValue, Fin.val_one, Fin.val_two, fv_0, fv_1, fv_2, fv_3, fw_0, fw_1, d_ite, true_or, or_true, and_false, false_and, or_self, and_self, ow_4, p0, rc, rc1, k1, b0, b1, b2, b3, a1, a2, a3, pk, z1, z2, z3, z4, z5, gR1, g1', oLen_R, cref_len, toI, vr, k2]), c2, r2, o1.tr o2⟩
