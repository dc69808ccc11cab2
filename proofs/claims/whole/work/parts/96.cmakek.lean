/-! The class: makeKey -/
section CMAK
variable {M : kf_M} {fl tc : Int32} {ou da : List Int32} {V : Vs} {σ : List Nat} {rn : Nat} {ks : List Ky} {wt : List Nat} {hs sd wd : List Int32} {G : Gs} {cs K S Z I J : List Int32} {it pl : Nat} {m : PM}
/-- the word of a command -/
theorem cWd {nm : Nat} {v : PV} (h : TT M cs K S Z I J it pl) (hR : TR K S Z I J it m) (ho : okM cs m) (hE : CE M fl tc ou da V σ rn ks wt hs sd wd G) (hn : nm < 24) (hm : m.getD nm none = some v) (hk : v.1 = 2) (hz : v.2.2.1 = 32) : ∃ M', kf_cl 73 [.ref 20, .int (nI nm), .ref 283] M = some (none, M') ∧ CE M' fl tc ou da V σ rn ks wt hs sd (rowOf cs m nm) G ∧ TT M' cs K S Z I J it pl ∧ (rowOf cs m nm).length = 32 ∧ Off [283] M M' := by
  obtain ⟨b1, b2, b4, b5, b6, b7, b8, b9, b10, b11, b12, b13, b14⟩ := hE
  have hv := (ho.2 nm v (mG_some hm)).2.2.1 (Or.inl hk)
  have k := t73 (b := 283) (n := 32) h hR ho hn hm (Or.inl hk) b14.1 (by decide) (by rw [b14.2]; decide) (by rw [b14.2, hz]; rfl)
  rw [cp_full b14.2] at k
  have er : rowOf cs m nm = (cs.drop v.2.1).take 32 := by rw [rowOf_eq hm, hz]
  have lr : (rowOf cs m nm).length = 32 := by rw [er, List.length_take, List.length_drop]; omega
  rw [← er] at k
  obtain ⟨M1, e1⟩ : ∃ X, X = M.set 283 (oI (rowOf cs m nm)) := ⟨_, rfl⟩
  rw [← e1] at k
  have o1 : Off [283] M M1 := by rw [e1]; exact Off.set (by simp)
  exact ⟨M1, k, ⟨b1.off o1 (by decide), b2.off o1 (by decide), b4.off o1 (by decide) (by decide), b5.off o1 (by decide) (by decide), b6.off o1 (by decide), b7.off o1 (by decide) (by decide), b8.off o1 (by decide), b9.off o1 (by decide) (by decide), b10.off o1 (by decide), b11.off o1 (by decide) (by decide) (by decide), b12.off o1 (by decide), b13.off o1 (by decide), ⟨by rw [e1]; exact m_self (m_lt b14.1), lr⟩⟩, h.vt o1 (by decide), lr, o1⟩
theorem cRen (b7 : RgIs M 40 ks.length (σ.map some)) (b8 : KS M σ ks) {o : Option Nat} (h1 : ∀ j, o = some j → j < ks.length) (h2 : ¬ (o = none ∧ 10 ≤ ks.length)) : ∃ M' τ, kf_cl 46 [.ref 40, .int (fI o)] M = some (some (.ref (τ.getD (mkKs ks o).length 0)), M') ∧ RgIs M' 40 ((mkKs ks o).length + 1) (τ.map some) ∧ KS M' τ (mkKs ks o) ∧ (mkKs ks o).length < 10 ∧ Off [40, 41] M M' := by
  have hl := b8.2.2.2.2.2
  cases o with
  | none =>
    have hn : ks.length < 10 := by
      apply Classical.byContradiction
      intro w
      exact h2 ⟨rfl, by omega⟩
    obtain ⟨M1, k1, r1, o1⟩ := C46n b7 b8 hn
    exact ⟨M1, σ, k1, r1, b8.off o1 (by decide), hn, o1⟩
  | some j =>
    have hj := h1 j rfl
    obtain ⟨M1, τ, k1, r1, b1, o1⟩ := C46y b7 b8 hj
    have le : (mkKs ks (some j)).length = ks.length - 1 := by
      show (ks.eraseIdx j).length = _
      rw [List.length_eraseIdx, if_pos hj]
    rw [le]
    exact ⟨M1, τ, k1, by rw [Nat.sub_add_cancel (by omega)]; exact r1, b1, by omega, o1⟩
theorem mkR_0 {hw ww : List Int32} (h : mkR cs m V tc ks hw ww = 0) : ¬ (fidx hw (rowOf cs m 3) ks 0 = none ∧ 10 ≤ ks.length) := by
  intro w
  unfold mkR at h
  rw [if_pos w] at h
  split at h
  · cases h
  split at h
  · cases h
  split at h <;> cases h
theorem mkR_n {hw ww : List Int32} {r : Int32} (h : mkR cs m V tc ks hw ww = r) (hr : r ≠ 0) : (r = 0) = False := eq_false hr
theorem cPre (h : TT M cs K S Z I J it pl) (hR : TR K S Z I J it m) (ho : okM cs m) (bcs : isB cs) (hf : fltS m tbM = 0) (hE : CE M fl tc ou da V σ ks.length ks wt hs sd wd G) (htc : tc = 0 ∨ tc = 1) : ∃ M1 M2 M3, kf_cl 73 [.ref 20, .int 1, .ref 283] M = some (none, M1) ∧ kf_cl 109 [.ref 19, .int 2] M1 = some (none, M2) ∧ kf_cl 45 [.ref 40, .ref 281, .ref 20, .int 3] M2 = some (some (.int (fI (fidx (sha (rowOf cs m 2)) (rowOf cs m 3) ks 0))), M2) ∧ kf_cl 110 [.ref 19, .int (fI (fidx (sha (rowOf cs m 2)) (rowOf cs m 3) ks 0))] M2 = some (some (.int (mkR cs m V tc ks (sha (rowOf cs m 2)) (rowOf cs m 1))), M3) ∧ CE M1 fl tc ou da V σ ks.length ks wt hs sd (rowOf cs m 1) G ∧ CE M2 fl tc ou da V σ ks.length ks wt (sha (rowOf cs m 2)) sd (rowOf cs m 1) G ∧ CE M3 fl tc ou da V σ ks.length ks wt (sha (rowOf cs m 2)) sd (rowOf cs m 1) G ∧ TT M2 cs K S Z I J it pl ∧ TT M3 cs K S Z I J it pl ∧ Off (List.range' 28 256) M M3 := by
  have nr : ∀ A : List Nat, (∀ x ∈ A, 28 ≤ x ∧ x ≤ 283) → ∀ x ∈ A, x ∈ List.range' 28 256 := fun A hA x hx => by have := hA x hx; rw [List.mem_range'_1]; omega
  obtain ⟨v, v1, v2, v3, v4⟩ := flt_r hf (e := (1, 2, 1, 32, 32)) (by decide) (Or.inl rfl) ((flt_e hf (e := (1, 2, 1, 32, 32)) (by decide)).2.1 rfl)
  have v1 : m.getD 1 none = some v := v1
  have v2 : v.1 = 2 := v2
  have v3 : 32 ≤ v.2.2.1 := v3
  have v4 : v.2.2.1 ≤ 32 := v4
  obtain ⟨M1, k1, E1, T1, lw, o1⟩ := cWd h hR ho hE (by decide) v1 v2 (by omega)
  rw [show nI 1 = 1 from rfl] at k1
  obtain ⟨x, x1, x2, x3, x4⟩ := flt_r hf (e := (2, 3, 1, 1, 32)) (by decide) (Or.inr rfl) ((flt_e hf (e := (2, 3, 1, 1, 32)) (by decide)).2.1 rfl)
  have x1 : m.getD 2 none = some x := x1
  have x2 : x.1 = 3 := x2
  have x4 : x.2.2.1 ≤ 32 := x4
  obtain ⟨M2, k2, E2, T2, o2⟩ := C109 T1 hR ho bcs E1 (by decide) x1 (Or.inr x2) x4
  rw [show nI 2 = 2 from rfl] at k2
  obtain ⟨y, y1, y2, y3, y4⟩ := flt_r hf (e := (3, 2, 1, 1, 16)) (by decide) (Or.inl rfl) ((flt_e hf (e := (3, 2, 1, 1, 16)) (by decide)).2.1 rfl)
  have y1 : m.getD 3 none = some y := y1
  have y2 : y.1 = 2 := y2
  have k3 := c45 T2 hR ho E2.2.2.2.2.2.1 E2.2.2.2.2.2.2.1 E2.2.2.2.2.2.2.2.2.2.2.1 y1 y2
  obtain ⟨M3, k4, E3, T3, o3⟩ := C110 T2 hR ho hf E2 htc
  exact ⟨M1, M2, M3, k1, k2, k3, k4, E1, E2, E3, T2, T3, ((o1.wk (nr _ (by decide))).tr (o2.wk (nr _ (by decide)))).tr (o3.wk (nr _ (by decide)))⟩
theorem C108n (h : TT M cs K S Z I J it pl) (hR : TR K S Z I J it m) (ho : okM cs m) (bcs : isB cs) (hf : fltS m tbM = 0) (hE : CE M fl tc ou da V σ ks.length ks wt hs sd wd G) (htc : tc = 0 ∨ tc = 1) (hr : mkR cs m V tc ks (sha (rowOf cs m 2)) (rowOf cs m 1) ≠ 0) : ∃ M', kf_cl 108 [.ref 19] M = some (some (.int (mkR cs m V tc ks (sha (rowOf cs m 2)) (rowOf cs m 1))), M') ∧ CE M' fl tc ou da V σ ks.length ks wt (sha (rowOf cs m 2)) sd (rowOf cs m 1) G ∧ TT M' cs K S Z I J it pl ∧ Off (List.range' 28 256) M M' := by
  obtain ⟨M1, M2, M3, k1, k2, k3, k4, E1, E2, E3, T2, T3, oo⟩ := cPre h hR ho bcs hf hE htc
  have g := gO_of hE.2.1
  have g1 := gO_of E1.2.1
  have g2 := gO_of E2.2.1
  have rc1 := E1.2.1.rc
  have rc2 := E2.2.1.rc
  have rt := h.1.rc
  have rr := E2.2.2.2.2.2.1.rc
  generalize mkR cs m V tc ks (sha (rowOf cs m 2)) (rowOf cs m 1) = R at *
  refine ⟨M3, ?_, E3, T3, oo⟩
  simp only [cl_108, e108_0, e108_1, e108_4, e108_5, e108_6, e108_9, e108_12, e108_13, e108_14, e108_17, e108_18, e108_21, e108_22, e108_25, e108_26, e108_29, e108_30, e108_33, e108_34, e108_35, e108_36, e108_39, e108_40, e108_41, e108_44, e108_45, e108_46, e108_47, e108_48, e108_51, e108_52, e108_55, e108_56, e108_59, e108_60, e108_61, e108_64, e108_66, e108_67, e108_68, e108_69, e108_72, e108_73, e108_74, e108_75, e108_78, e108_81, e108_84, e108_86, e108_89, e108_91, e108_94, e108_95, e108_98, e108_99, e108_102, e108_103, e108_105, e108_108, e108_109, e108_112, e108_113, e108_116, e108_117, e108_119, e108_122, e108_123, e108_126, e108_127, e108_128, e108_131, e108_132, e108_135, e108_138, e108_139, e108_142, e108_143, e108_146, e108_147, e108_150, e108_151, e108_152, e108_155, e108_158, e108_159, e108_162, e108_165, e108_168, e108_169, e108_172, e108_173, e108_174, e108_177, e108_180, e108_182, e108_185, e108_186, ow_108, Int32.reduceOfInt, Int32.reduceOfNat, Int32.reduceToNatClampNeg, Int32.reduceLT, Int32.reduceLE, Int32.reduceAdd, Int32.reduceSub, Int32.reduceMul, Int64.reduceOfNat, Int64.reduceOfInt, Nat.reduceLeDiff, Nat.reduceLT, Nat.reduceEqDiff, Nat.reduceSub, cs_0, cs_1, cs_2, cs_3, cs_4, cs_5, cs_6, cs_7, cs_8, or_false, false_or, not_false_eq_true, and_true, true_and, if_true, if_false, List.length_cons, List.length_nil, List.getElem?_cons_succ, List.getElem?_cons_zero, List.set_cons_succ, List.set_cons_zero, reduceIte, d_G, d_R, s_aload, s_aload_n, s_iload, s_iload_n, s_lload, s_lload_n, s_istore, s_istore_n, s_astore, s_astoreN, s_astore_n, s_astore_nN, s_lstore, s_lstore_n, s_iinc, s_iconst, s_bipush, s_sipush, s_lconst, s_ldc2_w, s_aconst_null, s_dupA, s_dupI, s_dup2, s_iadd, s_isub, s_imul, s_iand, s_ior, s_ixor, s_ishl, s_ishr, s_iushr, s_ineg, s_idiv, s_irem, s_ladd, s_lsub, s_lmul, s_land, s_lor, s_lxor, s_ldiv, s_lshl, s_lshr, s_lushr, s_i2l, s_l2i, s_lcmp, s_goto, s_ieq, s_ine, s_ilt, s_ige, s_igt, s_ile, s_zeq, s_zne, s_zlt, s_zge, s_zgt, s_zle, s_ifnull, s_ifnullN, s_ifnonnull, s_ifnonnullN, s_tableswitch, s_lookupswitch, s_getfield, s_putfield, s_getstatic, s_iaload, s_laload, s_baload, s_aaload, s_iastore, s_lastore, s_bastore, s_aastore, s_arraylength, s_newI, s_newJ, s_newZ, s_anewarray, s_new, s_copy, s_max, s_min, s_invokestatic, s_objinit, s_invokespecial, kf_isr_r, s_invokevirtual, s_ireturn, s_lreturn, s_areturn, s_areturnN, s_return, lI_0, lI_s, lJ_0, lJ_s, lA_0, lA_0N, lA_s, lS1_0, lS1_1, lS1_2, lS2_0, lS2_1, lS2_2, lK_n, lK_i, lK_j, lK_a, lK_N, d_C', kf_w_0, kf_w_i, kf_w_a, kf_w_n, kf_w_j, c_0, c_1, c_2, c_3, c_4, c_5, c_6, tl_0, tl_1, Option.bind_some, Option.bind_none, Option.map_some, Nat.reduceAdd, Nat.reduceMul, Nat.reduceDiv, Nat.reduceMod, Int.reduceToNat, Fin.val_zero, Fin.isValue, Fin.val_one, Fin.val_two, fv_0, fv_1, fv_2, fv_3, fw_0, fw_1, d_ite, true_or, or_true, and_false, false_and, or_self, and_self, ow_73, ow_109, ow_45, ow_110, fobF, g, g1, g2, rc1, rc2, rt, rr, k1, k2, k3, k4, hr]
set_option maxHeartbeats 8000000 in
theorem C108 (h : TT M cs K S Z I J it pl) (hR : TR K S Z I J it m) (ho : okM cs m) (bcs : isB cs) (hf : fltS m tbM = 0) (hE : CE M fl tc [] da V σ ks.length ks [] hs sd wd G) (htc : tc = 0 ∨ tc = 1) (hr : mkR cs m V tc ks (sha (rowOf cs m 2)) (rowOf cs m 1) = 0) {k : Ky} (hk : k = newK (sha (rowOf cs m 2)) (rowOf cs m 3) V) {ks' : List Ky} (hks : ks' = mkKs ks (fidx (sha (rowOf cs m 2)) (rowOf cs m 3) ks 0) ++ [k]) : ∃ M' τ da' sd', kf_cl 108 [.ref 19] M = some (some (.int 0), M') ∧ CE M' fl 0 (mkO k V (rowOf cs m 1)) da' (frV V) τ ks'.length ks' [] (sha (rowOf cs m 2)) sd' (rowOf cs m 1) (G.1 + 1, some (sha (mkD k V ++ rowOf cs m 1), k.2.2.1)) ∧ isB (mkO k V (rowOf cs m 1)) ∧ TT M' cs K S Z I J it pl ∧ Off CC M M' := by
  obtain ⟨M1, M2, M3, k1, k2, k3, k4, E1, E2, E3, T2, T3, oo3⟩ := cPre h hR ho bcs hf hE htc
  have hw := mkR_0 hr
  rw [hr] at k4
  have g := gO_of hE.2.1
  have g1 := gO_of E1.2.1
  have g2 := gO_of E2.2.1
  have g3 := gO_of E3.2.1
  have rc1 := E1.2.1.rc
  have rc2 := E2.2.1.rc
  have rt := h.1.rc
  have rr := E2.2.2.2.2.2.1.rc
  have hl := E3.2.2.2.2.2.2.1.2.2.2.2.2
  obtain ⟨hv, ehv⟩ : ∃ X, X = sha (rowOf cs m 2) := ⟨_, rfl⟩
  have bhv : isB hv := by rw [ehv]; exact isB_sha
  rw [← ehv] at k3 k4 E2 E3 hw hk hks ⊢
  obtain ⟨ww, eww⟩ : ∃ X, X = rowOf cs m 1 := ⟨_, rfl⟩
  have bww : isB ww := by rw [eww]; exact rowOf_b bcs
  rw [← eww] at E1 E2 E3 ⊢
  obtain ⟨io, eio⟩ : ∃ X, X = fidx hv (rowOf cs m 3) ks 0 := ⟨_, rfl⟩
  have hio : ∀ j, io = some j → j < ks.length := fun j hj => by rw [eio] at hj; have := fidx_lt ks 0 j hj; omega
  rw [← eio] at k3 k4 hw hks
  -- touched is over
  obtain ⟨M4, e4⟩ : ∃ X, X = M3.set 19 (oO 11 (fobF fl 0)) := ⟨_, rfl⟩
  have o4 : Off [19] M3 M4 := by rw [e4]; exact Off.set (by simp)
  have f4 : FbO M4 fl 0 := by rw [e4]; exact m_self (m_lt E3.2.1)
  have g4 := gO_of f4
  have e4' : M3.set 19 (oO 11 [.ref 20, .ref 28, .ref 30, .ref 32, .ref 40, .ref 102, .ref 104, .ref 278, .ref 281, .ref 282, .ref 283, .int fl, .int 0]) = M4 := e4.symm
  have bb : (((0 : Int32) == 0) || ((0 : Int32) == 1)) = true := by decide
  -- the place
  obtain ⟨b1, b2, b4, b5, b6, b7, b8, b9, b10, b11, b12, b13, b14⟩ := E3
  have r4 := b7.off o4 (by decide) (by decide)
  have rr4 := r4.rc
  obtain ⟨M5, τ, k5, r5, K5, l5, o5⟩ := cRen (o := io) r4 (b8.off o4 (by decide)) hio hw
  obtain ⟨k1s, ek1⟩ : ∃ X, X = mkKs ks io := ⟨_, rfl⟩
  rw [← ek1] at k5 r5 K5 l5 hks
  have o45 : Off [19, 40, 41] M3 M5 := (o4.wk (by decide)).tr (o5.wk (by decide))
  have f5 := f4.off o5 (by decide)
  have g5 := gO_of f5
  have rc5 := f5.rc
  obtain ⟨qf, qt, qs, q1_, q2_, -⟩ := b9
  have E5 : CE M5 fl 0 [] da V τ (k1s.length + 1) k1s [] hv sd ww G := ⟨b1.off o45 (by decide), f5, b4.off o45 (by decide) (by decide), b5.off o45 (by decide) (by decide), b6.off o45 (by decide), r5, K5, ⟨qf, qt, qs, q1_.off o45 (by decide) (by decide), q2_, fun i w hw => by cases hw⟩, b10.off o45 (by decide), b11.off o45 (by decide) (by decide) (by decide), b12.off o45 (by decide), b13.off o45 (by decide), b14.off o45 (by decide)⟩
  obtain ⟨y, y1, y2, y3, y4⟩ := flt_r hf (e := (3, 2, 1, 1, 16)) (by decide) (Or.inl rfl) ((flt_e hf (e := (3, 2, 1, 1, 16)) (by decide)).2.1 rfl)
  have y1 : m.getD 3 none = some y := y1
  have y2 : y.1 = 2 := y2
  have y3 : 1 ≤ y.2.2.1 := y3
  have y4 : y.2.2.1 ≤ 16 := y4
  obtain ⟨M6, sd6, k6, E6, T6, o6⟩ := C111 (T3.off o45 (by decide)) hR ho bcs E5 bhv l5 y1 y2 ⟨y3, y4⟩
  rw [← hk, ← hks] at E6
  have lks : ks'.length = k1s.length + 1 := by rw [hks, List.length_append]; rfl
  have gk : ks'[k1s.length]? = some k := by rw [hks, List.getElem?_append_right (Nat.le_refl _), Nat.sub_self]; rfl
  obtain ⟨c1, c2, c4, c5, c6, c7, c8, c9, c10, c11, c12, c13, c14⟩ := E6
  obtain ⟨ka6, ok⟩ := c8.2.2.2.2.1 _ _ gk
  have oc := (K5.get (j := k1s.length) l5).2.2.1
  obtain ⟨a, ea⟩ : ∃ a, a = τ.getD k1s.length 0 := ⟨_, rfl⟩
  rw [← ea] at k5 k6 ka6 oc
  have oc0 := oc
  obtain ⟨jj, jj1, jj2⟩ := oc
  have g6 := gO_of c2
  have rc6 := c2.rc
  have gv6 : gO M6 32 = some (10, [.ref 33, .ref 36, .ref 37, .ref 38, .ref 39, .int (V.2.2.2.1 + 1), .int V.2.2.2.2.1, .int V.2.2.2.2.2.1, .int V.2.2.2.2.2.2]) := gO_of c6.1.1
  obtain ⟨x, ex⟩ : ∃ x : Int32, x = if V.2.2.2.2.2.2 = 0 then 65 else 69 := ⟨_, rfl⟩
  have hx : ∃ c, c < 256 ∧ x = nI c := by
    rw [ex]
    split
    · exact ⟨65, by decide, rfl⟩
    · exact ⟨69, by decide, rfl⟩
  obtain ⟨M7, k7, r7, o7⟩ := C112 (x := x) c2 c5 ka6 ok oc0 hx
  have nk : ∀ c ∈ [30, 31], c < a ∨ a + 5 < c := by intro c hc; simp at hc; omega
  have ka7 := ka6.off o7 nk
  have gk7 := gO_of ka7.1
  have f7 := c2.off o7 (by decide)
  have g7 := gO_of f7
  have rd7 := r7.rc
  have ld : (datA k x).length = 37 := datA_len ok
  obtain ⟨M8, k8, r8, o8⟩ := c53 (b := a + 4) (st := 0) (n := 16) r7 (by decide) ka7.2.2.2.2.1.1 (by omega) (by rw [ka7.2.2.2.2.1.2]; decide) (by rw [ka7.2.2.2.2.1.2]; decide) (by rw [ld]; decide) (by decide)
  rw [List.drop_zero, List.take_of_length_le (by rw [kId_len]; decide)] at r8
  rw [show nI 16 = 16 from rfl, nI_0] at k8
  have o78 := o7.tr o8
  have ka8 := ka6.off o78 nk
  have gk8 := gO_of ka8.1
  have f8 := c2.off o78 (by decide)
  have g8 := gO_of f8
  have rd8 := r8.rc
  obtain ⟨M9, k9, r9, o9⟩ := c53 (b := a + 5) (st := 0) (n := 64) r8 (by decide) ka8.2.2.2.2.2.1 (by omega) (by rw [ka8.2.2.2.2.2.2]; decide) (by rw [ka8.2.2.2.2.2.2]; decide) (by rw [List.length_append, ld, kId_len]; decide) (by decide)
  rw [List.drop_zero, List.take_of_length_le (by rw [kPt_len]; decide)] at r9
  rw [show nI 64 = 64 from rfl, nI_0] at k9
  have o79 := o78.tr o9
  have ka9 := ka6.off o79 nk
  have f9 := c2.off o79 (by decide)
  have g9 := gO_of f9
  have eD : datA k x ++ kId k.2.2.1 ++ kPt k.2.2.1 = mkD k V := by unfold mkD; rw [← ex]
  rw [eD] at r9
  have G9 := c10.off o79 (by decide)
  have S9 := c1.off o79 (by decide)
  have w9 := c14.off o79 (by decide)
  have rs9 : kf_rcv M9 8 (some (.ref 104)) = true := by obtain ⟨cf, own, dig, sig, s1, -⟩ := G9; exact s1.rc
  have lD : (mkD k V).length = 117 := mkD_len ok
  obtain ⟨MA, kA, GA, sA, oA⟩ := sgn S9 G9 ka9 ok oc0 r9 (mkD_b ok) w9 bww
  have fA := f9.off oA (by decide)
  have gA := gO_of fA
  have rA := r9.off oA (by decide) (by decide)
  have cA := (c4.off o79 (by decide) (by decide)).off oA (by decide) (by decide)
  have rcA := cA.rc
  obtain ⟨fsA, gsA, gsA'⟩ : ∃ fs4, gO MA 104 = some (8, fs4) ∧ fs4[3]? = some (.ref 196) := by
    obtain ⟨cf, own, dig, sig, s1, -⟩ := GA
    exact ⟨_, gO_of s1, rfl⟩
  -- the reply
  obtain ⟨MB, kB, rB, oB⟩ := c54 (x := 2) cA (by decide) (by decide) (by decide)
  rw [show ([] ++ [((160 : Int32) + 2) &&& 255] : List Int32) = [162] from rfl] at rB
  have fB := fA.off oB (by decide)
  have gB := gO_of fB
  have rcB := rB.rc
  obtain ⟨ds, d1_, d2_, d3_, d4_⟩ := id (rA.off oB (by decide) (by decide))
  rw [lD] at d1_
  have gd := gO_of d1_
  obtain ⟨MC, kC, rC, lC, oC⟩ := putRw (b := 31) (x := 1) (xs := mkD k V) rB d2_ d4_ (by rw [d3_, lD]; decide) (by decide) (by rw [d3_]; decide) (by rw [lD]; decide) (by decide)
  rw [lD] at kC lC
  have oBC := oB.tr oC
  have fC := fA.off oBC (by decide)
  have gC := gO_of fC
  have rcC := rC.rc
  have gsC : gO MC 104 = some (8, fsA) := by
    have := oBC.2 104 (by decide)
    unfold gO at gsA ⊢
    rw [this]; exact gsA
  have sC := sA.off oBC (by decide)
  have ls : (sgB (nBL 32 k.2.2.1) (sha (mkD k V ++ ww))).length = 64 := sA.2
  obtain ⟨MD, kD, rD, lD2, oD⟩ := putRw (b := 196) (x := 2) (xs := sgB (nBL 32 k.2.2.1) (sha (mkD k V ++ ww))) rC sC.1 (List.take_of_length_le (Nat.le_refl _)) (Nat.le_refl _) (by decide) (by rw [ls]; decide) (by rw [ls]; have : ([162] : List Int32).length = 1 := rfl; omega) (by decide)
  rw [ls, show nI 64 = 64 from rfl] at kD
  have oBD := oBC.tr oD
  have nr : ∀ A : List Nat, (∀ x ∈ A, 28 ≤ x ∧ x ≤ 283) → ∀ x ∈ A, x ∈ List.range' 28 256 := fun A hA x hx => by have := hA x hx; rw [List.mem_range'_1]; omega
  have o6D : Off (List.range' 28 256) M6 MD := ((o79.wk (nr _ (by decide))).tr (oA.wk (nr _ (by decide)))).tr (oBD.wk (nr _ (by decide)))
  have wr : ∀ x ∈ List.range' 28 256, 19 ≤ x ∧ x ≤ 283 := fun x hx => by rw [List.mem_range'_1] at hx; omega
  have oall : Off CC M MD := (((oo3.cc wr).tr (o45.cc (by decide))).tr (o6.cc wr)).tr (o6D.cc wr)
  have TD : TT MD cs K S Z I J it pl := T6.vt o6D (fun x hx => by have := wr x hx; rw [List.mem_range'_1] at hx; omega)
  refine ⟨MD, τ, mkD k V, sd6, ?_, ⟨((c1.off o79 (by decide)).off oA (by decide)).off oBD (by decide), ((c2.off o79 (by decide)).off oA (by decide)).off oBD (by decide), rD, rA.off oBD (by decide) (by decide), ((c6.off o79 (by decide)).off oA (by decide)).off oBD (by decide), by rw [lks]; exact ((c7.off o79 (by decide) (by decide)).off oA (by decide) (by decide)).off oBD (by decide) (by decide), ((c8.off o79 (by decide)).off oA (by decide)).off oBD (by decide), ((c9.off o79 (by decide) (by decide)).off oA (by decide) (by decide)).off oBD (by decide) (by decide), GA.off oBD (by decide), ((c11.off o79 (by decide) (by decide) (by decide)).off oA (by decide) (by decide) (by decide)).off oBD (by decide) (by decide) (by decide), ((c12.off o79 (by decide)).off oA (by decide)).off oBD (by decide), ((c13.off o79 (by decide)).off oA (by decide)).off oBD (by decide), ((c14.off o79 (by decide)).off oA (by decide)).off oBD (by decide)⟩, ?_, TD, oall⟩
  · rw [lks] at *
    by_cases c : V.2.2.2.2.2.2 = 0
    · have c' : (V.2.2.2.2.2.2 = 0) = True := eq_true c
      rw [if_pos c] at ex
      subst ex
      simp only [cl_108, e108_0, e108_1, e108_4, e108_5, e108_6, e108_9, e108_12, e108_13, e108_14, e108_17, e108_18, e108_21, e108_22, e108_25, e108_26, e108_29, e108_30, e108_33, e108_34, e108_35, e108_36, e108_39, e108_40, e108_41, e108_44, e108_45, e108_46, e108_47, e108_48, e108_51, e108_52, e108_55, e108_56, e108_59, e108_60, e108_61, e108_64, e108_66, e108_67, e108_68, e108_69, e108_72, e108_73, e108_74, e108_75, e108_78, e108_81, e108_84, e108_86, e108_89, e108_91, e108_94, e108_95, e108_98, e108_99, e108_102, e108_103, e108_105, e108_108, e108_109, e108_112, e108_113, e108_116, e108_117, e108_119, e108_122, e108_123, e108_126, e108_127, e108_128, e108_131, e108_132, e108_135, e108_138, e108_139, e108_142, e108_143, e108_146, e108_147, e108_150, e108_151, e108_152, e108_155, e108_158, e108_159, e108_162, e108_165, e108_168, e108_169, e108_172, e108_173, e108_174, e108_177, e108_180, e108_182, e108_185, e108_186, ow_108, Int32.reduceOfInt, Int32.reduceOfNat, Int32.reduceToNatClampNeg, Int32.reduceLT, Int32.reduceLE, Int32.reduceAdd, Int32.reduceSub, Int32.reduceMul, Int64.reduceOfNat, Int64.reduceOfInt, Nat.reduceLeDiff, Nat.reduceLT, Nat.reduceEqDiff, Nat.reduceSub, cs_0, cs_1, cs_2, cs_3, cs_4, cs_5, cs_6, cs_7, cs_8, or_false, false_or, not_false_eq_true, and_true, true_and, if_true, if_false, List.length_cons, List.length_nil, List.getElem?_cons_succ, List.getElem?_cons_zero, List.set_cons_succ, List.set_cons_zero, reduceIte, d_G, d_R, s_aload, s_aload_n, s_iload, s_iload_n, s_lload, s_lload_n, s_istore, s_istore_n, s_astore, s_astoreN, s_astore_n, s_astore_nN, s_lstore, s_lstore_n, s_iinc, s_iconst, s_bipush, s_sipush, s_lconst, s_ldc2_w, s_aconst_null, s_dupA, s_dupI, s_dup2, s_iadd, s_isub, s_imul, s_iand, s_ior, s_ixor, s_ishl, s_ishr, s_iushr, s_ineg, s_idiv, s_irem, s_ladd, s_lsub, s_lmul, s_land, s_lor, s_lxor, s_ldiv, s_lshl, s_lshr, s_lushr, s_i2l, s_l2i, s_lcmp, s_goto, s_ieq, s_ine, s_ilt, s_ige, s_igt, s_ile, s_zeq, s_zne, s_zlt, s_zge, s_zgt, s_zle, s_ifnull, s_ifnullN, s_ifnonnull, s_ifnonnullN, s_tableswitch, s_lookupswitch, s_getfield, s_putfield, s_getstatic, s_iaload, s_laload, s_baload, s_aaload, s_iastore, s_lastore, s_bastore, s_aastore, s_arraylength, s_newI, s_newJ, s_newZ, s_anewarray, s_new, s_copy, s_max, s_min, s_invokestatic, s_objinit, s_invokespecial, kf_isr_r, s_invokevirtual, s_ireturn, s_lreturn, s_areturn, s_areturnN, s_return, lI_0, lI_s, lJ_0, lJ_s, lA_0, lA_0N, lA_s, lS1_0, lS1_1, lS1_2, lS2_0, lS2_1, lS2_2, lK_n, lK_i, lK_j, lK_a, lK_N, d_C', kf_w_0, kf_w_i, kf_w_a, kf_w_n, kf_w_j, c_0, c_1, c_2, c_3, c_4, c_5, c_6, tl_0, tl_1, Option.bind_some, Option.bind_none, Option.map_some, Nat.reduceAdd, Nat.reduceMul, Nat.reduceDiv, Nat.reduceMod, Int.reduceToNat, Fin.val_zero, Fin.isValue, Fin.val_one, Fin.val_two, fv_0, fv_1, fv_2, fv_3, fw_0, fw_1, d_ite, true_or, or_true, and_false, false_and, or_self, and_self, ow_73, ow_109, ow_45, ow_110, ow_46, ow_111, ow_112, ow_53, ow_60, ow_54, ow_56, fobF, g, g1, g2, g3, rc1, rc2, rt, rr, k1, k2, k3, k4, kf_fit, bb, e4', g4, rr4, k5, rc5, k6, rc6, g6, gv6, c', k7, g7, gk7, rd7, k8, g8, gk8, rd8, k9, g9, rs9, kA, gA, rcA, kB, gB, rcB, gd, kC, gC, rcC, gsC, gsA', kD]
    · have c' : (V.2.2.2.2.2.2 = 0) = False := eq_false c
      rw [if_neg c] at ex
      subst ex
      simp only [cl_108, e108_0, e108_1, e108_4, e108_5, e108_6, e108_9, e108_12, e108_13, e108_14, e108_17, e108_18, e108_21, e108_22, e108_25, e108_26, e108_29, e108_30, e108_33, e108_34, e108_35, e108_36, e108_39, e108_40, e108_41, e108_44, e108_45, e108_46, e108_47, e108_48, e108_51, e108_52, e108_55, e108_56, e108_59, e108_60, e108_61, e108_64, e108_66, e108_67, e108_68, e108_69, e108_72, e108_73, e108_74, e108_75, e108_78, e108_81, e108_84, e108_86, e108_89, e108_91, e108_94, e108_95, e108_98, e108_99, e108_102, e108_103, e108_105, e108_108, e108_109, e108_112, e108_113, e108_116, e108_117, e108_119, e108_122, e108_123, e108_126, e108_127, e108_128, e108_131, e108_132, e108_135, e108_138, e108_139, e108_142, e108_143, e108_146, e108_147, e108_150, e108_151, e108_152, e108_155, e108_158, e108_159, e108_162, e108_165, e108_168, e108_169, e108_172, e108_173, e108_174, e108_177, e108_180, e108_182, e108_185, e108_186, ow_108, Int32.reduceOfInt, Int32.reduceOfNat, Int32.reduceToNatClampNeg, Int32.reduceLT, Int32.reduceLE, Int32.reduceAdd, Int32.reduceSub, Int32.reduceMul, Int64.reduceOfNat, Int64.reduceOfInt, Nat.reduceLeDiff, Nat.reduceLT, Nat.reduceEqDiff, Nat.reduceSub, cs_0, cs_1, cs_2, cs_3, cs_4, cs_5, cs_6, cs_7, cs_8, or_false, false_or, not_false_eq_true, and_true, true_and, if_true, if_false, List.length_cons, List.length_nil, List.getElem?_cons_succ, List.getElem?_cons_zero, List.set_cons_succ, List.set_cons_zero, reduceIte, d_G, d_R, s_aload, s_aload_n, s_iload, s_iload_n, s_lload, s_lload_n, s_istore, s_istore_n, s_astore, s_astoreN, s_astore_n, s_astore_nN, s_lstore, s_lstore_n, s_iinc, s_iconst, s_bipush, s_sipush, s_lconst, s_ldc2_w, s_aconst_null, s_dupA, s_dupI, s_dup2, s_iadd, s_isub, s_imul, s_iand, s_ior, s_ixor, s_ishl, s_ishr, s_iushr, s_ineg, s_idiv, s_irem, s_ladd, s_lsub, s_lmul, s_land, s_lor, s_lxor, s_ldiv, s_lshl, s_lshr, s_lushr, s_i2l, s_l2i, s_lcmp, s_goto, s_ieq, s_ine, s_ilt, s_ige, s_igt, s_ile, s_zeq, s_zne, s_zlt, s_zge, s_zgt, s_zle, s_ifnull, s_ifnullN, s_ifnonnull, s_ifnonnullN, s_tableswitch, s_lookupswitch, s_getfield, s_putfield, s_getstatic, s_iaload, s_laload, s_baload, s_aaload, s_iastore, s_lastore, s_bastore, s_aastore, s_arraylength, s_newI, s_newJ, s_newZ, s_anewarray, s_new, s_copy, s_max, s_min, s_invokestatic, s_objinit, s_invokespecial, kf_isr_r, s_invokevirtual, s_ireturn, s_lreturn, s_areturn, s_areturnN, s_return, lI_0, lI_s, lJ_0, lJ_s, lA_0, lA_0N, lA_s, lS1_0, lS1_1, lS1_2, lS2_0, lS2_1, lS2_2, lK_n, lK_i, lK_j, lK_a, lK_N, d_C', kf_w_0, kf_w_i, kf_w_a, kf_w_n, kf_w_j, c_0, c_1, c_2, c_3, c_4, c_5, c_6, tl_0, tl_1, Option.bind_some, Option.bind_none, Option.map_some, Nat.reduceAdd, Nat.reduceMul, Nat.reduceDiv, Nat.reduceMod, Int.reduceToNat, Fin.val_zero, Fin.isValue, Fin.val_one, Fin.val_two, fv_0, fv_1, fv_2, fv_3, fw_0, fw_1, d_ite, true_or, or_true, and_false, false_and, or_self, and_self, ow_73, ow_109, ow_45, ow_110, ow_46, ow_111, ow_112, ow_53, ow_60, ow_54, ow_56, fobF, g, g1, g2, g3, rc1, rc2, rt, rr, k1, k2, k3, k4, kf_fit, bb, e4', g4, rr4, k5, rc5, k6, rc6, g6, gv6, c', k7, g7, gk7, rd7, k8, g8, gk8, rd8, k9, g9, rs9, kA, gA, rcA, kB, gB, rcB, gd, kC, gC, rcC, gsC, gsA', kD]
  · unfold mkO
    exact isB_app (isB_app (isB_lit (by decide)) (isB_rw ⟨1, by decide, rfl⟩ (mkD_b ok))) (isB_rw ⟨2, by decide, rfl⟩ isB_sg)
end CMAK
