/-! The reference: make, the new key -/
section MMK2
variable {M : kf_M} {fs : List Value} {tp ou : List Int32} {tl ol n w : Nat} {V : Vs} {tc fl g : Int32} {ks : List Ky} {wt : List Nat} {wd : List Int32} {W : Ws} {G : Gs} {cs kk fr sz : List Int32} {p : Nat} {m : PM}
theorem spl_lo {xs b : List Int32} {a L c r : Nat} (ha : a ≤ xs.length) (h : c + r ≤ a) : ((xs.take a ++ b ++ xs.drop (a + L)).drop c).take r = (xs.drop c).take r := by
  apply List.ext_getElem?
  intro i
  by_cases hi : i < r
  · rw [List.getElem?_take_of_lt hi, List.getElem?_take_of_lt hi, List.getElem?_drop, List.getElem?_drop, List.append_assoc, List.getElem?_append_left (by rw [List.length_take]; omega), List.getElem?_take_of_lt (by omega)]
  · rw [List.getElem?_eq_none (by rw [List.length_take]; omega), List.getElem?_eq_none (by rw [List.length_take]; omega)]
theorem spl_eq {xs b : List Int32} {a L : Nat} (ha : a ≤ xs.length) (h : b.length = L) : ((xs.take a ++ b ++ xs.drop (a + L)).drop a).take L = b := by
  rw [List.append_assoc, drop_app (a := xs.take a) (by rw [List.length_take]; omega), take_app h]
theorem spl_len {xs b : List Int32} {a L : Nat} (ha : a + L ≤ xs.length) (h : b.length = L) : (xs.take a ++ b ++ xs.drop (a + L)).length = xs.length := by
  rw [List.length_append, List.length_append, List.length_take, List.length_drop]
  omega
theorem spl_2 {xs b c : List Int32} {a : Nat} (ha : a + 64 ≤ xs.length) (hb : b.length = 32) (hc : c.length = 32) : ((((xs.take a ++ b ++ xs.drop (a + 32)).take (a + 32) ++ c ++ (xs.take a ++ b ++ xs.drop (a + 32)).drop (a + 32 + 32))).drop a).take 64 = b ++ c := by
  rw [take_app (a := xs.take a ++ b) (n := a + 32) (by rw [List.length_append, List.length_take]; omega), List.append_assoc, List.append_assoc, drop_app (a := xs.take a) (by rw [List.length_take]; omega), ← List.append_assoc, take_app (by rw [List.length_append]; omega)]
theorem pm_P {K : Nat} (h : PtM M fs (pmul K Gpt)) (h0 : 0 < K) (h1 : K < nN) : ∃ X Y : Nat, Wd M 313 X ∧ Wd M 314 Y ∧ kPt K = nBL 32 X ++ nBL 32 Y := by
  have hn := kG_some h0 h1
  unfold kPt
  generalize pmul K Gpt = P at *
  cases P with
  | none => exact absurd rfl hn
  | some xy =>
    obtain ⟨x, y⟩ := xy
    exact ⟨x.toNat, y.toNat, h.2.1, h.2.2, rfl⟩
/-- a place below stays -/
theorem kyN_lo {ho ul us se ide ct po hs t b c : List Int32} {i q d f L : Nat} {e1 e2 : Int32} {k : Ky} (hi : i < 10) (l1 : ho.length = 320) (l3 : us.length = 160) (l4 : se.length = 320) (l5 : ide.length = 160) (l7 : po.length = 640) (hb : b.length = 32) (ok : okKy k) (hq : q < i) (h : kyR ho ul us se ide ct po q k) : kyR (kf_cp hs ho 0 (32 * i) 32) (ul.set i e1) (kf_cp t us f (16 * i) L) (se.take (32 * i) ++ nBL 32 d ++ se.drop (32 * i + 32)) (ide.take (16 * i) ++ kId d ++ ide.drop (16 * i + 16)) (ct.set i e2) ((po.take (64 * i) ++ b ++ po.drop (64 * i + 32)).take (64 * i + 32) ++ c ++ (po.take (64 * i) ++ b ++ po.drop (64 * i + 32)).drop (64 * i + 32 + 32)) q k := by
  obtain ⟨r1, r2, r3, r4, r5, r6, r7⟩ := h
  have lu := ok.2.2.1
  have lp := spl_len (xs := po) (b := b) (a := 64 * i) (L := 32) (by omega) hb
  refine ⟨?_, ?_, ?_, ?_, ?_, ?_, ?_⟩
  · unfold kf_cp; rw [spl_lo (by omega) (by omega)]; exact r1
  · rw [List.getElem?_set_ne (by omega)]; exact r2
  · unfold kf_cp; rw [spl_lo (by omega) (by omega)]; exact r3
  · rw [spl_lo (by omega) (by omega)]; exact r4
  · rw [spl_lo (by omega) (by omega)]; exact r5
  · rw [List.getElem?_set_ne (by omega)]; exact r6
  · rw [spl_lo (by omega) (by omega), spl_lo (by omega) (by omega)]; exact r7
theorem kyN_eq {ho ul us se ide ct po hs t u b c : List Int32} {i d f : Nat} (hi : i < 10) (l1 : ho.length = 320) (l2 : ul.length = 10) (l3 : us.length = 160) (l4 : se.length = 320) (l5 : ide.length = 160) (l6 : ct.length = 10) (l7 : po.length = 640) (lh : hs.length = 32) (hb : b.length = 32) (hc : c.length = 32) (hp : kPt d = b ++ c) (lu : u.length ≤ 16) (hu : (t.drop f).take u.length = u) : kyR (kf_cp hs ho 0 (32 * i) 32) (ul.set i (nI u.length)) (kf_cp t us f (16 * i) u.length) (se.take (32 * i) ++ nBL 32 d ++ se.drop (32 * i + 32)) (ide.take (16 * i) ++ kId d ++ ide.drop (16 * i + 16)) (ct.set i 0) ((po.take (64 * i) ++ b ++ po.drop (64 * i + 32)).take (64 * i + 32) ++ c ++ (po.take (64 * i) ++ b ++ po.drop (64 * i + 32)).drop (64 * i + 32 + 32)) i (hs, u, d, 0) := by
  refine ⟨?_, ?_, ?_, ?_, ?_, ?_, ?_⟩
  · unfold kf_cp; rw [spl_eq (by omega) (by rw [List.drop_zero, List.length_take]; omega), List.drop_zero, List.take_of_length_le (by omega)]
  · rw [List.getElem?_set_self (by omega)]
  · unfold kf_cp; rw [spl_eq (by omega) (by rw [hu])]; exact hu
  · rw [spl_eq (by omega) nBL_len]
  · rw [spl_eq (by omega) kId_len]
  · rw [List.getElem?_set_self (by omega)]; rfl
  · rw [spl_2 (by omega) hb hc]; exact hp.symm
theorem MF.frsh {fs' : List Value} (h : MF fs tl ol V tc n w fl g) (h6' : fs'[6]? = some (.int (V.2.2.2.1 + 1))) (hf : Fo [6, 30] fs fs') : MF fs' tl ol (frV V) tc n w fl g := by
  obtain ⟨h2, h4, h6, h9, h10, h11, h12, h13, h21, h24, h25⟩ := h
  have e : ∀ k, k ∉ [6, 30] → ∀ y, fs[k]? = y → fs'[k]? = y := fun k w1 y hy => (hf k w1).trans hy
  exact ⟨e 2 (by decide) _ h2, e 4 (by decide) _ h4, h6', e 9 (by decide) _ h9, e 10 (by decide) _ h10, e 11 (by decide) _ h11, e 12 (by decide) _ h12, e 13 (by decide) _ h13, e 21 (by decide) _ h21, e 24 (by decide) _ h24, e 25 (by decide) _ h25⟩
set_option maxRecDepth 100000 in
set_option maxHeartbeats 8000000 in
theorem d190e {hs : List Int32} {l1 d3 : Int32} {v : PV} (h : MT M fs cs kk fr sz p) (hR : MR kk fr sz m) (ho : okM cs m) (bcs : isB cs) (m2 : MF fs tl ol V tc ks.length w fl g) (m3 : MAr M cs ou V ks [] wd G) (hh : ArI M 339 32 hs) (bhs : isB hs) (hl : ks.length < 10) (hm : m.getD 3 none = some v) (hk : v.1 = 2) (hz : 1 ≤ v.2.2.1 ∧ v.2.2.1 ≤ 16) : ∃ M' fs', kf_ev 190 208 [some (.ref 284), some (.int l1), some (.int 0), some (.int d3), none] [] M = kf_ev 190 408 [some (.ref 284), some (.int l1), some (.int 0), some (.int d3), some (.int (nI ks.length))] [] M' ∧ MT M' fs' cs kk fr sz p ∧ MF fs' tl ol (frV V) tc (ks.length + 1) w fl g ∧ MAr M' cs ou (frV V) (ks ++ [newK hs (rowOf cs m 3) V]) [] wd G ∧ Off CM M M' := by
  obtain ⟨y1, y2, y3⟩ := mTR h hR (by decide) hm
  have y3 := y3 (Or.inl hk)
  have hv := (ho.2 3 v (mG_some hm)).2.2.1 (Or.inl hk)
  have hcl : cs.length ≤ 400 := by
    obtain ⟨t, ht, ht2⟩ := m3.1
    have := congrArg List.length ht2
    rw [List.length_take, ht.2] at this
    omega
  have lrow : (rowOf cs m 3).length = v.2.2.1 := by rw [rowOf_eq hm, List.length_take, List.length_drop]; omega
  obtain ⟨u, eu⟩ : ∃ u, u = rowOf cs m 3 := ⟨_, rfl⟩
  rw [← eu] at lrow
  have bu : isB u := by rw [eu]; exact rowOf_b bcs
  rw [← lrow] at y2
  obtain ⟨a1, a2, a3, a4, a5, a6, a7, a8, a9, a10, a11, a12, a13, a14, a15, a16, a17, a18, a19, a20, a21, a22⟩ := m3
  obtain ⟨hos, ul, us, se, ide, ct, po, h7, hr, -⟩ := id a6
  obtain ⟨t, ht, ht2⟩ := id a1
  obtain ⟨i, ei⟩ : ∃ i, i = ks.length := ⟨_, rfl⟩
  rw [← ei] at hl
  have e32 : (32 : Int32) * nI i = nI (32 * i) := pk_mul 32 i
  have e16 : (16 : Int32) * nI i = nI (16 * i) := pk_mul 16 i
  have e64 : (64 : Int32) * nI i = nI (64 * i) := pk_mul 64 i
  have s64 : nI (64 * i) + 32 = nI (64 * i + 32) := nI_add _ 32
  have p0 : ¬ nI i < 0 := nI_pos (by omega)
  have p1 : (nI i).toNatClampNeg = i := nI_clamp (by omega)
  have q3 : ¬ (3 : Int32) < 0 := by decide
  have p3 : (3 : Int32).toNatClampNeg = 3 := by decide
  have bb1 : ¬ 291 < 19 := by decide
  have bb5 : ¬ 295 < 19 := by decide
  -- one more
  have gA := gO_of h.1.1
  have f13 := m2.2.2.2.2.2.2.2.1
  rw [← ei] at f13
  have l13 : 13 < fs.length := by rw [h.1.2.1]; decide
  have en : nI i + 1 = nI (i + 1) := nI_1 _
  obtain ⟨fs0, hF0⟩ : ∃ X, X = fs.set 13 (.int (nI (i + 1))) := ⟨_, rfl⟩
  obtain ⟨M0, e0⟩ : ∃ X, X = M.set 284 (oO 12 fs0) := ⟨_, rfl⟩
  have o0 : Off [284] M M0 := by rw [e0]; exact Off.set (by simp)
  have n0 : MdIs M0 fs0 := by rw [e0, hF0]; exact h.1.set (by decide)
  have g0 := gO_of n0.1
  have F0 : Fo [13] fs fs0 := by rw [hF0]; exact Fo.set
  have m20 : MF fs0 tl ol V tc (i + 1) w fl g := by rw [hF0]; exact m2.s13 h.1.2.1
  have r71 := n0.rf 71 339 (by decide)
  have r14 := n0.rf 14 290 (by decide)
  have r15 := n0.rf 15 291 (by decide)
  have r63 := n0.rf 63 334 (by decide)
  have r1 := n0.rf 1 285 (by decide)
  have r62 := n0.rf 62 333 (by decide)
  have r16 := n0.rf 16 292 (by decide)
  -- its house
  have hh0 := hh.off o0 (by decide)
  have h0 := h7.1.off o0 (by decide)
  have k1 := c130 (a := 0) (b := 32 * i) (n := 32) hh0.1 h0.1 (by decide) (by decide) (by rw [hh.2]; decide) (by rw [h0.2]; omega) (by rw [hh.2]; decide) (by rw [h0.2]; decide)
  obtain ⟨M1, e1⟩ : ∃ X, X = M0.set 290 (oI (kf_cp hs hos 0 (32 * i) 32)) := ⟨_, rfl⟩
  rw [← e1, nI_0, show nI 32 = 32 from rfl] at k1
  have o1 : Off [290] M0 M1 := by rw [e1]; exact Off.set (by simp)
  have z1 : ArI M1 290 320 (kf_cp hs hos 0 (32 * i) 32) := ⟨by rw [e1]; exact m_self (m_lt h0.1), by rw [kf_cp_len (by rw [hh.2]; decide) (by rw [h0.2]; omega)]; exact h0.2⟩
  have n1 := n0.off o1 (by decide)
  have g1 := gO_of n1.1
  have O1 : Off [284, 290] M M1 := (o0.wk (by decide)).tr (o1.wk (by decide))
  -- its user
  have gz := gI_of (h.2.2.2.2.2.1.off O1 (by decide)).1
  have hu1 := h7.2.1.off O1 (by decide)
  have gu := gI_of hu1.1
  have bu1 : ¬ ul.length ≤ i := by rw [hu1.2]; omega
  obtain ⟨M2, e2⟩ : ∃ X, X = M1.set 291 (oI (ul.set i (nI u.length))) := ⟨_, rfl⟩
  have o2 : Off [291] M1 M2 := by rw [e2]; exact Off.set (by simp)
  have z2 : ArI M2 291 10 (ul.set i (nI u.length)) := ⟨by rw [e2]; exact m_self (m_lt hu1.1), by rw [List.length_set]; exact hu1.2⟩
  have n2 := n1.off o2 (by decide)
  have g2 := gO_of n2.1
  have O2 : Off [284, 290, 291] M M2 := (O1.wk (by decide)).tr (o2.wk (by decide))
  have gz2 := gI_of (h.2.2.2.2.2.1.off O2 (by decide)).1
  have gf2 := gI_of (h.2.2.2.2.1.off O2 (by decide)).1
  have t2 := ht.off O2 (by decide)
  have us2 := h7.2.2.1.off O2 (by decide)
  have k3 := c130 (a := v.2.1) (b := 16 * i) (n := u.length) t2.1 us2.1 (by decide) (by decide) (by rw [t2.2]; omega) (by rw [us2.2]; omega) (by rw [t2.2]; decide) (by rw [us2.2]; decide)
  obtain ⟨M3, e3⟩ : ∃ X, X = M2.set 292 (oI (kf_cp t us v.2.1 (16 * i) u.length)) := ⟨_, rfl⟩
  rw [← e3] at k3
  have o3 : Off [292] M2 M3 := by rw [e3]; exact Off.set (by simp)
  have z3 : ArI M3 292 160 (kf_cp t us v.2.1 (16 * i) u.length) := ⟨by rw [e3]; exact m_self (m_lt us2.1), by rw [kf_cp_len (by rw [t2.2]; omega) (by rw [us2.2]; omega)]; exact us2.2⟩
  have n3 := n2.off o3 (by decide)
  have rc3 := n3.rc
  have O3 : Off [284, 290, 291, 292] M M3 := (O2.wk (by decide)).tr (o3.wk (by decide))
  -- a fresh row
  obtain ⟨fz, hfz⟩ := id a14
  have m3_ := a3.off O3 (by decide)
  have fz3 := hfz.off O3 (by decide)
  obtain ⟨M4, fs4, k4, s4, H4, d4, f46, q4, o4⟩ := c134 n3 (a11.off O3 (by decide)) (a10.of5 O3 (by decide)) m3_.1 m3_.2 fz3.1 fz3.2 m20.2.2.1
  have g4 := gO_of s4.1.1
  have rc4 := s4.1.rc
  have F4 : Fo [6, 30] fs0 fs4 := fun k hk => q4 k (fun w => hk (by simp [w])) (fun w => hk (by simp [w]))
  have m24 := m20.frsh f46 F4
  have O4 : Off [284, 290, 291, 292, 302, 303, 304, 305, 307] M M4 := (O3.wk (by decide)).tr (o4.wk (by decide))
  have r51 := s4.1.rf 51 322 (by decide)
  have r35 := s4.1.rf 35 307 (by decide)
  have r17 := s4.1.rf 17 293 (by decide)
  -- the secret
  obtain ⟨N0, N1⟩ := nb_32 (isB_frs (ms := V.1) (t := V.2.2.2.1)) frs_len
  have hss : 0 < secN (frs V.1 V.2.2.2.1) ∧ secN (frs V.1 V.2.2.2.1) < nN := by
    obtain ⟨w1, w2, -⟩ := secN_ok (isB_frs (ms := V.1) (t := V.2.2.2.1)) frs_len
    exact ⟨w1, w2⟩
  have hsec : (drw nN (nb (frs V.1 V.2.2.2.1))).toNat = secN (frs V.1 V.2.2.2.1) := by unfold secN; rfl
  have lfr : (frs V.1 V.2.2.2.1).length = 32 := frs_len
  obtain ⟨M5, k5, w5, C5, o5⟩ := n158 (to := 322) (row := 307) (at1 := 0) s4.1 (a12.off' O4 (by decide)) (by decide) (by decide) (by decide) d4 (by rw [lfr]; decide) (by rw [lfr]; decide) (by rw [List.drop_zero, List.take_of_length_le (by rw [lfr]; decide)]; exact N1) N0
  rw [nI_0] at k5
  rw [hsec] at w5
  have enk : newK hs (rowOf cs m 3) V = (hs, u, secN (frs V.1 V.2.2.2.1), 0) := by rw [eu]; rfl
  rw [enk]
  clear enk hsec N1 N0
  have Z4 : ArE M4 307 32 := ⟨_, d4, lfr⟩
  generalize secN (frs V.1 V.2.2.2.1) = d at *
  clear d4 lfr
  have n5 := s4.1.off o5 (by decide)
  have g5 := gO_of n5.1
  have O5 : Off [284, 290, 291, 292, 302, 303, 304, 305, 307, 322, 317, 318] M M5 := (O4.wk (by decide)).tr (o5.wk (by decide))
  have se5 := h7.2.2.2.1.off O5 (by decide)
  have k6 := n153 (at1 := 32 * i) w5 (row := 293) (by decide) (by decide) se5.1 (by rw [se5.2]; decide) (by rw [se5.2]; omega)
  obtain ⟨M6, e6⟩ : ∃ X, X = M5.set 293 (oI (se.take (32 * i) ++ nBL 32 d ++ se.drop (32 * i + 32))) := ⟨_, rfl⟩
  rw [← e6] at k6
  have o6 : Off [293] M5 M6 := by rw [e6]; exact Off.set (by simp)
  have z6 : ArI M6 293 320 (se.take (32 * i) ++ nBL 32 d ++ se.drop (32 * i + 32)) := ⟨by rw [e6]; exact m_self (m_lt se5.1), by rw [spl_len (by rw [se5.2]; omega) nBL_len]; exact se5.2⟩
  have n6 := n5.off o6 (by decide)
  have rc6 := n6.rc
  have o46 : Off [322, 317, 318, 293] M4 M6 := (o5.wk (by decide)).tr (o6.wk (by decide))
  -- its id
  obtain ⟨X6, gX6, lX6⟩ : MX M6 := s4.mx.off o46 (by decide)
  obtain ⟨M7, k7, s7, o7⟩ := c121 n6 gX6 lX6
  have g7 := gO_of s7.1.1
  have rc7 := s7.1.rc
  have r17_7 := s7.1.rf 17 293 (by decide)
  have z7 := z6.off o7 (by decide)
  obtain ⟨M8, fs8, k8, s8, q8, o8⟩ := c123 (b := 293) (f := 32 * i) (n := 32) s7 z7.1 (by rw [z7.2]; omega) (by rw [z7.2]; decide) (by decide) (by show 0 + _ ≤ _; decide)
  have eb : (nBL 32 d).map (· &&& 255) = nBL 32 d := byt_id isB_nBL
  rw [List.nil_append, spl_eq (by rw [se5.2]; omega) nBL_len, eb] at s8
  rw [show nI 32 = 32 from rfl] at k8
  have g8 := gO_of s8.1.1
  have rc8 := s8.1.rc
  have r18 := s8.1.rf 18 294 (by decide)
  have o48 : Off [322, 317, 318, 293, 284, 302] M4 M8 := ((o46.wk (by decide)).tr (o7.wk (by decide))).tr (o8.wk (by decide))
  have O8 : Off [284, 290, 291, 292, 302, 303, 304, 305, 307, 322, 317, 318, 293] M M8 := (O4.wk (by decide)).tr (o48.wk (by decide))
  have id8 := h7.2.2.2.2.1.off O8 (by decide)
  obtain ⟨M9, fs9, k9, s9, H9, d9, q9, o9⟩ := c129 (n := 16) (b := 294) (at1 := 16 * i) s8 (H4.of5 o48 (by decide)) (by rw [nBL_len]; decide) id8.1 (by decide) (by decide) (by decide) (by rw [id8.2]; omega) (by rw [id8.2]; decide)
  rw [show nI 16 = 16 from rfl] at k9
  have d9 : M9[294]? = some (oI (ide.take (16 * i) ++ kId d ++ ide.drop (16 * i + 16))) := d9
  have z9 : ArI M9 294 160 (ide.take (16 * i) ++ kId d ++ ide.drop (16 * i + 16)) := ⟨d9, by rw [spl_len (by rw [id8.2]; omega) kId_len]; exact id8.2⟩
  have g9 := gO_of s9.1.1
  have r19 := s9.1.rf 19 295 (by decide)
  have O9 : Off [284, 290, 291, 292, 302, 303, 304, 305, 307, 322, 317, 318, 293, 294] M M9 := (O8.wk (by decide)).tr (o9.wk (by decide))
  -- its counter
  have ct9 := h7.2.2.2.2.2.1.off O9 (by decide)
  have gc9 := gI_of ct9.1
  have bc9 : ¬ ct.length ≤ i := by rw [ct9.2]; omega
  obtain ⟨M10, e10⟩ : ∃ X, X = M9.set 295 (oI (ct.set i 0)) := ⟨_, rfl⟩
  have o10 : Off [295] M9 M10 := by rw [e10]; exact Off.set (by simp)
  have z10 : ArI M10 295 10 (ct.set i 0) := ⟨by rw [e10]; exact m_self (m_lt ct9.1), by rw [List.length_set]; exact ct9.2⟩
  have n10 := s9.1.off o10 (by decide)
  have g10 := gO_of n10.1
  have rc10 := n10.rc
  have r51_10 := n10.rf 51 322 (by decide)
  -- its point
  have o510 : Off [293, 284, 302, 303, 304, 305, 294, 295] M5 M10 := ((((o6.wk (by decide)).tr (o7.wk (by decide))).tr (o8.wk (by decide))).tr (o9.wk (by decide))).tr (o10.wk (by decide))
  have C10 := C5.off' o510 (by decide)
  obtain ⟨M11, fs11, k11, n11, C11, P11, e11, o11⟩ := n157 (kr := 322) (xr := 15) (yr := 16) (x := gXn) (y := gYn) n10 C10 (w5.off o510 (by decide)) C10.2.2.2.2.1 C10.2.2.2.2.2 (by rw [← gXY]; exact Gpt_v) (by decide) (by decide) (by decide)
  rw [← gXY] at P11
  obtain ⟨x, y, wx, wy, ePt⟩ := pm_P P11 hss.1 hss.2
  have g11 := gO_of n11.1
  have r41 := n11.rf 41 313 (by decide)
  have r42 := n11.rf 42 314 (by decide)
  have r20 := n11.rf 20 296 (by decide)
  have O11 : Off [284, 290, 291, 292, 302, 303, 304, 305, 307, 322, 317, 318, 293, 294, 295, 308, 309, 310, 311, 312, 313, 314, 315, 316, 319, 320, 321] M M11 := ((O9.wk (by decide)).tr (o10.wk (by decide))).tr (o11.wk (by decide))
  have po11 := h7.2.2.2.2.2.2.off O11 (by decide)
  have k12 := n153 (at1 := 64 * i) wx (row := 296) (by decide) (by decide) po11.1 (by rw [po11.2]; decide) (by rw [po11.2]; omega)
  obtain ⟨M12, e12⟩ : ∃ X, X = M11.set 296 (oI (po.take (64 * i) ++ nBL 32 x ++ po.drop (64 * i + 32))) := ⟨_, rfl⟩
  rw [← e12] at k12
  have o12 : Off [296] M11 M12 := by rw [e12]; exact Off.set (by simp)
  have lp := spl_len (xs := po) (b := nBL 32 x) (a := 64 * i) (L := 32) (by rw [po11.2]; omega) nBL_len
  rw [po11.2] at lp
  have z12 : ArI M12 296 640 (po.take (64 * i) ++ nBL 32 x ++ po.drop (64 * i + 32)) := ⟨by rw [e12]; exact m_self (m_lt po11.1), lp⟩
  have n12 := n11.off o12 (by decide)
  have g12 := gO_of n12.1
  have k13 := n153 (at1 := 64 * i + 32) (wy.off o12 (by decide)) (row := 296) (by decide) (by decide) z12.1 (by rw [lp]; decide) (by rw [lp]; omega)
  obtain ⟨M13, e13⟩ : ∃ X, X = M12.set 296 (oI ((po.take (64 * i) ++ nBL 32 x ++ po.drop (64 * i + 32)).take (64 * i + 32) ++ nBL 32 y ++ (po.take (64 * i) ++ nBL 32 x ++ po.drop (64 * i + 32)).drop (64 * i + 32 + 32))) := ⟨_, rfl⟩
  rw [← e13] at k13
  have o13 : Off [296] M12 M13 := by rw [e13]; exact Off.set (by simp)
  have z13 : ArI M13 296 640 ((po.take (64 * i) ++ nBL 32 x ++ po.drop (64 * i + 32)).take (64 * i + 32) ++ nBL 32 y ++ (po.take (64 * i) ++ nBL 32 x ++ po.drop (64 * i + 32)).drop (64 * i + 32 + 32)) := ⟨by rw [e13]; exact m_self (m_lt z12.1), by rw [spl_len (by rw [lp]; omega) nBL_len]; exact lp⟩
  have n13 := n12.off o13 (by decide)
  have O13 : Off [284, 290, 291, 292, 302, 303, 304, 305, 307, 322, 317, 318, 293, 294, 295, 308, 309, 310, 311, 312, 313, 314, 315, 316, 319, 320, 321, 296] M M13 := ((O11.wk (by decide)).tr (o12.wk (by decide))).tr (o13.wk (by decide))
  have o1113 : Off [296] M11 M13 := o12.tr o13
  have o1013 : Off (296 :: A157) M10 M13 := (o11.wk (by decide)).tr (o1113.wk (by decide))
  have o913 : Off (295 :: 296 :: A157) M9 M13 := (o10.wk (by decide)).tr (o1013.wk (by decide))
  have o413 : Off [322, 317, 318, 293, 284, 302, 303, 304, 305, 294, 295, 296, 308, 309, 310, 311, 312, 313, 314, 315, 316, 319, 320, 321] M4 M13 := ((o48.wk (by decide)).tr (o9.wk (by decide))).tr (o913.wk (by decide))
  have F411 : Fo [30, 43] fs4 fs11 := fun k hk => by
    have w1 : k ≠ 30 := fun w => hk (by simp [w])
    have w2 : k ≠ 43 := fun w => hk (by simp [w])
    rw [e11 k w2, q9 k w1, q8 k w1, List.getElem?_set_ne (Ne.symm w1)]
  have FF : Fo [6, 13, 30, 43] fs fs11 := fun k hk => by
    have w1 : k ∉ [30, 43] := fun w => hk (by simp at w ⊢; omega)
    have w2 : k ∉ [6, 30] := fun w => hk (by simp at w ⊢; omega)
    have w3 : k ∉ [13] := fun w => hk (by simp at w ⊢; omega)
    rw [F411 k w1, F4 k w2, F0 k w3]
  have hK : MK M13 (ks ++ [(hs, u, d, 0)]) := by
    refine ⟨_, _, _, _, _, _, _, ⟨z1.off (A := [291, 292, 284, 302, 303, 304, 305, 307, 322, 317, 318, 293, 294, 295, 296, 308, 309, 310, 311, 312, 313, 314, 315, 316, 319, 320, 321]) (((o2.wk (by decide)).tr (o3.wk (by decide))).tr ((o4.wk (by decide)).tr (o413.wk (by decide)))) (by decide), z2.off (A := [292, 284, 302, 303, 304, 305, 307, 322, 317, 318, 293, 294, 295, 296, 308, 309, 310, 311, 312, 313, 314, 315, 316, 319, 320, 321]) ((o3.wk (by decide)).tr ((o4.wk (by decide)).tr (o413.wk (by decide)))) (by decide), z3.off (A := [284, 302, 303, 304, 305, 307, 322, 317, 318, 293, 294, 295, 296, 308, 309, 310, 311, 312, 313, 314, 315, 316, 319, 320, 321]) ((o4.wk (by decide)).tr (o413.wk (by decide))) (by decide), (z7.off (A := [284, 302, 303, 304, 305, 294, 295, 296, 308, 309, 310, 311, 312, 313, 314, 315, 316, 317, 318, 319, 320, 321]) (((o8.wk (by decide)).tr (o9.wk (by decide))).tr (o913.wk (by decide))) (by decide)), z9.off o913 (by decide), z10.off o1013 (by decide), z13⟩, fun q k hk => ?_, by rw [List.length_append, ← ei]; show i + 1 ≤ 10; omega⟩
    by_cases c : q < i
    · rw [List.getElem?_append_left (by omega)] at hk
      obtain ⟨w1, w2⟩ := hr q k hk
      exact ⟨w1, kyN_lo hl h7.1.2 h7.2.2.1.2 h7.2.2.2.1.2 h7.2.2.2.2.1.2 h7.2.2.2.2.2.2.2 nBL_len w1 c w2⟩
    · have hq : q < i + 1 := by
        have := (List.getElem?_eq_some_iff.mp hk).1
        rw [List.length_append, ← ei] at this
        exact this
      have hq : q = i := by omega
      subst hq
      rw [List.getElem?_append_right (by omega), ← ei, Nat.sub_self] at hk
      cases hk
      refine ⟨⟨hh.2, bhs, ⟨by show 1 ≤ u.length; omega, by show u.length ≤ 16; omega⟩, bu, hss, by show 0 < _; decide⟩, kyN_eq hl h7.1.2 h7.2.1.2 h7.2.2.1.2 h7.2.2.2.1.2 h7.2.2.2.2.1.2 h7.2.2.2.2.2.1.2 h7.2.2.2.2.2.2.2 hh.2 nBL_len nBL_len ePt (by omega) ?_⟩
      rw [lrow, seg_eq ht2 hv, eu, rowOf_eq hm]
  have fin : MAr M13 cs ou (frV V) (ks ++ [(hs, u, d, 0)]) [] wd G := by
    obtain ⟨ws, hws, -⟩ := id a7
    exact ⟨a1.off O13 (by decide), a2.off O13 (by decide), a3.off O13 (by decide), a4.off O13 (by decide), a5.off O13 (by decide), hK, ⟨ws, hws.off O13 (by decide), fun i x hx => by cases hx⟩, a8.off O13 (by decide), a9.off O13 (by decide), H9.of5 o913 (by decide), s9.mx.off o913 (by decide), C11.off' o1113 (by decide), a13.off O13 (by decide), Z4.off o413 (by decide), a15.off O13 (by decide), a16.off O13 (by decide), a17.off O13 (by decide), a18.off O13 (by decide), a19.off O13 (by decide), a20.off O13 (by decide), a21.off O13 (by decide), a22.off O13 (by decide)⟩
  refine ⟨M13, fs11, (e190_208 _ _ _).trans ?_, h.fo n13 FF (by decide) O13 (by decide), ?_, fin, O13.cm (by decide)⟩
  · rw [← ei]
    simp only [cl_190, e190_0, e190_1, e190_4, e190_5, e190_6, e190_7, e190_8, e190_10, e190_12, e190_15, e190_16, e190_17, e190_18, e190_19, e190_20, e190_22, e190_25, e190_26, e190_27, e190_28, e190_29, e190_30, e190_32, e190_35, e190_36, e190_37, e190_38, e190_39, e190_41, e190_43, e190_46, e190_47, e190_49, e190_50, e190_51, e190_53, e190_55, e190_58, e190_59, e190_60, e190_63, e190_64, e190_65, e190_68, e190_69, e190_70, e190_71, e190_72, e190_75, e190_76, e190_78, e190_79, e190_82, e190_85, e190_86, e190_89, e190_90, e190_91, e190_94, e190_95, e190_96, e190_99, e190_102, e190_103, e190_104, e190_105, e190_108, e190_111, e190_113, e190_114, e190_117, e190_121, e190_124, e190_127, e190_128, e190_131, e190_133, e190_134, e190_137, e190_139, e190_140, e190_141, e190_144, e190_147, e190_148, e190_150, e190_151, e190_154, e190_157, e190_159, e190_161, e190_162, e190_165, e190_166, e190_167, e190_168, e190_171, e190_172, e190_175, e190_177, e190_180, e190_182, e190_184, e190_187, e190_190, e190_192, e190_194, e190_195, e190_198, e190_199, e190_200, e190_203, e190_204, e190_205, e190_209, e190_212, e190_214, e190_215, e190_216, e190_219, e190_220, e190_221, e190_224, e190_225, e190_228, e190_229, e190_230, e190_233, e190_235, e190_237, e190_238, e190_240, e190_243, e190_244, e190_247, e190_249, e190_250, e190_253, e190_254, e190_255, e190_256, e190_257, e190_260, e190_261, e190_264, e190_265, e190_266, e190_267, e190_270, e190_272, e190_274, e190_275, e190_276, e190_279, e190_280, e190_281, e190_284, e190_285, e190_288, e190_289, e190_290, e190_293, e190_294, e190_297, e190_298, e190_301, e190_302, e190_305, e190_306, e190_309, e190_311, e190_313, e190_314, e190_317, e190_318, e190_321, e190_322, e190_323, e190_326, e190_328, e190_330, e190_331, e190_333, e190_336, e190_337, e190_339, e190_340, e190_343, e190_345, e190_347, e190_348, e190_351, e190_352, e190_355, e190_357, e190_358, e190_359, e190_360, e190_361, e190_364, e190_367, e190_370, e190_373, e190_374, e190_377, e190_378, e190_381, e190_383, e190_385, e190_386, e190_389, e190_390, e190_393, e190_394, e190_397, e190_399, e190_401, e190_402, e190_404, e190_405, e190_409, e190_411, e190_412, e190_415, e190_418, e190_420, e190_423, e190_425, e190_428, e190_429, e190_430, e190_433, e190_435, e190_437, e190_438, e190_440, e190_443, e190_444, e190_445, e190_448, e190_450, e190_452, e190_453, e190_455, e190_458, e190_459, e190_461, e190_462, e190_465, e190_466, e190_469, e190_470, e190_471, e190_474, e190_475, e190_478, e190_481, e190_482, e190_483, e190_484, e190_487, e190_488, e190_489, e190_492, e190_495, e190_496, e190_497, e190_498, e190_501, e190_502, e190_504, e190_507, e190_508, ow_190, Int32.reduceOfInt, Int32.reduceOfNat, Int32.reduceToNatClampNeg, Int32.reduceLT, Int32.reduceLE, Int32.reduceAdd, Int32.reduceSub, Int32.reduceMul, Int64.reduceOfNat, Int64.reduceOfInt, Nat.reduceLeDiff, Nat.reduceLT, Nat.reduceEqDiff, Nat.reduceSub, cs_0, cs_1, cs_2, cs_3, cs_4, cs_5, cs_6, cs_7, cs_8, or_false, false_or, not_false_eq_true, and_true, true_and, if_true, if_false, List.length_cons, List.length_nil, List.getElem?_cons_succ, List.getElem?_cons_zero, List.set_cons_succ, List.set_cons_zero, reduceIte, d_G, d_R, s_aload, s_aload_n, s_iload, s_iload_n, s_lload, s_lload_n, s_istore, s_istore_n, s_astore, s_astoreN, s_astore_n, s_astore_nN, s_lstore, s_lstore_n, s_iinc, s_iconst, s_bipush, s_sipush, s_lconst, s_ldc2_w, s_aconst_null, s_dupA, s_dupI, s_dup2, s_iadd, s_isub, s_imul, s_iand, s_ior, s_ixor, s_ishl, s_ishr, s_iushr, s_ineg, s_idiv, s_irem, s_ladd, s_lsub, s_lmul, s_land, s_lor, s_lxor, s_ldiv, s_lshl, s_lshr, s_lushr, s_i2l, s_l2i, s_lcmp, s_goto, s_ieq, s_ine, s_ilt, s_ige, s_igt, s_ile, s_zeq, s_zne, s_zlt, s_zge, s_zgt, s_zle, s_ifnull, s_ifnullN, s_ifnonnull, s_ifnonnullN, s_tableswitch, s_lookupswitch, s_getfield, s_putfield, s_getstatic, s_iaload, s_laload, s_baload, s_aaload, s_iastore, s_lastore, s_bastore, s_aastore, s_arraylength, s_newI, s_newJ, s_newZ, s_anewarray, s_new, s_copy, s_max, s_min, s_invokestatic, s_objinit, s_invokespecial, kf_isr_r, s_invokevirtual, s_ireturn, s_lreturn, s_areturn, s_areturnN, s_return, lI_0, lI_s, lJ_0, lJ_s, lA_0, lA_0N, lA_s, lS1_0, lS1_1, lS1_2, lS2_0, lS2_1, lS2_2, lK_n, lK_i, lK_j, lK_a, lK_N, d_C', kf_w_0, kf_w_i, kf_w_a, kf_w_n, kf_w_j, c_0, c_1, c_2, c_3, c_4, c_5, c_6, tl_0, tl_1, Option.bind_some, Option.bind_none, Option.map_some, Nat.reduceAdd, Nat.reduceMul, Nat.reduceDiv, Nat.reduceMod, Int.reduceToNat, Fin.val_zero, Fin.isValue, Fin.val_one, Fin.val_two, fv_0, fv_1, fv_2, fv_3, fw_0, fw_1, d_ite, true_or, or_true, and_false, false_and, or_self, and_self, ow_134, ow_158, ow_121, ow_123, ow_129, ow_157, gA, f13, en, l13, kf_fit, ← hF0, ← e0, g0, r71, r14, e32, k1, g1, r15, r63, gz, gu, q3, p3, y2, p0, p1, bu1, bb1, bb5, kf_NS, ← e2, g2, r1, r62, gf2, y3, r16, gz2, e16, k3, rc3, k4, g4, r51, r35, rc4, k5, g5, r17, k6, rc6, k7, g7, r17_7, rc7, k8, g8, r18, rc8, k9, g9, r19, gc9, bc9, ← e10, g10, r51_10, rc10, k11, g11, r41, r20, e64, k12, g12, r42, s64, k13]
  · rw [← ei]; exact m24.fo F411 (by decide)
end MMK2
