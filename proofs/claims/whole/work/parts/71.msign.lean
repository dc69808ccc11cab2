/-! sign -/
def Fo (S : List Nat) (f f' : List Value) : Prop := ∀ k, k ∉ S → f'[k]? = f[k]?
theorem Fo.rf {S : List Nat} {f : List Value} : Fo S f f := fun _ _ => rfl
theorem Fo.tr {S : List Nat} {f g h : List Value} (h1 : Fo S f g) (h2 : Fo S g h) : Fo S f h := fun k hk => (h2 k hk).trans (h1 k hk)
theorem Fo.wk {S T : List Nat} {f g : List Value} (h : Fo S f g) (hST : ∀ k ∈ S, k ∈ T) : Fo T f g := fun k hk => h k (fun q => hk (hST k q))
theorem Fo.of30 {f g : List Value} (h : ∀ k, k ≠ 30 → g[k]? = f[k]?) : Fo [30] f g := fun k hk => h k (by simpa using hk)
theorem Fo.of43 {f g : List Value} (h : fs43 f g) : Fo [43] f g := fun k hk => h k (by simpa using hk)
theorem Fo.set {f : List Value} {k : Nat} {v : Value} : Fo [k] f (f.set k v) := fun j hj => List.getElem?_set_ne (fun e => hj (by simp [e]))
theorem MX.off {M M' : kf_M} {A : List Nat} (h : MX M) (ho : Off A M M') (h0 : 302 ∉ A) : MX M' := by
  obtain ⟨X, h1, h2⟩ := h
  exact ⟨X, ho.at h0 h1, h2⟩
theorem MH.of5 {M M' : kf_M} {A : List Nat} (h : MH M) (ho : Off A M M') (hA : ∀ a ∈ A, a ∉ [12, 13, 303, 304, 305]) : MH M' := h.off ho (fun q => hA _ q (by simp)) (fun q => hA _ q (by simp)) (fun q => hA _ q (by simp)) (fun q => hA _ q (by simp)) (fun q => hA _ q (by simp))
theorem q121 {M : kf_M} {fs : List Value} (h : MdIs M fs) (hX : MX M) : ∃ M', kf_cl 121 [.ref 284] M = some (none, M') ∧ MsgIs M' (fs.set 30 (.int 0)) [] ∧ Off [284, 302] M M' := by
  obtain ⟨X, h1, h2⟩ := hX
  exact c121 h h1 h2
theorem mod_u {m : Nat} {v : Nat} {X : Int} (hv : v < m) (h : cg m v X) : (v : Int) = X % m := cg_md (by omega) (by omega) h
theorem pm_G {M : kf_M} {fs : List Value} {K : Nat} (h : PtM M fs (pmul K Gpt)) (h0 : 0 < K) (h1 : K < nN) : ∃ X : Nat, Wd M 313 X ∧ (X : Int) = aX K ∧ X < pP := by
  have hn := kG_some h0 h1
  have hv := Gm_v K
  unfold aX
  rw [show ((K : Int)).toNat = K from rfl]
  cases hq : pmul K Gpt with
  | none => exact absurd hq hn
  | some xy =>
    obtain ⟨x, y⟩ := xy
    rw [hq] at h hv
    have e := toN hv.1
    refine ⟨x.toNat, h.2.1, e, ?_⟩
    have := hv.2.1
    omega
def A159 : List Nat := [284, 302, 303, 304, 305, 308, 309, 310, 311, 312, 313, 314, 315, 316, 317, 318, 319, 320, 321, 323, 325, 326]
def SgM (M : kf_M) (fs : List Value) (kk : Nat) (sec dig nu : List Int32) : Prop := MdIs M fs ∧ Cal M ∧ MH M ∧ MX M ∧ ArI M 293 320 nu ∧ (nu.drop (32 * kk)).take 32 = sec ∧ ArI M 341 32 dig ∧ Wd M 322 (nb sec) ∧ Wd M 324 (nb dig % nN)
theorem gXY : Gpt = some (((gXn : Nat) : Int), ((gYn : Nat) : Int)) := rfl
set_option maxRecDepth 100000 in
set_option maxHeartbeats 4000000 in
theorem n159b {M : kf_M} {fs : List Value} {kk i : Nat} {sec dig nu : List Int32} (hS : SgM M fs kk sec dig nu) (hkk : kk < 10) (bs : isB sec) (bd : isB dig) (hi : i < 256) : ∃ (M' : kf_M) (fs' : List Value) (r v : Nat), kf_ev 159 39 [some (.ref 284), some (.int (nI kk)), some (.ref 341), some (.int 0), some (.int (nI i))] [] M = kf_ev 159 39 [some (.ref 284), some (.int (nI kk)), some (.ref 341), some (.int (if r ≠ 0 ∧ v ≠ 0 then 1 else 0)), some (.int (nI (i + 1)))] [] M' ∧ SgM M' fs' kk sec dig nu ∧ (r : Int) = aX (nonce sec dig i) % nN ∧ (v : Int) = aS (nonce sec dig i) (nb sec) (nb dig) ∧ r < nN ∧ v < nN ∧ Wd M' 325 r ∧ Wd M' 326 v ∧ Fo [30, 43] fs fs' ∧ Off A159 M M' := by
  obtain ⟨hM, hC, hH, hX, hnu, hse, hdi, hky, hha⟩ := hS
  have hno1 := nN_o
  have ls : sec.length = 32 := by rw [← hse, List.length_take, List.length_drop, hnu.2]; omega
  have g0 := gO_of hM.1
  have rc0 := hM.rc
  have r17_0 := hM.rf 17 293 (by decide)
  have r33_0 := hM.rf 33 305 (by decide)
  have r41_0 := hM.rf 41 313 (by decide)
  have r46_0 := hM.rf 46 317 (by decide)
  have r51_0 := hM.rf 51 322 (by decide)
  have r52_0 := hM.rf 52 323 (by decide)
  have r53_0 := hM.rf 53 324 (by decide)
  have r54_0 := hM.rf 54 325 (by decide)
  have r55_0 := hM.rf 55 326 (by decide)
  obtain ⟨M1, k1, m1, o1⟩ := q121 hM hX
  have nu_1 := hnu.off o1 (by decide)
  have di_1 := hdi.off o1 (by decide)
  have ky_1 := hky.off o1 (by decide)
  have ha_1 := hha.off o1 (by decide)
  have O1 : Off A159 M M1 := o1.wk (by decide)
  have C1 := hC.off' o1 (by decide)
  have g1 := gO_of m1.1.1
  have rc1 := m1.1.rc
  have r17_1 := m1.1.rf 17 293 (by decide)
  have r33_1 := m1.1.rf 33 305 (by decide)
  have r41_1 := m1.1.rf 41 313 (by decide)
  have r46_1 := m1.1.rf 46 317 (by decide)
  have r51_1 := m1.1.rf 51 322 (by decide)
  have r52_1 := m1.1.rf 52 323 (by decide)
  have r53_1 := m1.1.rf 53 324 (by decide)
  have r54_1 := m1.1.rf 54 325 (by decide)
  have r55_1 := m1.1.rf 55 326 (by decide)
  have mh_1 := hH.of5 o1 (by decide)
  obtain ⟨M2, f2, k2, m2, e2, o2⟩ := c123 (b := 293) (f := 32 * kk) (n := 32) m1 nu_1.1 (by rw [nu_1.2]; omega) (by rw [nu_1.2]; decide) (by decide) (by decide)
  have nu_2 := nu_1.off o2 (by decide)
  have di_2 := di_1.off o2 (by decide)
  have ky_2 := ky_1.off o2 (by decide)
  have ha_2 := ha_1.off o2 (by decide)
  have O2 : Off A159 M M2 := O1.tr (o2.wk (by decide))
  have C2 := C1.off' o2 (by decide)
  have g2 := gO_of m2.1.1
  have rc2 := m2.1.rc
  have r17_2 := m2.1.rf 17 293 (by decide)
  have r33_2 := m2.1.rf 33 305 (by decide)
  have r41_2 := m2.1.rf 41 313 (by decide)
  have r46_2 := m2.1.rf 46 317 (by decide)
  have r51_2 := m2.1.rf 51 322 (by decide)
  have r52_2 := m2.1.rf 52 323 (by decide)
  have r53_2 := m2.1.rf 53 324 (by decide)
  have r54_2 := m2.1.rf 54 325 (by decide)
  have r55_2 := m2.1.rf 55 326 (by decide)
  have mh_2 := mh_1.of5 o2 (by decide)
  rw [hse, show sec.map (· &&& 255) = byt sec from rfl, byt_id bs, List.nil_append] at m2
  obtain ⟨M3, f3, k3, m3, e3, o3⟩ := c123 (b := 341) (f := 0) (n := 32) m2 di_2.1 (by rw [di_2.2]; decide) (by rw [di_2.2]; decide) (by decide) (by rw [ls]; decide)
  have nu_3 := nu_2.off o3 (by decide)
  have di_3 := di_2.off o3 (by decide)
  have ky_3 := ky_2.off o3 (by decide)
  have ha_3 := ha_2.off o3 (by decide)
  have O3 : Off A159 M M3 := O2.tr (o3.wk (by decide))
  have C3 := C2.off' o3 (by decide)
  have g3 := gO_of m3.1.1
  have rc3 := m3.1.rc
  have r17_3 := m3.1.rf 17 293 (by decide)
  have r33_3 := m3.1.rf 33 305 (by decide)
  have r41_3 := m3.1.rf 41 313 (by decide)
  have r46_3 := m3.1.rf 46 317 (by decide)
  have r51_3 := m3.1.rf 51 322 (by decide)
  have r52_3 := m3.1.rf 52 323 (by decide)
  have r53_3 := m3.1.rf 53 324 (by decide)
  have r54_3 := m3.1.rf 54 325 (by decide)
  have r55_3 := m3.1.rf 55 326 (by decide)
  have mh_3 := mh_2.of5 o3 (by decide)
  rw [List.drop_zero, List.take_of_length_le (by rw [di_3.2]; decide), show dig.map (· &&& 255) = byt dig from rfl, byt_id bd] at m3
  obtain ⟨M4, k4, m4, o4⟩ := c122 (v := nI i) m3 (by rw [List.length_append, ls, hdi.2]; decide)
  have nu_4 := nu_3.off o4 (by decide)
  have di_4 := di_3.off o4 (by decide)
  have ky_4 := ky_3.off o4 (by decide)
  have ha_4 := ha_3.off o4 (by decide)
  have O4 : Off A159 M M4 := O3.tr (o4.wk (by decide))
  have C4 := C3.off' o4 (by decide)
  have g4 := gO_of m4.1.1
  have rc4 := m4.1.rc
  have r17_4 := m4.1.rf 17 293 (by decide)
  have r33_4 := m4.1.rf 33 305 (by decide)
  have r41_4 := m4.1.rf 41 313 (by decide)
  have r46_4 := m4.1.rf 46 317 (by decide)
  have r51_4 := m4.1.rf 51 322 (by decide)
  have r52_4 := m4.1.rf 52 323 (by decide)
  have r53_4 := m4.1.rf 53 324 (by decide)
  have r54_4 := m4.1.rf 54 325 (by decide)
  have r55_4 := m4.1.rf 55 326 (by decide)
  have mh_4 := mh_3.of5 o4 (by decide)
  obtain ⟨M5, f5, k5, m5, mh5, d5, e5, o5⟩ := c128 m4 mh_4 (by rw [List.length_append, List.length_append, ls, hdi.2]; show 32 + 32 + 1 ≤ 440; decide)
  have nu_5 := nu_4.off o5 (by decide)
  have di_5 := di_4.off o5 (by decide)
  have ky_5 := ky_4.off o5 (by decide)
  have ha_5 := ha_4.off o5 (by decide)
  have O5 : Off A159 M M5 := O4.tr (o5.wk (by decide))
  have C5 := C4.off' o5 (by decide)
  have g5 := gO_of m5.1.1
  have rc5 := m5.1.rc
  have r17_5 := m5.1.rf 17 293 (by decide)
  have r33_5 := m5.1.rf 33 305 (by decide)
  have r41_5 := m5.1.rf 41 313 (by decide)
  have r46_5 := m5.1.rf 46 317 (by decide)
  have r51_5 := m5.1.rf 51 322 (by decide)
  have r52_5 := m5.1.rf 52 323 (by decide)
  have r53_5 := m5.1.rf 53 324 (by decide)
  have r54_5 := m5.1.rf 54 325 (by decide)
  have r55_5 := m5.1.rf 55 326 (by decide)
  obtain ⟨N0, N1⟩ := nb_32 (isB_sha (bs := sec ++ dig ++ [nI i &&& 255])) sha_len
  obtain ⟨kn0, kn1⟩ := nonce_ok (sec := sec) (dig := dig) (i := i)
  have hno : drw nN (nb (sha (sec ++ dig ++ [nI i &&& 255]))) = nonce sec dig i := rfl
  generalize nb (sha (sec ++ dig ++ [nI i &&& 255])) = N at *
  obtain ⟨M6, k6, w6, C6, o6⟩ := n158 (to := 323) (row := 305) (at1 := 0) m5.1 C5 (by decide) (by decide) (by decide) d5 (by rw [sha_len]; decide) (by rw [sha_len]; decide) (by rw [List.drop_zero, List.take_of_length_le (by rw [sha_len]; decide)]; exact N1) N0
  have hM_6 := m5.1.off o6 (by decide)
  have nu_6 := nu_5.off o6 (by decide)
  have di_6 := di_5.off o6 (by decide)
  have ky_6 := ky_5.off o6 (by decide)
  have ha_6 := ha_5.off o6 (by decide)
  have O6 : Off A159 M M6 := O5.tr (o6.wk (by decide))
  have g6 := gO_of hM_6.1
  have rc6 := hM_6.rc
  have mh_6 := mh5.of5 o6 (by decide)
  rw [hno] at w6
  have eK : (((nonce sec dig i).toNat : Nat) : Int) = nonce sec dig i := toN (by omega)
  generalize hKn : (nonce sec dig i).toNat = K at *
  obtain ⟨M7, f7, k7, h7, C7, p7, e7, o7⟩ := n157 (kr := 323) (xr := 15) (yr := 16) (x := gXn) (y := gYn) hM_6 C6 w6 C6.2.2.2.2.1 C6.2.2.2.2.2 (by rw [← gXY]; exact Gpt_v) (by decide) (by decide) (by decide)
  have nu_7 := nu_6.off o7 (by decide)
  have di_7 := di_6.off o7 (by decide)
  have ky_7 := ky_6.off o7 (by decide)
  have ha_7 := ha_6.off o7 (by decide)
  have tk_7 := w6.off o7 (by decide)
  have O7 : Off A159 M M7 := O6.tr (o7.wk (by decide))
  have g7 := gO_of h7.1
  have rc7 := h7.rc
  have r17_7 := h7.rf 17 293 (by decide)
  have r33_7 := h7.rf 33 305 (by decide)
  have r41_7 := h7.rf 41 313 (by decide)
  have r46_7 := h7.rf 46 317 (by decide)
  have r51_7 := h7.rf 51 322 (by decide)
  have r52_7 := h7.rf 52 323 (by decide)
  have r53_7 := h7.rf 53 324 (by decide)
  have r54_7 := h7.rf 54 325 (by decide)
  have r55_7 := h7.rf 55 326 (by decide)
  have mh_7 := mh_6.of5 o7 (by decide)
  rw [← gXY] at p7
  obtain ⟨X, wX, eX, lX⟩ := pm_G p7 (by omega) (by omega)
  obtain ⟨M8, k8, w8, C8, o8⟩ := q140 (to := 325) C7 wX (by decide) (by decide)
  have hM_8 := h7.off o8 (by decide)
  have nu_8 := nu_7.off o8 (by decide)
  have di_8 := di_7.off o8 (by decide)
  have ky_8 := ky_7.off o8 (by decide)
  have ha_8 := ha_7.off o8 (by decide)
  have tk_8 := tk_7.off o8 (by decide)
  have O8 : Off A159 M M8 := O7.tr (o8.wk (by decide))
  have g8 := gO_of hM_8.1
  have rc8 := hM_8.rc
  have mh_8 := mh_7.of5 o8 (by decide)
  obtain ⟨M9, k9, w9, C9, o9⟩ := q144 (to := 325) C8 Mo14 (by decide) w8
  have hM_9 := hM_8.off o9 (by decide)
  have nu_9 := nu_8.off o9 (by decide)
  have di_9 := di_8.off o9 (by decide)
  have ky_9 := ky_8.off o9 (by decide)
  have ha_9 := ha_8.off o9 (by decide)
  have tk_9 := tk_8.off o9 (by decide)
  have O9 : Off A159 M M9 := O8.tr (o9.wk (by decide))
  have g9 := gO_of hM_9.1
  have rc9 := hM_9.rc
  have mh_9 := mh_8.of5 o9 (by decide)
  obtain ⟨M10, v10, k10, w10, b10, c10, C10, o10⟩ := q147 (to := 326) hM_9 C9 Mo14 w9 ky_9 (by decide) (by decide) (by decide)
  have hM_10 := hM_9.off o10 (by decide)
  have nu_10 := nu_9.off o10 (by decide)
  have di_10 := di_9.off o10 (by decide)
  have ky_10 := ky_9.off o10 (by decide)
  have ha_10 := ha_9.off o10 (by decide)
  have tk_10 := tk_9.off o10 (by decide)
  have r_10 := w9.off o10 (by decide)
  have O10 : Off A159 M M10 := O9.tr (o10.wk (by decide))
  have g10 := gO_of hM_10.1
  have rc10 := hM_10.rc
  have mh_10 := mh_9.of5 o10 (by decide)
  obtain ⟨M11, v11, k11, w11, b11, c11, C11, o11⟩ := q145 (to := 326) C10 Mo14 w10 ha_10 (by decide) b10 (Nat.mod_lt _ (by omega))
  have hM_11 := hM_10.off o11 (by decide)
  have nu_11 := nu_10.off o11 (by decide)
  have di_11 := di_10.off o11 (by decide)
  have ky_11 := ky_10.off o11 (by decide)
  have ha_11 := ha_10.off o11 (by decide)
  have tk_11 := tk_10.off o11 (by decide)
  have r_11 := r_10.off o11 (by decide)
  have O11 : Off A159 M M11 := O10.tr (o11.wk (by decide))
  have g11 := gO_of hM_11.1
  have rc11 := hM_11.rc
  have mh_11 := mh_10.of5 o11 (by decide)
  obtain ⟨M12, v12, k12, w12, b12, c12, C12, o12⟩ := q151 (to := 317) hM_11 C11 Mo14 tk_11 (by decide) (by decide) (by decide) (by omega) (by omega)
  have hM_12 := hM_11.off o12 (by decide)
  have nu_12 := nu_11.off o12 (by decide)
  have di_12 := di_11.off o12 (by decide)
  have ky_12 := ky_11.off o12 (by decide)
  have ha_12 := ha_11.off o12 (by decide)
  have tk_12 := tk_11.off o12 (by decide)
  have r_12 := r_11.off o12 (by decide)
  have s_12 := w11.off o12 (by decide)
  have O12 : Off A159 M M12 := O11.tr (o12.wk (by decide))
  have g12 := gO_of hM_12.1
  have rc12 := hM_12.rc
  have mh_12 := mh_11.of5 o12 (by decide)
  obtain ⟨M13, v13, k13, w13, b13, c13, C13, o13⟩ := q147 (to := 326) hM_12 C12 Mo14 s_12 w12 (by decide) (by decide) (by decide)
  have hM_13 := hM_12.off o13 (by decide)
  have nu_13 := nu_12.off o13 (by decide)
  have di_13 := di_12.off o13 (by decide)
  have ky_13 := ky_12.off o13 (by decide)
  have ha_13 := ha_12.off o13 (by decide)
  have tk_13 := tk_12.off o13 (by decide)
  have r_13 := r_12.off o13 (by decide)
  have mi_13 := w12.off o13 (by decide)
  have O13 : Off A159 M M13 := O12.tr (o13.wk (by decide))
  have g13 := gO_of hM_13.1
  have rc13 := hM_13.rc
  have mh_13 := mh_12.of5 o13 (by decide)
  have es : (v13 : Int) = aS (nonce sec dig i) (nb sec) (nb dig) := by
    have a1 := cg_ml c13 (cg_rf (m := nN) (a := (K : Int)))
    rw [Int.mul_assoc] at a1
    have a2 := cg_ml (cg_rf (m := nN) (a := (v11 : Int))) c12
    rw [Int.mul_one] at a2
    have a3 := cg_ad c10 (cg_mod (a := nb dig) (m := nN))
    have a4 := cg_ad (cg_ml (cg_mod (a := X) (m := nN)) (cg_rf (m := nN) (a := (nb sec : Int)))) (cg_rf (m := nN) (a := (nb dig : Int)))
    have a5 := cg_tr a1 (cg_tr a2 (cg_tr c11 (cg_tr a3 a4)))
    rw [eX, eK] at a5
    exact aS_un kn0 kn1 (by omega) (by omega) a5
  have er : ((X % nN : Nat) : Int) = aX (nonce sec dig i) % nN := by
    rw [Int.natCast_emod, eX, eK]
  have lr : X % nN < nN := Nat.mod_lt _ (by omega)
  refine ⟨M13, f7, X % nN, v13, (e159_39 _ _ _).trans ?_, ⟨hM_13, C13, mh_13, ?_, nu_13, hse, di_13, ky_13, ha_13⟩, er, es, lr, b13, r_13, w13, ?_, O13⟩
  · have e : ¬ (256 : Int32) ≤ nI i := nI_ge (a := i) (b := 256) (by omega) (by omega)
    have m32 : (32 : Int32) * nI kk = nI (32 * kk) := pk_mul 32 kk
    have ir := n138 r_13
    have is := n138 w13
    have z1 : ¬ (1 : Int32) = 0 := by decide
    rw [nI_0] at k3 k6
    rw [show nI 32 = 32 from rfl] at k2 k3
    by_cases q1 : X % nN = 0
    · rw [if_pos q1] at ir
      have q : ¬ (X % nN ≠ 0 ∧ v13 ≠ 0) := fun h => h.1 q1
      simp only [q]
      simp only [cl_159, e159_0, e159_1, e159_4, e159_5, e159_8, e159_10, e159_11, e159_12, e159_15, e159_16, e159_19, e159_20, e159_21, e159_24, e159_25, e159_28, e159_31, e159_34, e159_35, e159_36, e159_37, e159_41, e159_44, e159_47, e159_48, e159_51, e159_52, e159_55, e159_56, e159_57, e159_60, e159_62, e159_63, e159_64, e159_66, e159_69, e159_70, e159_71, e159_72, e159_74, e159_77, e159_78, e159_80, e159_83, e159_84, e159_87, e159_88, e159_89, e159_92, e159_93, e159_96, e159_97, e159_100, e159_101, e159_102, e159_105, e159_108, e159_111, e159_114, e159_115, e159_118, e159_119, e159_122, e159_125, e159_126, e159_129, e159_132, e159_135, e159_136, e159_137, e159_140, e159_141, e159_144, e159_145, e159_148, e159_151, e159_154, e159_155, e159_158, e159_159, e159_162, e159_163, e159_166, e159_169, e159_172, e159_173, e159_174, e159_177, e159_178, e159_181, e159_184, e159_187, e159_188, e159_189, e159_192, e159_193, e159_196, e159_197, e159_200, e159_203, e159_206, e159_207, e159_210, e159_213, e159_216, e159_217, e159_220, e159_223, e159_226, e159_227, e159_230, e159_231, e159_232, e159_235, e159_238, e159_239, e159_242, e159_243, e159_246, e159_247, e159_250, e159_251, e159_254, e159_255, e159_258, e159_260, e159_263, e159_264, e159_265, e159_266, e159_269, e159_270, e159_272, e159_275, e159_276, e159_279, e159_281, e159_282, e159_283, e159_284, e159_287, e159_288, e159_290, e159_293, e159_294, e159_295, e159_298, e159_299, e159_300, e159_303, ow_159, Int32.reduceOfInt, Int32.reduceOfNat, Int32.reduceToNatClampNeg, Int32.reduceLT, Int32.reduceLE, Int32.reduceAdd, Int32.reduceSub, Int32.reduceMul, Int64.reduceOfNat, Int64.reduceOfInt, Nat.reduceLeDiff, Nat.reduceLT, Nat.reduceEqDiff, Nat.reduceSub, cs_0, cs_1, cs_2, cs_3, cs_4, cs_5, cs_6, cs_7, cs_8, or_false, false_or, not_false_eq_true, and_true, true_and, if_true, if_false, List.length_cons, List.length_nil, List.getElem?_cons_succ, List.getElem?_cons_zero, List.set_cons_succ, List.set_cons_zero, reduceIte, d_G, d_R, s_aload, s_aload_n, s_iload, s_iload_n, s_lload, s_lload_n, s_istore, s_istore_n, s_astore, s_astoreN, s_astore_n, s_astore_nN, s_lstore, s_lstore_n, s_iinc, s_iconst, s_bipush, s_sipush, s_lconst, s_ldc2_w, s_aconst_null, s_dupA, s_dupI, s_dup2, s_iadd, s_isub, s_imul, s_iand, s_ior, s_ixor, s_ishl, s_ishr, s_iushr, s_ineg, s_idiv, s_irem, s_ladd, s_lsub, s_lmul, s_land, s_lor, s_lxor, s_ldiv, s_lshl, s_lshr, s_lushr, s_i2l, s_l2i, s_lcmp, s_goto, s_ieq, s_ine, s_ilt, s_ige, s_igt, s_ile, s_zeq, s_zne, s_zlt, s_zge, s_zgt, s_zle, s_ifnull, s_ifnullN, s_ifnonnull, s_ifnonnullN, s_tableswitch, s_lookupswitch, s_getfield, s_putfield, s_getstatic, s_iaload, s_laload, s_baload, s_aaload, s_iastore, s_lastore, s_bastore, s_aastore, s_arraylength, s_newI, s_newJ, s_newZ, s_anewarray, s_new, s_copy, s_max, s_min, s_invokestatic, s_objinit, s_invokespecial, kf_isr_r, s_invokevirtual, s_ireturn, s_lreturn, s_areturn, s_areturnN, s_return, lI_0, lI_s, lJ_0, lJ_s, lA_0, lA_0N, lA_s, lS1_0, lS1_1, lS1_2, lS2_0, lS2_1, lS2_2, lK_n, lK_i, lK_j, lK_a, lK_N, d_C', kf_w_0, kf_w_i, kf_w_a, kf_w_n, kf_w_j, c_0, c_1, c_2, c_3, c_4, c_5, c_6, tl_0, tl_1, Option.bind_some, Option.bind_none, Option.map_some, Nat.reduceAdd, Nat.reduceMul, Nat.reduceDiv, Nat.reduceMod, Int.reduceToNat, Fin.val_zero, Fin.isValue, Fin.val_one, Fin.val_two, fv_0, fv_1, fv_2, fv_3, fw_0, fw_1, d_ite, true_or, or_true, and_false, false_and, or_self, and_self, e, m32, z1, ow_121, ow_122, ow_123, ow_128, ow_147, ow_151, ow_157, ow_158, g0, g1, g2, g3, g4, g5, g6, g7, g8, g9, g10, g11, g12, g13, rc0, rc1, rc2, rc3, rc4, rc5, rc6, rc7, rc8, rc9, rc10, rc11, rc12, rc13, r17_0, r33_0, r41_0, r46_0, r51_0, r52_0, r53_0, r54_0, r55_0, r17_1, r33_1, r41_1, r46_1, r51_1, r52_1, r53_1, r54_1, r55_1, r17_2, r33_2, r41_2, r46_2, r51_2, r52_2, r53_2, r54_2, r55_2, r17_3, r33_3, r41_3, r46_3, r51_3, r52_3, r53_3, r54_3, r55_3, r17_4, r33_4, r41_4, r46_4, r51_4, r52_4, r53_4, r54_4, r55_4, r17_5, r33_5, r41_5, r46_5, r51_5, r52_5, r53_5, r54_5, r55_5, r17_7, r33_7, r41_7, r46_7, r51_7, r52_7, r53_7, r54_7, r55_7, k1, k2, k3, k4, k5, k6, k7, k8, k9, k10, k11, k12, k13, ir, nI_1]
    · rw [if_neg q1] at ir
      by_cases q2 : v13 = 0
      · rw [if_pos q2] at is
        have q : ¬ (X % nN ≠ 0 ∧ v13 ≠ 0) := fun h => h.2 q2
        simp only [q]
        simp only [cl_159, e159_0, e159_1, e159_4, e159_5, e159_8, e159_10, e159_11, e159_12, e159_15, e159_16, e159_19, e159_20, e159_21, e159_24, e159_25, e159_28, e159_31, e159_34, e159_35, e159_36, e159_37, e159_41, e159_44, e159_47, e159_48, e159_51, e159_52, e159_55, e159_56, e159_57, e159_60, e159_62, e159_63, e159_64, e159_66, e159_69, e159_70, e159_71, e159_72, e159_74, e159_77, e159_78, e159_80, e159_83, e159_84, e159_87, e159_88, e159_89, e159_92, e159_93, e159_96, e159_97, e159_100, e159_101, e159_102, e159_105, e159_108, e159_111, e159_114, e159_115, e159_118, e159_119, e159_122, e159_125, e159_126, e159_129, e159_132, e159_135, e159_136, e159_137, e159_140, e159_141, e159_144, e159_145, e159_148, e159_151, e159_154, e159_155, e159_158, e159_159, e159_162, e159_163, e159_166, e159_169, e159_172, e159_173, e159_174, e159_177, e159_178, e159_181, e159_184, e159_187, e159_188, e159_189, e159_192, e159_193, e159_196, e159_197, e159_200, e159_203, e159_206, e159_207, e159_210, e159_213, e159_216, e159_217, e159_220, e159_223, e159_226, e159_227, e159_230, e159_231, e159_232, e159_235, e159_238, e159_239, e159_242, e159_243, e159_246, e159_247, e159_250, e159_251, e159_254, e159_255, e159_258, e159_260, e159_263, e159_264, e159_265, e159_266, e159_269, e159_270, e159_272, e159_275, e159_276, e159_279, e159_281, e159_282, e159_283, e159_284, e159_287, e159_288, e159_290, e159_293, e159_294, e159_295, e159_298, e159_299, e159_300, e159_303, ow_159, Int32.reduceOfInt, Int32.reduceOfNat, Int32.reduceToNatClampNeg, Int32.reduceLT, Int32.reduceLE, Int32.reduceAdd, Int32.reduceSub, Int32.reduceMul, Int64.reduceOfNat, Int64.reduceOfInt, Nat.reduceLeDiff, Nat.reduceLT, Nat.reduceEqDiff, Nat.reduceSub, cs_0, cs_1, cs_2, cs_3, cs_4, cs_5, cs_6, cs_7, cs_8, or_false, false_or, not_false_eq_true, and_true, true_and, if_true, if_false, List.length_cons, List.length_nil, List.getElem?_cons_succ, List.getElem?_cons_zero, List.set_cons_succ, List.set_cons_zero, reduceIte, d_G, d_R, s_aload, s_aload_n, s_iload, s_iload_n, s_lload, s_lload_n, s_istore, s_istore_n, s_astore, s_astoreN, s_astore_n, s_astore_nN, s_lstore, s_lstore_n, s_iinc, s_iconst, s_bipush, s_sipush, s_lconst, s_ldc2_w, s_aconst_null, s_dupA, s_dupI, s_dup2, s_iadd, s_isub, s_imul, s_iand, s_ior, s_ixor, s_ishl, s_ishr, s_iushr, s_ineg, s_idiv, s_irem, s_ladd, s_lsub, s_lmul, s_land, s_lor, s_lxor, s_ldiv, s_lshl, s_lshr, s_lushr, s_i2l, s_l2i, s_lcmp, s_goto, s_ieq, s_ine, s_ilt, s_ige, s_igt, s_ile, s_zeq, s_zne, s_zlt, s_zge, s_zgt, s_zle, s_ifnull, s_ifnullN, s_ifnonnull, s_ifnonnullN, s_tableswitch, s_lookupswitch, s_getfield, s_putfield, s_getstatic, s_iaload, s_laload, s_baload, s_aaload, s_iastore, s_lastore, s_bastore, s_aastore, s_arraylength, s_newI, s_newJ, s_newZ, s_anewarray, s_new, s_copy, s_max, s_min, s_invokestatic, s_objinit, s_invokespecial, kf_isr_r, s_invokevirtual, s_ireturn, s_lreturn, s_areturn, s_areturnN, s_return, lI_0, lI_s, lJ_0, lJ_s, lA_0, lA_0N, lA_s, lS1_0, lS1_1, lS1_2, lS2_0, lS2_1, lS2_2, lK_n, lK_i, lK_j, lK_a, lK_N, d_C', kf_w_0, kf_w_i, kf_w_a, kf_w_n, kf_w_j, c_0, c_1, c_2, c_3, c_4, c_5, c_6, tl_0, tl_1, Option.bind_some, Option.bind_none, Option.map_some, Nat.reduceAdd, Nat.reduceMul, Nat.reduceDiv, Nat.reduceMod, Int.reduceToNat, Fin.val_zero, Fin.isValue, Fin.val_one, Fin.val_two, fv_0, fv_1, fv_2, fv_3, fw_0, fw_1, d_ite, true_or, or_true, and_false, false_and, or_self, and_self, e, m32, z1, ow_121, ow_122, ow_123, ow_128, ow_147, ow_151, ow_157, ow_158, g0, g1, g2, g3, g4, g5, g6, g7, g8, g9, g10, g11, g12, g13, rc0, rc1, rc2, rc3, rc4, rc5, rc6, rc7, rc8, rc9, rc10, rc11, rc12, rc13, r17_0, r33_0, r41_0, r46_0, r51_0, r52_0, r53_0, r54_0, r55_0, r17_1, r33_1, r41_1, r46_1, r51_1, r52_1, r53_1, r54_1, r55_1, r17_2, r33_2, r41_2, r46_2, r51_2, r52_2, r53_2, r54_2, r55_2, r17_3, r33_3, r41_3, r46_3, r51_3, r52_3, r53_3, r54_3, r55_3, r17_4, r33_4, r41_4, r46_4, r51_4, r52_4, r53_4, r54_4, r55_4, r17_5, r33_5, r41_5, r46_5, r51_5, r52_5, r53_5, r54_5, r55_5, r17_7, r33_7, r41_7, r46_7, r51_7, r52_7, r53_7, r54_7, r55_7, k1, k2, k3, k4, k5, k6, k7, k8, k9, k10, k11, k12, k13, ir, is, nI_1]
      · rw [if_neg q2] at is
        have q : (X % nN ≠ 0 ∧ v13 ≠ 0) := ⟨q1, q2⟩
        rw [if_pos q]
        simp only [cl_159, e159_0, e159_1, e159_4, e159_5, e159_8, e159_10, e159_11, e159_12, e159_15, e159_16, e159_19, e159_20, e159_21, e159_24, e159_25, e159_28, e159_31, e159_34, e159_35, e159_36, e159_37, e159_41, e159_44, e159_47, e159_48, e159_51, e159_52, e159_55, e159_56, e159_57, e159_60, e159_62, e159_63, e159_64, e159_66, e159_69, e159_70, e159_71, e159_72, e159_74, e159_77, e159_78, e159_80, e159_83, e159_84, e159_87, e159_88, e159_89, e159_92, e159_93, e159_96, e159_97, e159_100, e159_101, e159_102, e159_105, e159_108, e159_111, e159_114, e159_115, e159_118, e159_119, e159_122, e159_125, e159_126, e159_129, e159_132, e159_135, e159_136, e159_137, e159_140, e159_141, e159_144, e159_145, e159_148, e159_151, e159_154, e159_155, e159_158, e159_159, e159_162, e159_163, e159_166, e159_169, e159_172, e159_173, e159_174, e159_177, e159_178, e159_181, e159_184, e159_187, e159_188, e159_189, e159_192, e159_193, e159_196, e159_197, e159_200, e159_203, e159_206, e159_207, e159_210, e159_213, e159_216, e159_217, e159_220, e159_223, e159_226, e159_227, e159_230, e159_231, e159_232, e159_235, e159_238, e159_239, e159_242, e159_243, e159_246, e159_247, e159_250, e159_251, e159_254, e159_255, e159_258, e159_260, e159_263, e159_264, e159_265, e159_266, e159_269, e159_270, e159_272, e159_275, e159_276, e159_279, e159_281, e159_282, e159_283, e159_284, e159_287, e159_288, e159_290, e159_293, e159_294, e159_295, e159_298, e159_299, e159_300, e159_303, ow_159, Int32.reduceOfInt, Int32.reduceOfNat, Int32.reduceToNatClampNeg, Int32.reduceLT, Int32.reduceLE, Int32.reduceAdd, Int32.reduceSub, Int32.reduceMul, Int64.reduceOfNat, Int64.reduceOfInt, Nat.reduceLeDiff, Nat.reduceLT, Nat.reduceEqDiff, Nat.reduceSub, cs_0, cs_1, cs_2, cs_3, cs_4, cs_5, cs_6, cs_7, cs_8, or_false, false_or, not_false_eq_true, and_true, true_and, if_true, if_false, List.length_cons, List.length_nil, List.getElem?_cons_succ, List.getElem?_cons_zero, List.set_cons_succ, List.set_cons_zero, reduceIte, d_G, d_R, s_aload, s_aload_n, s_iload, s_iload_n, s_lload, s_lload_n, s_istore, s_istore_n, s_astore, s_astoreN, s_astore_n, s_astore_nN, s_lstore, s_lstore_n, s_iinc, s_iconst, s_bipush, s_sipush, s_lconst, s_ldc2_w, s_aconst_null, s_dupA, s_dupI, s_dup2, s_iadd, s_isub, s_imul, s_iand, s_ior, s_ixor, s_ishl, s_ishr, s_iushr, s_ineg, s_idiv, s_irem, s_ladd, s_lsub, s_lmul, s_land, s_lor, s_lxor, s_ldiv, s_lshl, s_lshr, s_lushr, s_i2l, s_l2i, s_lcmp, s_goto, s_ieq, s_ine, s_ilt, s_ige, s_igt, s_ile, s_zeq, s_zne, s_zlt, s_zge, s_zgt, s_zle, s_ifnull, s_ifnullN, s_ifnonnull, s_ifnonnullN, s_tableswitch, s_lookupswitch, s_getfield, s_putfield, s_getstatic, s_iaload, s_laload, s_baload, s_aaload, s_iastore, s_lastore, s_bastore, s_aastore, s_arraylength, s_newI, s_newJ, s_newZ, s_anewarray, s_new, s_copy, s_max, s_min, s_invokestatic, s_objinit, s_invokespecial, kf_isr_r, s_invokevirtual, s_ireturn, s_lreturn, s_areturn, s_areturnN, s_return, lI_0, lI_s, lJ_0, lJ_s, lA_0, lA_0N, lA_s, lS1_0, lS1_1, lS1_2, lS2_0, lS2_1, lS2_2, lK_n, lK_i, lK_j, lK_a, lK_N, d_C', kf_w_0, kf_w_i, kf_w_a, kf_w_n, kf_w_j, c_0, c_1, c_2, c_3, c_4, c_5, c_6, tl_0, tl_1, Option.bind_some, Option.bind_none, Option.map_some, Nat.reduceAdd, Nat.reduceMul, Nat.reduceDiv, Nat.reduceMod, Int.reduceToNat, Fin.val_zero, Fin.isValue, Fin.val_one, Fin.val_two, fv_0, fv_1, fv_2, fv_3, fw_0, fw_1, d_ite, true_or, or_true, and_false, false_and, or_self, and_self, e, m32, z1, ow_121, ow_122, ow_123, ow_128, ow_147, ow_151, ow_157, ow_158, g0, g1, g2, g3, g4, g5, g6, g7, g8, g9, g10, g11, g12, g13, rc0, rc1, rc2, rc3, rc4, rc5, rc6, rc7, rc8, rc9, rc10, rc11, rc12, rc13, r17_0, r33_0, r41_0, r46_0, r51_0, r52_0, r53_0, r54_0, r55_0, r17_1, r33_1, r41_1, r46_1, r51_1, r52_1, r53_1, r54_1, r55_1, r17_2, r33_2, r41_2, r46_2, r51_2, r52_2, r53_2, r54_2, r55_2, r17_3, r33_3, r41_3, r46_3, r51_3, r52_3, r53_3, r54_3, r55_3, r17_4, r33_4, r41_4, r46_4, r51_4, r52_4, r53_4, r54_4, r55_4, r17_5, r33_5, r41_5, r46_5, r51_5, r52_5, r53_5, r54_5, r55_5, r17_7, r33_7, r41_7, r46_7, r51_7, r52_7, r53_7, r54_7, r55_7, k1, k2, k3, k4, k5, k6, k7, k8, k9, k10, k11, k12, k13, ir, is, nI_1]
  · exact m5.mx.off ((((((((o6.wk (by decide : ∀ a ∈ [323, 317, 318], a ∈ A159.filter (· != 302))).tr (o7.wk (by decide))).tr (o8.wk (by decide))).tr (o9.wk (by decide))).tr (o10.wk (by decide))).tr (o11.wk (by decide))).tr (o12.wk (by decide))).tr (o13.wk (by decide))) (by decide)
  · exact (((((Fo.set.wk (by simp)).tr ((Fo.of30 e2).wk (by simp))).tr ((Fo.of30 e3).wk (by simp))).tr (Fo.set.wk (by simp))).tr ((Fo.of30 e5).wk (by simp))).tr ((Fo.of43 e7).wk (by simp))
