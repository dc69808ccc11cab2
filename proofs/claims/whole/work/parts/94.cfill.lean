/-! The class: fillKey -/
theorem KS.app {M M' : kf_M} {A σ : List Nat} {ks : List Ky} {k' : Ky} (h : KS M σ ks) (hl : ks.length < 10) (ho : Off A M M') (hA : ∀ x ∈ A, (σ.getD ks.length 0 ≤ x ∧ x ≤ σ.getD ks.length 0 + 5) ∨ x < 42 ∨ 101 < x) (hk : KyAt M' (σ.getD ks.length 0) k') (ok : okKy k') : KS M' σ (ks ++ [k']) := by
  have hh := h
  obtain ⟨h1, h2, h3, h4, h5, h6⟩ := h
  obtain ⟨-, jm, jc, -⟩ := hh.get (j := ks.length) hl
  have far : ∀ b, okc b → b ≠ σ.getD ks.length 0 → ∀ x ∈ A, x < b ∨ b + 5 < x := by
    intro b hb hn x hx
    have f := okc_far hb jc hn
    obtain ⟨i, i1, i2⟩ := hb
    have := hA x hx
    omega
  refine ⟨h1, h2, h3, fun a ha => ?_, fun i k hi => ?_, by rw [List.length_append]; show ks.length + 1 ≤ 10; omega⟩
  · by_cases c : a = σ.getD ks.length 0
    · rw [c]; exact hk.j
    · exact (h4 a ha).off ho (far a (h3 a ha) c)
  · have hil : i < (ks ++ [k']).length := (List.getElem?_eq_some_iff.mp hi).1
    rw [List.length_append] at hil
    have hil : i < ks.length + 1 := hil
    by_cases c : i = ks.length
    · subst c
      rw [List.getElem?_append_right (Nat.le_refl _), Nat.sub_self] at hi
      cases hi
      exact ⟨hk, ok⟩
    · rw [List.getElem?_append_left (by omega)] at hi
      obtain ⟨y1, y2⟩ := h5 i k hi
      exact ⟨y1.off ho (far _ (hh.get (j := i) (by omega)).2.2.1 (hh.inj (by omega) (by omega) c)), y2⟩
section CFILL
variable {M : kf_M} {fl tc : Int32} {ou da : List Int32} {V : Vs} {σ : List Nat} {rn : Nat} {ks : List Ky} {wt : List Nat} {hs sd wd : List Int32} {G : Gs} {cs K S Z I J : List Int32} {it pl : Nat} {m : PM}
noncomputable def newK (hs u : List Int32) (V : Vs) : Ky := (hs, u, secN (frs V.1 V.2.2.2.1), 0)
def frV (V : Vs) : Vs := (V.1, V.2.1, V.2.2.1, V.2.2.2.1 + 1, V.2.2.2.2.1, V.2.2.2.2.2.1, V.2.2.2.2.2.2)
set_option maxHeartbeats 8000000 in
theorem C111 {v : PV} (h : TT M cs K S Z I J it pl) (hR : TR K S Z I J it m) (ho : okM cs m) (bcs : isB cs) (hE : CE M fl tc ou da V σ rn ks [] hs sd wd G) (bhs : isB hs) (hl : ks.length < 10) (hm : m.getD 3 none = some v) (hk : v.1 = 2) (hz : 1 ≤ v.2.2.1 ∧ v.2.2.1 ≤ 16) : ∃ M' sd', kf_cl 111 [.ref 19, .ref (σ.getD ks.length 0)] M = some (none, M') ∧ CE M' fl tc ou da (frV V) σ rn (ks ++ [newK hs (rowOf cs m 3) V]) [] hs sd' wd G ∧ TT M' cs K S Z I J it pl ∧ Off (List.range' 28 256) M M' := by
  obtain ⟨b1, b2, b4, b5, b6, b7, b8, b9, b10, b11, b12, b13, b14⟩ := hE
  have g := gO_of b2
  obtain ⟨-, -, oc, kj⟩ := b8.get (j := ks.length) hl
  obtain ⟨a, ea⟩ : ∃ a, a = σ.getD ks.length 0 := ⟨_, rfl⟩
  rw [← ea] at oc kj ⊢
  have oc0 := oc
  obtain ⟨jj, jj1, jj2⟩ := oc
  obtain ⟨ul, ct, ah, au, as_, ai, ap, q0_, q1_, q2_, q3_, q4_, q5_⟩ := kj
  have nr : ∀ A : List Nat, (∀ x ∈ A, 28 ≤ x ∧ x ≤ 283) → ∀ x ∈ A, x ∈ List.range' 28 256 := fun A hA x hx => by have := hA x hx; rw [List.mem_range'_1]; omega
  -- a fresh row
  obtain ⟨M1, k1, V1, s1, o1⟩ := c89 (b := 282) b6.1 b1.1 b13 (Or.inr (by decide))
  rw [if_neg (by decide)] at V1
  have na1 : ∀ i, i ≤ 5 → a + i ∉ [32, 33, 34, 35, 282] := fun i hi w => by simp at w; omega
  have f1 := b2.off o1 (by decide)
  have g1 := gO_of f1
  -- the secret and its point
  obtain ⟨cf, own, dig, sig, z1, z2, z3, z4, z5, z6, z7, ⟨zr, z8⟩, z9⟩ := b10
  obtain ⟨M2, k2, K2, c2, p2, o2⟩ := f59 (kk := a) (sd := 282) (o1.at (by decide) z1) (z2.off o1 (by decide)) (o1.at (na1 0 (by omega)) q0_) ⟨by omega, by omega⟩ s1 isB_frs (by decide) (q3_.off o1 (na1 3 (by omega))) (q5_.off o1 (na1 5 (by omega)))
  have no2 : ∀ c, (c < 42 ∨ (101 < c ∧ c < 105) ∨ 277 < c ∨ (192 < c ∧ c < 266) ∨ c = a ∨ c = a + 1 ∨ c = a + 2 ∨ c = a + 4) → c ∉ cvs ++ [a + 3, a + 5, 111, 266, 267, 268, 273, 275] := fun c hc w => by simp [cvs] at w; omega
  have f2 := f1.off o2 (no2 19 (by omega))
  have g2 := gO_of f2
  have ky2 := o2.at (no2 a (by omega)) (o1.at (na1 0 (by omega)) q0_)
  have gk2 := gO_of ky2
  have sh2 : SH M2 := (b1.1.off o1 (by decide) (by decide)).off o2 (no2 0 (by omega)) (no2 1 (by omega))
  have h2 := (b11.off o1 (by decide) (by decide) (by decide)).off o2 (no2 278 (by omega)) (no2 279 (by omega)) (no2 280 (by omega))
  have rh2 := h2.rc
  -- its hash
  obtain ⟨M3, k3, H3, o3⟩ := h25 h2 sh2.1 (by decide)
  have f3 := f2.off o3 (by decide)
  have g3 := gO_of f3
  have na3 : ∀ i, i ≤ 5 → a + i ∉ [278, 279, 280] := fun i hi w => by simp at w; omega
  have c3 := c2.off o3 (na3 3 (by omega))
  have ky3 : KyO M3 a ul ct := o3.at (na3 0 (by omega)) ky2
  have gk3 := gO_of ky3
  have rh3 := H3.ha.rc
  obtain ⟨M4, k4, H4, o4⟩ := h27 (b := a + 3) (f := 0) (n := 32) H3 (by decide) (o3.at (by decide) sh2.2) c3.1 (by rw [c3.2]; decide) (by rw [c3.2]; decide) (by decide) (na3 3 (by omega))
  rw [List.drop_zero, List.take_of_length_le (by rw [c3.2]; decide), List.nil_append] at H4
  have o34 := o3.tr o4
  have f4 := f2.off o34 (by decide)
  have g4 := gO_of f4
  have s4 := (s1.off o2 (no2 282 (by omega))).off o34 (by decide)
  have rh4 := H4.ha.rc
  obtain ⟨M5, k5, H5, a5, o5⟩ := h28 (b := 282) H4 (by rw [c3.2]; decide) (o34.at (by decide) sh2.2) s4.1 (by rw [s4.2]; decide) (by rw [s4.2]; decide) (by decide) (by decide) (by decide)
  rw [byt_id isB_nBL, List.drop_of_length_le (by rw [s4.2]; decide), List.append_nil] at a5
  have na5 : ∀ i, i ≤ 5 → a + i ∉ [278, 279, 280, 282] := fun i hi w => by simp at w; omega
  have o35 : Off [278, 279, 280, 282] M2 M5 := (o34.wk (by decide)).tr (o5.wk (by decide))
  have f5 := f2.off o35 (by decide)
  have g5 := gO_of f5
  have ky5 : KyO M5 a ul ct := o35.at (na5 0 (by omega)) ky2
  have gk5 := gO_of ky5
  -- id
  have i5 := ((q4_.off o1 (na1 4 (by omega))).off o2 (no2 _ (by omega))).off o35 (na5 4 (by omega))
  have cp6 := cpI (N := 16) (n := 16) rfl a5 i5.1 (by rw [sha_len]; decide) (by rw [i5.2]; decide) (by omega) (by decide)
  rw [cp_full i5.2, List.drop_zero] at cp6
  obtain ⟨M6, e6⟩ : ∃ X, X = M5.set (a + 4) (oI ((sha (nBL 32 (secN (frs V.1 V.2.2.2.1)))).take 16)) := ⟨_, rfl⟩
  have o6 : Off [a + 4] M5 M6 := by rw [e6]; exact Off.set (by simp)
  have id6 : ArI M6 (a + 4) 16 (kId (secN (frs V.1 V.2.2.2.1))) := ⟨by rw [e6]; exact m_self (m_lt i5.1), kId_len⟩
  rw [← e6] at cp6
  have n6 : ∀ c, c ≠ a + 4 → c ∉ [a + 4] := fun c hc w => by rw [List.mem_singleton] at w; omega
  have f6 := f5.off o6 (n6 _ (by omega))
  have g6 := gO_of f6
  have ky6 := o6.at (n6 _ (by omega)) ky5
  have gk6 := gO_of ky6
  -- house
  have hs6 := (((b12.off o1 (by decide)).off o2 (no2 _ (by omega))).off o35 (by decide)).off o6 (n6 _ (by omega))
  have h6 := (((q1_.off o1 (na1 1 (by omega))).off o2 (no2 _ (by omega))).off o35 (na5 1 (by omega))).off o6 (n6 _ (by omega))
  have cp7 := cpI (N := 32) (n := 32) rfl hs6.1 h6.1 (by rw [hs6.2]; decide) (by rw [h6.2]; decide) (by omega) (by decide)
  rw [cp_all hs6.2 h6.2] at cp7
  obtain ⟨M7, e7⟩ : ∃ X, X = M6.set (a + 1) (oI hs) := ⟨_, rfl⟩
  have o7 : Off [a + 1] M6 M7 := by rw [e7]; exact Off.set (by simp)
  have hs7 : ArI M7 (a + 1) 32 hs := ⟨by rw [e7]; exact m_self (m_lt h6.1), b12.2⟩
  rw [← e7] at cp7
  have n7 : ∀ c, c ≠ a + 1 → c ∉ [a + 1] := fun c hc w => by rw [List.mem_singleton] at w; omega
  have f7 := f6.off o7 (n7 _ (by omega))
  have g7 := gO_of f7
  have ky7 := o7.at (n7 _ (by omega)) ky6
  have gk7 := gO_of ky7
  -- user
  have T7 : TT M7 cs K S Z I J it pl := ((((h.vt o1 (by decide)).vt o2 (fun x hx => by simp [cvs] at hx; omega)).vt o35 (by decide)).vt o6 (fun x hx => by rw [List.mem_singleton] at hx; omega)).vt o7 (fun x hx => by rw [List.mem_singleton] at hx; omega)
  have u7 := ((((q2_.off o1 (na1 2 (by omega))).off o2 (no2 _ (by omega))).off o35 (na5 2 (by omega))).off o6 (n6 _ (by omega))).off o7 (n7 _ (by omega))
  have k8 := t73 (n := v.2.2.1) T7 hR ho (by decide) hm (Or.inl hk) u7.1 (by omega) (by rw [u7.2]; decide) (by rw [u7.2]; omega)
  rw [show nI 3 = 3 from rfl] at k8
  have hv := (ho.2 3 v (mG_some hm)).2.2.1 (Or.inl hk)
  obtain ⟨M8, e8⟩ : ∃ X, X = M7.set (a + 2) (oI (kf_cp cs au v.2.1 0 v.2.2.1)) := ⟨_, rfl⟩
  have o8 : Off [a + 2] M7 M8 := by rw [e8]; exact Off.set (by simp)
  have lcp : (kf_cp cs au v.2.1 0 v.2.2.1).length = 16 := by rw [kf_cp_len (by omega) (by rw [u7.2]; omega), u7.2]
  have u8 : ArI M8 (a + 2) 16 (kf_cp cs au v.2.1 0 v.2.2.1) := ⟨by rw [e8]; exact m_self (m_lt u7.1), lcp⟩
  have lrow : (rowOf cs m 3).length = v.2.2.1 := by rw [rowOf_eq hm, List.length_take, List.length_drop]; omega
  have tk8 : (kf_cp cs au v.2.1 0 v.2.2.1).take (rowOf cs m 3).length = rowOf cs m 3 := by
    have e0 : kf_cp cs au v.2.1 0 v.2.2.1 = rowOf cs m 3 ++ au.drop (0 + v.2.2.1) := by
      unfold kf_cp
      rw [List.take_zero, List.nil_append, rowOf_eq hm]
    rw [e0]
    exact take_app rfl
  rw [← e8] at k8
  have n8 : ∀ c, c ≠ a + 2 → c ∉ [a + 2] := fun c hc w => by rw [List.mem_singleton] at w; omega
  have f8 := f7.off o8 (n8 _ (by omega))
  have g8 := gO_of f8
  have ky8 := o8.at (n8 _ (by omega)) ky7
  have gk8 := gO_of ky8
  have T8 := T7.vt o8 (fun x hx => by rw [List.mem_singleton] at hx; omega)
  have k9 := siz_k (n := 3) T8 hR (by decide) hm
  rw [show nI 3 = 3 from rfl, ← lrow] at k9
  have rT7 := T7.1.rc
  have rT8 := T8.1.rc
  -- length and counter
  obtain ⟨M9, e9⟩ : ∃ X, X = M8.set a (oO 3 [.ref (a + 1), .ref (a + 2), .ref (a + 3), .ref (a + 4), .ref (a + 5), .int (nI (rowOf cs m 3).length), .long 0]) := ⟨_, rfl⟩
  have o9 : Off [a] M8 M9 := by rw [e9]; exact Off.set (by simp)
  have n9 : ∀ c, c ≠ a → c ∉ [a] := fun c hc w => by rw [List.mem_singleton] at w; omega
  have ky9 : KyO M9 a (nI (rowOf cs m 3).length) (Int64.ofNat 0) := by rw [e9]; exact m_self (m_lt ky8)
  have gs9 : gO (M8.set a (oO 3 [.ref (a + 1), .ref (a + 2), .ref (a + 3), .ref (a + 4), .ref (a + 5), .int (nI (rowOf cs m 3).length), .long ct])) a = some (3, [.ref (a + 1), .ref (a + 2), .ref (a + 3), .ref (a + 4), .ref (a + 5), .int (nI (rowOf cs m 3).length), .long ct]) := gO_self (m_lt ky8)
  have ss : 0 < secN (frs V.1 V.2.2.2.1) ∧ secN (frs V.1 V.2.2.2.1) < nN := by
    obtain ⟨y1, y2, -⟩ := secN_ok (isB_frs (ms := V.1) (t := V.2.2.2.1)) frs_len
    exact ⟨y1, y2⟩
  have enk : newK hs (rowOf cs m 3) V = (hs, rowOf cs m 3, secN (frs V.1 V.2.2.2.1), 0) := rfl
  rw [enk]
  clear enk
  generalize secN (frs V.1 V.2.2.2.1) = d at *
  have kyF : KyAt M9 a (hs, rowOf cs m 3, d, 0) := ⟨ky9, (hs7.off o8 (n8 _ (by omega))).off o9 (n9 _ (by omega)), ⟨_, u8.off o9 (n9 _ (by omega)), tk8⟩, ((((c2.off o35 (na5 3 (by omega))).off o6 (n6 _ (by omega))).off o7 (n7 _ (by omega))).off o8 (n8 _ (by omega))).off o9 (n9 _ (by omega)), ((id6.off o7 (n7 _ (by omega))).off o8 (n8 _ (by omega))).off o9 (n9 _ (by omega)), ((((p2.off o35 (na5 5 (by omega))).off o6 (n6 _ (by omega))).off o7 (n7 _ (by omega))).off o8 (n8 _ (by omega))).off o9 (n9 _ (by omega))⟩
  have okF : okKy (hs, rowOf cs m 3, d, 0) := ⟨b12.2, bhs, ⟨by show 1 ≤ (rowOf cs m 3).length; omega, by show (rowOf cs m 3).length ≤ 16; omega⟩, rowOf_b bcs, ss, by show 0 < 4294967296; decide⟩
  have o69 : Off [a, a + 1, a + 2, a + 4] M5 M9 := (((o6.wk (by simp)).tr (o7.wk (by simp))).tr (o8.wk (by simp))).tr (o9.wk (by simp))
  have n69 : ∀ c, (c < 42 ∨ 101 < c) → c ∉ [a, a + 1, a + 2, a + 4] := fun c hc w => by simp at w; omega
  have r69 : ∀ x ∈ [a, a + 1, a + 2, a + 4], 42 ≤ x ∧ x ≤ 101 := fun x hx => by simp at hx; omega
  -- all of it
  have oall : Off ([32, 33, 34, 35, 282] ++ (cvs ++ [a + 3, a + 5, 111, 266, 267, 268, 273, 275]) ++ [278, 279, 280, 282] ++ [a, a + 1, a + 2, a + 4]) M M9 := (((o1.wk (fun x hx => by simp only [List.mem_append]; exact Or.inl (Or.inl (Or.inl hx)))).tr (o2.wk (fun x hx => by simp only [List.mem_append]; exact Or.inl (Or.inl (Or.inr (List.mem_append.mp hx)))))).tr (o35.wk (fun x hx => by simp only [List.mem_append]; exact Or.inl (Or.inr hx)))).tr (o69.wk (fun x hx => by simp only [List.mem_append]; exact Or.inr hx))
  have rall : ∀ x ∈ ([32, 33, 34, 35, 282] ++ (cvs ++ [a + 3, a + 5, 111, 266, 267, 268, 273, 275]) ++ [278, 279, 280, 282] ++ [a, a + 1, a + 2, a + 4]), (a ≤ x ∧ x ≤ a + 5) ∨ (32 ≤ x ∧ x ≤ 35) ∨ (105 ≤ x ∧ x ≤ 192) ∨ (266 ≤ x ∧ x ≤ 275) ∨ (278 ≤ x ∧ x ≤ 280) ∨ x = 282 := fun x hx => by simp [cvs] at hx; omega
  have nall : ∀ c, ¬ ((a ≤ c ∧ c ≤ a + 5) ∨ (32 ≤ c ∧ c ≤ 35) ∨ (105 ≤ c ∧ c ≤ 192) ∨ (266 ≤ c ∧ c ≤ 275) ∨ (278 ≤ c ∧ c ≤ 280) ∨ c = 282) → c ∉ ([32, 33, 34, 35, 282] ++ (cvs ++ [a + 3, a + 5, 111, 266, 267, 268, 273, 275]) ++ [278, 279, 280, 282] ++ [a, a + 1, a + 2, a + 4]) := fun c hc w => hc (rall c w)
  have K9 : SgK M9 := (K2.off o35 (by decide)).off o69 (fun x hx => by have := r69 x hx; omega)
  have G9 : SgAll M9 G := ⟨cf, own, dig, sig, oall.at (nall _ (by omega)) z1, K9, z3.off oall (fun x hx => by have := rall x hx; omega), z4.off oall (nall _ (by omega)) (nall _ (by omega)) (nall _ (by omega)), z5.off oall (nall _ (by omega)), z6.off oall (nall _ (by omega)), z7.off oall (nall _ (by omega)), ⟨zr, z8.off oall (nall _ (by omega))⟩, z9⟩
  have V9 := ((V1.off o2 (fun x hx => by simp [cvs] at hx; omega)).off o35 (by decide)).off o69 (fun x hx => by have := r69 x hx; omega)
  have KS9 : KS M9 σ (ks ++ [(hs, rowOf cs m 3, d, 0)]) := by
    refine b8.app hl oall (fun x hx => ?_) ?_ ?_
    · rw [← ea]
      have := rall x hx
      omega
    · rw [← ea]; exact kyF
    · exact okF
  obtain ⟨qf, qt, qs, y1_, y2_, -⟩ := b9
  have rv := b6.1.rc
  have rs1 : kf_rcv M1 8 (some (.ref 104)) = true := SgO.rc (o1.at (by decide) z1)
  refine ⟨M9, _, ?_, ⟨b1.off oall (fun x hx => by have := rall x hx; omega), b2.off oall (nall _ (by omega)), b4.off oall (nall _ (by omega)) (nall _ (by omega)), b5.off oall (nall _ (by omega)) (nall _ (by omega)), ⟨V9, b6.2⟩, b7.off oall (nall _ (by omega)) (nall _ (by omega)), KS9, ⟨qf, qt, qs, y1_.off oall (nall _ (by omega)) (nall _ (by omega)), y2_, fun i w hw => by cases hw⟩, G9, H5.off o69 (n69 _ (by omega)) (n69 _ (by omega)) (n69 _ (by omega)), b12.off oall (nall _ (by omega)), ⟨o69.at (n69 _ (by omega)) a5, sha_len⟩, b14.off oall (nall _ (by omega))⟩, T8.vt o9 (fun x hx => by rw [List.mem_singleton] at hx; omega), oall.wk (nr _ (fun x hx => by have := rall x hx; omega))⟩
  rw [nI_0] at k4
  rw [show nI 32 = 32 from rfl] at k4
  have e9' : (M8.set a (oO 3 [.ref (a + 1), .ref (a + 2), .ref (a + 3), .ref (a + 4), .ref (a + 5), .int (nI (rowOf cs m 3).length), .long ct])).set a (oO 3 [.ref (a + 1), .ref (a + 2), .ref (a + 3), .ref (a + 4), .ref (a + 5), .int (nI (rowOf cs m 3).length), .long 0]) = M9 := by rw [List.set_set, e9]
  simp only [cl_111, e111_0, e111_1, e111_4, e111_5, e111_8, e111_11, e111_12, e111_15, e111_16, e111_17, e111_20, e111_23, e111_24, e111_27, e111_30, e111_31, e111_34, e111_35, e111_38, e111_39, e111_41, e111_44, e111_45, e111_48, e111_49, e111_52, e111_55, e111_56, e111_59, e111_60, e111_61, e111_64, e111_65, e111_67, e111_70, e111_71, e111_74, e111_75, e111_76, e111_79, e111_80, e111_82, e111_85, e111_86, e111_89, e111_90, e111_91, e111_94, e111_97, e111_98, e111_99, e111_102, e111_103, e111_106, e111_109, e111_110, e111_111, e111_114, ow_111, Int32.reduceOfInt, Int32.reduceOfNat, Int32.reduceToNatClampNeg, Int32.reduceLT, Int32.reduceLE, Int32.reduceAdd, Int32.reduceSub, Int32.reduceMul, Int64.reduceOfNat, Int64.reduceOfInt, Nat.reduceLeDiff, Nat.reduceLT, Nat.reduceEqDiff, Nat.reduceSub, cs_0, cs_1, cs_2, cs_3, cs_4, cs_5, cs_6, cs_7, cs_8, or_false, false_or, not_false_eq_true, and_true, true_and, if_true, if_false, List.length_cons, List.length_nil, List.getElem?_cons_succ, List.getElem?_cons_zero, List.set_cons_succ, List.set_cons_zero, reduceIte, d_G, d_R, s_aload, s_aload_n, s_iload, s_iload_n, s_lload, s_lload_n, s_istore, s_istore_n, s_astore, s_astoreN, s_astore_n, s_astore_nN, s_lstore, s_lstore_n, s_iinc, s_iconst, s_bipush, s_sipush, s_lconst, s_ldc2_w, s_aconst_null, s_dupA, s_dupI, s_dup2, s_iadd, s_isub, s_imul, s_iand, s_ior, s_ixor, s_ishl, s_ishr, s_iushr, s_ineg, s_idiv, s_irem, s_ladd, s_lsub, s_lmul, s_land, s_lor, s_lxor, s_ldiv, s_lshl, s_lshr, s_lushr, s_i2l, s_l2i, s_lcmp, s_goto, s_ieq, s_ine, s_ilt, s_ige, s_igt, s_ile, s_zeq, s_zne, s_zlt, s_zge, s_zgt, s_zle, s_ifnull, s_ifnullN, s_ifnonnull, s_ifnonnullN, s_tableswitch, s_lookupswitch, s_getfield, s_putfield, s_getstatic, s_iaload, s_laload, s_baload, s_aaload, s_iastore, s_lastore, s_bastore, s_aastore, s_arraylength, s_newI, s_newJ, s_newZ, s_anewarray, s_new, s_copy, s_max, s_min, s_invokestatic, s_objinit, s_invokespecial, kf_isr_r, s_invokevirtual, s_ireturn, s_lreturn, s_areturn, s_areturnN, s_return, lI_0, lI_s, lJ_0, lJ_s, lA_0, lA_0N, lA_s, lS1_0, lS1_1, lS1_2, lS2_0, lS2_1, lS2_2, lK_n, lK_i, lK_j, lK_a, lK_N, d_C', kf_w_0, kf_w_i, kf_w_a, kf_w_n, kf_w_j, c_0, c_1, c_2, c_3, c_4, c_5, c_6, tl_0, tl_1, Option.bind_some, Option.bind_none, Option.map_some, Nat.reduceAdd, Nat.reduceMul, Nat.reduceDiv, Nat.reduceMod, Int.reduceToNat, Fin.val_zero, Fin.isValue, Fin.val_one, Fin.val_two, fv_0, fv_1, fv_2, fv_3, fw_0, fw_1, d_ite, true_or, or_true, and_false, false_and, or_self, and_self, ow_89, ow_59, ow_25, ow_27, ow_28, ow_73, ow_71, fobF, g, rv, k1, g1, rs1, k2, g2, rh2, k3, g3, gk3, rh3, k4, g4, rh4, k5, g5, gk5, cp6, g6, gk6, cp7, g7, gk7, rT7, k8, g8, rT8, k9, gk8, kf_fit, gs9, e9']
end CFILL
