/-! A memory that grows: what stood stands -/
section GROW
variable {M M' M'' : kf_M} {K S Z I J : List Int32} {it pl n : Nat} {A : List Nat}
/-- what stood outside A stands -/
def Gr (A : List Nat) (M M' : kf_M) : Prop := ∀ b, b ∉ A → ∀ ob, M[b]? = some ob → M'[b]? = some ob
theorem Gr.at {a : Nat} {ob : kf_Ob} (h : Gr A M M') (ha : a ∉ A) (hm : M[a]? = some ob) : M'[a]? = some ob := h a ha ob hm
theorem Gr.rf : Gr A M M := fun _ _ _ h => h
theorem Gr.tr (h1 : Gr A M M') (h2 : Gr A M' M'') : Gr A M M'' := fun b hb ob h => h2 b hb ob (h1 b hb ob h)
theorem Gr.wk {B : List Nat} (h : Gr A M M') (hAB : ∀ a ∈ A, a ∈ B) : Gr B M M' := fun b hb ob hm => h b (fun q => hb (hAB b q)) ob hm
theorem Off.gr (h : Off A M M') : Gr A M M' := fun _ hb _ hm => h.at hb hm
theorem Gr.app {L : kf_M} : Gr A M (M ++ L) := fun b _ ob hm => by rw [List.getElem?_append_left (List.getElem?_eq_some_iff.mp hm).1]; exact hm
/-- only new cells differ -/
theorem Gr.new {M1 : kf_M} (h : Gr [] M M1) (o : Off A M1 M') (hA : ∀ a ∈ A, M.length ≤ a) : Gr [] M M' := fun b _ ob hm => o.at (fun q => by
  have := hA b q
  have := (List.getElem?_eq_some_iff.mp hm).1
  omega) (h b (fun w => by cases w) ob hm)
theorem RowIs.gr {M M' : kf_M} {A : List Nat} {a cap : Nat} {cs : List Int32} (h : RowIs M a cap cs) (ho : Gr A M M') (h1 : a ∉ A) (h2 : a + 1 ∉ A) : RowIs M' a cap cs := by
  obtain ⟨bs, q1, q2, q3⟩ := h
  exact ⟨bs, ho.at h1 q1, ho.at h2 q2, q3⟩
theorem HashIs.gr {M M' : kf_M} {A : List Nat} {a n : Nat} {S W : List Int32} (h : HashIs M a S W n) (ho : Gr A M M') (h0 : a ∉ A) (h1 : a + 1 ∉ A) (h2 : a + 2 ∉ A) : HashIs M' a S W n := ⟨ho.at h0 h.1, ho.at h1 h.2.1, ho.at h2 h.2.2⟩
theorem HA.gr {M M' : kf_M} {A : List Nat} {a : Nat} (h : HA M a) (ho : Gr A M M') (h0 : a ∉ A) (h1 : a + 1 ∉ A) (h2 : a + 2 ∉ A) : HA M' a := by
  obtain ⟨s, h, hs⟩ := h
  exact ⟨s, HashIs.gr h ho h0 h1 h2, hs⟩
theorem SH.gr {M M' : kf_M} {A : List Nat} (h : SH M) (ho : Gr A M M') (h0 : 0 ∉ A) (h1 : 1 ∉ A) : SH M' := ⟨ho.at h0 h.1, ho.at h1 h.2⟩
theorem ArI.gr {M M' : kf_M} {A : List Nat} {a n : Nat} {xs : List Int32} (h : ArI M a n xs) (ho : Gr A M M') (h0 : a ∉ A) : ArI M' a n xs := ⟨ho.at h0 h.1, h.2⟩
theorem VtIs.gr {M M' : kf_M} {A : List Nat} {ms pn tk : List Int32} {t tr mi hp : Int32} (h : VtIs M ms pn tk t tr mi hp) (ho : Gr A M M') (hA : ∀ a ∈ A, a < 32 ∨ 39 < a) : VtIs M' ms pn tk t tr mi hp := by
  obtain ⟨h1, h2, h3, ⟨mc, h4⟩, h5, h6⟩ := h
  have n : ∀ x, 32 ≤ x → x ≤ 39 → x ∉ A := fun x a b q => by have := hA x q; omega
  exact ⟨ho.at (n 32 (by omega) (by omega)) h1, h2.gr ho (n _ (by omega) (by omega)), h3.gr ho (n _ (by omega) (by omega)), ⟨mc, h4.gr ho (n _ (by omega) (by omega))⟩, h5.gr ho (n _ (by omega) (by omega)), h6.gr ho (n _ (by omega) (by omega)) (n _ (by omega) (by omega)) (n _ (by omega) (by omega))⟩
theorem QIs.gr {M M' : kf_M} {A : List Nat} {a f t : Nat} {rs : List (Option Nat)} (h : QIs M a f t rs) (ho : Gr A M M') (h0 : a ∉ A) (h1 : a + 1 ∉ A) : QIs M' a f t rs := ⟨ho.at h0 h.1, ho.at h1 h.2.1, h.2.2⟩
theorem TpIs.gr {A : List Nat} (h : TpIs M K S Z I J it pl) (ho : Gr A M M') (h0 : ∀ a ∈ A, a ∉ [20, 23, 24, 25, 26, 27]) : TpIs M' K S Z I J it pl := by
  obtain ⟨q1, q2, q3, q4, q5, q6, q7⟩ := h
  have n : ∀ a, a ∈ [20, 23, 24, 25, 26, 27] → a ∉ A := fun a ha hA => h0 a hA ha
  exact ⟨ho.at (n _ (by decide)) q1, ho.at (n _ (by decide)) q2, ho.at (n _ (by decide)) q3, ho.at (n _ (by decide)) q4, ho.at (n _ (by decide)) q5, ho.at (n _ (by decide)) q6, q7⟩
theorem TJ.gr {M M' : kf_M} {A : List Nat} {cs : List Int32} (h : TJ M cs) (ho : Gr A M M') (hA : ∀ a ∈ A, a < 20 ∨ 27 < a) : TJ M' cs := by
  obtain ⟨K, S, Z, I, J, it, pl, h, hr⟩ := h
  exact ⟨K, S, Z, I, J, it, pl, h.gr ho (fun a ha => by have := hA a ha; simp; omega), hr.gr ho (fun q => by have := hA _ q; omega) (fun q => by have := hA _ q; omega)⟩
theorem Num.gr {M M' : kf_M} {A : List Nat} {a : Nat} {v : Int} (h : Num M a v) (ho : Gr A M M') (h0 : a ∉ A) : Num M' a v := by
  obtain ⟨l, h1, h2⟩ := h
  exact ⟨l, ho.at h0 h1, h2⟩
theorem Jar.gr {M M' : kf_M} {A : List Nat} {a : Nat} (h : Jar M a) (ho : Gr A M M') (h0 : a ∉ A) : Jar M' a := by
  obtain ⟨l, h1, h2⟩ := h
  exact ⟨l, ho.at h0 h1, h2⟩
theorem Mod.gr {M M' : kf_M} {A : List Nat} {f : Nat} {m : Int} (h : Mod M f m) (ho : Gr A M M') (h0 : f ∉ A) (h1 : f + 1 ∉ A) : Mod M' f m := by
  obtain ⟨inv, a, b, c⟩ := h
  exact ⟨inv, ho.at h0 a, b.gr ho h1, c⟩
theorem FldIs.gr {M M' : kf_M} {A : List Nat} {f : Nat} {m : Int} (h : FldIs M f m) (ho : Gr A M M') (h0 : f ∉ A) (h1 : f + 1 ∉ A) (h2 : f + 2 ∉ A) (h3 : f + 3 ∉ A) (h4 : f + 4 ∉ A) (h5 : f + 5 ∉ A) : FldIs M' f m := by
  obtain ⟨a, b, ⟨sq, c, c2⟩, ⟨on, d, d2⟩, e⟩ := h
  exact ⟨a.gr ho h0 h1, b.gr ho h2, ⟨sq, c.gr ho h3, c2⟩, ⟨on, d.gr ho h4, d2⟩, e.gr ho h5⟩
theorem FldIs.gr2 {M M' : kf_M} {f : Nat} {m : Int} {A : List Nat} (h : FldIs M f m) (ho : Gr A M M') (hA : ∀ x ∈ A, x < f ∨ f + 5 < x) : FldIs M' f m := by
  have n : ∀ y, f ≤ y → y ≤ f + 5 → y ∉ A := fun y h1 h2 q => by have := hA y q; omega
  exact h.gr ho (n _ (by omega) (by omega)) (n _ (by omega) (by omega)) (n _ (by omega) (by omega)) (n _ (by omega) (by omega)) (n _ (by omega) (by omega)) (n _ (by omega) (by omega))
theorem PtV.gr {M M' : kf_M} {A : List Nat} {a : Nat} {X Y Z : Int} (h : PtV M a X Y Z) (ho : Gr A M M') (h0 : a ∉ A) (h1 : a + 1 ∉ A) (h2 : a + 2 ∉ A) (h3 : a + 3 ∉ A) : PtV M' a X Y Z := ⟨ho.at h0 h.1, h.2.1.gr ho h1, h.2.2.1.gr ho h2, h.2.2.2.gr ho h3⟩
theorem PtJ.gr {M M' : kf_M} {A : List Nat} {a : Nat} (h : PtJ M a) (ho : Gr A M M') (h0 : a ∉ A) (h1 : a + 1 ∉ A) (h2 : a + 2 ∉ A) (h3 : a + 3 ∉ A) : PtJ M' a := ⟨ho.at h0 h.1, h.2.1.gr ho h1, h.2.2.1.gr ho h2, h.2.2.2.gr ho h3⟩
theorem RepM.gr {M M' : kf_M} {A : List Nat} {a : Nat} {P : Pt} (h : RepM M a P) (ho : Gr A M M') (h0 : a ∉ A) (h1 : a + 1 ∉ A) (h2 : a + 2 ∉ A) (h3 : a + 3 ∉ A) : RepM M' a P := by
  obtain ⟨X, Y, Z, a, b⟩ := h
  exact ⟨X, Y, Z, a.gr ho h0 h1 h2 h3, b⟩
theorem Comb.gr {M M' : kf_M} {A : List Nat} {c : Nat} {P : Pt} (h : Comb M c P) (ho : Gr A M M') (hA : ∀ x ∈ A, x < c ∨ c + 64 < x) : Comb M' c P := by
  have n : ∀ y, c ≤ y → y ≤ c + 64 → y ∉ A := fun y h1 h2 q => by have := hA y q; omega
  exact ⟨ho.at (n _ (by omega) (by omega)) h.1, fun j h1 h2 => (h.2 j h1 h2).gr ho (n _ (by omega) (by omega)) (n _ (by omega) (by omega)) (n _ (by omega) (by omega)) (n _ (by omega) (by omega))⟩
theorem CvIs.gr {M M' : kf_M} {A : List Nat} (h : CvIs M) (ho : Gr A M M') (hA : ∀ x ∈ A, ¬ (105 ≤ x ∧ x ≤ 112) ∧ ¬ (178 ≤ x ∧ x ≤ 186)) : CvIs M' := by
  obtain ⟨c0, cm, ⟨b, nb, cb, sb⟩, j1, j2, j3, j4, j5, j6, j7, j8, j9⟩ := h
  have n1 : ∀ y, 105 ≤ y → y ≤ 112 → y ∉ A := fun y h1 h2 q => (hA y q).1 ⟨h1, h2⟩
  have n2 : ∀ y, 178 ≤ y → y ≤ 186 → y ∉ A := fun y h1 h2 q => (hA y q).2 ⟨h1, h2⟩
  exact ⟨ho.at (n1 _ (by decide) (by decide)) c0, cm.gr ho (n1 _ (by decide) (by decide)) (n1 _ (by decide) (by decide)), ⟨b, nb.gr ho (n1 _ (by decide) (by decide)), cb, sb⟩, j1.gr ho (n2 _ (by decide) (by decide)), j2.gr ho (n2 _ (by decide) (by decide)), j3.gr ho (n2 _ (by decide) (by decide)), j4.gr ho (n2 _ (by decide) (by decide)), j5.gr ho (n2 _ (by decide) (by decide)), j6.gr ho (n2 _ (by decide) (by decide)), j7.gr ho (n2 _ (by decide) (by decide)), j8.gr ho (n2 _ (by decide) (by decide)), j9.gr ho (n2 _ (by decide) (by decide))⟩
theorem SgK.gr {M M' : kf_M} {A : List Nat} (h : SgK M) (ho : Gr A M M') (hA : ∀ x ∈ A, x ≠ 4 ∧ (x < 105 ∨ (192 < x ∧ x < 265) ∨ 277 < x)) : SgK M' := by
  obtain ⟨a1, a2, a3, a4, a5, a6, a7, a8, a9, a10, a11, a12⟩ := h
  have n1 : ∀ y, 105 ≤ y → y ≤ 192 → y ∉ A := fun y h1 h2 q => by have := (hA y q).2; omega
  have n2 : ∀ y, 265 ≤ y → y ≤ 277 → y ∉ A := fun y h1 h2 q => by have := (hA y q).2; omega
  refine ⟨a1.gr ho ?_, a2.gr2 ho ?_, a3.gr ho ?_, a4.gr2 ho ?_, a5.gr ho (n2 _ (by decide) (by decide)) (n2 _ (by decide) (by decide)) (n2 _ (by decide) (by decide)) (n2 _ (by decide) (by decide)), a6.gr ho (n2 _ (by decide) (by decide)) (n2 _ (by decide) (by decide)) (n2 _ (by decide) (by decide)) (n2 _ (by decide) (by decide)), a7.gr ho (n2 _ (by decide) (by decide)), a8.gr ho (n2 _ (by decide) (by decide)), a9.gr ho (n2 _ (by decide) (by decide)), a10.gr ho (n2 _ (by decide) (by decide)), a11.gr ho (n2 _ (by decide) (by decide)), ho.at (fun q => (hA 4 q).1 rfl) a12⟩
  · intro x hx
    have := (hA x hx).2
    omega
  · intro x hx
    have := (hA x hx).2
    omega
  · intro x hx
    have := (hA x hx).2
    omega
  · intro x hx
    have := (hA x hx).2
    omega
theorem SgQ.gr {M M' : kf_M} {A : List Nat} {cf : Int32} {own : List Int32} (h : SgQ M cf own) (ho : Gr A M M') (hA : ∀ x ∈ A, x < 199 ∨ 199 + 64 < x) : SgQ M' cf own := by
  have n : ∀ y, 199 ≤ y → y ≤ 199 + 64 → y ∉ A := fun y h1 h2 q => by have := hA y q; omega
  exact ⟨ho.at (n _ (by omega) (by omega)) h.1, fun j hj => (h.2.1 j hj).gr ho (n _ (by omega) (by omega)) (n _ (by omega) (by omega)) (n _ (by omega) (by omega)) (n _ (by omega) (by omega)), fun hc x y e1 e2 e3 e4 => (h.2.2.1 hc x y e1 e2 e3 e4).gr ho hA, h.2.2.2⟩
theorem KyAt.gr {M M' : kf_M} {A : List Nat} {a : Nat} {k : Ky} (h : KyAt M a k) (ho : Gr A M M') (hA : ∀ x ∈ A, x < a ∨ a + 5 < x) : KyAt M' a k := by
  obtain ⟨h1, h2, ⟨u, h3, h7⟩, h4, h5, h6⟩ := h
  have n : ∀ i, i ≤ 5 → a + i ∉ A := fun i hi w => by have := hA _ w; omega
  exact ⟨ho.at (n 0 (by omega)) h1, h2.gr ho (n 1 (by omega)), ⟨u, h3.gr ho (n 2 (by omega)), h7⟩, h4.gr ho (n 3 (by omega)), h5.gr ho (n 4 (by omega)), h6.gr ho (n 5 (by omega))⟩
theorem KyJ.gr {M M' : kf_M} {A : List Nat} {a : Nat} (h : KyJ M a) (ho : Gr A M M') (hA : ∀ x ∈ A, x < a ∨ a + 5 < x) : KyJ M' a := by
  obtain ⟨ul, ct, hh, u, s, i, p, h1, h2, h3, h4, h5, h6⟩ := h
  have n : ∀ i, i ≤ 5 → a + i ∉ A := fun i hi w => by have := hA _ w; omega
  exact ⟨ul, ct, hh, u, s, i, p, ho.at (n 0 (by omega)) h1, h2.gr ho (n 1 (by omega)), h3.gr ho (n 2 (by omega)), h4.gr ho (n 3 (by omega)), h5.gr ho (n 4 (by omega)), h6.gr ho (n 5 (by omega))⟩
theorem KS.gr {M M' : kf_M} {A σ : List Nat} {ks : List Ky} (h : KS M σ ks) (ho : Gr A M M') (hA : ∀ x ∈ A, x < 42 ∨ 101 < x) : KS M' σ ks := by
  obtain ⟨h1, h2, h3, h4, h5, h6⟩ := h
  refine ⟨h1, h2, h3, fun a ha => (h4 a ha).gr ho (fun x hx => ?_), fun j k hk => ⟨(h5 j k hk).1.gr ho (fun x hx => ?_), (h5 j k hk).2⟩, h6⟩
  · obtain ⟨i, i1, i2⟩ := h3 a ha
    have := hA x hx
    omega
  · have hj : j < ks.length := (List.getElem?_eq_some_iff.mp hk).1
    have hm : σ.getD j 0 ∈ σ := by
      rw [List.getD_eq_getElem?_getD, List.getElem?_eq_getElem (by omega)]
      exact List.getElem_mem _
    obtain ⟨i, i1, i2⟩ := h3 _ hm
    have := hA x hx
    omega
theorem StC.gr {M M' : kf_M} {A : List Nat} (h : StC M) (ho : Gr A M M') (hA : ∀ a ∈ A, 19 ≤ a) : StC M' := by
  have n : ∀ c, c < 19 → c ∉ A := fun c hc w => by have := hA _ w; omega
  exact ⟨h.1.gr ho (n 0 (by omega)) (n 1 (by omega)), ho.at (n 9 (by omega)) h.2.1, ho.at (n 10 (by omega)) h.2.2.1, ho.at (n 11 (by omega)) h.2.2.2⟩
theorem SgAll.gr {M M' : kf_M} {A : List Nat} {G : Gs} (h : SgAll M G) (ho : Gr A M M') (hA : ∀ x ∈ A, x ≠ 4 ∧ (x < 104 ∨ 277 < x)) : SgAll M' G := by
  obtain ⟨cf, own, dig, sig, h1, h2, h3, h4, h5, h6, h7, ⟨r, h8⟩, h9⟩ := h
  have n : ∀ c, 104 ≤ c → c ≤ 277 → c ∉ A := fun c hc hd w => by have := hA _ w; omega
  exact ⟨cf, own, dig, sig, ho.at (n 104 (by omega) (by omega)) h1, h2.gr ho (fun x hx => by have := hA x hx; omega), h3.gr ho (fun x hx => by have := hA x hx; omega), h4.gr ho (n 193 (by omega) (by omega)) (n 194 (by omega) (by omega)) (n 195 (by omega) (by omega)), h5.gr ho (n 196 (by omega) (by omega)), h6.gr ho (n 197 (by omega) (by omega)), h7.gr ho (n 198 (by omega) (by omega)), ⟨r, h8.gr ho (n 264 (by omega) (by omega))⟩, h9⟩
theorem QW.gr {M M' : kf_M} {A σ wt : List Nat} {n : Nat} (h : QW M σ wt n) (ho : Gr A M M') (h1 : 102 ∉ A) (h2 : 103 ∉ A) : QW M' σ wt n := by
  obtain ⟨f, t, qs, a1, a2⟩ := h
  exact ⟨f, t, qs, a1.gr ho h1 h2, a2⟩
theorem RgIs.gr {M M' : kf_M} {A : List Nat} {a n : Nat} {rs : List (Option Nat)} (h : RgIs M a n rs) (ho : Gr A M M') (h0 : a ∉ A) (h1 : a + 1 ∉ A) : RgIs M' a n rs := ⟨ho.at h0 h.1, ho.at h1 h.2.1, h.2.2⟩
theorem VV.gr {M M' : kf_M} {A : List Nat} {V : Vs} (h : VV M V) (ho : Gr A M M') (hA : ∀ a ∈ A, a < 32 ∨ 39 < a) : VV M' V := ⟨h.1.gr ho hA, h.2⟩
theorem CI.gr {tp ou : List Int32} {V : Vs} {tc : Int32} {ks : List Ky} {W : Ws} {G : Gs} (h : CI M tp ou V tc ks W G) (ho : Gr A M M') (hA : ∀ a ∈ A, 283 < a) : CI M' tp ou V tc ks W G := by
  obtain ⟨fl, σ, da, hs, sd, wd, b1, b2, ⟨b3, b3b⟩, ⟨b4, b4b⟩, b5, b6, b7, b8, b9, b10, b11, b12, b13, b14, b15, b16⟩ := h
  have n : ∀ c, c ≤ 283 → c ∉ A := fun c hc q => by have := hA c q; omega
  exact ⟨fl, σ, da, hs, sd, wd, b1.gr ho (fun a ha => by have := hA a ha; omega), ho.at (n 19 (by decide)) b2, ⟨b3.gr ho (fun a ha => by have := hA a ha; omega), b3b⟩, ⟨b4.gr ho (n 28 (by decide)) (n 29 (by decide)), b4b⟩, b5.gr ho (n 30 (by decide)) (n 31 (by decide)), b6.gr ho (fun a ha => by have := hA a ha; omega), b7.gr ho (n 40 (by decide)) (n 41 (by decide)), b8.gr ho (fun a ha => by have := hA a ha; omega), b9.gr ho (n 102 (by decide)) (n 103 (by decide)), b10.gr ho (fun a ha => by have := hA a ha; omega), b11.gr ho (n 278 (by decide)) (n 279 (by decide)) (n 280 (by decide)), b12.gr ho (n 281 (by decide)), b13.gr ho (n 282 (by decide)), b14.gr ho (n 283 (by decide)), b15, b16⟩
end GROW
