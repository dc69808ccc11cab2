/-! the curve has no point with ordinate 0: x^3 - 3x + b has no root modulo p -/
def nB : Nat := 74733725485204106633371317169360305120971702399296588640698374994827630452660
def q3 (a c : Nat × Nat × Nat) : Nat × Nat × Nat := ((a.1 * c.1 + nB * (a.2.1 * c.2.2 + a.2.2 * c.2.1)) % pP, (a.1 * c.2.1 + a.2.1 * c.1 + 3 * (a.2.1 * c.2.2 + a.2.2 * c.2.1) + nB * (a.2.2 * c.2.2)) % pP, (a.1 * c.2.2 + a.2.1 * c.2.1 + a.2.2 * c.1 + 3 * (a.2.2 * c.2.2)) % pP)
def q3p : Nat → Nat × Nat × Nat → Nat × Nat × Nat → Nat → Nat × Nat × Nat
  | 0, acc, _, _ => acc
  | k + 1, acc, a, e => q3p k (cond (Nat.beq (e % 2) 1) (q3 acc a) acc) (q3 a a) (e / 2)
def q3e (r : Int) (a : Nat × Nat × Nat) : Int := (a.1 : Int) + a.2.1 * r + a.2.2 * (r * r)
theorem nB_eq : (nB : Int) = (pP : Int) - cB := by decide +kernel
theorem q3_ok {r : Int} (hr : zp (r * (r * r) - 3 * r + cB)) (a c : Nat × Nat × Nat) : zp (q3e r (q3 a c) - q3e r a * q3e r c) := by
  obtain ⟨a0, a1, a2⟩ := a
  obtain ⟨c0, c1, c2⟩ := c
  have m0 := zp_md ((a0 * c0 + nB * (a1 * c2 + a2 * c1) : Nat) : Int)
  have m1 := zp_md ((a0 * c1 + a1 * c0 + 3 * (a1 * c2 + a2 * c1) + nB * (a2 * c2) : Nat) : Int)
  have m2 := zp_md ((a0 * c2 + a1 * c1 + a2 * c0 + 3 * (a2 * c2) : Nat) : Int)
  simp only [q3e, q3, Int.natCast_emod] at *
  generalize ((a0 * c0 + nB * (a1 * c2 + a2 * c1) : Nat) : Int) % pP = w0 at *
  generalize ((a0 * c1 + a1 * c0 + 3 * (a1 * c2 + a2 * c1) + nB * (a2 * c2) : Nat) : Int) % pP = w1 at *
  generalize ((a0 * c2 + a1 * c1 + a2 * c0 + 3 * (a2 * c2) : Nat) : Int) % pP = w2 at *
  simp only [Int.natCast_add, Int.natCast_mul, nB_eq] at m0 m1 m2
  have h3 : ((3 : Nat) : Int) = 3 := rfl
  rw [h3] at m1 m2
  generalize (a0 : Int) = A0 at *
  generalize (a1 : Int) = A1 at *
  generalize (a2 : Int) = A2 at *
  generalize (c0 : Int) = C0 at *
  generalize (c1 : Int) = C1 at *
  generalize (c2 : Int) = C2 at *
  obtain ⟨k0, e0⟩ := m0
  obtain ⟨k1, e1⟩ := m1
  obtain ⟨k2, e2⟩ := m2
  obtain ⟨k, ek⟩ := hr
  unfold zp
  generalize (pP : Int) = P at *
  generalize cB = B at *
  have f0 : w0 = A0 * C0 + (P - B) * (A1 * C2 + A2 * C1) + P * k0 := by omega
  have f1 : w1 = A0 * C1 + A1 * C0 + 3 * (A1 * C2 + A2 * C1) + (P - B) * (A2 * C2) + P * k1 := by omega
  have f2 : w2 = A0 * C2 + A1 * C1 + A2 * C0 + 3 * (A2 * C2) + P * k2 := by omega
  have f3 : B = 3 * r - r * (r * r) + P * k := by omega
  subst f0
  subst f1
  subst f2
  subst f3
  clear e0 e1 e2 ek h3
  refine ⟨(A1 * C2 + A2 * C1) * (1 - k) + k0 + (A2 * C2 * (1 - k) + k1) * r + k2 * (r * r), ?_⟩
  grind
theorem pw_even (s : Int) (n : Nat) : s ^ (2 * n) = (s * s) ^ n := by
  rw [Int.pow_mul, Int.pow_succ, Int.pow_succ, Int.pow_zero, Int.one_mul]
theorem pw_odd (s : Int) (n : Nat) : s ^ (1 + 2 * n) = s * (s * s) ^ n := by
  rw [Int.pow_add, pw_even, Int.pow_succ, Int.pow_zero, Int.one_mul]
theorem q3p_ok {r : Int} (hr : zp (r * (r * r) - 3 * r + cB)) : ∀ k acc a e, e < 2 ^ k → zp (q3e r (q3p k acc a e) - q3e r acc * q3e r a ^ e)
  | 0, acc, a, e, he => by
    have : e = 0 := by
      rw [Nat.pow_zero] at he
      omega
    subst this
    simp only [q3p, Int.pow_zero, Int.mul_one, Int.sub_self]
    exact zp_0
  | k + 1, acc, a, e, he => by
    have h1 := q3p_ok hr k (cond (Nat.beq (e % 2) 1) (q3 acc a) acc) (q3 a a) (e / 2) (by rw [Nat.pow_succ] at he; omega)
    show zp (q3e r (q3p k (cond (Nat.beq (e % 2) 1) (q3 acc a) acc) (q3 a a) (e / 2)) - _)
    have h2 := q3_ok hr a a
    have h3 := q3_ok hr acc a
    have h4 : zp (q3e r (q3 a a) ^ (e / 2) - (q3e r a * q3e r a) ^ (e / 2)) := by
      generalize q3e r (q3 a a) = s at *
      generalize q3e r a * q3e r a = t at *
      generalize e / 2 = n
      induction n with
      | zero => simp only [Int.pow_zero, Int.sub_self]; exact zp_0
      | succ n ih =>
        rw [Int.pow_succ, Int.pow_succ]
        exact zp2 (u := s) (v := t ^ n) ih h2 (by grind)
    by_cases h : e % 2 = 1
    · have h5 : Nat.beq (e % 2) 1 = true := by rw [h]; rfl
      rw [h5, cond_true] at h1 ⊢
      have h6 := pw_odd (q3e r a) (e / 2)
      rw [show 1 + 2 * (e / 2) = e by omega] at h6
      rw [h6]
      generalize (q3e r a * q3e r a) ^ (e / 2) = T at *
      generalize q3e r (q3 a a) ^ (e / 2) = S at *
      exact zp3 (u := 1) (v := S) (w := q3e r acc * q3e r a) h1 h3 h4 (by grind)
    · have h5 : Nat.beq (e % 2) 1 = false := by
        rw [show e % 2 = 0 by omega]
        rfl
      rw [h5, cond_false] at h1 ⊢
      have h6 := pw_even (q3e r a) (e / 2)
      rw [show 2 * (e / 2) = e by omega] at h6
      rw [h6]
      generalize (q3e r a * q3e r a) ^ (e / 2) = T at *
      generalize q3e r (q3 a a) ^ (e / 2) = S at *
      exact zp2 (u := 1) (v := q3e r acc) h1 h4 (by grind)
theorem q3p_v : q3p 256 (1, 0, 0) (0, 1, 0) pP = (66434390973925144466073271287821796038003695194169110494110089305650096453661, 12402202686218762177567235911775779164004716598278868847786114277539554646092, 24678849118215552148312087830792888746041224110560601850711771001608500700145) := by decide +kernel
theorem q3_u : q3 (76626890310466861426869089647039036757962535851890885406097439786770458211455, 74462945259064871768191128030512052509059297803194871526163573358218695456204, 34768139465301476436978405170953382516735956999154666452188405812258086013549) (66434390973925144466073271287821796038003695194169110494110089305650096453661, 12402202686218762177567235911775779164004716598278868847786114277539554646091, 24678849118215552148312087830792888746041224110560601850711771001608500700145) = (1, 0, 0) := by decide +kernel
theorem pP_lt : pP < 2 ^ 256 := by decide +kernel
theorem zp_flt (n : Nat) : zp ((n : Int) ^ pP - n) := by
  have h0 := pP_pos
  rw [← Int.natCast_pow]
  have e1 := Nat.pow_succ' (m := n) (n := pP - 1)
  rw [show (pP - 1).succ = pP by omega] at e1
  by_cases h : pP ∣ n
  · obtain ⟨k, hk⟩ := h
    refine ⟨(k : Int) * ((n ^ (pP - 1) : Nat) : Int) - k, ?_⟩
    rw [e1, Int.natCast_mul]
    have : (n : Int) = (pP : Int) * (k : Int) := by rw [← Int.natCast_mul, ← hk]
    generalize ((n ^ (pP - 1) : Nat) : Int) = W at *
    generalize (pP : Int) = P at *
    rw [this]
    grind
  · have h2 := flt pP_prm h
    have h3 := Nat.mod_add_div (n ^ (pP - 1)) pP
    rw [h2] at h3
    refine ⟨(n : Int) * ((n ^ (pP - 1) / pP : Nat) : Int), ?_⟩
    have h4 : ((n ^ (pP - 1) : Nat) : Int) = 1 + (pP : Int) * ((n ^ (pP - 1) / pP : Nat) : Int) := by
      rw [← Int.natCast_mul]
      omega
    rw [e1, Int.natCast_mul, h4]
    generalize ((n ^ (pP - 1) / pP : Nat) : Int) = W at *
    generalize (pP : Int) = P at *
    grind
theorem nroot (x : Int) : ¬ zp (x * (x * x) - 3 * x + cB) := by
  intro hx
  have h0 := pP_pos
  have hn0 : 0 ≤ x % pP := Int.emod_nonneg _ (by omega)
  obtain ⟨n, hn⟩ := Int.eq_ofNat_of_zero_le hn0
  have hm := zp_md x
  rw [hn] at hm
  have hr : zp ((n : Int) * (n * n) - 3 * n + cB) := zp2 (u := 1) (v := (n : Int) * n + n * x + x * x - 3) hx hm (by grind)
  have h1 := q3p_ok hr 256 (1, 0, 0) (0, 1, 0) pP pP_lt
  have h2 := zp_flt n
  have h3 := q3_ok hr (76626890310466861426869089647039036757962535851890885406097439786770458211455, 74462945259064871768191128030512052509059297803194871526163573358218695456204, 34768139465301476436978405170953382516735956999154666452188405812258086013549) (66434390973925144466073271287821796038003695194169110494110089305650096453661, 12402202686218762177567235911775779164004716598278868847786114277539554646091, 24678849118215552148312087830792888746041224110560601850711771001608500700145)
  rw [q3_u] at h3
  rw [q3p_v] at h1
  have e1 : q3e (n : Int) (1, 0, 0) = 1 := by simp [q3e]
  have e2 : q3e (n : Int) (0, 1, 0) = n := by simp [q3e]
  rw [e1, e2, Int.one_mul] at h1
  rw [e1] at h3
  have h4 : zp (q3e (n : Int) (66434390973925144466073271287821796038003695194169110494110089305650096453661, 12402202686218762177567235911775779164004716598278868847786114277539554646092, 24678849118215552148312087830792888746041224110560601850711771001608500700145) - n) := zp2 (u := 1) (v := 1) h1 h2 (by grind)
  have h5 : q3e (n : Int) (66434390973925144466073271287821796038003695194169110494110089305650096453661, 12402202686218762177567235911775779164004716598278868847786114277539554646091, 24678849118215552148312087830792888746041224110560601850711771001608500700145) = q3e (n : Int) (66434390973925144466073271287821796038003695194169110494110089305650096453661, 12402202686218762177567235911775779164004716598278868847786114277539554646092, 24678849118215552148312087830792888746041224110560601850711771001608500700145) - n + 0 := by
    simp only [q3e]
    have : ((12402202686218762177567235911775779164004716598278868847786114277539554646091 : Nat) : Int) = ((12402202686218762177567235911775779164004716598278868847786114277539554646092 : Nat) : Int) - 1 + 0 := by decide +kernel
    rw [this]
    grind
  rw [h5] at h3
  generalize q3e (n : Int) (76626890310466861426869089647039036757962535851890885406097439786770458211455, 74462945259064871768191128030512052509059297803194871526163573358218695456204, 34768139465301476436978405170953382516735956999154666452188405812258086013549) = U at *
  generalize q3e (n : Int) (66434390973925144466073271287821796038003695194169110494110089305650096453661, 12402202686218762177567235911775779164004716598278868847786114277539554646092, 24678849118215552148312087830792888746041224110560601850711771001608500700145) = E at *
  exact zp_1 (zp2 (u := 1) (v := U) h3 h4 (by grind))
