/-! tracked numbers: the value far out, a bound of the sum of the coefficients, bounds of the exponents -/
abbrev KE : Type := Int × Nat × Nat × Nat × Nat × Nat
def kad (a b : KE) : KE := cond (Nat.beq a.2.1 0) b (cond (Nat.beq b.2.1 0) a (a.1 + b.1, a.2.1 + b.2.1, max a.2.2.1 b.2.2.1, max a.2.2.2.1 b.2.2.2.1, max a.2.2.2.2.1 b.2.2.2.2.1, max a.2.2.2.2.2 b.2.2.2.2.2))
def kmg (a : KE) : KE := (-a.1, a.2)
def ksb (a b : KE) : KE := kad a (kmg b)
def kml (a b : KE) : KE := cond (Nat.beq (a.2.1 * b.2.1) 0) (0, 0, 0, 0, 0, 0) (a.1 * b.1, a.2.1 * b.2.1, a.2.2.1 + b.2.2.1, a.2.2.2.1 + b.2.2.2.1, a.2.2.2.2.1 + b.2.2.2.2.1, a.2.2.2.2.2 + b.2.2.2.2.2)
def kB : Nat := 2 ^ 48
def kD : Nat × Nat × Nat := (16, 16, 16)
def KR (x : K4) (a : KE) (v : Int) : Prop := ∃ f : List KT, (∀ t ∈ f, tle a.2.2 t) ∧ pno f ≤ a.2.1 ∧ pev (kbs kB kD) f = a.1 ∧ pev x f = v
theorem pno_0 (x : K4) : ∀ f, pno f = 0 → pev x f = 0
  | [], _ => rfl
  | t :: f, h => by
    simp only [pno] at h
    have h1 : t.1 = 0 := Int.natAbs_eq_zero.mp (by omega)
    simp only [pev, tev, h1, Int.zero_mul, pno_0 x f (by omega)]
    rfl
theorem beq00 : Nat.beq 0 0 = true := rfl
theorem KR_nil {x : K4} {n1 n2 n3 n4 : Nat} : KR x (0, 0, n1, n2, n3, n4) 0 := ⟨[], by simp, by simp [pno], rfl, rfl⟩
theorem tle_mx {a b c d a' b' c' d' : Nat} {t : KT} (h : tle (a, b, c, d) t) : tle (max a a', max b b', max c c', max d d') t ∧ tle (max a' a, max b' b, max c' c, max d' d) t := by
  obtain ⟨h1, h2, h3, h4⟩ := h
  simp only at h1 h2 h3 h4
  exact ⟨⟨by simp only; omega, by simp only; omega, by simp only; omega, by simp only; omega⟩, ⟨by simp only; omega, by simp only; omega, by simp only; omega, by simp only; omega⟩⟩
theorem KR_ad {x : K4} {a b : KE} {u v : Int} (h1 : KR x a u) (h2 : KR x b v) : KR x (kad a b) (u + v) := by
  obtain ⟨n, N, a1, a2, a3, a4⟩ := a
  obtain ⟨m, L, b1, b2, b3, b4⟩ := b
  obtain ⟨f, f1, f2, f3, f4⟩ := h1
  obtain ⟨g, g1, g2, g3, g4⟩ := h2
  simp only at f1 f2 f3 f4 g1 g2 g3 g4
  unfold kad
  by_cases e1 : N = 0
  · subst e1
    have q := pno_0 x f (by omega)
    simp only [beq00, cond_true]
    rw [← f4, q, Int.zero_add]
    exact ⟨g, g1, g2, g3, g4⟩
  · by_cases e2 : L = 0
    · subst e2
      have q := pno_0 x g (by omega)
      have e3 : Nat.beq N 0 = false := by
        cases N with
        | zero => exact absurd rfl e1
        | succ N => rfl
      simp only [e3, beq00, cond_true, cond_false]
      rw [← g4, q, Int.add_zero]
      exact ⟨f, f1, f2, f3, f4⟩
    · have e3 : Nat.beq N 0 = false := by
        cases N with
        | zero => exact absurd rfl e1
        | succ N => rfl
      have e4 : Nat.beq L 0 = false := by
        cases L with
        | zero => exact absurd rfl e2
        | succ N => rfl
      simp only [e3, e4, cond_false]
      refine ⟨f ++ g, ?_, ?_, ?_, ?_⟩
      · intro t ht
        rcases List.mem_append.mp ht with q | q
        · exact (tle_mx (f1 t q)).1
        · exact (tle_mx (g1 t q)).2
      · rw [pno_app]
        simp only
        omega
      · rw [pev_app, f3, g3]
      · rw [pev_app, f4, g4]
def pne : List KT → List KT
  | [] => []
  | t :: f => (-t.1, t.2) :: pne f
theorem pev_ne (x : K4) : ∀ f, pev x (pne f) = - pev x f
  | [] => rfl
  | t :: f => by
    simp only [pne, pev, pev_ne x f, tev, Int.neg_mul]
    omega
theorem pno_ne : ∀ f, pno (pne f) = pno f
  | [] => rfl
  | t :: f => by simp only [pne, pno, pno_ne f, Int.natAbs_neg]
theorem mem_ne {u : KT} : ∀ {f : List KT}, u ∈ pne f → ∃ t ∈ f, u.2 = t.2
  | [], h => by simp [pne] at h
  | t :: f, h => by
    rcases List.mem_cons.mp h with q | q
    · exact ⟨t, by simp, by rw [q]⟩
    · obtain ⟨s, hs, e⟩ := mem_ne q
      exact ⟨s, by simp [hs], e⟩
theorem KR_mg {x : K4} {a : KE} {u : Int} (h1 : KR x a u) : KR x (kmg a) (-u) := by
  obtain ⟨f, f1, f2, f3, f4⟩ := h1
  refine ⟨pne f, ?_, ?_, ?_, ?_⟩
  · intro t ht
    obtain ⟨s, hs, e⟩ := mem_ne ht
    have := f1 s hs
    simp only [tle, kmg] at this ⊢
    rw [e]
    exact this
  · rw [pno_ne]
    exact f2
  · rw [pev_ne, f3]
    rfl
  · rw [pev_ne, f4]
theorem KR_sb {x : K4} {a b : KE} {u v : Int} (h1 : KR x a u) (h2 : KR x b v) : KR x (ksb a b) (u - v) := by
  rw [Int.sub_eq_add_neg]
  exact KR_ad h1 (KR_mg h2)
theorem KR_ml {x : K4} {a b : KE} {u v : Int} (h1 : KR x a u) (h2 : KR x b v) : KR x (kml a b) (u * v) := by
  obtain ⟨n, N, a1, a2, a3, a4⟩ := a
  obtain ⟨m, L, b1, b2, b3, b4⟩ := b
  obtain ⟨f, f1, f2, f3, f4⟩ := h1
  obtain ⟨g, g1, g2, g3, g4⟩ := h2
  simp only at f1 f2 f3 f4 g1 g2 g3 g4
  unfold kml
  have hle : pno f * pno g ≤ N * L := Nat.mul_le_mul f2 g2
  by_cases e1 : N * L = 0
  · simp only [e1, beq00, cond_true]
    have q := pno_0 x (pmu f g) (by rw [pno_mu]; omega)
    rw [pev_mu, f4, g4] at q
    rw [q]
    exact KR_nil
  · have e3 : Nat.beq (N * L) 0 = false := by
      cases h : N * L with
      | zero => exact absurd h e1
      | succ N => rfl
    simp only [e3, cond_false]
    refine ⟨pmu f g, ?_, ?_, ?_, ?_⟩
    · intro t ht
      obtain ⟨s, hs, r, hr, e⟩ := mem_mu ht
      obtain ⟨p1, p2, p3, p4⟩ := f1 s hs
      obtain ⟨q1, q2, q3, q4⟩ := g1 r hr
      subst e
      simp only [tmu, tle] at *
      omega
    · rw [pno_mu]
      exact hle
    · rw [pev_mu, f3, g3]
    · rw [pev_mu, f4, g4]
theorem KR_cst (x : K4) (c : Int) : KR x (c, c.natAbs, 0, 0, 0, 0) c := by
  refine ⟨[(c, 0, 0, 0, 0)], ?_, ?_, ?_, ?_⟩
  · intro t ht
    rw [List.mem_singleton] at ht
    subst ht
    simp [tle]
  · simp [pno]
  · simp [pev, tev]
  · simp [pev, tev]
def kv1 : KE := ((kbs kB kD).1, 1, 1, 0, 0, 0)
def kv2 : KE := ((kbs kB kD).2.1, 1, 0, 1, 0, 0)
def kv3 : KE := ((kbs kB kD).2.2.1, 1, 0, 0, 1, 0)
def kv4 : KE := ((kbs kB kD).2.2.2, 1, 0, 0, 0, 1)
theorem KR_v1 (x : K4) : KR x kv1 x.1 := ⟨[(1, 1, 0, 0, 0)], by intro t ht; rw [List.mem_singleton] at ht; subst ht; simp [tle, kv1], by simp [pno, kv1], by simp only [pev, tev, kv1, Int.pow_zero, Int.mul_one, Int.one_mul, Int.add_zero, Int.pow_succ], by simp only [pev, tev, Int.pow_zero, Int.mul_one, Int.one_mul, Int.add_zero, Int.pow_succ]⟩
theorem KR_v2 (x : K4) : KR x kv2 x.2.1 := ⟨[(1, 0, 1, 0, 0)], by intro t ht; rw [List.mem_singleton] at ht; subst ht; simp [tle, kv2], by simp [pno, kv2], by simp only [pev, tev, kv2, Int.pow_zero, Int.mul_one, Int.one_mul, Int.add_zero, Int.pow_succ], by simp only [pev, tev, Int.pow_zero, Int.mul_one, Int.one_mul, Int.add_zero, Int.pow_succ]⟩
theorem KR_v3 (x : K4) : KR x kv3 x.2.2.1 := ⟨[(1, 0, 0, 1, 0)], by intro t ht; rw [List.mem_singleton] at ht; subst ht; simp [tle, kv3], by simp [pno, kv3], by simp only [pev, tev, kv3, Int.pow_zero, Int.mul_one, Int.one_mul, Int.add_zero, Int.pow_succ], by simp only [pev, tev, Int.pow_zero, Int.mul_one, Int.one_mul, Int.add_zero, Int.pow_succ]⟩
theorem KR_v4 (x : K4) : KR x kv4 x.2.2.2 := ⟨[(1, 0, 0, 0, 1)], by intro t ht; rw [List.mem_singleton] at ht; subst ht; simp [tle, kv4], by simp [pno, kv4], by simp only [pev, tev, kv4, Int.pow_zero, Int.mul_one, Int.one_mul, Int.add_zero, Int.pow_succ], by simp only [pev, tev, Int.pow_zero, Int.mul_one, Int.one_mul, Int.add_zero, Int.pow_succ]⟩
/-- the check that a tracked number is 0 as a polynomial -/
def kz (a : KE) : Bool := decide (a.1 = 0) && (Nat.ble (2 * a.2.1 + 1) kB && (Nat.ble (a.2.2.1 + 1) kD.1 && (Nat.ble (a.2.2.2.1 + 1) kD.2.1 && Nat.ble (a.2.2.2.2.1 + 1) kD.2.2)))
theorem KR_z {x : K4} {a : KE} {v : Int} (hz : kz a = true) (h : KR x a v) : v = 0 := by
  obtain ⟨f, f1, f2, f3, f4⟩ := h
  simp only [kz, Bool.and_eq_true, decide_eq_true_eq, Nat.ble_eq] at hz
  obtain ⟨z1, z2, z3, z4, z5⟩ := hz
  rw [← f4]
  exact pev_zero f1 (by omega) (by omega) (by omega) (by omega) (f3.trans z1) x
/-! a root more -/
def xad {α : Type} (ad : α → α → α) (p q : α × α) : α × α := (ad p.1 q.1, ad p.2 q.2)
def xml {α : Type} (ad ml : α → α → α) (f : α) (p q : α × α) : α × α := (ad (ml p.1 q.1) (ml f (ml p.2 q.2)), ad (ml p.1 q.2) (ml p.2 q.1))
def XR {α : Type} (m : Int) (R : α → Int → Prop) (y : Int) (p : α × α) (v : Int) : Prop := ∃ u w, R p.1 u ∧ R p.2 w ∧ ∃ k, v = u + w * y + m * k
theorem XR_ad {α : Type} {m : Int} {R : α → Int → Prop} {y : Int} {ad : α → α → α} (h : ∀ a b u v, R a u → R b v → R (ad a b) (u + v)) : ∀ p q u v, XR m R y p u → XR m R y q v → XR m R y (xad ad p q) (u + v) := by
  intro p q u v ⟨u1, w1, a1, b1, k1, e1⟩ ⟨u2, w2, a2, b2, k2, e2⟩
  exact ⟨_, _, h _ _ _ _ a1 a2, h _ _ _ _ b1 b2, k1 + k2, by subst e1; subst e2; grind⟩
theorem XR_sb {α : Type} {m : Int} {R : α → Int → Prop} {y : Int} {sb : α → α → α} (h : ∀ a b u v, R a u → R b v → R (sb a b) (u - v)) : ∀ p q u v, XR m R y p u → XR m R y q v → XR m R y (xad sb p q) (u - v) := by
  intro p q u v ⟨u1, w1, a1, b1, k1, e1⟩ ⟨u2, w2, a2, b2, k2, e2⟩
  exact ⟨_, _, h _ _ _ _ a1 a2, h _ _ _ _ b1 b2, k1 - k2, by subst e1; subst e2; grind⟩
theorem XR_ml {α : Type} {m : Int} {R : α → Int → Prop} {y g : Int} {ad ml : α → α → α} {f : α} (ha : ∀ a b u v, R a u → R b v → R (ad a b) (u + v)) (hm : ∀ a b u v, R a u → R b v → R (ml a b) (u * v)) (hf : R f g) (hy : ∃ k, y * y = g + m * k) : ∀ p q u v, XR m R y p u → XR m R y q v → XR m R y (xml ad ml f p q) (u * v) := by
  intro p q u v ⟨u1, w1, a1, b1, k1, e1⟩ ⟨u2, w2, a2, b2, k2, e2⟩
  obtain ⟨k, hk⟩ := hy
  refine ⟨_, _, ha _ _ _ _ (hm _ _ _ _ a1 a2) (hm _ _ _ _ hf (hm _ _ _ _ b1 b2)), ha _ _ _ _ (hm _ _ _ _ a1 b2) (hm _ _ _ _ b1 a2), k1 * v + (u1 + w1 * y) * k2 + w1 * w2 * k, ?_⟩
  have e3 : w1 * y * (w2 * y) = w1 * w2 * (g + m * k) := by rw [← hk]; grind
  subst e1
  subst e2
  grind
theorem XR_in {α : Type} {m : Int} {R : α → Int → Prop} {y : Int} {a z : α} {v : Int} (hz : R z 0) (h : R a v) : XR m R y (a, z) v := ⟨v, 0, h, hz, 0, by omega⟩
theorem XR_y {α : Type} {m : Int} {R : α → Int → Prop} {y : Int} {o z : α} (hz : R z 0) (h : R o 1) : XR m R y (z, o) y := ⟨0, 1, hz, h, 0, by omega⟩
theorem XR_z {α : Type} {m : Int} {R : α → Int → Prop} {y : Int} {p : α × α} (h1 : ∀ v, R p.1 v → ∃ k, v = m * k) (h2 : ∀ v, R p.2 v → ∃ k, v = m * k) : ∀ v, XR m R y p v → ∃ k, v = m * k := by
  intro v ⟨u, w, a, b, k, e⟩
  obtain ⟨k1, e1⟩ := h1 u a
  obtain ⟨k2, e2⟩ := h2 w b
  exact ⟨k1 + k2 * y + k, by subst e1; subst e2; rw [e]; grind⟩
/-! three roots: of the three points' ordinates -/
abbrev E1 : Type := KE × KE
abbrev E2 : Type := E1 × E1
abbrev E3 : Type := E2 × E2
def kc (c : Int) : KE := (c, c.natAbs, 0, 0, 0, 0)
def kf (x : KE) : KE := kad (ksb (kml x (kml x x)) (kml (kc 3) x)) kv4
def z1 : E1 := (kc 0, kc 0)
def z2 : E2 := (z1, z1)
def in1 (a : KE) : E1 := (a, kc 0)
def in2 (a : KE) : E2 := (in1 a, z1)
def in3 (a : KE) : E3 := (in2 a, z2)
def ad3 : E3 → E3 → E3 := xad (xad (xad kad))
def sb3 : E3 → E3 → E3 := xad (xad (xad ksb))
def ml1 : E1 → E1 → E1 := xml kad kml (kf kv1)
def ml2 : E2 → E2 → E2 := xml (xad kad) ml1 (in1 (kf kv2))
def ml3 : E3 → E3 → E3 := xml (xad (xad kad)) ml2 (in2 (kf kv3))
def yy1 : E3 := (((kc 0, kc 1), z1), z2)
def yy2 : E3 := ((z1, in1 (kc 1)), z2)
def yy3 : E3 := (z2, in2 (kc 1))
def R3 (m : Int) (x : K4) (y1 y2 y3 : Int) : E3 → Int → Prop := XR m (XR m (XR m (KR x) y1) y2) y3
def kz3 (a : E3) : Bool := kz a.1.1.1 && kz a.1.1.2 && (kz a.1.2.1 && kz a.1.2.2) && (kz a.2.1.1 && kz a.2.1.2 && (kz a.2.2.1 && kz a.2.2.2))
section R3S
variable {m : Int} {x : K4} {y1 y2 y3 : Int}
theorem KR_f {a : KE} {v : Int} (h : KR x a v) : KR x (kf a) (v * (v * v) - 3 * v + x.2.2.2) := KR_ad (KR_sb (KR_ml h (KR_ml h h)) (KR_ml (KR_cst x 3) h)) (KR_v4 x)
theorem R3_ad : ∀ p q u v, R3 m x y1 y2 y3 p u → R3 m x y1 y2 y3 q v → R3 m x y1 y2 y3 (ad3 p q) (u + v) := XR_ad (XR_ad (XR_ad (fun _ _ _ _ => KR_ad)))
theorem R3_sb : ∀ p q u v, R3 m x y1 y2 y3 p u → R3 m x y1 y2 y3 q v → R3 m x y1 y2 y3 (sb3 p q) (u - v) := XR_sb (XR_sb (XR_sb (fun _ _ _ _ => KR_sb)))
theorem KR_0 : KR x (kc 0) 0 := KR_cst x 0
theorem R1_0 : XR m (KR x) y1 z1 0 := XR_in KR_0 KR_0
theorem R2_0 : XR m (XR m (KR x) y1) y2 z2 0 := XR_in R1_0 R1_0
theorem R3_in {a : KE} {v : Int} (h : KR x a v) : R3 m x y1 y2 y3 (in3 a) v := XR_in R2_0 (XR_in R1_0 (XR_in KR_0 h))
/-- the three points lie on the curve -/
def cu (m b x y : Int) : Prop := ∃ k, y * y = x * (x * x) - 3 * x + b + m * k
theorem R3_ml (h1 : cu m x.2.2.2 x.1 y1) (h2 : cu m x.2.2.2 x.2.1 y2) (h3 : cu m x.2.2.2 x.2.2.1 y3) : ∀ p q u v, R3 m x y1 y2 y3 p u → R3 m x y1 y2 y3 q v → R3 m x y1 y2 y3 (ml3 p q) (u * v) :=
  XR_ml (XR_ad (XR_ad (fun _ _ _ _ => KR_ad))) (XR_ml (XR_ad (fun _ _ _ _ => KR_ad)) (XR_ml (fun _ _ _ _ => KR_ad) (fun _ _ _ _ => KR_ml) (KR_f (KR_v1 x)) h1) (XR_in KR_0 (KR_f (KR_v2 x))) h2) (XR_in R1_0 (XR_in KR_0 (KR_f (KR_v3 x)))) h3
theorem R3_y1 : R3 m x y1 y2 y3 yy1 y1 := XR_in R2_0 (XR_in R1_0 (XR_y KR_0 (KR_cst x 1)))
theorem R3_y2 : R3 m x y1 y2 y3 yy2 y2 := XR_in R2_0 (XR_y R1_0 (XR_in KR_0 (KR_cst x 1)))
theorem R3_y3 : R3 m x y1 y2 y3 yy3 y3 := XR_y R2_0 (XR_in R1_0 (XR_in KR_0 (KR_cst x 1)))
theorem KR_zm {a : KE} (hz : kz a = true) : ∀ v, KR x a v → ∃ k, v = m * k := fun v h => ⟨0, by rw [KR_z hz h]; omega⟩
theorem R3_z {a : E3} (hz : kz3 a = true) : ∀ v, R3 m x y1 y2 y3 a v → ∃ k, v = m * k := by
  simp only [kz3, Bool.and_eq_true] at hz
  obtain ⟨⟨⟨a1, a2⟩, a3, a4⟩, ⟨a5, a6⟩, a7, a8⟩ := hz
  exact XR_z (XR_z (XR_z (KR_zm a1) (KR_zm a2)) (XR_z (KR_zm a3) (KR_zm a4))) (XR_z (XR_z (KR_zm a5) (KR_zm a6)) (XR_z (KR_zm a7) (KR_zm a8)))
end R3S
