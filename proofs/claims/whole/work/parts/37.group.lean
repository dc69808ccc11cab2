/-! numbers modulo p -/
def zp (a : Int) : Prop := (pP : Int) ∣ a
theorem zp1 {a u E : Int} (ha : zp a) (h : E = a * u) : zp E := by rw [h]; exact Int.dvd_trans ha (Int.dvd_mul_right a u)
theorem zp2 {a b u v E : Int} (ha : zp a) (hb : zp b) (h : E = a * u + b * v) : zp E := by
  rw [h]
  exact Int.dvd_add (zp1 ha rfl) (zp1 hb rfl)
theorem zp3 {a b c u v w E : Int} (ha : zp a) (hb : zp b) (hc : zp c) (h : E = a * u + b * v + c * w) : zp E := by
  rw [h]
  exact Int.dvd_add (zp2 ha hb rfl) (zp1 hc rfl)
theorem zp_0 : zp 0 := Int.dvd_zero _
theorem zp_mul {a b : Int} (h : zp (a * b)) : zp a ∨ zp b := by
  have h1 : pP ∣ (a * b).natAbs := Int.ofNat_dvd_left.mp h
  rw [Int.natAbs_mul] at h1
  rcases prm_mul pP_prm h1 with q | q
  · exact Or.inl (Int.ofNat_dvd_left.mpr q)
  · exact Or.inr (Int.ofNat_dvd_left.mpr q)
theorem zp_nm {a b : Int} (ha : ¬ zp a) (hb : ¬ zp b) : ¬ zp (a * b) := fun h => (zp_mul h).elim ha hb
theorem pP_pos : 2 ≤ pP := pP_prm.1
theorem zp_1 : ¬ zp 1 := by
  intro h
  have := Nat.le_of_dvd (by decide) (Int.ofNat_dvd_left.mp h)
  have := pP_pos
  have h3 : (1 : Int).natAbs = 1 := rfl
  omega
theorem zp_inv {a : Int} (h : ¬ zp a) : ∃ u, zp (a * u - 1) := by
  have h0 := pP_pos
  have h1 : ¬ pP ∣ a.natAbs := fun q => h (Int.ofNat_dvd_left.mpr q)
  have h2 := flt pP_prm h1
  have h3 := Nat.pow_succ' (m := a.natAbs) (n := pP - 2)
  rw [show (pP - 2).succ = pP - 1 by omega] at h3
  have h4 : ((a.natAbs * a.natAbs ^ (pP - 2) : Nat) : Int) = 1 + (pP : Int) * ((a.natAbs ^ (pP - 1) / pP : Nat) : Int) := by
    rw [← h3]
    have := Nat.mod_add_div (a.natAbs ^ (pP - 1)) pP
    rw [h2] at this
    rw [← Int.natCast_mul]
    omega
  rcases Int.natAbs_eq a with q | q
  · exact ⟨((a.natAbs ^ (pP - 2) : Nat) : Int), ((a.natAbs ^ (pP - 1) / pP : Nat) : Int), by
      rw [Int.natCast_mul, ← q] at h4
      omega⟩
  · exact ⟨- ((a.natAbs ^ (pP - 2) : Nat) : Int), ((a.natAbs ^ (pP - 1) / pP : Nat) : Int), by
      rw [Int.natCast_mul] at h4
      have q2 : ((a.natAbs : Nat) : Int) = - a := by omega
      rw [q2, Int.neg_mul] at h4
      rw [Int.mul_neg]
      omega⟩
theorem zp_cancel {a c : Int} (hc : ¬ zp c) (h : zp (c * a)) : zp a := (zp_mul h).resolve_left hc
theorem zp_eq {a c : Int} (ha : 0 ≤ a) (ha2 : a < pP) (hc : 0 ≤ c) (hc2 : c < pP) (h : zp (a - c)) : a = c := by
  obtain ⟨k, hk⟩ := h
  have h1 : k = 0 := by
    rcases Int.lt_trichotomy k 0 with q | q | q
    · have : (pP : Int) * k ≤ (pP : Int) * (-1) := Int.mul_le_mul_of_nonneg_left (by omega) (by omega)
      omega
    · exact q
    · have : (pP : Int) * 1 ≤ (pP : Int) * k := Int.mul_le_mul_of_nonneg_left (by omega) (by omega)
      omega
  rw [h1] at hk
  omega
/-- scaled alike -/
theorem zs_ad {a b e u v : Int} (h1 : zp (a - e * u)) (h2 : zp (b - e * v)) : zp ((a + b) - e * (u + v)) := zp2 (u := 1) (v := 1) h1 h2 (by grind)
theorem zs_sb {a b e u v : Int} (h1 : zp (a - e * u)) (h2 : zp (b - e * v)) : zp ((a - b) - e * (u - v)) := zp2 (u := 1) (v := -1) h1 h2 (by grind)
theorem zs_ml {a b e f u v : Int} (h1 : zp (a - e * u)) (h2 : zp (b - f * v)) : zp ((a * b) - e * f * (u * v)) := zp2 (u := b) (v := e * u) h1 h2 (by grind)
theorem zs_cm {a b e f u v : Int} (h1 : zp (a - e * u)) (h2 : zp (b - f * v)) : zp ((a * b) - f * e * (u * v)) := by rw [Int.mul_comm f e]; exact zs_ml h1 h2
theorem zs_1 {a e u v : Int} (c : Int) (h1 : zp (a - e * u)) : zp (c * a - e * (c * u)) := zp1 (u := c) h1 (by grind)
/-- three numbers, scaled -/
def zt (e : Int) (s t : Int × Int × Int) : Prop := zp (s.1 - e * t.1) ∧ zp (s.2.1 - e * t.2.1) ∧ zp (s.2.2 - e * t.2.2)
theorem iA_zt {b e f : Int} {s t s' t' : Int × Int × Int} (h1 : zt e s t) (h2 : zt f s' t') : zt (e * f * (e * f)) (iA b s s') (iA b t t') := by
  obtain ⟨p1, p2, p3⟩ := h1
  obtain ⟨q1, q2, q3⟩ := h2
  have xx := zs_ml p1 q1
  have yy := zs_ml p2 q2
  have zz := zs_ml p3 q3
  have xy := zs_ad (zs_ml p1 q2) (zs_cm q1 p2)
  have yz := zs_ad (zs_ml p2 q3) (zs_cm q2 p3)
  have xz := zs_ad (zs_ml p1 q3) (zs_cm q1 p3)
  have t := zs_sb xz (zs_1 (v := 0) b zz)
  have t3 := zs_ad t (zs_ad t t)
  have l := zs_ad yy t3
  have r := zs_sb yy t3
  have w := zs_sb (zs_sb (zs_1 (v := 0) b xz) xx) (zs_ad zz (zs_ad zz zz))
  have u := zs_sb xx zz
  have w3 := zs_ad w (zs_ad w w)
  have u3 := zs_ad u (zs_ad u u)
  exact ⟨zs_sb (zs_ml xy l) (zs_ml yz w3), zs_ad (zs_ml l r) (zs_ml u3 w3), zs_ad (zs_ml yz r) (zs_ml xy u3)⟩
theorem iA_cm {b : Int} {s t : Int × Int × Int} : iA b s t = iA b t s := by
  simp only [iA, gA, Int.mul_comm, Int.add_comm]
/-! points -/
def cB : Int := 41058363725152142129326129780047268409114441015993725554835256314039467401291
abbrev Pt : Type := Option (Int × Int)
def rep (t : Int × Int × Int) : Pt → Prop
  | none => zp t.1 ∧ zp t.2.2 ∧ ¬ zp t.2.1
  | some (x, y) => ¬ zp t.2.2 ∧ zp (t.1 - x * t.2.2) ∧ zp (t.2.1 - y * t.2.2)
def vP : Pt → Prop
  | none => True
  | some (x, y) => 0 ≤ x ∧ x < pP ∧ 0 ≤ y ∧ y < pP ∧ cu (pP : Int) cB x y
def lft : Pt → Int × Int × Int
  | none => (0, 1, 0)
  | some (x, y) => (x, y, 1)
theorem rep_lft : ∀ {P : Pt}, rep (lft P) P
  | none => ⟨zp_0, zp_0, zp_1⟩
  | some (x, y) => ⟨zp_1, by simp [lft]; exact zp_0, by simp [lft]; exact zp_0⟩
theorem rep_zt {t : Int × Int × Int} : ∀ {P : Pt}, rep t P → ∃ e, ¬ zp e ∧ zt e t (lft P)
  | none, h => ⟨t.2.1, h.2.2, by simp only [lft]; exact zp1 (u := 1) h.1 (by grind), by simp only [lft]; exact zp1 (u := 0) h.1 (by grind), by simp only [lft]; exact zp1 (u := 1) h.2.1 (by grind)⟩
  | some (x, y), h => ⟨t.2.2, h.1, by simp only [lft]; exact zp1 (u := 1) h.2.1 (by grind), by simp only [lft]; exact zp1 (u := 1) h.2.2 (by grind), by simp only [lft]; exact zp1 (u := 0) h.2.1 (by grind)⟩
theorem zt_rep {t s : Int × Int × Int} {e : Int} (he : ¬ zp e) (h : zt e t s) : ∀ {P : Pt}, rep s P → rep t P
  | none, q => ⟨zp2 (u := 1) (v := e) h.1 q.1 (by grind), zp2 (u := 1) (v := e) h.2.2 q.2.1 (by grind), fun z => q.2.2 (zp_cancel he (zp2 (u := 1) (v := -1) z h.2.1 (by grind)))⟩
  | some (x, y), q => ⟨fun z => q.1 (zp_cancel he (zp2 (u := 1) (v := -1) z h.2.2 (by grind))), zp3 (u := 1) (v := e) (w := -x) h.1 q.2.1 h.2.2 (by grind), zp3 (u := 1) (v := e) (w := -y) h.2.1 q.2.2 h.2.2 (by grind)⟩
theorem rep_eq {t s : Int × Int × Int} (c1 : zp (t.1 * s.2.2 - t.2.2 * s.1)) (c2 : zp (t.2.1 * s.2.2 - t.2.2 * s.2.1)) : ∀ {P Q : Pt}, rep t P → rep s Q → vP P → vP Q → P = Q
  | none, none, _, _, _, _ => rfl
  | none, some (x, y), h1, h2, _, _ => by
    exfalso
    have : zp (t.2.1 * s.2.2) := zp2 (u := 1) (v := s.2.1) c2 h1.2.1 (by grind)
    rcases zp_mul this with q | q
    · exact h1.2.2 q
    · exact h2.1 q
  | some (x, y), none, h1, h2, _, _ => by
    exfalso
    have : zp (t.2.2 * s.2.1) := zp2 (u := -1) (v := t.2.1) c2 h2.2.1 (by grind)
    rcases zp_mul this with q | q
    · exact h1.1 q
    · exact h2.2.2 q
  | some (x, y), some (x', y'), h1, h2, v1, v2 => by
    have e1 : zp (t.2.2 * s.2.2 * (x - x')) := zp3 (u := 1) (v := - s.2.2) (w := t.2.2) c1 h1.2.1 h2.2.1 (by grind)
    have e2 : zp (t.2.2 * s.2.2 * (y - y')) := zp3 (u := 1) (v := - s.2.2) (w := t.2.2) c2 h1.2.2 h2.2.2 (by grind)
    have n := zp_nm h1.1 h2.1
    rw [zp_eq v1.1 v1.2.1 v2.1 v2.2.1 (zp_cancel n e1), zp_eq v1.2.2.1 v1.2.2.2.1 v2.2.2.1 v2.2.2.2.1 (zp_cancel n e2)]
theorem rep_un {t : Int × Int × Int} {P Q : Pt} (h1 : rep t P) (h2 : rep t Q) (v1 : vP P) (v2 : vP Q) : P = Q :=
  rep_eq (t := t) (s := t) (by rw [Int.mul_comm, Int.sub_self]; exact zp_0) (by rw [Int.mul_comm, Int.sub_self]; exact zp_0) h1 h2 v1 v2
/-- three numbers that are a point of the curve -/
def goo (t : Int × Int × Int) : Prop := (zp t.2.2 → zp t.1 ∧ ¬ zp t.2.1) ∧ zp (t.2.1 * t.2.1 * t.2.2 - (t.1 * t.1 * t.1 - (t.1 + t.1 + t.1) * (t.2.2 * t.2.2) + cB * (t.2.2 * t.2.2 * t.2.2)))
theorem zp_md (a : Int) : zp (a % pP - a) := by
  refine ⟨- (a / pP), ?_⟩
  have := Int.emod_add_mul_ediv a pP
  rw [Int.mul_neg]
  omega
theorem goo_ex {t : Int × Int × Int} (h : goo t) : ∃ P, rep t P ∧ vP P := by
  have hp := pP_pos
  by_cases hz : zp t.2.2
  · exact ⟨none, ⟨(h.1 hz).1, hz, (h.1 hz).2⟩, trivial⟩
  · obtain ⟨u, hu⟩ := zp_inv hz
    have m1 := zp_md (t.1 * u)
    have m2 := zp_md (t.2.1 * u)
    refine ⟨some (t.1 * u % pP, t.2.1 * u % pP), ⟨hz, ?_, ?_⟩, Int.emod_nonneg _ (by omega), Int.emod_lt_of_pos _ (by omega), Int.emod_nonneg _ (by omega), Int.emod_lt_of_pos _ (by omega), ?_⟩
    · exact zp2 (u := - t.2.2) (v := - t.1) m1 hu (by grind)
    · exact zp2 (u := - t.2.2) (v := - t.2.1) m2 hu (by grind)
    · have hc := h.2
      generalize t.1 * u % pP = x at *
      generalize t.2.1 * u % pP = y at *
      obtain ⟨X, Y, Z⟩ := t
      simp only at *
      have e1 : zp (x * Z - X) := zp2 (u := Z) (v := X) m1 hu (by grind)
      have e2 : zp (y * Z - Y) := zp2 (u := Z) (v := Y) m2 hu (by grind)
      have e3 : zp (Z * Z * Z * (y * y - (x * (x * x) - 3 * x + cB))) := by
        have a1 : zp (y * Z * (y * Z) * Z - Y * Y * Z) := zp2 (u := (y * Z) * Z) (v := Y * Z) e2 e2 (by grind)
        have a2 : zp (x * Z * (x * Z) * (x * Z) - X * X * X) := zp1 (u := (x * Z) * (x * Z) + (x * Z) * X + X * X) e1 (by grind)
        have a3 : zp ((3 * (x * Z)) * (Z * Z) - (X + X + X) * (Z * Z)) := zp1 (u := 3 * (Z * Z)) e1 (by grind)
        have a4 := zp3 (u := 1) (v := 1) (w := -1) (E := y * Z * (y * Z) * Z - (x * Z * (x * Z) * (x * Z) - (X + X + X) * (Z * Z) + cB * (Z * Z * Z))) a1 hc a2 (by grind)
        exact zp2 (u := 1) (v := 1) a4 a3 (by grind)
      obtain ⟨k, hk⟩ := zp_cancel (zp_nm (zp_nm hz hz) hz) e3
      exact ⟨k, by omega⟩
