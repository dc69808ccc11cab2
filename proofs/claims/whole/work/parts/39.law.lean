/-! the sum of points: complete, commutative, associative -/
theorem nr_sc {d X : Int} (hd : ¬ zp d) : ¬ zp (X * (X * X) - (X + X + X) * (d * d * (d * d)) + cB * (d * d * (d * d) * (d * d))) := by
  intro hE
  obtain ⟨u, hu⟩ := zp_inv hd
  apply nroot (X * (u * u))
  generalize cB = B at *
  exact zp2 (u := u * u * (u * u) * (u * u)) (v := 3 * (X * (u * u)) * (d * u * (d * u) * (d * u) + d * u * (d * u) + d * u + 1) - B * (d * u * (d * u) * (d * u) * (d * u) * (d * u) + d * u * (d * u) * (d * u) * (d * u) + d * u * (d * u) * (d * u) + d * u * (d * u) + d * u + 1)) hE hu (by grind)
theorem y_nz {x y : Int} (h : cu (pP : Int) cB x y) : ¬ zp y := by
  intro hy
  obtain ⟨k, hk⟩ := h
  apply nroot x
  exact zp2 (u := y) (v := - k) hy (Int.dvd_refl (pP : Int)) (by grind)
theorem zp_8 : ¬ zp 2 := by
  intro h
  have h1 := Nat.le_of_dvd (by decide) (Int.ofNat_dvd_left.mp h)
  have h2 : ¬ pP ≤ (2 : Int).natAbs := by decide +kernel
  exact h2 h1
theorem iA_0 {x y : Int} : iA cB (0, 1, 0) (x, y, 1) = (x * y, y * y, y) := by
  simp only [iA, gA, Int.mul_zero, Int.zero_mul, Int.mul_one, Int.one_mul, Int.add_zero, Int.zero_add, Int.sub_zero, Int.sub_self]
theorem iA_00 : iA cB (0, 1, 0) (0, 1, 0) = (0, 1, 0) := by
  simp only [iA, gA, Int.mul_zero, Int.zero_mul, Int.mul_one, Int.one_mul, Int.add_zero, Int.zero_add, Int.sub_zero, Int.sub_self]
theorem goo_0 {x y : Int} (h : cu (pP : Int) cB x y) : goo (iA cB (0, 1, 0) (x, y, 1)) := by
  rw [iA_0]
  refine ⟨fun q => absurd q (y_nz h), ?_⟩
  obtain ⟨k, hk⟩ := h
  simp only
  generalize cB = B at *
  exact zp1 (u := k * (y * y * y)) (Int.dvd_refl (pP : Int)) (by grind)
theorem goo_00 : goo (iA cB (0, 1, 0) (0, 1, 0)) := by
  rw [iA_00]
  refine ⟨fun _ => ⟨zp_0, zp_1⟩, ?_⟩
  simp only [Int.mul_zero, Int.zero_mul, Int.add_zero, Int.sub_self]
  exact zp_0
theorem zt_1 {t : Int × Int × Int} : zt 1 t t := ⟨by rw [Int.one_mul, Int.sub_self]; exact zp_0, by rw [Int.one_mul, Int.sub_self]; exact zp_0, by rw [Int.one_mul, Int.sub_self]; exact zp_0⟩
theorem goo_2 {x1 y1 x2 y2 : Int} (h1 : cu (pP : Int) cB x1 y1) (h2 : cu (pP : Int) cB x2 y2) (e1 : zp (x2 - x1) → x2 = x1) : goo (iA cB (x1, y1, 1) (x2, y2, 1)) := by
  refine ⟨?_, id_cu h1 h2 rfl⟩
  intro hZ
  by_cases hd : zp (x2 - x1)
  · have := e1 hd
    subst this
    have hyy : zp ((y2 - y1) * (y2 + y1)) := by
      obtain ⟨k, hk⟩ := h1
      obtain ⟨l, hl⟩ := h2
      exact zp1 (u := l - k) (Int.dvd_refl (pP : Int)) (by grind)
    obtain ⟨d, hd⟩ : ∃ d, d = y1 + y1 := ⟨_, rfl⟩
    obtain ⟨e, he⟩ : ∃ e, e = (x2 * x2 - 1) + ((x2 * x2 - 1) + (x2 * x2 - 1)) := ⟨_, rfl⟩
    obtain ⟨xd, hxd⟩ : ∃ xd, xd = e * e - (x2 + x2) * (d * d) := ⟨_, rfl⟩
    obtain ⟨yd, hyd⟩ : ∃ yd, yd = e * (x2 * (d * d) - xd) - y1 * (d * (d * d)) := ⟨_, rfl⟩
    obtain ⟨S, hS⟩ : ∃ S, S = iA cB (x2, y1, 1) (x2, y1, 1) := ⟨_, rfl⟩
    obtain ⟨T, hT⟩ : ∃ T, T = iA cB (x2, y1, 1) (x2, 0 - y1, 1) := ⟨_, rfl⟩
    obtain ⟨a1, a2, a3, a4, a5, a6, a7⟩ := id_db h1 hS hT hd he hxd hyd
    have hd2 : ¬ zp d := fun z => (zp_mul (a := 2) (b := y1) (zp1 (u := 1) z (by grind))).elim zp_8 (y_nz h1)
    rcases zp_mul hyy with q | q
    · exfalso
      have c := (iA_zt (b := cB) (e := 1) (f := 1) (s := (x2, y1, 1)) (t := (x2, y1, 1)) (s' := (x2, y2, 1)) (t' := (x2, y1, 1)) zt_1 ⟨zt_1.1, by simp only [Int.one_mul]; exact q, zt_1 (t := (x2, y1, 1)) |>.2.2⟩).2.2
      rw [← hS] at c
      generalize (iA cB (x2, y1, 1) (x2, y2, 1)).2.2 = Z at *
      exact zp_nm hd2 (zp_nm hd2 hd2) (zp3 (u := 1) (v := -1) (w := -1) hZ c a3 (by grind))
    · have c := (iA_zt (b := cB) (e := 1) (f := 1) (s := (x2, y1, 1)) (t := (x2, y1, 1)) (s' := (x2, y2, 1)) (t' := (x2, 0 - y1, 1)) zt_1 ⟨zt_1.1, zp1 (u := 1) q (by simp only; grind), zt_1 (t := (x2, y1, 1)) |>.2.2⟩)
      rw [← hT] at c
      generalize iA cB (x2, y1, 1) (x2, y2, 1) = V at *
      refine ⟨zp2 (u := 1) (v := 1) c.1 a5 (by grind), ?_⟩
      intro hY
      have hyd0 : zp yd := zp3 (u := 1) (v := -1) (w := -1) hY c.2.1 a7 (by grind)
      exact nr_sc (X := xd) hd2 (zp2 (u := -1) (v := yd) a4 hyd0 (by grind))
  · exfalso
    obtain ⟨d, hdd⟩ : ∃ d, d = x2 - x1 := ⟨_, rfl⟩
    obtain ⟨e, he⟩ : ∃ e, e = y2 - y1 := ⟨_, rfl⟩
    obtain ⟨f, hf⟩ : ∃ f, f = y2 + y1 := ⟨_, rfl⟩
    obtain ⟨xn, hxn⟩ : ∃ xn, xn = e * e - (x1 + x2) * (d * d) := ⟨_, rfl⟩
    obtain ⟨xm, hxm⟩ : ∃ xm, xm = f * f - (x1 + x2) * (d * d) := ⟨_, rfl⟩
    obtain ⟨ym, hym⟩ : ∃ ym, ym = f * (xm - x1 * (d * d)) - y1 * (d * (d * d)) := ⟨_, rfl⟩
    obtain ⟨-, -, a3, a4⟩ := id_ch h1 h2 rfl hdd he hf hxn hxm hym
    rw [← hdd] at hd
    generalize (iA cB (x1, y1, 1) (x2, y2, 1)).2.2 = Z at *
    have hy0 : zp ym := zp2 (u := 1) (v := -1) hZ a3 (by grind)
    exact nr_sc (X := xm) hd (zp2 (u := -1) (v := ym) a4 hy0 (by grind))
theorem goo_ok : ∀ {P Q : Pt}, vP P → vP Q → goo (iA cB (lft P) (lft Q))
  | none, none, _, _ => goo_00
  | none, some (x, y), _, h => goo_0 h.2.2.2.2
  | some (x, y), none, h, _ => by rw [iA_cm]; exact goo_0 h.2.2.2.2
  | some (x, y), some (x', y'), h1, h2 => goo_2 h1.2.2.2.2 h2.2.2.2.2 (fun q => zp_eq h2.1 h2.2.1 h1.1 h1.2.1 q)
noncomputable def padd (P Q : Pt) : Pt := Classical.epsilon (fun S : Pt => rep (iA cB (lft P) (lft Q)) S ∧ vP S)
theorem padd_ok {P Q : Pt} (h1 : vP P) (h2 : vP Q) : rep (iA cB (lft P) (lft Q)) (padd P Q) ∧ vP (padd P Q) := Classical.epsilon_spec (goo_ex (goo_ok h1 h2))
theorem padd_v {P Q : Pt} (h1 : vP P) (h2 : vP Q) : vP (padd P Q) := (padd_ok h1 h2).2
theorem rep_add {s t : Int × Int × Int} {P Q : Pt} (r1 : rep s P) (r2 : rep t Q) (h1 : vP P) (h2 : vP Q) : rep (iA cB s t) (padd P Q) := by
  obtain ⟨e, he, z1⟩ := rep_zt r1
  obtain ⟨f, hf, z2⟩ := rep_zt r2
  exact zt_rep (zp_nm (zp_nm he hf) (zp_nm he hf)) (iA_zt z1 z2) (padd_ok h1 h2).1
theorem padd_is {P Q S : Pt} (h1 : vP P) (h2 : vP Q) (h3 : vP S) (h : rep (iA cB (lft P) (lft Q)) S) : padd P Q = S := rep_un (padd_ok h1 h2).1 h (padd_v h1 h2) h3
theorem padd_cm {P Q : Pt} (h1 : vP P) (h2 : vP Q) : padd P Q = padd Q P := padd_is h1 h2 (padd_v h2 h1) (by rw [iA_cm]; exact (padd_ok h2 h1).1)
theorem padd_0 : ∀ {P : Pt}, vP P → padd none P = P
  | none, h => padd_is h h h (by show rep (iA cB (0, 1, 0) (0, 1, 0)) none; rw [iA_00]; exact ⟨zp_0, zp_0, zp_1⟩)
  | some (x, y), h => padd_is (P := none) trivial h h (by
      show rep (iA cB (0, 1, 0) (x, y, 1)) (some (x, y))
      rw [iA_0]
      exact ⟨y_nz h.2.2.2.2, by simp only [Int.sub_self]; exact zp_0, by simp only [Int.sub_self]; exact zp_0⟩)
theorem padd_n {P : Pt} (h : vP P) : padd P none = P := by rw [padd_cm (Q := none) h trivial, padd_0 h]
theorem padd_as : ∀ {P Q R : Pt}, vP P → vP Q → vP R → padd (padd P Q) R = padd P (padd Q R)
  | none, Q, R, h1, h2, h3 => by rw [padd_0 h2, padd_0 (padd_v h2 h3)]
  | P, none, R, h1, h2, h3 => by rw [padd_n h1, padd_0 h3]
  | P, Q, none, h1, h2, h3 => by rw [padd_n (padd_v h1 h2), padd_n h2]
  | some (x1, y1), some (x2, y2), some (x3, y3), h1, h2, h3 => by
    obtain ⟨-, c1, c2⟩ := id_as h1.2.2.2.2 h2.2.2.2.2 h3.2.2.2.2 rfl rfl
    exact rep_eq c1 c2 (rep_add (padd_ok h1 h2).1 (rep_lft (P := some (x3, y3))) (padd_v h1 h2) h3) (rep_add (rep_lft (P := some (x1, y1))) (padd_ok h2 h3).1 h1 (padd_v h2 h3)) (padd_v (padd_v h1 h2) h3) (padd_v h1 (padd_v h2 h3))
/-! the sum as the reference takes it -/
theorem padd_ch {x1 y1 x2 y2 x3 y3 l : Int} (h1 : vP (some (x1, y1))) (h2 : vP (some (x2, y2))) (hn : x1 ≠ x2) (hl : zp (l * (x2 - x1) - (y2 - y1))) (hx : zp (x3 - (l * l - x1 - x2))) (hy : zp (y3 - (l * (x1 - x3) - y1))) (b1 : 0 ≤ x3) (b2 : x3 < pP) (b3 : 0 ≤ y3) (b4 : y3 < pP) : padd (some (x1, y1)) (some (x2, y2)) = some (x3, y3) := by
  have hd : ¬ zp (x2 - x1) := fun q => hn (zp_eq h2.1 h2.2.1 h1.1 h1.2.1 q).symm
  obtain ⟨d, hdd⟩ : ∃ d, d = x2 - x1 := ⟨_, rfl⟩
  obtain ⟨e, he⟩ : ∃ e, e = y2 - y1 := ⟨_, rfl⟩
  obtain ⟨f, hf⟩ : ∃ f, f = y2 + y1 := ⟨_, rfl⟩
  obtain ⟨xn, hxn⟩ : ∃ xn, xn = e * e - (x1 + x2) * (d * d) := ⟨_, rfl⟩
  obtain ⟨xm, hxm⟩ : ∃ xm, xm = f * f - (x1 + x2) * (d * d) := ⟨_, rfl⟩
  obtain ⟨ym, hym⟩ : ∃ ym, ym = f * (xm - x1 * (d * d)) - y1 * (d * (d * d)) := ⟨_, rfl⟩
  obtain ⟨a1, a2, a3, a4⟩ := id_ch h1.2.2.2.2 h2.2.2.2.2 rfl hdd he hf hxn hxm hym
  rw [← hdd] at hd hl
  rw [← he] at hl
  have hok := padd_ok h1 h2
  have hv := padd_v h1 h2
  simp only [lft] at hok
  generalize iA cB (x1, y1, 1) (x2, y2, 1) = S at *
  have hZ : ¬ zp S.2.2 := fun q => nr_sc (X := xm) hd (zp2 (u := -1) (v := ym) a4 (zp2 (u := 1) (v := -1) q a3 (E := ym) (by grind)) (by grind))
  have k1 : zp (xn - d * d * x3) := zp2 (u := -(e + l * d)) (v := -(d * d)) hl hx (by grind)
  have k2 : zp (S.1 - x3 * S.2.2) := zp_cancel (zp_nm hd hd) (zp2 (u := 1) (v := S.2.2) a1 k1 (by grind))
  have k3 : zp (e * (x1 * (d * d) - xn) - y1 * (d * (d * d)) - d * (d * d) * y3) := zp3 (u := -((x1 - x3) * (d * d))) (v := -e) (w := -(d * (d * d))) hl k1 hy (by grind)
  have k4 : zp (S.2.1 - y3 * S.2.2) := zp_cancel (zp_nm hd (zp_nm hd hd)) (zp2 (u := 1) (v := S.2.2) a2 k3 (by grind))
  have hr : rep S (some (x3, y3)) := ⟨hZ, k2, k4⟩
  -- it lies on the curve, for the sum does
  have hrp := hok.1
  cases hP : padd (some (x1, y1)) (some (x2, y2)) with
  | none =>
    rw [hP] at hrp
    exact absurd hrp.2.1 hZ
  | some w =>
    obtain ⟨x, y⟩ := w
    rw [hP] at hrp hv
    have z1 : zp (S.2.2 * (x - x3)) := zp2 (u := -1) (v := 1) hrp.2.1 k2 (by grind)
    have z2 : zp (S.2.2 * (y - y3)) := zp2 (u := -1) (v := 1) hrp.2.2 k4 (by grind)
    rw [zp_eq hv.1 hv.2.1 b1 b2 (zp_cancel hZ z1), zp_eq hv.2.2.1 hv.2.2.2.1 b3 b4 (zp_cancel hZ z2)]
theorem padd_db {x1 y1 x3 y3 l : Int} (h1 : vP (some (x1, y1))) (hl : zp (l * (y1 + y1) - 3 * (x1 * x1 - 1))) (hx : zp (x3 - (l * l - x1 - x1))) (hy : zp (y3 - (l * (x1 - x3) - y1))) (b1 : 0 ≤ x3) (b2 : x3 < pP) (b3 : 0 ≤ y3) (b4 : y3 < pP) : padd (some (x1, y1)) (some (x1, y1)) = some (x3, y3) := by
  obtain ⟨d, hd⟩ : ∃ d, d = y1 + y1 := ⟨_, rfl⟩
  obtain ⟨e, he⟩ : ∃ e, e = (x1 * x1 - 1) + ((x1 * x1 - 1) + (x1 * x1 - 1)) := ⟨_, rfl⟩
  obtain ⟨xd, hxd⟩ : ∃ xd, xd = e * e - (x1 + x1) * (d * d) := ⟨_, rfl⟩
  obtain ⟨yd, hyd⟩ : ∃ yd, yd = e * (x1 * (d * d) - xd) - y1 * (d * (d * d)) := ⟨_, rfl⟩
  obtain ⟨T, hT⟩ : ∃ T, T = iA cB (x1, y1, 1) (x1, 0 - y1, 1) := ⟨_, rfl⟩
  obtain ⟨a1, a2, a3, a4, a5, a6, a7⟩ := id_db h1.2.2.2.2 rfl hT hd he hxd hyd
  have hd2 : ¬ zp d := fun z => (zp_mul (a := 2) (b := y1) (zp1 (u := 1) z (by grind))).elim zp_8 (y_nz h1.2.2.2.2)
  have hl2 : zp (l * d - e) := zp1 (u := 1) hl (by grind)
  have hok := padd_ok h1 h1
  have hv := padd_v h1 h1
  simp only [lft] at hok
  generalize iA cB (x1, y1, 1) (x1, y1, 1) = S at *
  have hZ : ¬ zp S.2.2 := fun q => zp_nm hd2 (zp_nm hd2 hd2) (zp2 (u := 1) (v := -1) q a3 (by grind))
  have k1 : zp (xd - d * d * x3) := zp2 (u := -(e + l * d)) (v := -(d * d)) hl2 hx (by grind)
  have k2 : zp (S.1 - x3 * S.2.2) := zp3 (u := 1) (v := d) (w := - x3) a1 k1 a3 (by grind)
  have k3 : zp (yd - d * (d * d) * y3) := zp3 (u := -((x1 - x3) * (d * d))) (v := -e) (w := -(d * (d * d))) hl2 k1 hy (by grind)
  have k4 : zp (S.2.1 - y3 * S.2.2) := zp3 (u := 1) (v := 1) (w := - y3) a2 k3 a3 (by grind)
  have hrp := hok.1
  cases hP : padd (some (x1, y1)) (some (x1, y1)) with
  | none =>
    rw [hP] at hrp
    exact absurd hrp.2.1 hZ
  | some w =>
    obtain ⟨x, y⟩ := w
    rw [hP] at hrp hv
    have z1 : zp (S.2.2 * (x - x3)) := zp2 (u := -1) (v := 1) hrp.2.1 k2 (by grind)
    have z2 : zp (S.2.2 * (y - y3)) := zp2 (u := -1) (v := 1) hrp.2.2 k4 (by grind)
    rw [zp_eq hv.1 hv.2.1 b1 b2 (zp_cancel hZ z1), zp_eq hv.2.2.1 hv.2.2.2.1 b3 b4 (zp_cancel hZ z2)]
theorem padd_op {x1 y1 y2 : Int} (h1 : vP (some (x1, y1))) (h2 : vP (some (x1, y2))) (hn : y1 ≠ y2) : padd (some (x1, y1)) (some (x1, y2)) = none := by
  apply padd_is (S := none) h1 h2 trivial
  have hyy : zp ((y2 - y1) * (y2 + y1)) := by
    obtain ⟨k, hk⟩ := h1.2.2.2.2
    obtain ⟨l, hl⟩ := h2.2.2.2.2
    exact zp1 (u := l - k) (Int.dvd_refl (pP : Int)) (by grind)
  have q : zp (y2 + y1) := (zp_mul hyy).resolve_left (fun z => hn (zp_eq h2.2.2.1 h2.2.2.2.1 h1.2.2.1 h1.2.2.2.1 z).symm)
  obtain ⟨d, hd⟩ : ∃ d, d = y1 + y1 := ⟨_, rfl⟩
  obtain ⟨e, he⟩ : ∃ e, e = (x1 * x1 - 1) + ((x1 * x1 - 1) + (x1 * x1 - 1)) := ⟨_, rfl⟩
  obtain ⟨xd, hxd⟩ : ∃ xd, xd = e * e - (x1 + x1) * (d * d) := ⟨_, rfl⟩
  obtain ⟨yd, hyd⟩ : ∃ yd, yd = e * (x1 * (d * d) - xd) - y1 * (d * (d * d)) := ⟨_, rfl⟩
  obtain ⟨T, hT⟩ : ∃ T, T = iA cB (x1, y1, 1) (x1, 0 - y1, 1) := ⟨_, rfl⟩
  obtain ⟨a1, a2, a3, a4, a5, a6, a7⟩ := id_db h1.2.2.2.2 rfl hT hd he hxd hyd
  have c := (iA_zt (b := cB) (e := 1) (f := 1) (s := (x1, y1, 1)) (t := (x1, y1, 1)) (s' := (x1, y2, 1)) (t' := (x1, 0 - y1, 1)) zt_1 ⟨zt_1.1, zp1 (u := 1) q (by simp only; grind), zt_1 (t := (x1, y1, 1)) |>.2.2⟩)
  rw [← hT] at c
  simp only [lft]
  have hg := (goo_ok h1 h2).1
  simp only [lft] at hg
  generalize iA cB (x1, y1, 1) (x1, y2, 1) = V at *
  have hz : zp V.2.2 := zp2 (u := 1) (v := 1) c.2.2 a6 (by grind)
  exact ⟨(hg hz).1, hz, (hg hz).2⟩
