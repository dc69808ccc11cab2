/-! the class's sum of points, over anything that can be added and multiplied -/
def gA {α : Type} (ad sb ml : α → α → α) (b : α) (P Q : α × α × α) : α × α × α :=
  let xx := ml P.1 Q.1
  let yy := ml P.2.1 Q.2.1
  let zz := ml P.2.2 Q.2.2
  let xy := ad (ml P.1 Q.2.1) (ml Q.1 P.2.1)
  let yz := ad (ml P.2.1 Q.2.2) (ml Q.2.1 P.2.2)
  let xz := ad (ml P.1 Q.2.2) (ml Q.1 P.2.2)
  let t := sb xz (ml b zz)
  let t3 := ad t (ad t t)
  let l := ad yy t3
  let r := sb yy t3
  let w := sb (sb (ml b xz) xx) (ad zz (ad zz zz))
  let u := sb xx zz
  let w3 := ad w (ad w w)
  let u3 := ad u (ad u u)
  (sb (ml xy l) (ml yz w3), ad (ml l r) (ml u3 w3), ad (ml yz r) (ml xy u3))
def iA (b : Int) (P Q : Int × Int × Int) : Int × Int × Int := gA (fun a c : Int => a + c) (fun a c : Int => a - c) (fun a c : Int => a * c) b P Q
def eA (P Q : E3 × E3 × E3) : E3 × E3 × E3 := gA ad3 sb3 ml3 (in3 kv4) P Q
section IDS
variable {m : Int} {x : K4} {y1 y2 y3 : Int}
def R33 (m : Int) (x : K4) (y1 y2 y3 : Int) (P : E3 × E3 × E3) (V : Int × Int × Int) : Prop := R3 m x y1 y2 y3 P.1 V.1 ∧ R3 m x y1 y2 y3 P.2.1 V.2.1 ∧ R3 m x y1 y2 y3 P.2.2 V.2.2
theorem R33_A (h1 : cu m x.2.2.2 x.1 y1) (h2 : cu m x.2.2.2 x.2.1 y2) (h3 : cu m x.2.2.2 x.2.2.1 y3) {P Q : E3 × E3 × E3} {V W : Int × Int × Int} (hP : R33 m x y1 y2 y3 P V) (hQ : R33 m x y1 y2 y3 Q W) : R33 m x y1 y2 y3 (eA P Q) (iA x.2.2.2 V W) := by
  obtain ⟨p1, p2, p3⟩ := hP
  obtain ⟨q1, q2, q3⟩ := hQ
  have hm := R3_ml (y1 := y1) (y2 := y2) (y3 := y3) h1 h2 h3
  have ha := R3_ad (m := m) (x := x) (y1 := y1) (y2 := y2) (y3 := y3)
  have hs := R3_sb (m := m) (x := x) (y1 := y1) (y2 := y2) (y3 := y3)
  have hb : R3 m x y1 y2 y3 (in3 kv4) x.2.2.2 := R3_in (KR_v4 x)
  have xx := hm _ _ _ _ p1 q1
  have yy := hm _ _ _ _ p2 q2
  have zz := hm _ _ _ _ p3 q3
  have xy := ha _ _ _ _ (hm _ _ _ _ p1 q2) (hm _ _ _ _ q1 p2)
  have yz := ha _ _ _ _ (hm _ _ _ _ p2 q3) (hm _ _ _ _ q2 p3)
  have xz := ha _ _ _ _ (hm _ _ _ _ p1 q3) (hm _ _ _ _ q1 p3)
  have t := hs _ _ _ _ xz (hm _ _ _ _ hb zz)
  have t3 := ha _ _ _ _ t (ha _ _ _ _ t t)
  have l := ha _ _ _ _ yy t3
  have r := hs _ _ _ _ yy t3
  have w := hs _ _ _ _ (hs _ _ _ _ (hm _ _ _ _ hb xz) xx) (ha _ _ _ _ zz (ha _ _ _ _ zz zz))
  have u := hs _ _ _ _ xx zz
  have w3 := ha _ _ _ _ w (ha _ _ _ _ w w)
  have u3 := ha _ _ _ _ u (ha _ _ _ _ u u)
  exact ⟨hs _ _ _ _ (hm _ _ _ _ xy l) (hm _ _ _ _ yz w3), ha _ _ _ _ (hm _ _ _ _ l r) (hm _ _ _ _ u3 w3), ha _ _ _ _ (hm _ _ _ _ yz r) (hm _ _ _ _ xy u3)⟩
theorem R33_1 : R33 m x y1 y2 y3 (in3 kv1, yy1, in3 (kc 1)) (x.1, y1, 1) := ⟨R3_in (KR_v1 x), R3_y1, R3_in (KR_cst x 1)⟩
theorem R33_2 : R33 m x y1 y2 y3 (in3 kv2, yy2, in3 (kc 1)) (x.2.1, y2, 1) := ⟨R3_in (KR_v2 x), R3_y2, R3_in (KR_cst x 1)⟩
theorem R33_3 : R33 m x y1 y2 y3 (in3 kv3, yy3, in3 (kc 1)) (x.2.2.1, y3, 1) := ⟨R3_in (KR_v3 x), R3_y3, R3_in (KR_cst x 1)⟩
end IDS
def eP1 : E3 × E3 × E3 := (in3 kv1, yy1, in3 (kc 1))
def eP2 : E3 × E3 × E3 := (in3 kv2, yy2, in3 (kc 1))
def eP3 : E3 × E3 × E3 := (in3 kv3, yy3, in3 (kc 1))
def eU : E3 × E3 × E3 := eA (eA eP1 eP2) eP3
def eV : E3 × E3 × E3 := eA eP1 (eA eP2 eP3)
set_option maxRecDepth 100000 in
theorem as_1 : kz3 (sb3 (ml3 eU.1 eV.2.1) (ml3 eU.2.1 eV.1)) = true := by decide +kernel
set_option maxRecDepth 100000 in
theorem as_2 : kz3 (sb3 (ml3 eU.1 eV.2.2) (ml3 eU.2.2 eV.1)) = true := by decide +kernel
set_option maxRecDepth 100000 in
theorem as_3 : kz3 (sb3 (ml3 eU.2.1 eV.2.2) (ml3 eU.2.2 eV.2.1)) = true := by decide +kernel
section IDS2
variable {m b x1 y1 x2 y2 x3 y3 : Int}
/-- the sum is the same, however three points are put together -/
theorem id_as (h1 : cu m b x1 y1) (h2 : cu m b x2 y2) (h3 : cu m b x3 y3) {U V : Int × Int × Int} (hU : U = iA b (iA b (x1, y1, 1) (x2, y2, 1)) (x3, y3, 1)) (hV : V = iA b (x1, y1, 1) (iA b (x2, y2, 1) (x3, y3, 1))) : (∃ k, U.1 * V.2.1 - U.2.1 * V.1 = m * k) ∧ (∃ k, U.1 * V.2.2 - U.2.2 * V.1 = m * k) ∧ (∃ k, U.2.1 * V.2.2 - U.2.2 * V.2.1 = m * k) := by
  have a1 : R33 m (x1, x2, x3, b) y1 y2 y3 eP1 (x1, y1, 1) := R33_1
  have a2 : R33 m (x1, x2, x3, b) y1 y2 y3 eP2 (x2, y2, 1) := R33_2
  have a3 : R33 m (x1, x2, x3, b) y1 y2 y3 eP3 (x3, y3, 1) := R33_3
  have aU : R33 m (x1, x2, x3, b) y1 y2 y3 eU U := by
    rw [hU]
    exact R33_A h1 h2 h3 (R33_A h1 h2 h3 a1 a2) a3
  have aV : R33 m (x1, x2, x3, b) y1 y2 y3 eV V := by
    rw [hV]
    exact R33_A h1 h2 h3 a1 (R33_A h1 h2 h3 a2 a3)
  have hm := R3_ml (m := m) (x := (x1, x2, x3, b)) (y1 := y1) (y2 := y2) (y3 := y3) h1 h2 h3
  exact ⟨R3_z as_1 _ (R3_sb _ _ _ _ (hm _ _ _ _ aU.1 aV.2.1) (hm _ _ _ _ aU.2.1 aV.1)), R3_z as_2 _ (R3_sb _ _ _ _ (hm _ _ _ _ aU.1 aV.2.2) (hm _ _ _ _ aU.2.2 aV.1)), R3_z as_3 _ (R3_sb _ _ _ _ (hm _ _ _ _ aU.2.1 aV.2.2) (hm _ _ _ _ aU.2.2 aV.2.1))⟩
/-- the sum lies on the curve -/
theorem id_cu (h1 : cu m b x1 y1) (h2 : cu m b x2 y2) {S : Int × Int × Int} (hS : S = iA b (x1, y1, 1) (x2, y2, 1)) : ∃ k, S.2.1 * S.2.1 * S.2.2 - (S.1 * S.1 * S.1 - (S.1 + S.1 + S.1) * (S.2.2 * S.2.2) + b * (S.2.2 * S.2.2 * S.2.2)) = m * k := by
  have aS : R33 m (x1, x2, x2, b) y1 y2 y2 (eA eP1 eP2) S := by
    rw [hS]
    exact R33_A h1 h2 h2 R33_1 R33_2
  obtain ⟨aX, aY, aZ⟩ := aS
  have hm := R3_ml (m := m) (x := (x1, x2, x2, b)) (y1 := y1) (y2 := y2) (y3 := y2) h1 h2 h2
  have hb : R3 m (x1, x2, x2, b) y1 y2 y2 (in3 kv4) b := R3_in (KR_v4 (x1, x2, x2, b))
  exact R3_z (by decide +kernel) _ (R3_sb _ _ _ _ (hm _ _ _ _ (hm _ _ _ _ aY aY) aZ) (R3_ad _ _ _ _ (R3_sb _ _ _ _ (hm _ _ _ _ (hm _ _ _ _ aX aX) aX) (hm _ _ _ _ (R3_ad _ _ _ _ (R3_ad _ _ _ _ aX aX) aX) (hm _ _ _ _ aZ aZ))) (hm _ _ _ _ hb (hm _ _ _ _ (hm _ _ _ _ aZ aZ) aZ))))
/-- the way through two different points: abscissa and ordinate of the sum, and what the last coordinate is -/
theorem id_ch (h1 : cu m b x1 y1) (h2 : cu m b x2 y2) {S : Int × Int × Int} (hS : S = iA b (x1, y1, 1) (x2, y2, 1)) {d e f xn xm ym : Int} (hd : d = x2 - x1) (he : e = y2 - y1) (hf : f = y2 + y1) (hxn : xn = e * e - (x1 + x2) * (d * d)) (hxm : xm = f * f - (x1 + x2) * (d * d)) (hym : ym = f * (xm - x1 * (d * d)) - y1 * (d * (d * d))) :
    (∃ k, S.1 * (d * d) - S.2.2 * xn = m * k) ∧ (∃ k, S.2.1 * (d * (d * d)) - S.2.2 * (e * (x1 * (d * d) - xn) - y1 * (d * (d * d))) = m * k) ∧ (∃ k, S.2.2 - ym = m * k) ∧ (∃ k, ym * ym - (xm * (xm * xm) - (xm + xm + xm) * (d * d * (d * d)) + b * (d * d * (d * d) * (d * d))) = m * k) := by
  have aS : R33 m (x1, x2, x2, b) y1 y2 y2 (eA eP1 eP2) S := by
    rw [hS]
    exact R33_A h1 h2 h2 R33_1 R33_2
  obtain ⟨aX, aY, aZ⟩ := aS
  have hm := R3_ml (m := m) (x := (x1, x2, x2, b)) (y1 := y1) (y2 := y2) (y3 := y2) h1 h2 h2
  have ha := R3_ad (m := m) (x := (x1, x2, x2, b)) (y1 := y1) (y2 := y2) (y3 := y2)
  have hs := R3_sb (m := m) (x := (x1, x2, x2, b)) (y1 := y1) (y2 := y2) (y3 := y2)
  have hb : R3 m (x1, x2, x2, b) y1 y2 y2 (in3 kv4) b := R3_in (KR_v4 (x1, x2, x2, b))
  have v1 : R3 m (x1, x2, x2, b) y1 y2 y2 (in3 kv1) x1 := R3_in (KR_v1 (x1, x2, x2, b))
  have v2 : R3 m (x1, x2, x2, b) y1 y2 y2 (in3 kv2) x2 := R3_in (KR_v2 (x1, x2, x2, b))
  have w1 : R3 m (x1, x2, x2, b) y1 y2 y2 yy1 y1 := R3_y1
  have w2 : R3 m (x1, x2, x2, b) y1 y2 y2 yy2 y2 := R3_y2
  have cd := hs _ _ _ _ v2 v1
  rw [← hd] at cd
  have ce := hs _ _ _ _ w2 w1
  rw [← he] at ce
  have cf := ha _ _ _ _ w2 w1
  rw [← hf] at cf
  have dd := hm _ _ _ _ cd cd
  have d3 := hm _ _ _ _ cd dd
  have cxn := hs _ _ _ _ (hm _ _ _ _ ce ce) (hm _ _ _ _ (ha _ _ _ _ v1 v2) dd)
  rw [← hxn] at cxn
  have cxm := hs _ _ _ _ (hm _ _ _ _ cf cf) (hm _ _ _ _ (ha _ _ _ _ v1 v2) dd)
  rw [← hxm] at cxm
  have cym := hs _ _ _ _ (hm _ _ _ _ cf (hs _ _ _ _ cxm (hm _ _ _ _ v1 dd))) (hm _ _ _ _ w1 d3)
  rw [← hym] at cym
  refine ⟨R3_z (by decide +kernel) _ (hs _ _ _ _ (hm _ _ _ _ aX dd) (hm _ _ _ _ aZ cxn)), R3_z (by decide +kernel) _ (hs _ _ _ _ (hm _ _ _ _ aY d3) (hm _ _ _ _ aZ (hs _ _ _ _ (hm _ _ _ _ ce (hs _ _ _ _ (hm _ _ _ _ v1 dd) cxn)) (hm _ _ _ _ w1 d3)))), R3_z (by decide +kernel) _ (hs _ _ _ _ aZ cym), R3_z (by decide +kernel) _ (hs _ _ _ _ (hm _ _ _ _ cym cym) (ha _ _ _ _ (hs _ _ _ _ (hm _ _ _ _ cxm (hm _ _ _ _ cxm cxm)) (hm _ _ _ _ (ha _ _ _ _ (ha _ _ _ _ cxm cxm) cxm) (hm _ _ _ _ dd dd))) (hm _ _ _ _ hb (hm _ _ _ _ (hm _ _ _ _ dd dd) dd))))⟩
/-- a point with itself, and with its opposite -/
theorem id_db (h1 : cu m b x1 y1) {S T : Int × Int × Int} (hS : S = iA b (x1, y1, 1) (x1, y1, 1)) (hT : T = iA b (x1, y1, 1) (x1, 0 - y1, 1)) {d e xd yd : Int} (hd : d = y1 + y1) (he : e = (x1 * x1 - 1) + ((x1 * x1 - 1) + (x1 * x1 - 1))) (hxd : xd = e * e - (x1 + x1) * (d * d)) (hyd : yd = e * (x1 * (d * d) - xd) - y1 * (d * (d * d))) :
    (∃ k, S.1 - d * xd = m * k) ∧ (∃ k, S.2.1 - yd = m * k) ∧ (∃ k, S.2.2 - d * (d * d) = m * k) ∧ (∃ k, yd * yd - (xd * (xd * xd) - (xd + xd + xd) * (d * d * (d * d)) + b * (d * d * (d * d) * (d * d))) = m * k) ∧ (∃ k, T.1 = m * k) ∧ (∃ k, T.2.2 = m * k) ∧ (∃ k, T.2.1 - yd = m * k) := by
  have hb : R3 m (x1, x1, x1, b) y1 y1 y1 (in3 kv4) b := R3_in (KR_v4 (x1, x1, x1, b))
  have v1 : R3 m (x1, x1, x1, b) y1 y1 y1 (in3 kv1) x1 := R3_in (KR_v1 (x1, x1, x1, b))
  have w1 : R3 m (x1, x1, x1, b) y1 y1 y1 yy1 y1 := R3_y1
  have o1 : R3 m (x1, x1, x1, b) y1 y1 y1 (in3 (kc 1)) 1 := R3_in (KR_cst _ 1)
  have o0 : R3 m (x1, x1, x1, b) y1 y1 y1 (in3 (kc 0)) 0 := R3_in (KR_cst _ 0)
  have hm := R3_ml (m := m) (x := (x1, x1, x1, b)) (y1 := y1) (y2 := y1) (y3 := y1) h1 h1 h1
  have ha := R3_ad (m := m) (x := (x1, x1, x1, b)) (y1 := y1) (y2 := y1) (y3 := y1)
  have hs := R3_sb (m := m) (x := (x1, x1, x1, b)) (y1 := y1) (y2 := y1) (y3 := y1)
  have aS : R33 m (x1, x1, x1, b) y1 y1 y1 (eA eP1 eP1) S := by
    rw [hS]
    exact R33_A h1 h1 h1 R33_1 R33_1
  have aT : R33 m (x1, x1, x1, b) y1 y1 y1 (eA eP1 (in3 kv1, sb3 (in3 (kc 0)) yy1, in3 (kc 1))) T := by
    rw [hT]
    exact R33_A h1 h1 h1 R33_1 ⟨v1, hs _ _ _ _ o0 w1, o1⟩
  obtain ⟨aX, aY, aZ⟩ := aS
  obtain ⟨bX, bY, bZ⟩ := aT
  have cd := ha _ _ _ _ w1 w1
  rw [← hd] at cd
  have c0 := hs _ _ _ _ (hm _ _ _ _ v1 v1) o1
  have ce := ha _ _ _ _ c0 (ha _ _ _ _ c0 c0)
  rw [← he] at ce
  have dd := hm _ _ _ _ cd cd
  have d3 := hm _ _ _ _ cd dd
  have cxd := hs _ _ _ _ (hm _ _ _ _ ce ce) (hm _ _ _ _ (ha _ _ _ _ v1 v1) dd)
  rw [← hxd] at cxd
  have cyd := hs _ _ _ _ (hm _ _ _ _ ce (hs _ _ _ _ (hm _ _ _ _ v1 dd) cxd)) (hm _ _ _ _ w1 d3)
  rw [← hyd] at cyd
  refine ⟨R3_z (by decide +kernel) _ (hs _ _ _ _ aX (hm _ _ _ _ cd cxd)), R3_z (by decide +kernel) _ (hs _ _ _ _ aY cyd), R3_z (by decide +kernel) _ (hs _ _ _ _ aZ d3), R3_z (by decide +kernel) _ (hs _ _ _ _ (hm _ _ _ _ cyd cyd) (ha _ _ _ _ (hs _ _ _ _ (hm _ _ _ _ cxd (hm _ _ _ _ cxd cxd)) (hm _ _ _ _ (ha _ _ _ _ (ha _ _ _ _ cxd cxd) cxd) (hm _ _ _ _ dd dd))) (hm _ _ _ _ hb (hm _ _ _ _ (hm _ _ _ _ dd dd) dd)))), R3_z (by decide +kernel) _ bX, R3_z (by decide +kernel) _ bZ, R3_z (by decide +kernel) _ (hs _ _ _ _ bY cyd)⟩
end IDS2
