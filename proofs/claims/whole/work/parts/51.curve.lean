/-! Curve.add -/
/-- where a point may lie: not among the curve's own arrays -/
def okp (a : Nat) : Prop := (114 ≤ a ∧ a + 3 ≤ 177) ∨ 187 ≤ a
def PtO (M : kf_M) (a : Nat) : Prop := M[a]? = some (oO 4 [.ref (a + 1), .ref (a + 2), .ref (a + 3)])
def PtV (M : kf_M) (a : Nat) (X Y Z : Int) : Prop := PtO M a ∧ Num M (a + 1) X ∧ Num M (a + 2) Y ∧ Num M (a + 3) Z
def PtJ (M : kf_M) (a : Nat) : Prop := PtO M a ∧ Jar M (a + 1) ∧ Jar M (a + 2) ∧ Jar M (a + 3)
theorem PtV.j {M : kf_M} {a : Nat} {X Y Z : Int} (h : PtV M a X Y Z) : PtJ M a := ⟨h.1, h.2.1.jar, h.2.2.1.jar, h.2.2.2.jar⟩
theorem PtV.off {M M' : kf_M} {A : List Nat} {a : Nat} {X Y Z : Int} (h : PtV M a X Y Z) (ho : Off A M M') (h0 : a ∉ A) (h1 : a + 1 ∉ A) (h2 : a + 2 ∉ A) (h3 : a + 3 ∉ A) : PtV M' a X Y Z := ⟨ho.at h0 h.1, h.2.1.off ho h1, h.2.2.1.off ho h2, h.2.2.2.off ho h3⟩
theorem PtJ.off {M M' : kf_M} {A : List Nat} {a : Nat} (h : PtJ M a) (ho : Off A M M') (h0 : a ∉ A) (h1 : a + 1 ∉ A) (h2 : a + 2 ∉ A) (h3 : a + 3 ∉ A) : PtJ M' a := ⟨ho.at h0 h.1, h.2.1.off ho h1, h.2.2.1.off ho h2, h.2.2.2.off ho h3⟩
def CvO (M : kf_M) : Prop := M[105]? = some (oO 0 [.ref 106, .ref 112, .ref 113, .ref 178, .ref 179, .ref 180, .ref 181, .ref 182, .ref 183, .ref 184, .ref 185, .ref 186])
/-- the curve: its field, b, and its own arrays -/
def CvIs (M : kf_M) : Prop := CvO M ∧ Mod M 106 pP ∧ (∃ b, Num M 112 b ∧ cg pP b (cB * 2 ^ 280) ∧ sml b) ∧ Jar M 178 ∧ Jar M 179 ∧ Jar M 180 ∧ Jar M 181 ∧ Jar M 182 ∧ Jar M 183 ∧ Jar M 184 ∧ Jar M 185 ∧ Jar M 186
def cvs : List Nat := [178, 179, 180, 181, 182, 183, 184, 185, 186]
def bco (v : Int) : Prop := -(2 ^ 260) ≤ v ∧ v ≤ 2 ^ 260
/-- v stands for w -/
def stf (s v w : Int) : Prop := cg pP (v * s) w
theorem stf_m {s a b v u w : Int} (hs : cg pP (s * 2 ^ 280) 1) (ha : stf s a u) (hb : stf s b w) (h : cg pP (v * 2 ^ 280) (a * b)) : stf s v (u * w) := by
  have h1 := mont_s hs h
  have h2 : cg pP (v * s) (a * b * s * s) := cg_ml h1 cg_rf
  refine cg_tr h2 ?_
  rw [show a * b * s * s = a * s * (b * s) by grind]
  exact cg_ml ha hb
theorem stf_a {s a b u w : Int} (f : Int) (ha : stf s a u) (hb : stf s b w) : stf s (a + f * b) (u + f * w) := by
  unfold stf
  rw [show (a + f * b) * s = a * s + f * (b * s) by grind]
  exact cg_ad ha (cg_ml cg_rf hb)
theorem stf_e {s v w w' : Int} (h : stf s v w) (e : w = w') : stf s v w' := by rw [← e]; exact h
theorem rg1 (xy yy xz B zz yz xx : Int) : xy * (yy + 3 * (xz + -1 * (B * zz))) + -3 * (yz * (B * xz + -1 * xx + -3 * zz)) = xy * (yy + (xz - B * zz + (xz - B * zz + (xz - B * zz)))) - yz * (B * xz - xx - (zz + (zz + zz)) + (B * xz - xx - (zz + (zz + zz)) + (B * xz - xx - (zz + (zz + zz))))) := by grind
theorem rg2 (xy yy xz B zz yz xx : Int) : (yy + 3 * (xz + -1 * (B * zz))) * (yy + -3 * (xz + -1 * (B * zz))) + 9 * ((xx + -1 * zz) * (B * xz + -1 * xx + -3 * zz)) = (yy + (xz - B * zz + (xz - B * zz + (xz - B * zz)))) * (yy - (xz - B * zz + (xz - B * zz + (xz - B * zz)))) + (xx - zz + (xx - zz + (xx - zz))) * (B * xz - xx - (zz + (zz + zz)) + (B * xz - xx - (zz + (zz + zz)) + (B * xz - xx - (zz + (zz + zz))))) := by grind
theorem rg3 (xy yy xz B zz yz xx : Int) : yz * (yy + -3 * (xz + -1 * (B * zz))) + 3 * (xy * (xx + -1 * zz)) = yz * (yy - (xz - B * zz + (xz - B * zz + (xz - B * zz)))) + xy * (xx - zz + (xx - zz + (xx - zz))) := by grind
set_option maxHeartbeats 8000000 in
set_option maxRecDepth 100000 in
theorem f4a {M : kf_M} {to p q : Nat} {X1 Y1 Z1 X2 Y2 Z2 s : Int} (hs : cg pP (s * 2 ^ 280) 1) (hC : CvIs M) (hP : PtV M p X1 Y1 Z1) (hQ : PtV M q X2 Y2 Z2) (hT : PtJ M to) (op : okp p) (oq : okp q) (ot : okp to) (bX1 : bco X1) (bY1 : bco Y1) (bZ1 : bco Z1) (bX2 : bco X2) (bY2 : bco Y2) (bZ2 : bco Z2) : ∃ M' X Y Z, kf_cl 4 [.ref 105, .ref to, .ref p, .ref q] M = some (none, M') ∧ PtV M' to X Y Z ∧ CvIs M' ∧ bco X ∧ bco Y ∧ bco Z ∧ stf s X (iA cB (X1 * s, Y1 * s, Z1 * s) (X2 * s, Y2 * s, Z2 * s)).1 ∧ stf s Y (iA cB (X1 * s, Y1 * s, Z1 * s) (X2 * s, Y2 * s, Z2 * s)).2.1 ∧ stf s Z (iA cB (X1 * s, Y1 * s, Z1 * s) (X2 * s, Y2 * s, Z2 * s)).2.2 ∧ Off (cvs ++ [to + 1, to + 2, to + 3]) M M' := by
  obtain ⟨c0, cm, ⟨b, nb, cb, sb⟩, j178, j179, j180, j181, j182, j183, j184, j185, j186⟩ := hC
  obtain ⟨po, p1, p2, p3⟩ := hP
  obtain ⟨qo, q1, q2, q3⟩ := hQ
  obtain ⟨tt, t1, t2, t3⟩ := hT
  unfold okp at op oq ot
  unfold bco at bX1 bY1 bZ1 bX2 bY2 bZ2
  unfold sml at sb
  have sm0 : ∀ x, sml x → -(2 ^ 244) ≤ x ∧ x ≤ 2 ^ 256 + 2 ^ 244 := fun x h => h
  have n105 : 105 ∉ cvs := by decide
  have n106 : 106 ∉ cvs := by decide
  have n107 : 106 + 1 ∉ cvs := by decide
  have n112 : 112 ∉ cvs := by decide
  have np0 : p ∉ cvs := by simp [cvs]; omega
  have np1 : p + 1 ∉ cvs := by simp [cvs]; omega
  have np2 : p + 2 ∉ cvs := by simp [cvs]; omega
  have np3 : p + 3 ∉ cvs := by simp [cvs]; omega
  have nq0 : q ∉ cvs := by simp [cvs]; omega
  have nq1 : q + 1 ∉ cvs := by simp [cvs]; omega
  have nq2 : q + 2 ∉ cvs := by simp [cvs]; omega
  have nq3 : q + 3 ∉ cvs := by simp [cvs]; omega
  have nt0 : to ∉ cvs := by simp [cvs]; omega
  have nt1 : to + 1 ∉ cvs := by simp [cvs]; omega
  have nt2 : to + 2 ∉ cvs := by simp [cvs]; omega
  have nt3 : to + 3 ∉ cvs := by simp [cvs]; omega
  have w105 : 105 ∉ cvs ++ [to + 1, to + 2, to + 3] := by simp [cvs]; omega
  have w106 : 106 ∉ cvs ++ [to + 1, to + 2, to + 3] := by simp [cvs]; omega
  have w107 : 106 + 1 ∉ cvs ++ [to + 1, to + 2, to + 3] := by simp [cvs]; omega
  have w112 : 112 ∉ cvs ++ [to + 1, to + 2, to + 3] := by simp [cvs]; omega
  have wt0 : to ∉ cvs ++ [to + 1, to + 2, to + 3] := by simp [cvs]; omega
  have oc0 : Off cvs M M := Off.rf
  have ic : ∀ x, x ∈ cvs → x ∈ cvs ++ [to + 1, to + 2, to + 3] := fun x h => List.mem_append_left _ h
  have gc0 := gO_of c0
  have rc0 := cm.rc
  have gp0 := gO_of po
  have gq0 := gO_of qo
  obtain ⟨M1, v1, k1, n1, d1, s1, o1⟩ := f16c (f := 106) (to := 178) cm p1 q1 j178 (by decide) (by unfold bgi; omega) (by unfold bgi; omega)
  replace s1 := sm0 _ s1
  have oc1 := oc0.tr (o1.wk (by decide))
  have j179_1 := j179.off o1 (by decide)
  have j180_1 := j180.off o1 (by decide)
  have j181_1 := j181.off o1 (by decide)
  have j182_1 := j182.off o1 (by decide)
  have j183_1 := j183.off o1 (by decide)
  have j184_1 := j184.off o1 (by decide)
  have j185_1 := j185.off o1 (by decide)
  have j186_1 := j186.off o1 (by decide)
  have gc1 := gO_of (oc1.at n105 c0)
  have cm1 := cm.off oc1 n106 n107
  have rc1 := cm1.rc
  have gp1 := gO_of (oc1.at np0 po)
  have gq1 := gO_of (oc1.at nq0 qo)
  obtain ⟨M2, v2, k2, n2, d2, s2, o2⟩ := f16c (f := 106) (to := 179) cm1 (p2.off oc1 np2) (q2.off oc1 nq2) j179_1 (by decide) (by unfold bgi; omega) (by unfold bgi; omega)
  replace s2 := sm0 _ s2
  have oc2 := oc1.tr (o2.wk (by decide))
  have e178_2 := n1.off o2 (by decide)
  have j180_2 := j180_1.off o2 (by decide)
  have j181_2 := j181_1.off o2 (by decide)
  have j182_2 := j182_1.off o2 (by decide)
  have j183_2 := j183_1.off o2 (by decide)
  have j184_2 := j184_1.off o2 (by decide)
  have j185_2 := j185_1.off o2 (by decide)
  have j186_2 := j186_1.off o2 (by decide)
  have gc2 := gO_of (oc2.at n105 c0)
  have cm2 := cm.off oc2 n106 n107
  have rc2 := cm2.rc
  have gp2 := gO_of (oc2.at np0 po)
  have gq2 := gO_of (oc2.at nq0 qo)
  obtain ⟨M3, v3, k3, n3, d3, s3, o3⟩ := f16c (f := 106) (to := 180) cm2 (p3.off oc2 np3) (q3.off oc2 nq3) j180_2 (by decide) (by unfold bgi; omega) (by unfold bgi; omega)
  replace s3 := sm0 _ s3
  have oc3 := oc2.tr (o3.wk (by decide))
  have e178_3 := e178_2.off o3 (by decide)
  have e179_3 := n2.off o3 (by decide)
  have j181_3 := j181_2.off o3 (by decide)
  have j182_3 := j182_2.off o3 (by decide)
  have j183_3 := j183_2.off o3 (by decide)
  have j184_3 := j184_2.off o3 (by decide)
  have j185_3 := j185_2.off o3 (by decide)
  have j186_3 := j186_2.off o3 (by decide)
  have gc3 := gO_of (oc3.at n105 c0)
  have cm3 := cm.off oc3 n106 n107
  have rc3 := cm3.rc
  have gp3 := gO_of (oc3.at np0 po)
  have gq3 := gO_of (oc3.at nq0 qo)
  obtain ⟨M4, k4, n4, o4⟩ := f15 (to := 184) i64_1 (p1.off oc3 np1) (p2.off oc3 np2) j184_3 (by decide) (by omega) (by omega) (by omega) (by omega)
  have oc4 := oc3.tr (o4.wk (by decide))
  have e178_4 := e178_3.off o4 (by decide)
  have e179_4 := e179_3.off o4 (by decide)
  have e180_4 := n3.off o4 (by decide)
  have j181_4 := j181_3.off o4 (by decide)
  have j182_4 := j182_3.off o4 (by decide)
  have j183_4 := j183_3.off o4 (by decide)
  have j185_4 := j185_3.off o4 (by decide)
  have j186_4 := j186_3.off o4 (by decide)
  have gc4 := gO_of (oc4.at n105 c0)
  have cm4 := cm.off oc4 n106 n107
  have rc4 := cm4.rc
  have gp4 := gO_of (oc4.at np0 po)
  have gq4 := gO_of (oc4.at nq0 qo)
  obtain ⟨M5, k5, n5, o5⟩ := f15 (to := 185) i64_1 (q1.off oc4 nq1) (q2.off oc4 nq2) j185_4 (by decide) (by omega) (by omega) (by omega) (by omega)
  have oc5 := oc4.tr (o5.wk (by decide))
  have e178_5 := e178_4.off o5 (by decide)
  have e179_5 := e179_4.off o5 (by decide)
  have e180_5 := e180_4.off o5 (by decide)
  have e184_5 := n4.off o5 (by decide)
  have j181_5 := j181_4.off o5 (by decide)
  have j182_5 := j182_4.off o5 (by decide)
  have j183_5 := j183_4.off o5 (by decide)
  have j186_5 := j186_4.off o5 (by decide)
  have gc5 := gO_of (oc5.at n105 c0)
  have cm5 := cm.off oc5 n106 n107
  have rc5 := cm5.rc
  have gp5 := gO_of (oc5.at np0 po)
  have gq5 := gO_of (oc5.at nq0 qo)
  obtain ⟨M6, v6, k6, n6, d6, s6, o6⟩ := f16c (f := 106) (to := 181) cm5 e184_5 n5 j181_5 (by decide) (by unfold bgi; omega) (by unfold bgi; omega)
  replace s6 := sm0 _ s6
  have oc6 := oc5.tr (o6.wk (by decide))
  have e178_6 := e178_5.off o6 (by decide)
  have e179_6 := e179_5.off o6 (by decide)
  have e180_6 := e180_5.off o6 (by decide)
  have e184_6 := e184_5.off o6 (by decide)
  have e185_6 := n5.off o6 (by decide)
  have j182_6 := j182_5.off o6 (by decide)
  have j183_6 := j183_5.off o6 (by decide)
  have j186_6 := j186_5.off o6 (by decide)
  have gc6 := gO_of (oc6.at n105 c0)
  have cm6 := cm.off oc6 n106 n107
  have rc6 := cm6.rc
  have gp6 := gO_of (oc6.at np0 po)
  have gq6 := gO_of (oc6.at nq0 qo)
  obtain ⟨M7, k7, n7, o7⟩ := f15 (to := 181) i64_m1 n6 e178_6 n6.jar (by decide) (by omega) (by omega) (by omega) (by omega)
  have oc7 := oc6.tr (o7.wk (by decide))
  have e178_7 := e178_6.off o7 (by decide)
  have e179_7 := e179_6.off o7 (by decide)
  have e180_7 := e180_6.off o7 (by decide)
  have e184_7 := e184_6.off o7 (by decide)
  have e185_7 := e185_6.off o7 (by decide)
  have j182_7 := j182_6.off o7 (by decide)
  have j183_7 := j183_6.off o7 (by decide)
  have j186_7 := j186_6.off o7 (by decide)
  have gc7 := gO_of (oc7.at n105 c0)
  have cm7 := cm.off oc7 n106 n107
  have rc7 := cm7.rc
  have gp7 := gO_of (oc7.at np0 po)
  have gq7 := gO_of (oc7.at nq0 qo)
  obtain ⟨M8, k8, n8, o8⟩ := f15 (to := 181) i64_m1 n7 e179_7 n7.jar (by decide) (by omega) (by omega) (by omega) (by omega)
  have oc8 := oc7.tr (o8.wk (by decide))
  have e178_8 := e178_7.off o8 (by decide)
  have e179_8 := e179_7.off o8 (by decide)
  have e180_8 := e180_7.off o8 (by decide)
  have e184_8 := e184_7.off o8 (by decide)
  have e185_8 := e185_7.off o8 (by decide)
  have j182_8 := j182_7.off o8 (by decide)
  have j183_8 := j183_7.off o8 (by decide)
  have j186_8 := j186_7.off o8 (by decide)
  have gc8 := gO_of (oc8.at n105 c0)
  have cm8 := cm.off oc8 n106 n107
  have rc8 := cm8.rc
  have gp8 := gO_of (oc8.at np0 po)
  have gq8 := gO_of (oc8.at nq0 qo)
  obtain ⟨M9, k9, n9, o9⟩ := f15 (to := 184) i64_1 (p2.off oc8 np2) (p3.off oc8 np3) e184_8.jar (by decide) (by omega) (by omega) (by omega) (by omega)
  have oc9 := oc8.tr (o9.wk (by decide))
  have e178_9 := e178_8.off o9 (by decide)
  have e179_9 := e179_8.off o9 (by decide)
  have e180_9 := e180_8.off o9 (by decide)
  have e185_9 := e185_8.off o9 (by decide)
  have e181_9 := n8.off o9 (by decide)
  have j182_9 := j182_8.off o9 (by decide)
  have j183_9 := j183_8.off o9 (by decide)
  have j186_9 := j186_8.off o9 (by decide)
  have gc9 := gO_of (oc9.at n105 c0)
  have cm9 := cm.off oc9 n106 n107
  have rc9 := cm9.rc
  have gp9 := gO_of (oc9.at np0 po)
  have gq9 := gO_of (oc9.at nq0 qo)
  obtain ⟨M10, k10, n10, o10⟩ := f15 (to := 185) i64_1 (q2.off oc9 nq2) (q3.off oc9 nq3) e185_9.jar (by decide) (by omega) (by omega) (by omega) (by omega)
  have oc10 := oc9.tr (o10.wk (by decide))
  have e178_10 := e178_9.off o10 (by decide)
  have e179_10 := e179_9.off o10 (by decide)
  have e180_10 := e180_9.off o10 (by decide)
  have e181_10 := e181_9.off o10 (by decide)
  have e184_10 := n9.off o10 (by decide)
  have j182_10 := j182_9.off o10 (by decide)
  have j183_10 := j183_9.off o10 (by decide)
  have j186_10 := j186_9.off o10 (by decide)
  have gc10 := gO_of (oc10.at n105 c0)
  have cm10 := cm.off oc10 n106 n107
  have rc10 := cm10.rc
  have gp10 := gO_of (oc10.at np0 po)
  have gq10 := gO_of (oc10.at nq0 qo)
  obtain ⟨M11, v11, k11, n11, d11, s11, o11⟩ := f16c (f := 106) (to := 182) cm10 e184_10 n10 j182_10 (by decide) (by unfold bgi; omega) (by unfold bgi; omega)
  replace s11 := sm0 _ s11
  have oc11 := oc10.tr (o11.wk (by decide))
  have e178_11 := e178_10.off o11 (by decide)
  have e179_11 := e179_10.off o11 (by decide)
  have e180_11 := e180_10.off o11 (by decide)
  have e181_11 := e181_10.off o11 (by decide)
  have e184_11 := e184_10.off o11 (by decide)
  have e185_11 := n10.off o11 (by decide)
  have j183_11 := j183_10.off o11 (by decide)
  have j186_11 := j186_10.off o11 (by decide)
  have gc11 := gO_of (oc11.at n105 c0)
  have cm11 := cm.off oc11 n106 n107
  have rc11 := cm11.rc
  have gp11 := gO_of (oc11.at np0 po)
  have gq11 := gO_of (oc11.at nq0 qo)
  obtain ⟨M12, k12, n12, o12⟩ := f15 (to := 182) i64_m1 n11 e179_11 n11.jar (by decide) (by omega) (by omega) (by omega) (by omega)
  have oc12 := oc11.tr (o12.wk (by decide))
  have e178_12 := e178_11.off o12 (by decide)
  have e179_12 := e179_11.off o12 (by decide)
  have e180_12 := e180_11.off o12 (by decide)
  have e181_12 := e181_11.off o12 (by decide)
  have e184_12 := e184_11.off o12 (by decide)
  have e185_12 := e185_11.off o12 (by decide)
  have j183_12 := j183_11.off o12 (by decide)
  have j186_12 := j186_11.off o12 (by decide)
  have gc12 := gO_of (oc12.at n105 c0)
  have cm12 := cm.off oc12 n106 n107
  have rc12 := cm12.rc
  have gp12 := gO_of (oc12.at np0 po)
  have gq12 := gO_of (oc12.at nq0 qo)
  obtain ⟨M13, k13, n13, o13⟩ := f15 (to := 182) i64_m1 n12 e180_12 n12.jar (by decide) (by omega) (by omega) (by omega) (by omega)
  have oc13 := oc12.tr (o13.wk (by decide))
  have e178_13 := e178_12.off o13 (by decide)
  have e179_13 := e179_12.off o13 (by decide)
  have e180_13 := e180_12.off o13 (by decide)
  have e181_13 := e181_12.off o13 (by decide)
  have e184_13 := e184_12.off o13 (by decide)
  have e185_13 := e185_12.off o13 (by decide)
  have j183_13 := j183_12.off o13 (by decide)
  have j186_13 := j186_12.off o13 (by decide)
  have gc13 := gO_of (oc13.at n105 c0)
  have cm13 := cm.off oc13 n106 n107
  have rc13 := cm13.rc
  have gp13 := gO_of (oc13.at np0 po)
  have gq13 := gO_of (oc13.at nq0 qo)
  obtain ⟨M14, k14, n14, o14⟩ := f15 (to := 184) i64_1 (p1.off oc13 np1) (p3.off oc13 np3) e184_13.jar (by decide) (by omega) (by omega) (by omega) (by omega)
  have oc14 := oc13.tr (o14.wk (by decide))
  have e178_14 := e178_13.off o14 (by decide)
  have e179_14 := e179_13.off o14 (by decide)
  have e180_14 := e180_13.off o14 (by decide)
  have e181_14 := e181_13.off o14 (by decide)
  have e185_14 := e185_13.off o14 (by decide)
  have e182_14 := n13.off o14 (by decide)
  have j183_14 := j183_13.off o14 (by decide)
  have j186_14 := j186_13.off o14 (by decide)
  have gc14 := gO_of (oc14.at n105 c0)
  have cm14 := cm.off oc14 n106 n107
  have rc14 := cm14.rc
  have gp14 := gO_of (oc14.at np0 po)
  have gq14 := gO_of (oc14.at nq0 qo)
  obtain ⟨M15, k15, n15, o15⟩ := f15 (to := 185) i64_1 (q1.off oc14 nq1) (q3.off oc14 nq3) e185_14.jar (by decide) (by omega) (by omega) (by omega) (by omega)
  have oc15 := oc14.tr (o15.wk (by decide))
  have e178_15 := e178_14.off o15 (by decide)
  have e179_15 := e179_14.off o15 (by decide)
  have e180_15 := e180_14.off o15 (by decide)
  have e181_15 := e181_14.off o15 (by decide)
  have e182_15 := e182_14.off o15 (by decide)
  have e184_15 := n14.off o15 (by decide)
  have j183_15 := j183_14.off o15 (by decide)
  have j186_15 := j186_14.off o15 (by decide)
  have gc15 := gO_of (oc15.at n105 c0)
  have cm15 := cm.off oc15 n106 n107
  have rc15 := cm15.rc
  have gp15 := gO_of (oc15.at np0 po)
  have gq15 := gO_of (oc15.at nq0 qo)
  obtain ⟨M16, v16, k16, n16, d16, s16, o16⟩ := f16c (f := 106) (to := 183) cm15 e184_15 n15 j183_15 (by decide) (by unfold bgi; omega) (by unfold bgi; omega)
  replace s16 := sm0 _ s16
  have oc16 := oc15.tr (o16.wk (by decide))
  have e178_16 := e178_15.off o16 (by decide)
  have e179_16 := e179_15.off o16 (by decide)
  have e180_16 := e180_15.off o16 (by decide)
  have e181_16 := e181_15.off o16 (by decide)
  have e182_16 := e182_15.off o16 (by decide)
  have e184_16 := e184_15.off o16 (by decide)
  have e185_16 := n15.off o16 (by decide)
  have j186_16 := j186_15.off o16 (by decide)
  have gc16 := gO_of (oc16.at n105 c0)
  have cm16 := cm.off oc16 n106 n107
  have rc16 := cm16.rc
  obtain ⟨M17, k17, n17, o17⟩ := f15 (to := 183) i64_m1 n16 e178_16 n16.jar (by decide) (by omega) (by omega) (by omega) (by omega)
  have oc17 := oc16.tr (o17.wk (by decide))
  have e178_17 := e178_16.off o17 (by decide)
  have e179_17 := e179_16.off o17 (by decide)
  have e180_17 := e180_16.off o17 (by decide)
  have e181_17 := e181_16.off o17 (by decide)
  have e182_17 := e182_16.off o17 (by decide)
  have e184_17 := e184_16.off o17 (by decide)
  have e185_17 := e185_16.off o17 (by decide)
  have j186_17 := j186_16.off o17 (by decide)
  have gc17 := gO_of (oc17.at n105 c0)
  have cm17 := cm.off oc17 n106 n107
  have rc17 := cm17.rc
  obtain ⟨M18, k18, n18, o18⟩ := f15 (to := 183) i64_m1 n17 e180_17 n17.jar (by decide) (by omega) (by omega) (by omega) (by omega)
  have oc18 := oc17.tr (o18.wk (by decide))
  have e178_18 := e178_17.off o18 (by decide)
  have e179_18 := e179_17.off o18 (by decide)
  have e180_18 := e180_17.off o18 (by decide)
  have e181_18 := e181_17.off o18 (by decide)
  have e182_18 := e182_17.off o18 (by decide)
  have e184_18 := e184_17.off o18 (by decide)
  have e185_18 := e185_17.off o18 (by decide)
  have j186_18 := j186_17.off o18 (by decide)
  have gc18 := gO_of (oc18.at n105 c0)
  have cm18 := cm.off oc18 n106 n107
  have rc18 := cm18.rc
  obtain ⟨M19, v19, k19, n19, d19, s19, o19⟩ := f16c (f := 106) (to := 186) cm18 (nb.off oc18 n112) e180_18 j186_18 (by decide) (by unfold bgi; omega) (by unfold bgi; omega)
  replace s19 := sm0 _ s19
  have oc19 := oc18.tr (o19.wk (by decide))
  have e178_19 := e178_18.off o19 (by decide)
  have e179_19 := e179_18.off o19 (by decide)
  have e180_19 := e180_18.off o19 (by decide)
  have e181_19 := e181_18.off o19 (by decide)
  have e182_19 := e182_18.off o19 (by decide)
  have e184_19 := e184_18.off o19 (by decide)
  have e185_19 := e185_18.off o19 (by decide)
  have e183_19 := n18.off o19 (by decide)
  have gc19 := gO_of (oc19.at n105 c0)
  have cm19 := cm.off oc19 n106 n107
  have rc19 := cm19.rc
  obtain ⟨M20, k20, n20, o20⟩ := f15 (to := 186) i64_m1 e183_19 n19 n19.jar (by decide) (by omega) (by omega) (by omega) (by omega)
  have oc20 := oc19.tr (o20.wk (by decide))
  have e178_20 := e178_19.off o20 (by decide)
  have e179_20 := e179_19.off o20 (by decide)
  have e180_20 := e180_19.off o20 (by decide)
  have e181_20 := e181_19.off o20 (by decide)
  have e182_20 := e182_19.off o20 (by decide)
  have e184_20 := e184_19.off o20 (by decide)
  have e185_20 := e185_19.off o20 (by decide)
  have e183_20 := e183_19.off o20 (by decide)
  have gc20 := gO_of (oc20.at n105 c0)
  have cm20 := cm.off oc20 n106 n107
  have rc20 := cm20.rc
  obtain ⟨M21, k21, n21, o21⟩ := f15 (to := 184) i64_3 e179_20 n20 e184_20.jar (by decide) (by omega) (by omega) (by omega) (by omega)
  have oc21 := oc20.tr (o21.wk (by decide))
  have e178_21 := e178_20.off o21 (by decide)
  have e179_21 := e179_20.off o21 (by decide)
  have e180_21 := e180_20.off o21 (by decide)
  have e181_21 := e181_20.off o21 (by decide)
  have e182_21 := e182_20.off o21 (by decide)
  have e185_21 := e185_20.off o21 (by decide)
  have e183_21 := e183_20.off o21 (by decide)
  have e186_21 := n20.off o21 (by decide)
  have gc21 := gO_of (oc21.at n105 c0)
  have cm21 := cm.off oc21 n106 n107
  have rc21 := cm21.rc
  obtain ⟨M22, k22, n22, o22⟩ := f15 (to := 185) i64_m3 e179_21 e186_21 e185_21.jar (by decide) (by omega) (by omega) (by omega) (by omega)
  have oc22 := oc21.tr (o22.wk (by decide))
  have e178_22 := e178_21.off o22 (by decide)
  have e179_22 := e179_21.off o22 (by decide)
  have e180_22 := e180_21.off o22 (by decide)
  have e181_22 := e181_21.off o22 (by decide)
  have e182_22 := e182_21.off o22 (by decide)
  have e183_22 := e183_21.off o22 (by decide)
  have e186_22 := e186_21.off o22 (by decide)
  have e184_22 := n21.off o22 (by decide)
  have gc22 := gO_of (oc22.at n105 c0)
  have cm22 := cm.off oc22 n106 n107
  have rc22 := cm22.rc
  obtain ⟨M23, v23, k23, n23, d23, s23, o23⟩ := f16c (f := 106) (to := 183) cm22 (nb.off oc22 n112) e183_22 e183_22.jar (by decide) (by unfold bgi; omega) (by unfold bgi; omega)
  replace s23 := sm0 _ s23
  have oc23 := oc22.tr (o23.wk (by decide))
  have e178_23 := e178_22.off o23 (by decide)
  have e179_23 := e179_22.off o23 (by decide)
  have e180_23 := e180_22.off o23 (by decide)
  have e181_23 := e181_22.off o23 (by decide)
  have e182_23 := e182_22.off o23 (by decide)
  have e186_23 := e186_22.off o23 (by decide)
  have e184_23 := e184_22.off o23 (by decide)
  have e185_23 := n22.off o23 (by decide)
  have gc23 := gO_of (oc23.at n105 c0)
  have cm23 := cm.off oc23 n106 n107
  have rc23 := cm23.rc
  obtain ⟨M24, k24, n24, o24⟩ := f15 (to := 183) i64_m1 n23 e178_23 n23.jar (by decide) (by omega) (by omega) (by omega) (by omega)
  have oc24 := oc23.tr (o24.wk (by decide))
  have e178_24 := e178_23.off o24 (by decide)
  have e179_24 := e179_23.off o24 (by decide)
  have e180_24 := e180_23.off o24 (by decide)
  have e181_24 := e181_23.off o24 (by decide)
  have e182_24 := e182_23.off o24 (by decide)
  have e186_24 := e186_23.off o24 (by decide)
  have e184_24 := e184_23.off o24 (by decide)
  have e185_24 := e185_23.off o24 (by decide)
  have gc24 := gO_of (oc24.at n105 c0)
  have cm24 := cm.off oc24 n106 n107
  have rc24 := cm24.rc
  obtain ⟨M25, k25, n25, o25⟩ := f15 (to := 183) i64_m3 n24 e180_24 n24.jar (by decide) (by omega) (by omega) (by omega) (by omega)
  have oc25 := oc24.tr (o25.wk (by decide))
  have e178_25 := e178_24.off o25 (by decide)
  have e179_25 := e179_24.off o25 (by decide)
  have e180_25 := e180_24.off o25 (by decide)
  have e181_25 := e181_24.off o25 (by decide)
  have e182_25 := e182_24.off o25 (by decide)
  have e186_25 := e186_24.off o25 (by decide)
  have e184_25 := e184_24.off o25 (by decide)
  have e185_25 := e185_24.off o25 (by decide)
  have gc25 := gO_of (oc25.at n105 c0)
  have cm25 := cm.off oc25 n106 n107
  have rc25 := cm25.rc
  obtain ⟨M26, k26, n26, o26⟩ := f15 (to := 178) i64_m1 e178_25 e180_25 e178_25.jar (by decide) (by omega) (by omega) (by omega) (by omega)
  have oc26 := oc25.tr (o26.wk (by decide))
  have e179_26 := e179_25.off o26 (by decide)
  have e180_26 := e180_25.off o26 (by decide)
  have e181_26 := e181_25.off o26 (by decide)
  have e182_26 := e182_25.off o26 (by decide)
  have e186_26 := e186_25.off o26 (by decide)
  have e184_26 := e184_25.off o26 (by decide)
  have e185_26 := e185_25.off o26 (by decide)
  have e183_26 := n25.off o26 (by decide)
  have gc26 := gO_of (oc26.at n105 c0)
  have cm26 := cm.off oc26 n106 n107
  have rc26 := cm26.rc
  have gt26 := gO_of (oc26.at nt0 tt)
  have jt1_26 := t1.off oc26 nt1
  obtain ⟨M27, v27, k27, n27, d27, s27, o27⟩ := f16c (f := 106) (to := to + 1) cm26 e181_26 e184_26 jt1_26 (by omega) (by unfold bgi; omega) (by unfold bgi; omega)
  replace s27 := sm0 _ s27
  have oc26w : Off (cvs ++ [to + 1, to + 2, to + 3]) M M26 := oc26.wk ic
  have oc27 := oc26w.tr (o27.wk (by simp [cvs]))
  have e179_27 := e179_26.off o27 (by simp <;> omega)
  have e180_27 := e180_26.off o27 (by simp <;> omega)
  have e181_27 := e181_26.off o27 (by simp <;> omega)
  have e182_27 := e182_26.off o27 (by simp <;> omega)
  have e186_27 := e186_26.off o27 (by simp <;> omega)
  have e184_27 := e184_26.off o27 (by simp <;> omega)
  have e185_27 := e185_26.off o27 (by simp <;> omega)
  have e183_27 := e183_26.off o27 (by simp <;> omega)
  have e178_27 := n26.off o27 (by simp <;> omega)
  have gc27 := gO_of (oc27.at w105 c0)
  have cm27 := cm.off oc27 w106 w107
  have rc27 := cm27.rc
  have gt27 := gO_of (oc27.at wt0 tt)
  obtain ⟨M28, v28, k28, n28, d28, s28, o28⟩ := f16c (f := 106) (to := 186) cm27 e182_27 e183_27 e186_27.jar (by decide) (by unfold bgi; omega) (by unfold bgi; omega)
  replace s28 := sm0 _ s28
  have oc28 := oc27.tr (o28.wk (by simp [cvs]))
  have e179_28 := e179_27.off o28 (by decide)
  have e180_28 := e180_27.off o28 (by decide)
  have e181_28 := e181_27.off o28 (by decide)
  have e182_28 := e182_27.off o28 (by decide)
  have e184_28 := e184_27.off o28 (by decide)
  have e185_28 := e185_27.off o28 (by decide)
  have e183_28 := e183_27.off o28 (by decide)
  have e178_28 := e178_27.off o28 (by decide)
  have et1_28 := n27.off o28 (by simp <;> omega)
  have gc28 := gO_of (oc28.at w105 c0)
  have cm28 := cm.off oc28 w106 w107
  have rc28 := cm28.rc
  have gt28 := gO_of (oc28.at wt0 tt)
  obtain ⟨M29, k29, n29, o29⟩ := f15 (to := to + 1) i64_m3 et1_28 n28 et1_28.jar (by omega) (by omega) (by omega) (by omega) (by omega)
  have oc29 := oc28.tr (o29.wk (by simp [cvs]))
  have e179_29 := e179_28.off o29 (by simp <;> omega)
  have e180_29 := e180_28.off o29 (by simp <;> omega)
  have e181_29 := e181_28.off o29 (by simp <;> omega)
  have e182_29 := e182_28.off o29 (by simp <;> omega)
  have e184_29 := e184_28.off o29 (by simp <;> omega)
  have e185_29 := e185_28.off o29 (by simp <;> omega)
  have e183_29 := e183_28.off o29 (by simp <;> omega)
  have e178_29 := e178_28.off o29 (by simp <;> omega)
  have e186_29 := n28.off o29 (by simp <;> omega)
  have gc29 := gO_of (oc29.at w105 c0)
  have cm29 := cm.off oc29 w106 w107
  have rc29 := cm29.rc
  have gt29 := gO_of (oc29.at wt0 tt)
  have jt2_29 := (((t2.off oc26 nt2).off o27 (by simp <;> omega)).off o28 (by simp <;> omega)).off o29 (by simp <;> omega)
  obtain ⟨M30, v30, k30, n30, d30, s30, o30⟩ := f16c (f := 106) (to := to + 2) cm29 e184_29 e185_29 jt2_29 (by omega) (by unfold bgi; omega) (by unfold bgi; omega)
  replace s30 := sm0 _ s30
  have oc30 := oc29.tr (o30.wk (by simp [cvs]))
  have e179_30 := e179_29.off o30 (by simp <;> omega)
  have e180_30 := e180_29.off o30 (by simp <;> omega)
  have e181_30 := e181_29.off o30 (by simp <;> omega)
  have e182_30 := e182_29.off o30 (by simp <;> omega)
  have e184_30 := e184_29.off o30 (by simp <;> omega)
  have e185_30 := e185_29.off o30 (by simp <;> omega)
  have e183_30 := e183_29.off o30 (by simp <;> omega)
  have e178_30 := e178_29.off o30 (by simp <;> omega)
  have e186_30 := e186_29.off o30 (by simp <;> omega)
  have et1_30 := n29.off o30 (by simp)
  have gc30 := gO_of (oc30.at w105 c0)
  have cm30 := cm.off oc30 w106 w107
  have rc30 := cm30.rc
  have gt30 := gO_of (oc30.at wt0 tt)
  obtain ⟨M31, v31, k31, n31, d31, s31, o31⟩ := f16c (f := 106) (to := 186) cm30 e178_30 e183_30 e186_30.jar (by decide) (by unfold bgi; omega) (by unfold bgi; omega)
  replace s31 := sm0 _ s31
  have oc31 := oc30.tr (o31.wk (by simp [cvs]))
  have e179_31 := e179_30.off o31 (by decide)
  have e180_31 := e180_30.off o31 (by decide)
  have e181_31 := e181_30.off o31 (by decide)
  have e182_31 := e182_30.off o31 (by decide)
  have e184_31 := e184_30.off o31 (by decide)
  have e185_31 := e185_30.off o31 (by decide)
  have e183_31 := e183_30.off o31 (by decide)
  have e178_31 := e178_30.off o31 (by decide)
  have et1_31 := et1_30.off o31 (by simp <;> omega)
  have et2_31 := n30.off o31 (by simp <;> omega)
  have gc31 := gO_of (oc31.at w105 c0)
  have cm31 := cm.off oc31 w106 w107
  have rc31 := cm31.rc
  have gt31 := gO_of (oc31.at wt0 tt)
  obtain ⟨M32, k32, n32, o32⟩ := f15 (to := to + 2) i64_9 et2_31 n31 et2_31.jar (by omega) (by omega) (by omega) (by omega) (by omega)
  have oc32 := oc31.tr (o32.wk (by simp [cvs]))
  have e179_32 := e179_31.off o32 (by simp <;> omega)
  have e180_32 := e180_31.off o32 (by simp <;> omega)
  have e181_32 := e181_31.off o32 (by simp <;> omega)
  have e182_32 := e182_31.off o32 (by simp <;> omega)
  have e184_32 := e184_31.off o32 (by simp <;> omega)
  have e185_32 := e185_31.off o32 (by simp <;> omega)
  have e183_32 := e183_31.off o32 (by simp <;> omega)
  have e178_32 := e178_31.off o32 (by simp <;> omega)
  have et1_32 := et1_31.off o32 (by simp)
  have e186_32 := n31.off o32 (by simp <;> omega)
  have gc32 := gO_of (oc32.at w105 c0)
  have cm32 := cm.off oc32 w106 w107
  have rc32 := cm32.rc
  have gt32 := gO_of (oc32.at wt0 tt)
  have jt3_32 := ((((((t3.off oc26 nt3).off o27 (by simp <;> omega)).off o28 (by simp <;> omega)).off o29 (by simp <;> omega)).off o30 (by simp <;> omega)).off o31 (by simp <;> omega)).off o32 (by simp <;> omega)
  obtain ⟨M33, v33, k33, n33, d33, s33, o33⟩ := f16c (f := 106) (to := to + 3) cm32 e182_32 e185_32 jt3_32 (by omega) (by unfold bgi; omega) (by unfold bgi; omega)
  replace s33 := sm0 _ s33
  have oc33 := oc32.tr (o33.wk (by simp [cvs]))
  have e179_33 := e179_32.off o33 (by simp <;> omega)
  have e180_33 := e180_32.off o33 (by simp <;> omega)
  have e181_33 := e181_32.off o33 (by simp <;> omega)
  have e182_33 := e182_32.off o33 (by simp <;> omega)
  have e184_33 := e184_32.off o33 (by simp <;> omega)
  have e185_33 := e185_32.off o33 (by simp <;> omega)
  have e183_33 := e183_32.off o33 (by simp <;> omega)
  have e178_33 := e178_32.off o33 (by simp <;> omega)
  have et1_33 := et1_32.off o33 (by simp)
  have e186_33 := e186_32.off o33 (by simp <;> omega)
  have et2_33 := n32.off o33 (by simp)
  have gc33 := gO_of (oc33.at w105 c0)
  have cm33 := cm.off oc33 w106 w107
  have rc33 := cm33.rc
  have gt33 := gO_of (oc33.at wt0 tt)
  obtain ⟨M34, v34, k34, n34, d34, s34, o34⟩ := f16c (f := 106) (to := 186) cm33 e181_33 e178_33 e186_33.jar (by decide) (by unfold bgi; omega) (by unfold bgi; omega)
  replace s34 := sm0 _ s34
  have oc34 := oc33.tr (o34.wk (by simp [cvs]))
  have e179_34 := e179_33.off o34 (by decide)
  have e180_34 := e180_33.off o34 (by decide)
  have e181_34 := e181_33.off o34 (by decide)
  have e182_34 := e182_33.off o34 (by decide)
  have e184_34 := e184_33.off o34 (by decide)
  have e185_34 := e185_33.off o34 (by decide)
  have e183_34 := e183_33.off o34 (by decide)
  have e178_34 := e178_33.off o34 (by decide)
  have et1_34 := et1_33.off o34 (by simp <;> omega)
  have et2_34 := et2_33.off o34 (by simp <;> omega)
  have et3_34 := n33.off o34 (by simp <;> omega)
  have gc34 := gO_of (oc34.at w105 c0)
  have cm34 := cm.off oc34 w106 w107
  have rc34 := cm34.rc
  have gt34 := gO_of (oc34.at wt0 tt)
  obtain ⟨M35, k35, n35, o35⟩ := f15 (to := to + 3) i64_3 et3_34 n34 et3_34.jar (by omega) (by omega) (by omega) (by omega) (by omega)
  have oc35 := oc34.tr (o35.wk (by simp [cvs]))
  have e179_35 := e179_34.off o35 (by simp <;> omega)
  have e180_35 := e180_34.off o35 (by simp <;> omega)
  have e181_35 := e181_34.off o35 (by simp <;> omega)
  have e182_35 := e182_34.off o35 (by simp <;> omega)
  have e184_35 := e184_34.off o35 (by simp <;> omega)
  have e185_35 := e185_34.off o35 (by simp <;> omega)
  have e183_35 := e183_34.off o35 (by simp <;> omega)
  have e178_35 := e178_34.off o35 (by simp <;> omega)
  have et1_35 := et1_34.off o35 (by simp)
  have et2_35 := et2_34.off o35 (by simp)
  have e186_35 := n34.off o35 (by simp <;> omega)
  have gc35 := gO_of (oc35.at w105 c0)
  have cm35 := cm.off oc35 w106 w107
  have rc35 := cm35.rc
  have gt35 := gO_of (oc35.at wt0 tt)
  have ub : stf s b cB := by
    refine cg_tr (cg_ml cb cg_rf) ?_
    rw [show cB * 2 ^ 280 * s = cB * (s * 2 ^ 280) by rw [Int.mul_assoc, Int.mul_comm (2 ^ 280) s]]
    have := cg_ml (m := pP) (a := cB) (b := cB) cg_rf hs
    rw [Int.mul_one] at this
    exact this
  have ux1 : stf s X1 (X1 * s) := cg_rf
  have uy1 : stf s Y1 (Y1 * s) := cg_rf
  have uz1 : stf s Z1 (Z1 * s) := cg_rf
  have ux2 : stf s X2 (X2 * s) := cg_rf
  have uy2 : stf s Y2 (Y2 * s) := cg_rf
  have uz2 : stf s Z2 (Z2 * s) := cg_rf
  obtain ⟨x1, hx1⟩ : ∃ x, x = X1 * s := ⟨_, rfl⟩
  obtain ⟨y1, hy1⟩ : ∃ x, x = Y1 * s := ⟨_, rfl⟩
  obtain ⟨z1, hz1⟩ : ∃ x, x = Z1 * s := ⟨_, rfl⟩
  obtain ⟨x2, hx2⟩ : ∃ x, x = X2 * s := ⟨_, rfl⟩
  obtain ⟨y2, hy2⟩ : ∃ x, x = Y2 * s := ⟨_, rfl⟩
  obtain ⟨z2, hz2⟩ : ∃ x, x = Z2 * s := ⟨_, rfl⟩
  rw [← hx1] at ux1
  rw [← hy1] at uy1
  rw [← hz1] at uz1
  rw [← hx2] at ux2
  rw [← hy2] at uy2
  rw [← hz2] at uz2
  have u1 := stf_m hs ux1 ux2 d1
  have u2 := stf_m hs uy1 uy2 d2
  have u3 := stf_m hs uz1 uz2 d3
  have u4 := stf_a (1) ux1 uy1
  have u5 := stf_a (1) ux2 uy2
  have u6 := stf_m hs u4 u5 d6
  have u7 := stf_a (-1) u6 u1
  have u8 := stf_a (-1) u7 u2
  replace u8 := stf_e (w' := x1 * y2 + x2 * y1) u8 (by grind)
  have u9 := stf_a (1) uy1 uz1
  have u10 := stf_a (1) uy2 uz2
  have u11 := stf_m hs u9 u10 d11
  have u12 := stf_a (-1) u11 u2
  have u13 := stf_a (-1) u12 u3
  replace u13 := stf_e (w' := y1 * z2 + y2 * z1) u13 (by grind)
  have u14 := stf_a (1) ux1 uz1
  have u15 := stf_a (1) ux2 uz2
  have u16 := stf_m hs u14 u15 d16
  have u17 := stf_a (-1) u16 u1
  have u18 := stf_a (-1) u17 u3
  replace u18 := stf_e (w' := x1 * z2 + x2 * z1) u18 (by grind)
  have u19 := stf_m hs ub u3 d19
  have u20 := stf_a (-1) u18 u19
  have u21 := stf_a (3) u2 u20
  have u22 := stf_a (-3) u2 u20
  have u23 := stf_m hs ub u18 d23
  have u24 := stf_a (-1) u23 u1
  have u25 := stf_a (-3) u24 u3
  have u26 := stf_a (-1) u1 u3
  have u27 := stf_m hs u8 u21 d27
  have u28 := stf_m hs u13 u25 d28
  have u29 := stf_a (-3) u27 u28
  have u30 := stf_m hs u21 u22 d30
  have u31 := stf_m hs u26 u25 d31
  have u32 := stf_a (9) u30 u31
  have u33 := stf_m hs u13 u22 d33
  have u34 := stf_m hs u8 u26 d34
  have u35 := stf_a (3) u33 u34
  refine ⟨M35, _, _, _, ?_, ⟨oc35.at wt0 tt, et1_35, et2_35, n35⟩, ⟨oc35.at w105 c0, cm35, ⟨b, nb.off oc35 w112, cb, sb⟩, e178_35.jar, e179_35.jar, e180_35.jar, e181_35.jar, e182_35.jar, e183_35.jar, e184_35.jar, e185_35.jar, e186_35.jar⟩, ?_, ?_, ?_, ?_, ?_, ?_, oc35⟩
  · simp only [cl_4, e4_0, e4_1, e4_4, e4_5, e4_8, e4_9, e4_12, e4_13, e4_16, e4_19, e4_20, e4_23, e4_24, e4_27, e4_28, e4_31, e4_32, e4_35, e4_38, e4_39, e4_42, e4_43, e4_46, e4_47, e4_50, e4_51, e4_54, e4_57, e4_58, e4_61, e4_62, e4_65, e4_66, e4_67, e4_70, e4_73, e4_74, e4_77, e4_78, e4_81, e4_82, e4_83, e4_86, e4_89, e4_90, e4_93, e4_94, e4_97, e4_98, e4_101, e4_102, e4_105, e4_108, e4_109, e4_112, e4_113, e4_116, e4_119, e4_120, e4_123, e4_126, e4_127, e4_130, e4_131, e4_134, e4_137, e4_138, e4_141, e4_144, e4_145, e4_148, e4_149, e4_152, e4_153, e4_154, e4_157, e4_160, e4_161, e4_164, e4_165, e4_168, e4_169, e4_170, e4_173, e4_176, e4_177, e4_180, e4_181, e4_184, e4_185, e4_188, e4_189, e4_192, e4_195, e4_196, e4_199, e4_200, e4_203, e4_206, e4_207, e4_210, e4_213, e4_214, e4_217, e4_218, e4_221, e4_224, e4_225, e4_228, e4_231, e4_232, e4_235, e4_236, e4_239, e4_240, e4_241, e4_244, e4_247, e4_248, e4_251, e4_252, e4_255, e4_256, e4_257, e4_260, e4_263, e4_264, e4_267, e4_268, e4_271, e4_272, e4_275, e4_276, e4_279, e4_282, e4_283, e4_286, e4_287, e4_290, e4_293, e4_294, e4_297, e4_300, e4_301, e4_304, e4_305, e4_308, e4_311, e4_312, e4_315, e4_318, e4_319, e4_322, e4_323, e4_326, e4_327, e4_330, e4_331, e4_334, e4_337, e4_338, e4_341, e4_342, e4_345, e4_348, e4_349, e4_352, e4_355, e4_356, e4_359, e4_360, e4_363, e4_366, e4_367, e4_370, e4_373, e4_374, e4_377, e4_378, e4_381, e4_384, e4_385, e4_388, e4_391, e4_392, e4_395, e4_396, e4_399, e4_400, e4_403, e4_404, e4_407, e4_410, e4_411, e4_414, e4_415, e4_418, e4_421, e4_422, e4_425, e4_428, e4_429, e4_432, e4_433, e4_436, e4_439, e4_440, e4_443, e4_446, e4_447, e4_450, e4_451, e4_454, e4_457, e4_458, e4_461, e4_464, e4_465, e4_468, e4_469, e4_472, e4_473, e4_476, e4_477, e4_480, e4_483, e4_484, e4_487, e4_488, e4_491, e4_492, e4_495, e4_496, e4_499, e4_502, e4_503, e4_506, e4_507, e4_510, e4_513, e4_514, e4_517, e4_520, e4_521, e4_524, e4_525, e4_528, e4_529, e4_532, e4_533, e4_536, e4_539, e4_540, e4_543, e4_544, e4_547, e4_548, e4_551, e4_552, e4_555, e4_558, e4_559, e4_562, e4_563, e4_566, e4_569, e4_570, e4_573, e4_576, e4_577, e4_580, e4_581, e4_584, e4_585, e4_588, e4_589, e4_592, e4_595, e4_596, e4_599, e4_600, e4_603, e4_604, e4_607, e4_608, e4_611, e4_614, e4_615, e4_618, e4_619, e4_622, e4_625, e4_626, e4_629, e4_632, ow_4, Int32.reduceOfInt, Int32.reduceOfNat, Int32.reduceToNatClampNeg, Int32.reduceLT, Int32.reduceLE, Int32.reduceAdd, Int32.reduceSub, Int32.reduceMul, Int64.reduceOfNat, Int64.reduceOfInt, Nat.reduceLeDiff, Nat.reduceLT, Nat.reduceEqDiff, Nat.reduceSub, cs_0, cs_1, cs_2, cs_3, cs_4, cs_5, cs_6, cs_7, cs_8, or_false, false_or, not_false_eq_true, and_true, true_and, if_true, if_false, List.length_cons, List.length_nil, List.getElem?_cons_succ, List.getElem?_cons_zero, List.set_cons_succ, List.set_cons_zero, reduceIte, d_G, d_R, s_aload, s_aload_n, s_iload, s_iload_n, s_lload, s_lload_n, s_istore, s_istore_n, s_astore, s_astoreN, s_astore_n, s_astore_nN, s_lstore, s_lstore_n, s_iinc, s_iconst, s_bipush, s_sipush, s_lconst, s_ldc2_w, s_aconst_null, s_dupA, s_dupI, s_dup2, s_iadd, s_isub, s_imul, s_iand, s_ior, s_ixor, s_ishl, s_ishr, s_iushr, s_ineg, s_idiv, s_irem, s_ladd, s_lsub, s_lmul, s_land, s_lor, s_lxor, s_ldiv, s_lshl, s_lshr, s_lushr, s_i2l, s_l2i, s_lcmp, s_goto, s_ieq, s_ine, s_ilt, s_ige, s_igt, s_ile, s_zeq, s_zne, s_zlt, s_zge, s_zgt, s_zle, s_ifnull, s_ifnullN, s_ifnonnull, s_ifnonnullN, s_tableswitch, s_lookupswitch, s_getfield, s_putfield, s_getstatic, s_iaload, s_laload, s_baload, s_aaload, s_iastore, s_lastore, s_bastore, s_aastore, s_arraylength, s_newI, s_newJ, s_newZ, s_anewarray, s_new, s_copy, s_max, s_min, s_invokestatic, s_objinit, s_invokespecial, kf_isr_r, s_invokevirtual, s_ireturn, s_lreturn, s_areturn, s_areturnN, s_return, lI_0, lI_s, lJ_0, lJ_s, lA_0, lA_0N, lA_s, lS1_0, lS1_1, lS1_2, lS2_0, lS2_1, lS2_2, lK_n, lK_i, lK_j, lK_a, lK_N, d_C', kf_w_0, kf_w_i, kf_w_a, kf_w_n, kf_w_j, c_0, c_1, c_2, c_3, c_4, c_5, c_6, tl_0, tl_1, Option.bind_some, Option.bind_none, Option.map_some, Nat.reduceAdd, Nat.reduceMul, Nat.reduceDiv, Nat.reduceMod, Int.reduceToNat, Fin.val_zero, Fin.isValue, Fin.val_one, Fin.val_two, fv_0, fv_1, fv_2, fv_3, fw_0, fw_1, d_ite, true_or, or_true, and_false, false_and, or_self, and_self, ow_16, gc0, rc0, gp0, gq0, gc1, rc1, gp1, gq1, gc2, rc2, gp2, gq2, gc3, rc3, gp3, gq3, gc4, rc4, gp4, gq4, gc5, rc5, gp5, gq5, gc6, rc6, gp6, gq6, gc7, rc7, gp7, gq7, gc8, rc8, gp8, gq8, gc9, rc9, gp9, gq9, gc10, rc10, gp10, gq10, gc11, rc11, gp11, gq11, gc12, rc12, gp12, gq12, gc13, rc13, gp13, gq13, gc14, rc14, gp14, gq14, gc15, rc15, gp15, gq15, gc16, rc16, gc17, rc17, gc18, rc18, gc19, rc19, gc20, rc20, gc21, rc21, gc22, rc22, gc23, rc23, gc24, rc24, gc25, rc25, gc26, rc26, gt26, gc27, rc27, gt27, gc28, rc28, gt28, gc29, rc29, gt29, gc30, rc30, gt30, gc31, rc31, gt31, gc32, rc32, gt32, gc33, rc33, gt33, gc34, rc34, gt34, gc35, rc35, gt35, k1, k2, k3, k4, k5, k6, k7, k8, k9, k10, k11, k12, k13, k14, k15, k16, k17, k18, k19, k20, k21, k22, k23, k24, k25, k26, k27, k28, k29, k30, k31, k32, k33, k34, k35]
  · unfold bco; omega
  · unfold bco; omega
  · unfold bco; omega
  · refine stf_e u29 ?_
    simp only [iA, gA]
    rw [← hx1, ← hy1, ← hz1, ← hx2, ← hy2, ← hz2]
    exact rg1 (x1 * y2 + x2 * y1) (y1 * y2) (x1 * z2 + x2 * z1) cB (z1 * z2) (y1 * z2 + y2 * z1) (x1 * x2)
  · refine stf_e u32 ?_
    simp only [iA, gA]
    rw [← hx1, ← hy1, ← hz1, ← hx2, ← hy2, ← hz2]
    exact rg2 (x1 * y2 + x2 * y1) (y1 * y2) (x1 * z2 + x2 * z1) cB (z1 * z2) (y1 * z2 + y2 * z1) (x1 * x2)
  · refine stf_e u35 ?_
    simp only [iA, gA]
    rw [← hx1, ← hy1, ← hz1, ← hx2, ← hy2, ← hz2]
    exact rg3 (x1 * y2 + x2 * y1) (y1 * y2) (x1 * z2 + x2 * z1) cB (z1 * z2) (y1 * z2 + y2 * z1) (x1 * x2)
