/-! longs as integers -/
def i64 (a : Int64) (v B : Int) : Prop := a.toInt = v ∧ -B ≤ v ∧ v ≤ B
theorem i64_wk {a : Int64} {v B C : Int} (h : i64 a v B) (hB : B ≤ C) : i64 a v C := ⟨h.1, by have := h.2; omega, by have := h.2; omega⟩
theorem i64_ad {a b : Int64} {v w B C : Int} (h1 : i64 a v B) (h2 : i64 b w C) (hB : B + C < 9223372036854775808) : i64 (a + b) (v + w) (B + C) := by
  obtain ⟨e1, l1, u1⟩ := h1
  obtain ⟨e2, l2, u2⟩ := h2
  refine ⟨?_, by omega, by omega⟩
  rw [Int64.toInt_add, e1, e2]
  exact Int.bmod_eq_of_le_mul_two (by omega) (by omega)
theorem mb {v w B C : Int} (h1 : -B ≤ v) (h2 : v ≤ B) (h3 : -C ≤ w) (h4 : w ≤ C) : -(B * C) ≤ v * w ∧ v * w ≤ B * C := by
  have a1 : v.natAbs ≤ B.natAbs := by omega
  have a2 : w.natAbs ≤ C.natAbs := by omega
  have a3 := Nat.mul_le_mul a1 a2
  rw [← Int.natAbs_mul, ← Int.natAbs_mul] at a3
  have a4 : 0 ≤ B * C := Int.mul_nonneg (by omega) (by omega)
  omega
theorem i64_ml {a b : Int64} {v w B C D : Int} (h1 : i64 a v B) (h2 : i64 b w C) (hD : B * C ≤ D) (hB : D < 9223372036854775808) : i64 (a * b) (v * w) D := by
  obtain ⟨e1, l1, u1⟩ := h1
  obtain ⟨e2, l2, u2⟩ := h2
  have q := mb l1 u1 l2 u2
  refine ⟨?_, by omega, by omega⟩
  rw [Int64.toInt_mul, e1, e2]
  exact Int.bmod_eq_of_le_mul_two (by omega) (by omega)
theorem sr28_ok (a : Int64) : (sr28 a).toInt = a.toInt / 268435456 := by
  unfold sr28
  rw [← Int64.toInt_toBitVec, Int64.toBitVec_shiftRight, BitVec.toInt_sshiftRight', show (((28 : Int32).toInt64 &&& 63).toBitVec.smod 64).toNat = 28 from by decide, Int.shiftRight_eq_div_pow, Int64.toInt_toBitVec]
  rfl
theorem i64_sr {a : Int64} {v B C : Int} (h : i64 a v B) (hC : B ≤ C * 268435456) : i64 (sr28 a) (v / 268435456) C := by
  obtain ⟨e, l, u⟩ := h
  refine ⟨by rw [sr28_ok, e], by omega, by omega⟩
theorem mk28_ok (a : Int64) : (a &&& 268435455).toInt = a.toInt % 268435456 := by
  have hN : (a.toBitVec &&& (268435455 : Int64).toBitVec).toNat = a.toBitVec.toNat % 268435456 := by
    rw [BitVec.toNat_and]
    exact Nat.and_two_pow_sub_one_eq_mod _ 28
  rw [← Int64.toInt_toBitVec, Int64.toBitVec_and, BitVec.toInt_eq_toNat_of_lt (by rw [hN]; omega), hN, ← Int64.toInt_toBitVec, BitVec.toInt_eq_toNat_cond]
  split <;> omega
theorem mq_ok (a b : Int64) : (mq a b).toInt = a.toInt * b.toInt % 268435456 := by
  unfold mq
  rw [mk28_ok, Int64.toInt_mul, Int.bmod_eq_emod]
  split <;> omega
def t9 (t : T9) (s0 s1 s2 s3 s4 s5 s6 s7 s8 B : Int) : Prop := i64 t.1 s0 B ∧ i64 t.2.1 s1 B ∧ i64 t.2.2.1 s2 B ∧ i64 t.2.2.2.1 s3 B ∧ i64 t.2.2.2.2.1 s4 B ∧ i64 t.2.2.2.2.2.1 s5 B ∧ i64 t.2.2.2.2.2.2.1 s6 B ∧ i64 t.2.2.2.2.2.2.2.1 s7 B ∧ i64 t.2.2.2.2.2.2.2.2 s8 B
set_option maxHeartbeats 4000000 in
theorem ms_ok {b0 b1 b2 b3 b4 b5 b6 b7 b8 b9 m0 m1 m2 m3 m4 m5 m6 m7 m8 m9 inv x : Int64} {t : T9} {s0 s1 s2 s3 s4 s5 s6 s7 s8 e0 e1 e2 e3 e4 e5 e6 e7 e8 e9 f0 f1 f2 f3 f4 f5 f6 f7 f8 f9 io xi B : Int} (hb0 : i64 b0 e0 268435456) (hb1 : i64 b1 e1 268435456) (hb2 : i64 b2 e2 268435456) (hb3 : i64 b3 e3 268435456) (hb4 : i64 b4 e4 268435456) (hb5 : i64 b5 e5 268435456) (hb6 : i64 b6 e6 268435456) (hb7 : i64 b7 e7 268435456) (hb8 : i64 b8 e8 268435456) (hb9 : i64 b9 e9 268435456) (hm0 : i64 m0 f0 268435456) (hm1 : i64 m1 f1 268435456) (hm2 : i64 m2 f2 268435456) (hm3 : i64 m3 f3 268435456) (hm4 : i64 m4 f4 268435456) (hm5 : i64 m5 f5 268435456) (hm6 : i64 m6 f6 268435456) (hm7 : i64 m7 f7 268435456) (hm8 : i64 m8 f8 268435456) (hm9 : i64 m9 f9 268435456) (hi : inv.toInt = io) (hinv : (io * f0 + 1) % 268435456 = 0) (hx : i64 x xi 268435456) (ht : t9 t s0 s1 s2 s3 s4 s5 s6 s7 s8 B) (hB0 : 0 ≤ B) (hB : B ≤ 1297037311157993472) : ∃ r0 r1 r2 r3 r4 r5 r6 r7 r8 q : Int, t9 (ms b0 b1 b2 b3 b4 b5 b6 b7 b8 b9 m0 m1 m2 m3 m4 m5 m6 m7 m8 m9 inv x t) r0 r1 r2 r3 r4 r5 r6 r7 r8 (B + 144115256795332608) ∧ 0 ≤ q ∧ q < 268435456 ∧ 268435456 * (r0 + 268435456 * r1 + 72057594037927936 * r2 + 19342813113834066795298816 * r3 + 5192296858534827628530496329220096 * r4 + 1393796574908163946345982392040522594123776 * r5 + 374144419156711147060143317175368453031918731001856 * r6 + 100433627766186892221372630771322662657637687111424552206336 * r7 + 26959946667150639794667015087019630673637144422540572481103610249216 * r8) = s0 + 268435456 * s1 + 72057594037927936 * s2 + 19342813113834066795298816 * s3 + 5192296858534827628530496329220096 * s4 + 1393796574908163946345982392040522594123776 * s5 + 374144419156711147060143317175368453031918731001856 * s6 + 100433627766186892221372630771322662657637687111424552206336 * s7 + 26959946667150639794667015087019630673637144422540572481103610249216 * s8 + (1 * (xi * e0) + 268435456 * (xi * e1) + 72057594037927936 * (xi * e2) + 19342813113834066795298816 * (xi * e3) + 5192296858534827628530496329220096 * (xi * e4) + 1393796574908163946345982392040522594123776 * (xi * e5) + 374144419156711147060143317175368453031918731001856 * (xi * e6) + 100433627766186892221372630771322662657637687111424552206336 * (xi * e7) + 26959946667150639794667015087019630673637144422540572481103610249216 * (xi * e8) + 7237005577332262213973186563042994240829374041602535252466099000494570602496 * (xi * e9)) + (1 * (q * f0) + 268435456 * (q * f1) + 72057594037927936 * (q * f2) + 19342813113834066795298816 * (q * f3) + 5192296858534827628530496329220096 * (q * f4) + 1393796574908163946345982392040522594123776 * (q * f5) + 374144419156711147060143317175368453031918731001856 * (q * f6) + 100433627766186892221372630771322662657637687111424552206336 * (q * f7) + 26959946667150639794667015087019630673637144422540572481103610249216 * (q * f8) + 7237005577332262213973186563042994240829374041602535252466099000494570602496 * (q * f9)) := by
  obtain ⟨t0, t1, t2, t3, t4, t5, t6, t7, t8⟩ := t
  obtain ⟨h0, h1, h2, h3, h4, h5, h6, h7, h8⟩ := ht
  simp only at h0 h1 h2 h3 h4 h5 h6 h7 h8
  have x0 := i64_ml (D := 72057594037927936) hx hb0 (by decide) (by decide)
  have x1 := i64_ml (D := 72057594037927936) hx hb1 (by decide) (by decide)
  have x2 := i64_ml (D := 72057594037927936) hx hb2 (by decide) (by decide)
  have x3 := i64_ml (D := 72057594037927936) hx hb3 (by decide) (by decide)
  have x4 := i64_ml (D := 72057594037927936) hx hb4 (by decide) (by decide)
  have x5 := i64_ml (D := 72057594037927936) hx hb5 (by decide) (by decide)
  have x6 := i64_ml (D := 72057594037927936) hx hb6 (by decide) (by decide)
  have x7 := i64_ml (D := 72057594037927936) hx hb7 (by decide) (by decide)
  have x8 := i64_ml (D := 72057594037927936) hx hb8 (by decide) (by decide)
  have x9 := i64_ml (D := 72057594037927936) hx hb9 (by decide) (by decide)
  have lo := i64_ad h0 x0 (by omega)
  obtain ⟨q, hq⟩ : ∃ q, q = (s0 + xi * e0) * io % 268435456 := ⟨_, rfl⟩
  have hq0 : 0 ≤ q := by rw [hq]; exact Int.emod_nonneg _ (by decide)
  have hq1 : q < 268435456 := by rw [hq]; exact Int.emod_lt_of_pos _ (by decide)
  have qq : i64 (mq (t0 + x * b0) inv) q 268435456 := ⟨by rw [mq_ok, lo.1, hi, hq], by omega, by omega⟩
  have y0 := i64_ml (D := 72057594037927936) qq hm0 (by decide) (by decide)
  have y1 := i64_ml (D := 72057594037927936) qq hm1 (by decide) (by decide)
  have y2 := i64_ml (D := 72057594037927936) qq hm2 (by decide) (by decide)
  have y3 := i64_ml (D := 72057594037927936) qq hm3 (by decide) (by decide)
  have y4 := i64_ml (D := 72057594037927936) qq hm4 (by decide) (by decide)
  have y5 := i64_ml (D := 72057594037927936) qq hm5 (by decide) (by decide)
  have y6 := i64_ml (D := 72057594037927936) qq hm6 (by decide) (by decide)
  have y7 := i64_ml (D := 72057594037927936) qq hm7 (by decide) (by decide)
  have y8 := i64_ml (D := 72057594037927936) qq hm8 (by decide) (by decide)
  have y9 := i64_ml (D := 72057594037927936) qq hm9 (by decide) (by decide)
  have ca := i64_sr (C := 34359738368) (i64_ad lo y0 (by omega)) (by omega)
  have hex : (s0 + xi * e0 + q * f0) % 268435456 = 0 := by
    have hq2 : q = (s0 + xi * e0) * io - 268435456 * ((s0 + xi * e0) * io / 268435456) := by
      have := Int.emod_add_mul_ediv ((s0 + xi * e0) * io) 268435456
      omega
    have hi2 : io * f0 = 268435456 * ((io * f0 + 1) / 268435456) - 1 := by
      have := Int.emod_add_mul_ediv (io * f0 + 1) 268435456
      omega
    have e1 : s0 + xi * e0 + q * f0 = 268435456 * ((s0 + xi * e0) * ((io * f0 + 1) / 268435456) - (s0 + xi * e0) * io / 268435456 * f0) := by
      generalize (s0 + xi * e0) * io / 268435456 = k at *
      generalize (io * f0 + 1) / 268435456 = c at *
      generalize s0 + xi * e0 = l at *
      rw [hq2]
      have e2 : l * io * f0 = l * (268435456 * c - 1) := by rw [← hi2, Int.mul_assoc]
      rw [Int.sub_mul, e2]
      grind
    rw [e1]
    exact Int.mul_emod_right _ _
  refine ⟨s1 + xi * e1 + q * f1 + (s0 + xi * e0 + q * f0) / 268435456, s2 + xi * e2 + q * f2, s3 + xi * e3 + q * f3, s4 + xi * e4 + q * f4, s5 + xi * e5 + q * f5, s6 + xi * e6 + q * f6, s7 + xi * e7 + q * f7, s8 + xi * e8 + q * f8, xi * e9 + q * f9, q, ⟨?_, ?_, ?_, ?_, ?_, ?_, ?_, ?_, ?_⟩, hq0, hq1, ?_⟩
  · exact i64_wk (i64_ad (i64_ad (i64_ad h1 x1 (by omega)) y1 (by omega)) ca (by omega)) (by omega)
  · exact i64_wk (i64_ad (i64_ad h2 x2 (by omega)) y2 (by omega)) (by omega)
  · exact i64_wk (i64_ad (i64_ad h3 x3 (by omega)) y3 (by omega)) (by omega)
  · exact i64_wk (i64_ad (i64_ad h4 x4 (by omega)) y4 (by omega)) (by omega)
  · exact i64_wk (i64_ad (i64_ad h5 x5 (by omega)) y5 (by omega)) (by omega)
  · exact i64_wk (i64_ad (i64_ad h6 x6 (by omega)) y6 (by omega)) (by omega)
  · exact i64_wk (i64_ad (i64_ad h7 x7 (by omega)) y7 (by omega)) (by omega)
  · exact i64_wk (i64_ad (i64_ad h8 x8 (by omega)) y8 (by omega)) (by omega)
  · exact i64_wk (i64_ad x9 y9 (by omega)) (by omega)
  · omega
def av (la : List Int64) (i : Nat) : Nat → Int
  | 0 => 0
  | n + 1 => (la.getD i 0).toInt + 268435456 * av la (i + 1) n
set_option maxHeartbeats 4000000 in
theorem mit_ok {b0 b1 b2 b3 b4 b5 b6 b7 b8 b9 m0 m1 m2 m3 m4 m5 m6 m7 m8 m9 inv : Int64} {e0 e1 e2 e3 e4 e5 e6 e7 e8 e9 f0 f1 f2 f3 f4 f5 f6 f7 f8 f9 io be mu : Int} (hb0 : i64 b0 e0 268435456) (hb1 : i64 b1 e1 268435456) (hb2 : i64 b2 e2 268435456) (hb3 : i64 b3 e3 268435456) (hb4 : i64 b4 e4 268435456) (hb5 : i64 b5 e5 268435456) (hb6 : i64 b6 e6 268435456) (hb7 : i64 b7 e7 268435456) (hb8 : i64 b8 e8 268435456) (hb9 : i64 b9 e9 268435456) (hm0 : i64 m0 f0 268435456) (hm1 : i64 m1 f1 268435456) (hm2 : i64 m2 f2 268435456) (hm3 : i64 m3 f3 268435456) (hm4 : i64 m4 f4 268435456) (hm5 : i64 m5 f5 268435456) (hm6 : i64 m6 f6 268435456) (hm7 : i64 m7 f7 268435456) (hm8 : i64 m8 f8 268435456) (hm9 : i64 m9 f9 268435456) (hi : inv.toInt = io) (hinv : (io * f0 + 1) % 268435456 = 0) (hbe : be = e0 + 268435456 * e1 + 72057594037927936 * e2 + 19342813113834066795298816 * e3 + 5192296858534827628530496329220096 * e4 + 1393796574908163946345982392040522594123776 * e5 + 374144419156711147060143317175368453031918731001856 * e6 + 100433627766186892221372630771322662657637687111424552206336 * e7 + 26959946667150639794667015087019630673637144422540572481103610249216 * e8 + 7237005577332262213973186563042994240829374041602535252466099000494570602496 * e9) (hmu : mu = f0 + 268435456 * f1 + 72057594037927936 * f2 + 19342813113834066795298816 * f3 + 5192296858534827628530496329220096 * f4 + 1393796574908163946345982392040522594123776 * f5 + 374144419156711147060143317175368453031918731001856 * f6 + 100433627766186892221372630771322662657637687111424552206336 * f7 + 26959946667150639794667015087019630673637144422540572481103610249216 * f8 + 7237005577332262213973186563042994240829374041602535252466099000494570602496 * f9) {la : List Int64} (hla : ∀ i, i64 (la.getD i 0) (la.getD i 0).toInt 268435456) : ∀ (n i : Nat) (t : T9) (s0 s1 s2 s3 s4 s5 s6 s7 s8 B : Int), i + n = 10 → B = i * 144115256795332608 → t9 t s0 s1 s2 s3 s4 s5 s6 s7 s8 B → ∃ r0 r1 r2 r3 r4 r5 r6 r7 r8 Q : Int, t9 (mit b0 b1 b2 b3 b4 b5 b6 b7 b8 b9 m0 m1 m2 m3 m4 m5 m6 m7 m8 m9 inv la i n t) r0 r1 r2 r3 r4 r5 r6 r7 r8 1441152567953326080 ∧ 0 ≤ Q ∧ Q < 268435456 ^ n ∧ (r0 + 268435456 * r1 + 72057594037927936 * r2 + 19342813113834066795298816 * r3 + 5192296858534827628530496329220096 * r4 + 1393796574908163946345982392040522594123776 * r5 + 374144419156711147060143317175368453031918731001856 * r6 + 100433627766186892221372630771322662657637687111424552206336 * r7 + 26959946667150639794667015087019630673637144422540572481103610249216 * r8) * 268435456 ^ n = s0 + 268435456 * s1 + 72057594037927936 * s2 + 19342813113834066795298816 * s3 + 5192296858534827628530496329220096 * s4 + 1393796574908163946345982392040522594123776 * s5 + 374144419156711147060143317175368453031918731001856 * s6 + 100433627766186892221372630771322662657637687111424552206336 * s7 + 26959946667150639794667015087019630673637144422540572481103610249216 * s8 + av la i n * be + Q * mu := by
  intro n
  induction n with
  | zero =>
    intro i t s0 s1 s2 s3 s4 s5 s6 s7 s8 B hin hB ht
    have hi : i = 10 := by omega
    subst hi
    refine ⟨s0, s1, s2, s3, s4, s5, s6, s7, s8, 0, ?_, by decide, by decide, ?_⟩
    · rw [hB] at ht
      exact ht
    · simp only [av, Int.pow_zero]
      omega
  | succ n ih =>
    intro i t s0 s1 s2 s3 s4 s5 s6 s7 s8 B hin hB ht
    obtain ⟨r0, r1, r2, r3, r4, r5, r6, r7, r8, q, ht2, q0, q1, hv⟩ := ms_ok hb0 hb1 hb2 hb3 hb4 hb5 hb6 hb7 hb8 hb9 hm0 hm1 hm2 hm3 hm4 hm5 hm6 hm7 hm8 hm9 hi hinv (hla i) ht (by omega) (by omega)
    obtain ⟨z0, z1, z2, z3, z4, z5, z6, z7, z8, Q, ht3, Q0, Q1, hv2⟩ := ih (i + 1) _ r0 r1 r2 r3 r4 r5 r6 r7 r8 _ (by omega) (by rw [hB]; omega) ht2
    refine ⟨z0, z1, z2, z3, z4, z5, z6, z7, z8, q + 268435456 * Q, ht3, by omega, by rw [Int.pow_succ]; omega, ?_⟩
    have hb2 : 1 * ((la.getD i 0).toInt * e0) + 268435456 * ((la.getD i 0).toInt * e1) + 72057594037927936 * ((la.getD i 0).toInt * e2) + 19342813113834066795298816 * ((la.getD i 0).toInt * e3) + 5192296858534827628530496329220096 * ((la.getD i 0).toInt * e4) + 1393796574908163946345982392040522594123776 * ((la.getD i 0).toInt * e5) + 374144419156711147060143317175368453031918731001856 * ((la.getD i 0).toInt * e6) + 100433627766186892221372630771322662657637687111424552206336 * ((la.getD i 0).toInt * e7) + 26959946667150639794667015087019630673637144422540572481103610249216 * ((la.getD i 0).toInt * e8) + 7237005577332262213973186563042994240829374041602535252466099000494570602496 * ((la.getD i 0).toInt * e9) = (la.getD i 0).toInt * be := by rw [hbe]; simp only [Int.mul_add, Int.mul_left_comm _ (_ : Int)]; grind
    have hm2 : 1 * (q * f0) + 268435456 * (q * f1) + 72057594037927936 * (q * f2) + 19342813113834066795298816 * (q * f3) + 5192296858534827628530496329220096 * (q * f4) + 1393796574908163946345982392040522594123776 * (q * f5) + 374144419156711147060143317175368453031918731001856 * (q * f6) + 100433627766186892221372630771322662657637687111424552206336 * (q * f7) + 26959946667150639794667015087019630673637144422540572481103610249216 * (q * f8) + 7237005577332262213973186563042994240829374041602535252466099000494570602496 * (q * f9) = q * mu := by rw [hmu]; grind
    rw [hb2, hm2] at hv
    show _ = _ + ((la.getD i 0).toInt + 268435456 * av la (i + 1) n) * be + _
    rw [Int.pow_succ, ← Int.mul_assoc, hv2]
    generalize av la (i + 1) n = A at *
    generalize (la.getD i 0).toInt = X at *
    generalize s0 + 268435456 * s1 + 72057594037927936 * s2 + 19342813113834066795298816 * s3 + 5192296858534827628530496329220096 * s4 + 1393796574908163946345982392040522594123776 * s5 + 374144419156711147060143317175368453031918731001856 * s6 + 100433627766186892221372630771322662657637687111424552206336 * s7 + 26959946667150639794667015087019630673637144422540572481103610249216 * s8 = VS at *
    generalize r0 + 268435456 * r1 + 72057594037927936 * r2 + 19342813113834066795298816 * r3 + 5192296858534827628530496329220096 * r4 + 1393796574908163946345982392040522594123776 * r5 + 374144419156711147060143317175368453031918731001856 * r6 + 100433627766186892221372630771322662657637687111424552206336 * r7 + 26959946667150639794667015087019630673637144422540572481103610249216 * r8 = VR at *
    clear ih hbe hmu hb2 hm2
    grind
/-- ten limbs, the lowest first; the top one has the sign -/
def lmb (l : List Int64) (v : Int) : Prop := ∃ l0 l1 l2 l3 l4 l5 l6 l7 l8 l9 : Int64, l = [l0, l1, l2, l3, l4, l5, l6, l7, l8, l9] ∧ (0 ≤ l0.toInt ∧ l0.toInt < 268435456) ∧ (0 ≤ l1.toInt ∧ l1.toInt < 268435456) ∧ (0 ≤ l2.toInt ∧ l2.toInt < 268435456) ∧ (0 ≤ l3.toInt ∧ l3.toInt < 268435456) ∧ (0 ≤ l4.toInt ∧ l4.toInt < 268435456) ∧ (0 ≤ l5.toInt ∧ l5.toInt < 268435456) ∧ (0 ≤ l6.toInt ∧ l6.toInt < 268435456) ∧ (0 ≤ l7.toInt ∧ l7.toInt < 268435456) ∧ (0 ≤ l8.toInt ∧ l8.toInt < 268435456) ∧ v = l0.toInt + 268435456 * l1.toInt + 72057594037927936 * l2.toInt + 19342813113834066795298816 * l3.toInt + 5192296858534827628530496329220096 * l4.toInt + 1393796574908163946345982392040522594123776 * l5.toInt + 374144419156711147060143317175368453031918731001856 * l6.toInt + 100433627766186892221372630771322662657637687111424552206336 * l7.toInt + 26959946667150639794667015087019630673637144422540572481103610249216 * l8.toInt + 7237005577332262213973186563042994240829374041602535252466099000494570602496 * l9.toInt
set_option maxHeartbeats 4000000 in
theorem mca_ok {t : T9} {s0 s1 s2 s3 s4 s5 s6 s7 s8 : Int} (ht : t9 t s0 s1 s2 s3 s4 s5 s6 s7 s8 1441152567953326080) : lmb (mca t) (s0 + 268435456 * s1 + 72057594037927936 * s2 + 19342813113834066795298816 * s3 + 5192296858534827628530496329220096 * s4 + 1393796574908163946345982392040522594123776 * s5 + 374144419156711147060143317175368453031918731001856 * s6 + 100433627766186892221372630771322662657637687111424552206336 * s7 + 26959946667150639794667015087019630673637144422540572481103610249216 * s8) := by
  obtain ⟨t0, t1, t2, t3, t4, t5, t6, t7, t8⟩ := t
  obtain ⟨h0, h1, h2, h3, h4, h5, h6, h7, h8⟩ := ht
  simp only at h0 h1 h2 h3 h4 h5 h6 h7 h8
  have w1 := i64_wk (C := 4611686018427387904) (i64_ad h1 (i64_sr (C := 17179869184) h0 (by decide)) (by decide)) (by decide)
  have w2 := i64_wk (C := 4611686018427387904) (i64_ad h2 (i64_sr (C := 17179869184) w1 (by decide)) (by decide)) (by decide)
  have w3 := i64_wk (C := 4611686018427387904) (i64_ad h3 (i64_sr (C := 17179869184) w2 (by decide)) (by decide)) (by decide)
  have w4 := i64_wk (C := 4611686018427387904) (i64_ad h4 (i64_sr (C := 17179869184) w3 (by decide)) (by decide)) (by decide)
  have w5 := i64_wk (C := 4611686018427387904) (i64_ad h5 (i64_sr (C := 17179869184) w4 (by decide)) (by decide)) (by decide)
  have w6 := i64_wk (C := 4611686018427387904) (i64_ad h6 (i64_sr (C := 17179869184) w5 (by decide)) (by decide)) (by decide)
  have w7 := i64_wk (C := 4611686018427387904) (i64_ad h7 (i64_sr (C := 17179869184) w6 (by decide)) (by decide)) (by decide)
  have w8 := i64_wk (C := 4611686018427387904) (i64_ad h8 (i64_sr (C := 17179869184) w7 (by decide)) (by decide)) (by decide)
  have e0 := h0.1
  have e1 := w1.1
  have e2 := w2.1
  have e3 := w3.1
  have e4 := w4.1
  have e5 := w5.1
  have e6 := w6.1
  have e7 := w7.1
  have e8 := w8.1
  refine ⟨_, _, _, _, _, _, _, _, _, _, rfl, ?_⟩
  simp only [mk28_ok, sr28_ok]
  rw [e0, e1, e2, e3, e4, e5, e6, e7, e8]
  clear w1 w2 w3 w4 w5 w6 w7 w8 h0 h1 h2 h3 h4 h5 h6 h7 h8 e0 e1 e2 e3 e4 e5 e6 e7 e8
  obtain ⟨c1, hc1⟩ : ∃ c, c = s1 + s0 / 268435456 := ⟨_, rfl⟩
  obtain ⟨c2, hc2⟩ : ∃ c, c = s2 + c1 / 268435456 := ⟨_, rfl⟩
  obtain ⟨c3, hc3⟩ : ∃ c, c = s3 + c2 / 268435456 := ⟨_, rfl⟩
  obtain ⟨c4, hc4⟩ : ∃ c, c = s4 + c3 / 268435456 := ⟨_, rfl⟩
  obtain ⟨c5, hc5⟩ : ∃ c, c = s5 + c4 / 268435456 := ⟨_, rfl⟩
  obtain ⟨c6, hc6⟩ : ∃ c, c = s6 + c5 / 268435456 := ⟨_, rfl⟩
  obtain ⟨c7, hc7⟩ : ∃ c, c = s7 + c6 / 268435456 := ⟨_, rfl⟩
  obtain ⟨c8, hc8⟩ : ∃ c, c = s8 + c7 / 268435456 := ⟨_, rfl⟩
  rw [← hc1]
  rw [← hc2]
  rw [← hc3]
  rw [← hc4]
  rw [← hc5]
  rw [← hc6]
  rw [← hc7]
  rw [← hc8]
  omega
