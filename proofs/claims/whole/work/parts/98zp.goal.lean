/-! The room, and the goal -/
section GOAL
variable {M : kf_M} {fs : List Value} {tp ou : List Int32} {tl ol n w : Nat} {V : Vs} {tc fl g : Int32} {ks : List Ky} {wt : List Nat} {wd : List Int32} {W : Ws} {G : Gs} {xs : List Int32} {i : Nat}
def SB (M : kf_M) (a : Nat) : Prop := ∃ ob, M[a]? = some ob ∧ oSz ob ≤ 700
theorem sbI {a n : Nat} {ys : List Int32} (h : ArI M a n ys) (hn : n ≤ 700) : SB M a := ⟨_, h.1, by show ys.length ≤ 700; rw [h.2]; exact hn⟩
theorem sbJ {a : Nat} (h : Jar M a) : SB M a := by
  obtain ⟨l, h1, h2⟩ := h
  exact ⟨_, h1, by show l.length ≤ 700; omega⟩
theorem sbO {a c : Nat} {fs : List Value} (h : M[a]? = some (oO c fs)) (hn : fs.length ≤ 700) : SB M a := ⟨_, h, hn⟩
theorem sbR {a c : Nat} {rs : List (Option Nat)} (h : M[a]? = some (oR c rs)) (hn : rs.length ≤ 700) : SB M a := ⟨_, h, hn⟩
theorem sbA {a : Nat} {ys : List Int32} (h : M[a]? = some (oI ys)) (hn : ys.length ≤ 700) : SB M a := ⟨_, h, hn⟩
theorem sbZ {a : Nat} {ys : List Int32} (h : M[a]? = some (oZ ys)) (hn : ys.length ≤ 700) : SB M a := ⟨_, h, hn⟩
theorem sbP {a c : Nat} (h : PtJ M a) (hc : c < 4) : SB M (a + c) := by
  obtain ⟨h0, h1, h2, h3⟩ := h
  have : c = 0 ∨ c = 1 ∨ c = 2 ∨ c = 3 := by omega
  rcases this with e | e | e | e <;> subst e
  · exact sbO h0 (by show 3 ≤ 700; decide)
  · exact sbJ h1
  · exact sbJ h2
  · exact sbJ h3
theorem sbK {a c : Nat} (h : KyJ M a) (hc : c < 6) : SB M (a + c) := by
  obtain ⟨_, _, _, _, _, _, _, h0, h1, h2, h3, h4, h5⟩ := h
  have : c = 0 ∨ c = 1 ∨ c = 2 ∨ c = 3 ∨ c = 4 ∨ c = 5 := by omega
  rcases this with e | e | e | e | e | e <;> subst e
  · exact sbO h0 (by show 7 ≤ 700; decide)
  · exact sbI h1 (by decide)
  · exact sbI h2 (by decide)
  · exact sbI h3 (by decide)
  · exact sbI h4 (by decide)
  · exact sbI h5 (by decide)
theorem sbF {f c : Nat} {m : Int} (h : FldIs M f m) (hc : c < 6) : SB M (f + c) := by
  obtain ⟨h0, h2, ⟨_, h3, -⟩, ⟨_, h4, -⟩, h5⟩ := h
  obtain ⟨inv, g0, h1, -⟩ := h0
  have : c = 0 ∨ c = 1 ∨ c = 2 ∨ c = 3 ∨ c = 4 ∨ c = 5 := by omega
  rcases this with e | e | e | e | e | e <;> subst e
  · exact sbO g0 (by show 6 ≤ 700; decide)
  · exact sbJ h1.jar
  · exact sbJ h2.jar
  · exact sbJ h3.jar
  · exact sbJ h4.jar
  · exact sbJ h5
theorem sbH {a c : Nat} (h : HA M a) (hc : c < 3) : SB M (a + c) := by
  obtain ⟨s, ⟨h0, h1, h2⟩, h3, h4⟩ := h
  have : c = 0 ∨ c = 1 ∨ c = 2 := by omega
  rcases this with e | e | e <;> subst e
  · exact sbO h0 (by show 3 ≤ 700; decide)
  · exact sbA h1 (by omega)
  · exact sbA h2 (by omega)
theorem sbW {a cap c : Nat} {cs : List Int32} (h : RowIs M a cap cs) (hcap : cap ≤ 700) (hc : c < 2) : SB M (a + c) := by
  obtain ⟨bs, h0, h1, h2, -⟩ := h
  have : c = 0 ∨ c = 1 := by omega
  rcases this with e | e <;> subst e
  · exact sbO h0 (by show 2 ≤ 700; decide)
  · exact sbA h1 (by omega)
theorem szC (h : CI M tp ou V tc ks W G) (p0 : PtJ M 114) (hk : ∀ j, j < 10 → KyJ M (42 + 6 * j)) : ∀ a, 19 ≤ a → a ≤ 283 → SB M a := by
  obtain ⟨fl, σ, da, hs, sd, wd, b1, b2, ⟨⟨K, S, Z, I, J, it, pl, ⟨t0, t1, t2, t3, t4, t5, u1, u2, u3, u4, u5, -, -⟩, tr⟩, -⟩, ⟨b4, -⟩, b5, ⟨⟨v0, v1, v2, ⟨mc, v3⟩, v4, v5⟩, -⟩, ⟨r0, r1, r2, -⟩, b8, ⟨qf, qt, qs, ⟨q0, q1, q2, -⟩, -⟩, ⟨cf, own, dig, sig, s1, s2, ⟨s3, s4, -⟩, s5, s6, s7, s8, ⟨sr, s9⟩, -⟩, b11, b12, b13, b14, -⟩ := h
  obtain ⟨⟨c0, c1, ⟨cb, c2, -⟩, c3, c4, c5, c6, c7, c8, c9, c10, c11⟩, f1, ⟨g1, g2⟩, f2, y1, y2, y3, y4, y5, y6, y7, -⟩ := s2
  intro a h1 h2
  by_cases z1 : a ≤ 41
  · have : a = 19 ∨ a = 20 ∨ a = 21 ∨ a = 22 ∨ a = 23 ∨ a = 24 ∨ a = 25 ∨ a = 26 ∨ a = 27 ∨ a = 28 ∨ a = 29 ∨ a = 30 ∨ a = 31 ∨ a = 32 ∨ a = 33 ∨ a = 34 ∨ a = 35 ∨ a = 36 ∨ a = 37 ∨ a = 38 ∨ a = 39 ∨ a = 40 ∨ a = 41 := by omega
    rcases this with e | e | e | e | e | e | e | e | e | e | e | e | e | e | e | e | e | e | e | e | e | e | e <;> subst e
    · exact sbO b2 (by show 13 ≤ 700; decide)
    · exact sbO t0 (by show 8 ≤ 700; decide)
    · exact sbW (c := 0) tr (by decide) (by decide)
    · exact sbW (c := 1) tr (by decide) (by decide)
    · exact sbA t1 (by omega)
    · exact sbA t2 (by omega)
    · exact sbA t3 (by omega)
    · exact sbA t4 (by omega)
    · exact sbA t5 (by omega)
    · exact sbW (c := 0) b4 (by decide) (by decide)
    · exact sbW (c := 1) b4 (by decide) (by decide)
    · exact sbW (c := 0) b5 (by decide) (by decide)
    · exact sbW (c := 1) b5 (by decide) (by decide)
    · exact sbO v0 (by show 9 ≤ 700; decide)
    · exact sbH (c := 0) v5 (by decide)
    · exact sbH (c := 1) v5 (by decide)
    · exact sbH (c := 2) v5 (by decide)
    · exact sbI v1 (by decide)
    · exact sbI v2 (by decide)
    · exact sbI v3 (by decide)
    · exact sbI v4 (by decide)
    · exact sbO r0 (by show 2 ≤ 700; decide)
    · exact sbR r1 (by omega)
  by_cases z2 : a ≤ 101
  · have e : a = 42 + 6 * ((a - 42) / 6) + (a - 42) % 6 := by omega
    rw [e]
    exact sbK (hk _ (by omega)) (by omega)
  by_cases z3 : a ≤ 113
  · have : a = 102 ∨ a = 103 ∨ a = 104 ∨ a = 105 ∨ a = 106 ∨ a = 107 ∨ a = 108 ∨ a = 109 ∨ a = 110 ∨ a = 111 ∨ a = 112 ∨ a = 113 := by omega
    rcases this with e | e | e | e | e | e | e | e | e | e | e | e <;> subst e
    · exact sbO q0 (by show 3 ≤ 700; decide)
    · exact sbR q1 (by omega)
    · exact sbO s1 (by show 17 ≤ 700; decide)
    · exact sbO c0 (by show 12 ≤ 700; decide)
    · exact sbF (c := 0) f1 (by decide)
    · exact sbF (c := 1) f1 (by decide)
    · exact sbF (c := 2) f1 (by decide)
    · exact sbF (c := 3) f1 (by decide)
    · exact sbF (c := 4) f1 (by decide)
    · exact sbF (c := 5) f1 (by decide)
    · exact sbJ c2.jar
    · exact sbR g1 (by decide)
  by_cases z4 : a ≤ 177
  · have e : a = 113 + 1 + 4 * ((a - 114) / 4) + (a - 114) % 4 := by omega
    by_cases z : (a - 114) / 4 = 0
    · rw [e, z]
      exact sbP p0 (by omega)
    · rw [e]
      exact sbP (g2 _ (by omega) (by omega)).j (by omega)
  by_cases z5 : a ≤ 199
  · have : a = 178 ∨ a = 179 ∨ a = 180 ∨ a = 181 ∨ a = 182 ∨ a = 183 ∨ a = 184 ∨ a = 185 ∨ a = 186 ∨ a = 187 ∨ a = 188 ∨ a = 189 ∨ a = 190 ∨ a = 191 ∨ a = 192 ∨ a = 193 ∨ a = 194 ∨ a = 195 ∨ a = 196 ∨ a = 197 ∨ a = 198 ∨ a = 199 := by omega
    rcases this with e | e | e | e | e | e | e | e | e | e | e | e | e | e | e | e | e | e | e | e | e | e <;> subst e
    · exact sbJ c3
    · exact sbJ c4
    · exact sbJ c5
    · exact sbJ c6
    · exact sbJ c7
    · exact sbJ c8
    · exact sbJ c9
    · exact sbJ c10
    · exact sbJ c11
    · exact sbF (c := 0) f2 (by decide)
    · exact sbF (c := 1) f2 (by decide)
    · exact sbF (c := 2) f2 (by decide)
    · exact sbF (c := 3) f2 (by decide)
    · exact sbF (c := 4) f2 (by decide)
    · exact sbF (c := 5) f2 (by decide)
    · exact sbH (c := 0) s5 (by decide)
    · exact sbH (c := 1) s5 (by decide)
    · exact sbH (c := 2) s5 (by decide)
    · exact sbI s6 (by decide)
    · exact sbI s7 (by decide)
    · exact sbI s8 (by decide)
    · exact sbR s3 (by decide)
  by_cases z6 : a ≤ 263
  · have e : a = 199 + 1 + 4 * ((a - 200) / 4) + (a - 200) % 4 := by omega
    rw [e]
    exact sbP (s4 _ (by omega)) (by omega)
  have : a = 264 ∨ a = 265 ∨ a = 266 ∨ a = 267 ∨ a = 268 ∨ a = 269 ∨ a = 270 ∨ a = 271 ∨ a = 272 ∨ a = 273 ∨ a = 274 ∨ a = 275 ∨ a = 276 ∨ a = 277 ∨ a = 278 ∨ a = 279 ∨ a = 280 ∨ a = 281 ∨ a = 282 ∨ a = 283 := by omega
  rcases this with e | e | e | e | e | e | e | e | e | e | e | e | e | e | e | e | e | e | e | e <;> subst e
  · exact sbI s9 (by decide)
  · exact sbP (c := 0) y1 (by decide)
  · exact sbP (c := 1) y1 (by decide)
  · exact sbP (c := 2) y1 (by decide)
  · exact sbP (c := 3) y1 (by decide)
  · exact sbP (c := 0) y2 (by decide)
  · exact sbP (c := 1) y2 (by decide)
  · exact sbP (c := 2) y2 (by decide)
  · exact sbP (c := 3) y2 (by decide)
  · exact sbJ y3
  · exact sbJ y4
  · exact sbJ y5
  · exact sbJ y6
  · exact sbJ y7
  · exact sbH (c := 0) b11 (by decide)
  · exact sbH (c := 1) b11 (by decide)
  · exact sbH (c := 2) b11 (by decide)
  · exact sbI b12 (by decide)
  · exact sbI b13 (by decide)
  · exact sbI b14 (by decide)
theorem sbU {a : Nat} (h : War M a) : SB M a := by
  obtain ⟨l, h1, h2⟩ := h
  exact ⟨_, h1, by show l.length ≤ 700; omega⟩
theorem sbE {a n : Nat} (h : ArE M a n) (hn : n ≤ 700) : SB M a := by
  obtain ⟨l, h1⟩ := h
  exact sbI h1 hn
theorem sbT {a n : Nat} {r : List Int32} (h : ArT M a n r) (hn : n ≤ 700) : SB M a := by
  obtain ⟨l, h1, -⟩ := h
  exact sbI h1 hn
theorem szM (h : MI M tp ou V tc ks W G) : ∀ a, 284 ≤ a → a ≤ 341 → SB M a := by
  obtain ⟨fs, fl, wd, m1, -, m3, -⟩ := h
  obtain ⟨a1, a2, a3, a4, a5, a6, a7, a8, a9, a10, a11, a12, a13, a14, a15, a16, a17, a18, a19, a20, a21, a22⟩ := m3
  obtain ⟨k1, k2, k3, k4, k5, k6, k7, ⟨d1, d2, d3, d4, d5, d6, d7⟩, -⟩ := a6
  obtain ⟨w1, w2, -⟩ := a7
  obtain ⟨x1, x2, x3, x4, x5, x6, -⟩ := a9
  obtain ⟨-, -, ⟨o1, o2, o3⟩, ⟨o4, o5, o6⟩, ⟨o7, o8, o9⟩⟩ := a10
  obtain ⟨l1, l2, l3⟩ := a11
  obtain ⟨⟨e1, e2, e3⟩, e4, -⟩ := a12
  obtain ⟨n1, n2, n3, n4, n5, ⟨n6, n7⟩, n8, n9⟩ := a19
  intro a h1 h2
  have : a = 284 ∨ a = 285 ∨ a = 286 ∨ a = 287 ∨ a = 288 ∨ a = 289 ∨ a = 290 ∨ a = 291 ∨ a = 292 ∨ a = 293 ∨ a = 294 ∨ a = 295 ∨ a = 296 ∨ a = 297 ∨ a = 298 ∨ a = 299 ∨ a = 300 ∨ a = 301 ∨ a = 302 ∨ a = 303 ∨ a = 304 ∨ a = 305 ∨ a = 306 ∨ a = 307 ∨ a = 308 ∨ a = 309 ∨ a = 310 ∨ a = 311 ∨ a = 312 ∨ a = 313 ∨ a = 314 ∨ a = 315 ∨ a = 316 ∨ a = 317 ∨ a = 318 ∨ a = 319 ∨ a = 320 ∨ a = 321 ∨ a = 322 ∨ a = 323 ∨ a = 324 ∨ a = 325 ∨ a = 326 ∨ a = 327 ∨ a = 328 ∨ a = 329 ∨ a = 330 ∨ a = 331 ∨ a = 332 ∨ a = 333 ∨ a = 334 ∨ a = 335 ∨ a = 336 ∨ a = 337 ∨ a = 338 ∨ a = 339 ∨ a = 340 ∨ a = 341 := by omega
  rcases this with e | e | e | e | e | e | e | e | e | e | e | e | e | e | e | e | e | e | e | e | e | e | e | e | e | e | e | e | e | e | e | e | e | e | e | e | e | e | e | e | e | e | e | e | e | e | e | e | e | e | e | e | e | e | e | e | e | e <;> subst e
  · exact sbO m1.1 (by rw [m1.2.1]; decide)
  · exact sbT a1 (by decide)
  · exact sbT a2 (by decide)
  · exact sbI a3 (by decide)
  · exact sbI a4 (by decide)
  · exact sbI a5 (by decide)
  · exact sbI d1 (by decide)
  · exact sbI d2 (by decide)
  · exact sbI d3 (by decide)
  · exact sbI d4 (by decide)
  · exact sbI d5 (by decide)
  · exact sbI d6 (by decide)
  · exact sbI d7 (by decide)
  · exact sbI w2 (by decide)
  · exact sbI a8 (by decide)
  · exact sbI x4 (by decide)
  · exact sbI x5 (by decide)
  · exact sbI x6 (by decide)
  · exact sbA l2 (by omega)
  · exact sbA o2 (by omega)
  · exact sbA o5 (by omega)
  · exact sbA o8 (by omega)
  · exact sbE a13 (by decide)
  · exact sbE a14 (by decide)
  · exact sbA e2 (by omega)
  · exact sbU (e4 309 (by decide))
  · exact sbU (e4 310 (by decide))
  · exact sbU (e4 311 (by decide))
  · exact sbU (e4 312 (by decide))
  · exact sbU (e4 313 (by decide))
  · exact sbU (e4 314 (by decide))
  · exact sbU (e4 315 (by decide))
  · exact sbU (e4 316 (by decide))
  · exact sbU (e4 317 (by decide))
  · exact sbU (e4 318 (by decide))
  · exact sbU (e4 319 (by decide))
  · exact sbU (e4 320 (by decide))
  · exact sbU (e4 321 (by decide))
  · exact sbU (e4 322 (by decide))
  · exact sbU (e4 323 (by decide))
  · exact sbU (e4 324 (by decide))
  · exact sbU (e4 325 (by decide))
  · exact sbU (e4 326 (by decide))
  · exact sbE a15 (by decide)
  · exact sbU (e4 328 (by decide))
  · exact sbU (e4 329 (by decide))
  · exact sbU (e4 330 (by decide))
  · exact sbU (e4 331 (by decide))
  · exact sbE a16 (by decide)
  · exact sbE a17 (by decide)
  · exact sbE a18 (by decide)
  · exact sbI n5 (by decide)
  · exact sbZ n6 (by omega)
  · exact sbI n8 (by decide)
  · exact sbI n9 (by decide)
  · exact sbE a20 (by decide)
  · exact sbE a21 (by decide)
  · exact sbE a22 (by decide)
theorem st_at {k : Nat} {ob : kf_Ob} (h : kf_stat[k]? = some ob) : (kf_stat ++ [oI xs])[k]? = some ob := by rw [List.getElem?_append_left (List.getElem?_eq_some_iff.mp h).1]; exact h
set_option maxHeartbeats 4000000 in
theorem kf_goal_ok : kf_goal := by
  intro xs hl
  obtain ⟨M0, e0⟩ : ∃ X, X = kf_stat ++ [oI xs] := ⟨_, rfl⟩
  have l0 : M0.length = 19 := by rw [e0]; rfl
  have s : ∀ {k : Nat} {ob : kf_Ob}, kf_stat[k]? = some ob → M0[k]? = some ob := fun h => by rw [e0]; exact st_at h
  have x0 : M0[18]? = some (oI xs) := by rw [e0]; rfl
  obtain ⟨M1, k1, C1, P1, K1, l1, G1⟩ := f95 l0 (s rfl) (s rfl) (s rfl) (s rfl) (s rfl) (s rfl) (s rfl) (s rfl) (s rfl) (s rfl) (s rfl) (s rfl)
  have s1 : ∀ {k : Nat} {ob : kf_Ob}, M0[k]? = some ob → M1[k]? = some ob := fun h => G1.at (by simp) h
  obtain ⟨M2, k2, I2, l2, G2⟩ := f120 l1 (s1 (s rfl)) (s1 (s rfl)) (s1 (s rfl)) (s1 (s rfl)) (s1 (s rfl)) (s1 (s rfl))
  have C2 : CI M2 [] [] V0 0 [] W0 (0, none) := C1.gr G2 (fun a ha => by cases ha)
  have G02 : Gr [] M0 M2 := G1.tr G2
  have x2 := G02.at (by simp) x0
  obtain ⟨M3, k3, o3⟩ := l207 hl 600 0 M2 _ _ _ _ _ _ _ (by omega) (Nat.zero_le _) x2 C2 I2
  rw [nI_0] at k3
  rw [← e0]
  have run : kf_ev 207 0 [some (.ref 18), none, none, none] [] M0 = some (some (.int 1), M3) := by
    refine (e207_0 _ _ _).trans ?_
    simp only [cl_207, e207_0, e207_3, e207_4, e207_7, e207_8, e207_11, e207_12, e207_15, e207_16, e207_17, e207_19, e207_20, e207_21, e207_23, e207_24, e207_27, e207_28, e207_29, e207_30, e207_32, e207_33, e207_96, e207_97, e207_98, e207_99, e207_100, e207_101, e207_102, e207_103, e207_104, e207_105, e207_106, e207_107, e207_108, e207_109, e207_110, e207_111, e207_112, e207_113, e207_114, e207_115, e207_116, e207_117, e207_118, e207_119, e207_120, e207_121, e207_122, e207_125, e207_126, e207_127, e207_128, e207_129, e207_130, e207_131, e207_132, e207_133, e207_134, e207_135, e207_136, e207_137, e207_138, e207_139, e207_140, e207_141, e207_142, e207_143, e207_144, e207_145, e207_146, e207_147, e207_148, e207_149, e207_150, e207_151, e207_154, e207_157, e207_158, e207_159, e207_160, e207_161, e207_162, e207_163, e207_164, e207_165, e207_168, e207_169, e207_170, e207_171, e207_172, e207_173, e207_174, e207_177, e207_180, e207_181, e207_182, e207_183, e207_184, e207_185, e207_186, e207_187, e207_188, e207_191, e207_192, e207_193, e207_194, e207_195, e207_196, e207_197, e207_200, e207_203, e207_204, e207_205, e207_206, e207_207, e207_208, e207_209, e207_210, e207_211, e207_214, e207_215, e207_216, e207_217, e207_218, e207_219, e207_220, e207_223, e207_226, e207_227, e207_228, e207_229, e207_230, e207_231, e207_232, e207_233, e207_234, e207_235, e207_236, e207_237, e207_238, e207_239, e207_242, e207_243, e207_244, e207_245, e207_246, e207_247, e207_248, e207_249, e207_250, e207_251, e207_252, e207_253, e207_256, e207_259, e207_260, e207_261, e207_262, e207_265, e207_266, e207_269, e207_272, e207_273, e207_274, e207_275, e207_278, e207_279, e207_282, e207_285, e207_286, e207_287, e207_288, e207_289, e207_290, e207_291, e207_292, e207_293, e207_294, e207_295, e207_296, e207_297, e207_298, e207_301, e207_302, e207_303, e207_304, e207_305, e207_306, e207_307, e207_308, e207_309, e207_310, e207_311, e207_312, e207_315, e207_318, e207_319, e207_320, e207_321, e207_324, e207_325, e207_328, e207_331, e207_332, e207_333, e207_334, e207_335, e207_336, e207_337, e207_338, e207_339, e207_342, e207_343, e207_344, e207_345, e207_346, e207_347, e207_348, e207_351, e207_354, e207_355, e207_356, e207_357, e207_358, e207_359, e207_360, e207_361, e207_362, e207_365, e207_366, e207_367, e207_368, e207_369, e207_370, e207_371, e207_374, e207_377, e207_378, e207_379, e207_380, e207_381, e207_382, e207_383, e207_384, e207_385, e207_386, e207_387, e207_388, e207_389, e207_390, e207_391, e207_392, e207_393, e207_394, e207_395, e207_398, e207_399, e207_400, e207_401, e207_402, e207_403, e207_404, e207_405, e207_406, e207_407, e207_408, e207_409, e207_410, e207_411, e207_412, e207_413, e207_414, e207_417, e207_420, e207_421, e207_422, e207_425, e207_428, e207_429, ow_207, Int32.reduceOfInt, Int32.reduceOfNat, Int32.reduceToNatClampNeg, Int32.reduceLT, Int32.reduceLE, Int32.reduceAdd, Int32.reduceSub, Int32.reduceMul, Int64.reduceOfNat, Int64.reduceOfInt, Nat.reduceLeDiff, Nat.reduceLT, Nat.reduceEqDiff, Nat.reduceSub, cs_0, cs_1, cs_2, cs_3, cs_4, cs_5, cs_6, cs_7, cs_8, or_false, false_or, not_false_eq_true, and_true, true_and, if_true, if_false, List.length_cons, List.length_nil, List.getElem?_cons_succ, List.getElem?_cons_zero, List.set_cons_succ, List.set_cons_zero, reduceIte, d_G, d_R, s_aload, s_aload_n, s_iload, s_iload_n, s_lload, s_lload_n, s_istore, s_istore_n, s_astore, s_astoreN, s_astore_n, s_astore_nN, s_lstore, s_lstore_n, s_iinc, s_iconst, s_bipush, s_sipush, s_lconst, s_ldc2_w, s_aconst_null, s_dupA, s_dupI, s_dup2, s_iadd, s_isub, s_imul, s_iand, s_ior, s_ixor, s_ishl, s_ishr, s_iushr, s_ineg, s_idiv, s_irem, s_ladd, s_lsub, s_lmul, s_land, s_lor, s_lxor, s_ldiv, s_lshl, s_lshr, s_lushr, s_i2l, s_l2i, s_lcmp, s_goto, s_ieq, s_ine, s_ilt, s_ige, s_igt, s_ile, s_zeq, s_zne, s_zlt, s_zge, s_zgt, s_zle, s_ifnull, s_ifnullN, s_ifnonnull, s_ifnonnullN, s_tableswitch, s_lookupswitch, s_getfield, s_putfield, s_getstatic, s_iaload, s_laload, s_baload, s_aaload, s_iastore, s_lastore, s_bastore, s_aastore, s_arraylength, s_newI, s_newJ, s_newZ, s_anewarray, s_new, s_copy, s_max, s_min, s_invokestatic, s_objinit, s_invokespecial, kf_isr_r, s_invokevirtual, s_ireturn, s_lreturn, s_areturn, s_areturnN, s_return, lI_0, lI_s, lJ_0, lJ_s, lA_0, lA_0N, lA_s, lS1_0, lS1_1, lS1_2, lS2_0, lS2_1, lS2_2, lK_n, lK_i, lK_j, lK_a, lK_N, d_C', kf_w_0, kf_w_i, kf_w_a, kf_w_n, kf_w_j, c_0, c_1, c_2, c_3, c_4, c_5, c_6, tl_0, tl_1, Option.bind_some, Option.bind_none, Option.map_some, Nat.reduceAdd, Nat.reduceMul, Nat.reduceDiv, Nat.reduceMod, Int.reduceToNat, Fin.val_zero, Fin.isValue, Fin.val_one, Fin.val_two, fv_0, fv_1, fv_2, fv_3, fw_0, fw_1, d_ite, true_or, or_true, and_false, false_and, or_self, and_self, nwf_11, nwf_12, l0, k1, l1, k2, k3]
  have k3s := ev_sz k3
  have l3 : M3.length = 342 := by rw [o3.1, l2]
  have z3 : kf_sz M3 = kf_sz M2 := sz_eq k3s o3.1
  have t2 : M2.take 19 = M0 := by
    apply List.ext_getElem?
    intro j
    by_cases hj : j < 19
    · rw [List.getElem?_take_of_lt hj]
      have := List.getElem?_eq_getElem (l := M0) (i := j) (by omega)
      rw [this]
      exact G02.at (by simp) this
    · rw [List.getElem?_eq_none (by rw [List.length_take]; omega), List.getElem?_eq_none (by omega)]
  have b2 := sz_bd (M := M2) (B := 700) (n := 19) (fun a h1 h2 => by
    by_cases c : a ≤ 283
    · exact szC C2 (P1.gr G2 (by simp) (by simp) (by simp) (by simp)) (fun j hj => (K1 j hj).gr G2 (fun x hx => by cases hx)) a h1 c
    · exact szM I2 a (by omega) (by omega))
  rw [t2, l2] at b2
  exact ⟨M3, run, by omega, by omega⟩
end GOAL
