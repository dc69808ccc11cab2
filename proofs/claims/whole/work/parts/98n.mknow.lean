/-! The reference: what a command knows, and what is wrong with its map -/
section MKNOW
variable {M : kf_M} {fs : List Value} {tp ou : List Int32} {tl ol n w : Nat} {V : Vs} {tc fl g : Int32} {ks : List Ky} {wt : List Nat} {wd : List Int32} {W : Ws} {G : Gs} {cs kk fr sz : List Int32} {p : Nat} {m : PM}
def A180 : List Nat := [284, 332, 333, 334, 335, 336, 337, 338]
theorem r180x {tk tm tl_ th : List Nat} (bcs : isB cs) (hcl : cs.length ≤ 400) (m1 : MdIs M fs) (m2 : MF fs tl ol V tc n w fl g) (m3 : MAr M cs ou V ks wt wd G) (hK : KT4 M tk tm tl_ th) : (pmp cs = none → ∃ M' fs', kf_cl 180 [.ref 284, .int (nI cs.length)] M = some (some (.int 18), M') ∧ MdIs M' fs' ∧ MF fs' tl ol V tc n w fl g ∧ MAr M' cs ou V ks wt wd G ∧ Off A180 M M') ∧ (∀ m, pmp cs = some m → ∃ M' fs' kk fr sz p, kf_cl 180 [.ref 284, .int (nI cs.length)] M = some (some (.int (nI (fltM tk tm tl_ th m))), M') ∧ MT M' fs' cs kk fr sz p ∧ MR kk fr sz m ∧ MF fs' tl ol V tc n w fl g ∧ MAr M' cs ou V ks wt wd G ∧ Off A180 M M') := by
  have m30 := m3
  obtain ⟨a1, a2, a3, a4, a5, a6, a7, a8, a9, a10, a11, a12, a13, a14, a15, a16, a17, a18, a19, a20, a21, a22⟩ := m3
  have hA : MA M fs cs := ⟨m1, a16, a17, a18, a1, hcl⟩
  obtain ⟨h1, h2⟩ := r180 bcs hA hK
  constructor
  · intro hp
    obtain ⟨M1, fs1, k1, A1, K1, F1, o1⟩ := h2 hp
    obtain ⟨z1, z2, z3, z4, z5, z6⟩ := A1
    exact ⟨M1, fs1, k1, z1, m2.fo F1 (by decide), ⟨a1.off o1 (by decide), a2.off o1 (by decide), a3.off o1 (by decide), a4.off o1 (by decide), a5.off o1 (by decide), a6.off o1 (by decide), a7.off o1 (by decide), a8.off o1 (by decide), a9.off o1 (by decide), a10.of5 o1 (by decide), a11.off o1 (by decide), a12.off' o1 (by decide), a13.off o1 (by decide), a14.off o1 (by decide), a15.off o1 (by decide), z2, z3, z4, a19.off o1 (by decide), a20.off o1 (by decide), a21.off o1 (by decide), a22.off o1 (by decide)⟩, o1.wk (by decide)⟩
  · intro m hp
    obtain ⟨M1, fs1, kk, fr, sz, p, k1, T1, R1, K1, F1, o1⟩ := h1 m hp
    obtain ⟨z1, z2, z3, z4, z5, z6⟩ := T1.ma
    exact ⟨M1, fs1, kk, fr, sz, p, k1, T1, R1, m2.fo F1 (by decide), ⟨a1.off o1 (by decide), a2.off o1 (by decide), a3.off o1 (by decide), a4.off o1 (by decide), a5.off o1 (by decide), a6.off o1 (by decide), a7.off o1 (by decide), a8.off o1 (by decide), a9.off o1 (by decide), a10.of5 o1 (by decide), a11.off o1 (by decide), a12.off' o1 (by decide), a13.off o1 (by decide), a14.off o1 (by decide), a15.off o1 (by decide), z2, z3, z4, a19.off o1 (by decide), a20.off o1 (by decide), a21.off o1 (by decide), a22.off o1 (by decide)⟩, o1.wk (by decide)⟩
theorem KNs {kn mu le mo : List Int32} (h : KN M kn mu le mo) : KNE M := ⟨kn, mu, le, mo, h⟩
theorem knoM (m1 : MdIs M fs) (hK : KNE M) : ∃ M0 M1 M2 M3 M4 M5, kf_cl 175 [.ref 284] M = some (none, M0) ∧ kf_cl 176 [.ref 284, .int 1, .int 2, .int 1, .int 32, .int 32] M0 = some (none, M1) ∧ kf_cl 176 [.ref 284, .int 2, .int 3, .int 1, .int 1, .int 32] M1 = some (none, M2) ∧ kf_cl 176 [.ref 284, .int 3, .int 2, .int 1, .int 1, .int 16] M2 = some (none, M3) ∧ kf_cl 176 [.ref 284, .int 5, .int 4, .int 0, .int 16, .int 16] M3 = some (none, M4) ∧ kf_cl 176 [.ref 284, .int 8, .int 2, .int 0, .int 16, .int 16] M4 = some (none, M5) ∧ (kf_rcv M0 12 (some (.ref 284)) = true ∧ kf_rcv M1 12 (some (.ref 284)) = true ∧ kf_rcv M2 12 (some (.ref 284)) = true ∧ kf_rcv M3 12 (some (.ref 284)) = true ∧ kf_rcv M4 12 (some (.ref 284)) = true ∧ kf_rcv M5 12 (some (.ref 284)) = true) ∧ KT4 M5 tKM tMM tLM tHM ∧ Off A175 M M5 := by
  obtain ⟨kn, mu, le, mo, hK⟩ := hK
  obtain ⟨M0, k0, K0, o0⟩ := r175 m1 hK
  have n0 := m1.off o0 (by decide)
  obtain ⟨M1, k1, K1, o1⟩ := r176 (i := 1) (a := 2) (b := 1) (c := 32) (d := 32) n0 K0 (by decide) (by decide)
  have n1 := n0.off o1 (by decide)
  obtain ⟨M2, k2, K2, o2⟩ := r176 (i := 2) (a := 3) (b := 1) (c := 1) (d := 32) n1 K1 (by decide) (by decide)
  have n2 := n1.off o2 (by decide)
  obtain ⟨M3, k3, K3, o3⟩ := r176 (i := 3) (a := 2) (b := 1) (c := 1) (d := 16) n2 K2 (by decide) (by decide)
  have n3 := n2.off o3 (by decide)
  obtain ⟨M4, k4, K4, o4⟩ := r176 (i := 5) (a := 4) (b := 0) (c := 16) (d := 16) n3 K3 (by decide) (by decide)
  have n4 := n3.off o4 (by decide)
  obtain ⟨M5, k5, K5, o5⟩ := r176 (i := 8) (a := 2) (b := 0) (c := 16) (d := 16) n4 K4 (by decide) (by decide)
  have n5 := n4.off o5 (by decide)
  have e1 : ((((((List.replicate 24 (0 : Int32)).set 1 2).set 2 3).set 3 2).set 5 4).set 8 2) = tKM.map nI := by decide
  have e2 : ((((((List.replicate 24 (0 : Int32)).set 1 1).set 2 1).set 3 1).set 5 0).set 8 0) = tMM.map nI := by decide
  have e3 : ((((((List.replicate 24 (0 : Int32)).set 1 32).set 2 1).set 3 1).set 5 16).set 8 16) = tLM.map nI := by decide
  have e4 : ((((((List.replicate 24 (0 : Int32)).set 1 32).set 2 32).set 3 16).set 5 16).set 8 16) = tHM.map nI := by decide
  have K9 : KN M5 (tKM.map nI) (tMM.map nI) (tLM.map nI) (tHM.map nI) := by
    rw [← e1, ← e2, ← e3, ← e4]
    exact K5
  exact ⟨M0, M1, M2, M3, M4, M5, k0, k1, k2, k3, k4, k5, ⟨n0.rc, n1.rc, n2.rc, n3.rc, n4.rc, n5.rc⟩, ⟨K9, by decide, by decide, by decide, by decide, by decide, by decide, by decide, by decide⟩, (((((o0.tr o1).tr o2).tr o3).tr o4).tr o5)⟩
theorem knoG (m1 : MdIs M fs) (hK : KNE M) : ∃ M0 M1 M2 M3 M4 M5, kf_cl 175 [.ref 284] M = some (none, M0) ∧ kf_cl 176 [.ref 284, .int 1, .int 3, .int 1, .int 1, .int 32] M0 = some (none, M1) ∧ kf_cl 176 [.ref 284, .int 2, .int 2, .int 1, .int 32, .int 32] M1 = some (none, M2) ∧ kf_cl 176 [.ref 284, .int 3, .int 4, .int 0, .int 16, .int 16] M2 = some (none, M3) ∧ kf_cl 176 [.ref 284, .int 5, .int 5, .int 0, .int 0, .int 0] M3 = some (none, M4) ∧ kf_cl 176 [.ref 284, .int 6, .int 2, .int 0, .int 16, .int 16] M4 = some (none, M5) ∧ (kf_rcv M0 12 (some (.ref 284)) = true ∧ kf_rcv M1 12 (some (.ref 284)) = true ∧ kf_rcv M2 12 (some (.ref 284)) = true ∧ kf_rcv M3 12 (some (.ref 284)) = true ∧ kf_rcv M4 12 (some (.ref 284)) = true ∧ kf_rcv M5 12 (some (.ref 284)) = true) ∧ KT4 M5 tKG tMG tLG tHG ∧ Off A175 M M5 := by
  obtain ⟨kn, mu, le, mo, hK⟩ := hK
  obtain ⟨M0, k0, K0, o0⟩ := r175 m1 hK
  have n0 := m1.off o0 (by decide)
  obtain ⟨M1, k1, K1, o1⟩ := r176 (i := 1) (a := 3) (b := 1) (c := 1) (d := 32) n0 K0 (by decide) (by decide)
  have n1 := n0.off o1 (by decide)
  obtain ⟨M2, k2, K2, o2⟩ := r176 (i := 2) (a := 2) (b := 1) (c := 32) (d := 32) n1 K1 (by decide) (by decide)
  have n2 := n1.off o2 (by decide)
  obtain ⟨M3, k3, K3, o3⟩ := r176 (i := 3) (a := 4) (b := 0) (c := 16) (d := 16) n2 K2 (by decide) (by decide)
  have n3 := n2.off o3 (by decide)
  obtain ⟨M4, k4, K4, o4⟩ := r176 (i := 5) (a := 5) (b := 0) (c := 0) (d := 0) n3 K3 (by decide) (by decide)
  have n4 := n3.off o4 (by decide)
  obtain ⟨M5, k5, K5, o5⟩ := r176 (i := 6) (a := 2) (b := 0) (c := 16) (d := 16) n4 K4 (by decide) (by decide)
  have n5 := n4.off o5 (by decide)
  have e1 : ((((((List.replicate 24 (0 : Int32)).set 1 3).set 2 2).set 3 4).set 5 5).set 6 2) = tKG.map nI := by decide
  have e2 : ((((((List.replicate 24 (0 : Int32)).set 1 1).set 2 1).set 3 0).set 5 0).set 6 0) = tMG.map nI := by decide
  have e3 : ((((((List.replicate 24 (0 : Int32)).set 1 1).set 2 32).set 3 16).set 5 0).set 6 16) = tLG.map nI := by decide
  have e4 : ((((((List.replicate 24 (0 : Int32)).set 1 32).set 2 32).set 3 16).set 5 0).set 6 16) = tHG.map nI := by decide
  have K9 : KN M5 (tKG.map nI) (tMG.map nI) (tLG.map nI) (tHG.map nI) := by
    rw [← e1, ← e2, ← e3, ← e4]
    exact K5
  exact ⟨M0, M1, M2, M3, M4, M5, k0, k1, k2, k3, k4, k5, ⟨n0.rc, n1.rc, n2.rc, n3.rc, n4.rc, n5.rc⟩, ⟨K9, by decide, by decide, by decide, by decide, by decide, by decide, by decide, by decide⟩, (((((o0.tr o1).tr o2).tr o3).tr o4).tr o5)⟩
theorem knoP (m1 : MdIs M fs) (hK : KNE M) : ∃ M0 M1 M2 M3, kf_cl 175 [.ref 284] M = some (none, M0) ∧ kf_cl 176 [.ref 284, .int 1, .int 1, .int 1, .int 0, .int 0] M0 = some (none, M1) ∧ kf_cl 176 [.ref 284, .int 2, .int 2, .int 0, .int 16, .int 16] M1 = some (none, M2) ∧ kf_cl 176 [.ref 284, .int 3, .int 2, .int 0, .int 16, .int 16] M2 = some (none, M3) ∧ (kf_rcv M0 12 (some (.ref 284)) = true ∧ kf_rcv M1 12 (some (.ref 284)) = true ∧ kf_rcv M2 12 (some (.ref 284)) = true ∧ kf_rcv M3 12 (some (.ref 284)) = true) ∧ KT4 M3 tKP tMP tLP tHP ∧ Off A175 M M3 := by
  obtain ⟨kn, mu, le, mo, hK⟩ := hK
  obtain ⟨M0, k0, K0, o0⟩ := r175 m1 hK
  have n0 := m1.off o0 (by decide)
  obtain ⟨M1, k1, K1, o1⟩ := r176 (i := 1) (a := 1) (b := 1) (c := 0) (d := 0) n0 K0 (by decide) (by decide)
  have n1 := n0.off o1 (by decide)
  obtain ⟨M2, k2, K2, o2⟩ := r176 (i := 2) (a := 2) (b := 0) (c := 16) (d := 16) n1 K1 (by decide) (by decide)
  have n2 := n1.off o2 (by decide)
  obtain ⟨M3, k3, K3, o3⟩ := r176 (i := 3) (a := 2) (b := 0) (c := 16) (d := 16) n2 K2 (by decide) (by decide)
  have n3 := n2.off o3 (by decide)
  have e1 : ((((List.replicate 24 (0 : Int32)).set 1 1).set 2 2).set 3 2) = tKP.map nI := by decide
  have e2 : ((((List.replicate 24 (0 : Int32)).set 1 1).set 2 0).set 3 0) = tMP.map nI := by decide
  have e3 : ((((List.replicate 24 (0 : Int32)).set 1 0).set 2 16).set 3 16) = tLP.map nI := by decide
  have e4 : ((((List.replicate 24 (0 : Int32)).set 1 0).set 2 16).set 3 16) = tHP.map nI := by decide
  have K9 : KN M3 (tKP.map nI) (tMP.map nI) (tLP.map nI) (tHP.map nI) := by
    rw [← e1, ← e2, ← e3, ← e4]
    exact K3
  exact ⟨M0, M1, M2, M3, k0, k1, k2, k3, ⟨n0.rc, n1.rc, n2.rc, n3.rc⟩, ⟨K9, by decide, by decide, by decide, by decide, by decide, by decide, by decide, by decide⟩, (((o0.tr o1).tr o2).tr o3)⟩
end MKNOW
