/-! the order of the base point -/
theorem gA_rel {α : Type} {R : α → Int → Prop} {ad sb ml : α → α → α} (ha : ∀ a b u v, R a u → R b v → R (ad a b) (u + v)) (hs : ∀ a b u v, R a u → R b v → R (sb a b) (u - v)) (hm : ∀ a b u v, R a u → R b v → R (ml a b) (u * v)) {b : α} {c : Int} (hb : R b c) {P Q : α × α × α} {V W : Int × Int × Int} (p1 : R P.1 V.1) (p2 : R P.2.1 V.2.1) (p3 : R P.2.2 V.2.2) (q1 : R Q.1 W.1) (q2 : R Q.2.1 W.2.1) (q3 : R Q.2.2 W.2.2) : R (gA ad sb ml b P Q).1 (iA c V W).1 ∧ R (gA ad sb ml b P Q).2.1 (iA c V W).2.1 ∧ R (gA ad sb ml b P Q).2.2 (iA c V W).2.2 := by
  have xx := hm _ _ _ _ p1 q1
  have yy := hm _ _ _ _ p2 q2
  have zz := hm _ _ _ _ p3 q3
  have xy := ha _ _ _ _ (hm _ _ _ _ p1 q2) (hm _ _ _ _ q1 p2)
  have yz := ha _ _ _ _ (hm _ _ _ _ p2 q3) (hm _ _ _ _ q2 p3)
  have xz := ha _ _ _ _ (hm _ _ _ _ p1 q3) (hm _ _ _ _ q1 p3)
  have t := hs _ _ _ _ xz (hm _ _ _ _ hb zz)
  have t3 := ha _ _ _ _ t (ha _ _ _ _ t t)
  have l := ha _ _ _ _ yy t3
  have r := hs _ _ _ _ yy t3
  have w := hs _ _ _ _ (hs _ _ _ _ (hm _ _ _ _ hb xz) xx) (ha _ _ _ _ zz (ha _ _ _ _ zz zz))
  have u := hs _ _ _ _ xx zz
  have w3 := ha _ _ _ _ w (ha _ _ _ _ w w)
  have u3 := ha _ _ _ _ u (ha _ _ _ _ u u)
  exact ⟨hs _ _ _ _ (hm _ _ _ _ xy l) (hm _ _ _ _ yz w3), ha _ _ _ _ (hm _ _ _ _ l r) (hm _ _ _ _ u3 w3), ha _ _ _ _ (hm _ _ _ _ yz r) (hm _ _ _ _ xy u3)⟩
def nad (a b : Nat) : Nat := (a + b) % pP
def nsb (a b : Nat) : Nat := (a + (pP - b % pP)) % pP
def nml (a b : Nat) : Nat := a * b % pP
def cBn : Nat := 41058363725152142129326129780047268409114441015993725554835256314039467401291
def nA (P Q : Nat × Nat × Nat) : Nat × Nat × Nat := gA nad nsb nml cBn P Q
def NR (a : Nat) (v : Int) : Prop := zp ((a : Int) - v)
theorem NR_ad : ∀ a b u v, NR a u → NR b v → NR (nad a b) (u + v) := by
  intro a b u v h1 h2
  have h3 := zp_md ((a + b : Nat) : Int)
  unfold NR nad
  rw [Int.natCast_emod]
  exact zp3 (u := 1) (v := 1) (w := 1) h3 h1 h2 (by rw [Int.natCast_add]; grind)
theorem NR_ml : ∀ a b u v, NR a u → NR b v → NR (nml a b) (u * v) := by
  intro a b u v h1 h2
  have h3 := zp_md ((a * b : Nat) : Int)
  unfold NR nml
  rw [Int.natCast_emod]
  exact zp3 (u := 1) (v := (b : Int)) (w := u) h3 h1 h2 (by rw [Int.natCast_mul]; grind)
theorem NR_sb : ∀ a b u v, NR a u → NR b v → NR (nsb a b) (u - v) := by
  intro a b u v h1 h2
  have hp := pP_pos
  have h3 := zp_md ((a + (pP - b % pP) : Nat) : Int)
  have h4 := zp_md (b : Int)
  have hl : b % pP < pP := Nat.mod_lt _ (by omega)
  have e : ((a + (pP - b % pP) : Nat) : Int) = (a : Int) + (pP - (b : Int) % pP) := by
    rw [Int.natCast_add, Int.natCast_sub (by omega), Int.natCast_emod]
  have h5 : zp ((a : Int) + (pP - (b : Int) % pP) - (u - v)) := by
    have h6 : zp ((pP : Int)) := Int.dvd_refl _
    have h7 := zp3 (u := 1) (v := -1) (w := -1) (E := (a : Int) - u + -((b : Int) % pP - b) + -((b : Int) - v)) h1 h4 h2 (by grind)
    exact zp2 (u := 1) (v := 1) h7 h6 (by grind)
  unfold NR nsb
  rw [Int.natCast_emod]
  rw [e] at h3 ⊢
  exact zp2 (u := 1) (v := 1) h3 h5 (by grind)
def ctr (t : Nat × Nat × Nat) : Int × Int × Int := ((t.1 : Int), (t.2.1 : Int), (t.2.2 : Int))
theorem NR_rf (a : Nat) : NR a (a : Int) := by unfold NR; rw [Int.sub_self]; exact zp_0
theorem nA_rep {s t : Nat × Nat × Nat} {P Q : Pt} (r1 : rep (ctr s) P) (r2 : rep (ctr t) Q) (h1 : vP P) (h2 : vP Q) : rep (ctr (nA s t)) (padd P Q) := by
  have hb : NR cBn cB := by unfold NR; rw [show (cBn : Int) = cB from rfl, Int.sub_self]; exact zp_0
  obtain ⟨e1, e2, e3⟩ := gA_rel (V := ctr s) (W := ctr t) NR_ad NR_sb NR_ml hb (NR_rf _) (NR_rf _) (NR_rf _) (NR_rf _) (NR_rf _) (NR_rf _)
  refine zt_rep zp_1 (s := iA cB (ctr s) (ctr t)) ⟨?_, ?_, ?_⟩ (rep_add r1 r2 h1 h2)
  · rw [Int.one_mul]; exact e1
  · rw [Int.one_mul]; exact e2
  · rw [Int.one_mul]; exact e3
/-- double and add, from the top bit on -/
def nmk (g : Nat × Nat × Nat) (e : Nat) : Nat → Nat × Nat × Nat → Nat × Nat × Nat
  | 0, acc => acc
  | k + 1, acc => nmk g e k (cond (Nat.beq (e / 2 ^ k % 2) 1) (nA (nA acc acc) g) (nA acc acc))
theorem nmk_ok {g : Nat × Nat × Nat} {e : Nat} {P : Pt} (hP : vP P) (hg : rep (ctr g) P) : ∀ (k : Nat) (acc : Nat × Nat × Nat), rep (ctr acc) (pmul (e / 2 ^ k) P) → rep (ctr (nmk g e k acc)) (pmul e P)
  | 0, acc, h => by
    rw [Nat.pow_zero, Nat.div_one] at h
    exact h
  | k + 1, acc, h => by
    show rep (ctr (nmk g e k (cond (Nat.beq (e / 2 ^ k % 2) 1) (nA (nA acc acc) g) (nA acc acc)))) (pmul e P)
    apply nmk_ok hP hg k
    have v1 := pmul_v hP (e / 2 ^ (k + 1))
    have h2 := nA_rep h h v1 v1
    rw [← pmul_add hP] at h2
    have hh : e / 2 ^ k = e / 2 ^ (k + 1) + e / 2 ^ (k + 1) + e / 2 ^ k % 2 := by
      rw [Nat.pow_succ, ← Nat.div_div_eq_div_mul]
      omega
    by_cases q : e / 2 ^ k % 2 = 1
    · rw [show Nat.beq (e / 2 ^ k % 2) 1 = true by rw [q]; rfl, cond_true, hh, q]
      exact nA_rep h2 hg (pmul_v hP _) hP
    · have q0 : e / 2 ^ k % 2 = 0 := by omega
      rw [show Nat.beq (e / 2 ^ k % 2) 1 = false by rw [q0]; rfl, cond_false, hh, q0, Nat.add_zero]
      exact h2
def gN : Nat × Nat × Nat := (48439561293906451759052585252797914202762949526041747995844080717082404635286, 36134250956749795798585127919587881956611106672985015071877198253568414405109, 1)
theorem gN_rep : rep (ctr gN) Gpt := ⟨zp_1, by show zp (_ - _ * 1); rw [Int.mul_one, show (ctr gN).1 = 48439561293906451759052585252797914202762949526041747995844080717082404635286 from rfl, Int.sub_self]; exact zp_0, by show zp (_ - _ * 1); rw [Int.mul_one, show (ctr gN).2.1 = 36134250956749795798585127919587881956611106672985015071877198253568414405109 from rfl, Int.sub_self]; exact zp_0⟩
theorem n0_rep : rep (ctr (0, 1, 0)) none := ⟨zp_0, zp_0, zp_1⟩
set_option maxRecDepth 100000 in
theorem nG_k : (nmk gN nN 256 (0, 1, 0)).1 % pP = 0 ∧ (nmk gN nN 256 (0, 1, 0)).2.2 % pP = 0 := by decide +kernel
theorem ord_gen {e : Nat} (hz : (nmk gN e 256 (0, 1, 0)).2.2 % pP = 0) (he : e < 2 ^ 256) : pmul e Gpt = none := by
  have h0 : rep (ctr (0, 1, 0)) (pmul (e / 2 ^ 256) Gpt) := by
    rw [Nat.div_eq_of_lt he]
    exact n0_rep
  have h1 := nmk_ok (e := e) Gpt_v gN_rep 256 (0, 1, 0) h0
  generalize nmk gN e 256 (0, 1, 0) = T at *
  have hzp : zp ((T.2.2 : Nat) : Int) := Int.ofNat_dvd_left.mpr (Nat.dvd_of_mod_eq_zero hz)
  cases h : pmul e Gpt with
  | none => rfl
  | some w =>
    rw [h] at h1
    exact absurd hzp h1.1
theorem nG : pmul nN Gpt = none := ord_gen nG_k.2 nN_lt
theorem pm_none : ∀ q, pmul q none = none
  | 0 => rfl
  | q + 1 => by
    show padd (pmul q none) none = none
    rw [pm_none q]
    exact padd_0 (P := none) trivial
theorem pm_gcd {P : Pt} (hP : vP P) : ∀ m n, pmul m P = none → pmul n P = none → pmul (Nat.gcd m n) P = none := by
  intro m n
  induction m, n using Nat.gcd.induction with
  | H0 n =>
    intro _ h
    rwa [Nat.gcd_zero_left]
  | H1 m n hm ih =>
    intro h1 h2
    rw [Nat.gcd_rec]
    refine ih ?_ h1
    have e : pmul n P = padd (pmul (n / m * m) P) (pmul (n % m) P) := by
      rw [← pmul_add hP, Nat.div_add_mod']
    rw [pmul_mul hP, h1, pm_none, padd_0 (pmul_v hP _)] at e
    rw [← e]
    exact h2
/-- no multiple below the order is none -/
theorem kG_some {k : Nat} (h0 : 0 < k) (h1 : k < nN) : pmul k Gpt ≠ none := by
  intro h
  have hd : ¬ nN ∣ k := fun q => by have := Nat.le_of_dvd h0 q; omega
  have h2 := pm_gcd Gpt_v _ _ nG h
  rw [show Nat.gcd nN k = 1 from prm_cop nN_prm hd, pmul_1 Gpt_v] at h2
  exact absurd h2 (by unfold Gpt; simp)
