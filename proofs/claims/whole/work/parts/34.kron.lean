/-! a polynomial that is 0 at one point far out is 0: sums of monomials in four variables, never brought into order -/
def sm (g : Nat → Int) : Nat → Int
  | 0 => 0
  | K + 1 => sm g K + g K
theorem sm_add (g h : Nat → Int) : ∀ K, sm (fun k => g k + h k) K = sm g K + sm h K
  | 0 => rfl
  | K + 1 => by
    simp only [sm, sm_add g h K]
    omega
theorem sm_0 : ∀ K, sm (fun _ => 0) K = 0
  | 0 => rfl
  | K + 1 => by simp only [sm, sm_0 K]; rfl
theorem sm_congr {g h : Nat → Int} : ∀ K, (∀ k, k < K → g k = h k) → sm g K = sm h K
  | 0, _ => rfl
  | K + 1, hh => by simp only [sm, sm_congr K (fun k hk => hh k (by omega)), hh K (by omega)]
theorem sm_one (c : Int) (g : Nat → Int) (k0 : Nat) : ∀ K, sm (fun k => (if k = k0 then c else 0) * g k) K = if k0 < K then c * g k0 else 0
  | 0 => by simp [sm]
  | K + 1 => by
    simp only [sm, sm_one c g k0 K]
    by_cases h1 : k0 < K
    · rw [if_pos h1, if_neg (show ¬ K = k0 by omega), if_pos (show k0 < K + 1 by omega)]
      omega
    · by_cases h2 : K = k0
      · subst h2
        rw [if_neg h1, if_pos rfl, if_pos (show K < K + 1 by omega)]
        omega
      · rw [if_neg h1, if_neg h2, if_neg (show ¬ k0 < K + 1 by omega)]
        omega
theorem sm_lt {B : Nat} {a : Nat → Int} (hB : ∀ k, 2 * (a k).natAbs < B) : ∀ K, 2 * (sm (fun k => a k * (B : Int) ^ k) K).natAbs < B ^ K
  | 0 => by simp [sm]
  | K + 1 => by
    have h1 := sm_lt hB K
    have h2 := Int.natAbs_add_le (sm (fun k => a k * (B : Int) ^ k) K) (a K * (B : Int) ^ K)
    have h3 : (a K * (B : Int) ^ K).natAbs = (a K).natAbs * B ^ K := by rw [Int.natAbs_mul, Int.natAbs_pow, Int.natAbs_natCast]
    have h4 := hB K
    have h5 : (2 * (a K).natAbs + 1) * B ^ K ≤ B * B ^ K := Nat.mul_le_mul_right _ (by omega)
    have h6 : (2 * (a K).natAbs + 1) * B ^ K = 2 * ((a K).natAbs * B ^ K) + B ^ K := by rw [Nat.add_mul, Nat.one_mul, Nat.mul_assoc]
    have h7 : B ^ (K + 1) = B * B ^ K := by rw [Nat.pow_succ, Nat.mul_comm]
    show 2 * (sm (fun k => a k * (B : Int) ^ k) K + a K * (B : Int) ^ K).natAbs < _
    omega
theorem sm_dig {B : Nat} {a : Nat → Int} (hB : ∀ k, 2 * (a k).natAbs < B) : ∀ K, sm (fun k => a k * (B : Int) ^ k) K = 0 → ∀ k, k < K → a k = 0
  | 0, _, k, hk => by omega
  | K + 1, h, k, hk => by
    have h1 := sm_lt hB K
    have h3 : (a K * (B : Int) ^ K).natAbs = (a K).natAbs * B ^ K := by rw [Int.natAbs_mul, Int.natAbs_pow, Int.natAbs_natCast]
    have h4 : sm (fun k => a k * (B : Int) ^ k) K + a K * (B : Int) ^ K = 0 := h
    have h5 : (a K).natAbs = 0 := by
      rcases Nat.eq_zero_or_pos (a K).natAbs with q | q
      · exact q
      · have : 1 * B ^ K ≤ (a K).natAbs * B ^ K := Nat.mul_le_mul_right _ q
        omega
    have h6 : a K = 0 := Int.natAbs_eq_zero.mp h5
    by_cases e : k = K
    · rw [e]
      exact h6
    · refine sm_dig hB K ?_ k (by omega)
      rw [h6, Int.zero_mul] at h4
      omega
abbrev KT : Type := Int × Nat × Nat × Nat × Nat
abbrev K4 : Type := Int × Int × Int × Int
/-- a term at a point -/
def tev (x : K4) (t : KT) : Int := t.1 * (x.1 ^ t.2.1 * x.2.1 ^ t.2.2.1 * x.2.2.1 ^ t.2.2.2.1 * x.2.2.2 ^ t.2.2.2.2)
def pev (x : K4) : List KT → Int
  | [] => 0
  | t :: f => tev x t + pev x f
def pno : List KT → Nat
  | [] => 0
  | t :: f => t.1.natAbs + pno f
def tmu (t s : KT) : KT := (t.1 * s.1, t.2.1 + s.2.1, t.2.2.1 + s.2.2.1, t.2.2.2.1 + s.2.2.2.1, t.2.2.2.2 + s.2.2.2.2)
def pmt (t : KT) : List KT → List KT
  | [] => []
  | s :: g => tmu t s :: pmt t g
def pmu : List KT → List KT → List KT
  | [], _ => []
  | t :: f, g => pmt t g ++ pmu f g
theorem pev_app (x : K4) : ∀ f g, pev x (f ++ g) = pev x f + pev x g
  | [], g => by simp [pev]
  | t :: f, g => by simp only [List.cons_append, pev, pev_app x f g, Int.add_assoc]
theorem pno_app : ∀ f g, pno (f ++ g) = pno f + pno g
  | [], g => by simp [pno]
  | t :: f, g => by simp only [List.cons_append, pno, pno_app f g, Nat.add_assoc]
theorem tev_mu (x : K4) (t s : KT) : tev x (tmu t s) = tev x t * tev x s := by
  simp only [tev, tmu, Int.pow_add]
  simp only [Int.mul_comm, Int.mul_left_comm, Int.mul_assoc]
theorem pev_mt (x : K4) (t : KT) : ∀ g, pev x (pmt t g) = tev x t * pev x g
  | [] => by simp [pmt, pev]
  | s :: g => by simp only [pmt, pev, pev_mt x t g, tev_mu, Int.mul_add]
theorem pev_mu (x : K4) : ∀ f g, pev x (pmu f g) = pev x f * pev x g
  | [], g => by simp [pmu, pev]
  | t :: f, g => by simp only [pmu, pev_app, pev_mt, pev_mu x f g, pev, Int.add_mul]
theorem pno_mt (t : KT) : ∀ g, pno (pmt t g) = t.1.natAbs * pno g
  | [] => by simp [pmt, pno]
  | s :: g => by simp only [pmt, pno, pno_mt t g, tmu, Int.natAbs_mul, Nat.mul_add]
theorem pno_mu : ∀ f g, pno (pmu f g) = pno f * pno g
  | [], g => by simp [pmu, pno]
  | t :: f, g => by simp only [pmu, pno_app, pno_mt, pno_mu f g, pno, Nat.add_mul]
/-- all exponents below -/
def tle (d : Nat × Nat × Nat × Nat) (t : KT) : Prop := t.2.1 ≤ d.1 ∧ t.2.2.1 ≤ d.2.1 ∧ t.2.2.2.1 ≤ d.2.2.1 ∧ t.2.2.2.2 ≤ d.2.2.2
theorem mem_mt {t u : KT} : ∀ {g : List KT}, u ∈ pmt t g → ∃ s ∈ g, u = tmu t s
  | [], h => by simp [pmt] at h
  | s :: g, h => by
    rcases List.mem_cons.mp h with q | q
    · exact ⟨s, by simp, q⟩
    · obtain ⟨s', hs, e⟩ := mem_mt q
      exact ⟨s', by simp [hs], e⟩
theorem mem_mu {u : KT} : ∀ {f g : List KT}, u ∈ pmu f g → ∃ t ∈ f, ∃ s ∈ g, u = tmu t s
  | [], g, h => by simp [pmu] at h
  | t :: f, g, h => by
    rcases List.mem_append.mp h with q | q
    · obtain ⟨s, hs, e⟩ := mem_mt q
      exact ⟨t, by simp, s, hs, e⟩
    · obtain ⟨t', ht, s, hs, e⟩ := mem_mu q
      exact ⟨t', by simp [ht], s, hs, e⟩
/-! the code of an exponent -/
def tcd (D : Nat × Nat × Nat) (t : KT) : Nat := t.2.1 + D.1 * (t.2.2.1 + D.2.1 * (t.2.2.2.1 + D.2.2 * t.2.2.2.2))
def kcf (D : Nat × Nat × Nat) : List KT → Nat → Int
  | [], _ => 0
  | t :: f, k => (if k = tcd D t then t.1 else 0) + kcf D f k
theorem kcf_le (D : Nat × Nat × Nat) (k : Nat) : ∀ f, (kcf D f k).natAbs ≤ pno f
  | [] => by simp [kcf, pno]
  | t :: f => by
    have h1 := kcf_le D k f
    simp only [kcf, pno]
    have h2 := Int.natAbs_add_le (if k = tcd D t then t.1 else 0) (kcf D f k)
    have h3 : (if k = tcd D t then t.1 else 0).natAbs ≤ t.1.natAbs := by split <;> simp
    omega
def csm (D : Nat × Nat × Nat) (g : Nat → Int) : List KT → Int
  | [] => 0
  | t :: f => t.1 * g (tcd D t) + csm D g f
theorem csm_sm (D : Nat × Nat × Nat) (g : Nat → Int) (K : Nat) : ∀ f : List KT, (∀ t ∈ f, tcd D t < K) → csm D g f = sm (fun k => kcf D f k * g k) K
  | [], _ => by
    simp only [csm, kcf, Int.zero_mul]
    exact (sm_0 K).symm
  | t :: f, h => by
    simp only [csm, kcf, Int.add_mul]
    rw [sm_add, sm_one, if_pos (h t (by simp)), csm_sm D g K f (fun s hs => h s (by simp [hs]))]
theorem csm_pev (D : Nat × Nat × Nat) (g : Nat → Int) (x : K4) : ∀ f : List KT, (∀ t ∈ f, tev x t = t.1 * g (tcd D t)) → pev x f = csm D g f
  | [], _ => rfl
  | t :: f, h => by
    simp only [csm, pev]
    rw [h t (by simp), csm_pev D g x f (fun s hs => h s (by simp [hs]))]
def kbs (B : Nat) (D : Nat × Nat × Nat) : K4 := ((B : Int), (B : Int) ^ D.1, (B : Int) ^ (D.1 * D.2.1), (B : Int) ^ (D.1 * (D.2.1 * D.2.2)))
theorem tev_kbs (B : Nat) (D : Nat × Nat × Nat) (t : KT) : tev (kbs B D) t = t.1 * (B : Int) ^ (tcd D t) := by
  simp only [tev, kbs, tcd, Nat.mul_add, Int.pow_add, Int.pow_mul, Int.mul_assoc]
/-- a monomial out of its code -/
def kmo (D : Nat × Nat × Nat) (x : K4) (k : Nat) : Int := x.1 ^ (k % D.1) * x.2.1 ^ (k / D.1 % D.2.1) * x.2.2.1 ^ (k / D.1 / D.2.1 % D.2.2) * x.2.2.2 ^ (k / D.1 / D.2.1 / D.2.2)
theorem tev_kmo {D : Nat × Nat × Nat} (x : K4) {t : KT} (h1 : t.2.1 < D.1) (h2 : t.2.2.1 < D.2.1) (h3 : t.2.2.2.1 < D.2.2) : tev x t = t.1 * kmo D x (tcd D t) := by
  have e1 : tcd D t % D.1 = t.2.1 := by rw [tcd, Nat.add_mul_mod_self_left, Nat.mod_eq_of_lt h1]
  have e2 : tcd D t / D.1 = t.2.2.1 + D.2.1 * (t.2.2.2.1 + D.2.2 * t.2.2.2.2) := by rw [tcd, Nat.add_mul_div_left _ _ (by omega), Nat.div_eq_of_lt h1, Nat.zero_add]
  have e3 : tcd D t / D.1 % D.2.1 = t.2.2.1 := by rw [e2, Nat.add_mul_mod_self_left, Nat.mod_eq_of_lt h2]
  have e4 : tcd D t / D.1 / D.2.1 = t.2.2.2.1 + D.2.2 * t.2.2.2.2 := by rw [e2, Nat.add_mul_div_left _ _ (by omega), Nat.div_eq_of_lt h2, Nat.zero_add]
  have e5 : tcd D t / D.1 / D.2.1 % D.2.2 = t.2.2.2.1 := by rw [e4, Nat.add_mul_mod_self_left, Nat.mod_eq_of_lt h3]
  have e6 : tcd D t / D.1 / D.2.1 / D.2.2 = t.2.2.2.2 := by rw [e4, Nat.add_mul_div_left _ _ (by omega), Nat.div_eq_of_lt h3, Nat.zero_add]
  rw [kmo, e6, e5, e3, e1, tev]
theorem pev_zero {B : Nat} {D : Nat × Nat × Nat} {f : List KT} {d : Nat × Nat × Nat × Nat} (hd : ∀ t ∈ f, tle d t) (h1 : d.1 < D.1) (h2 : d.2.1 < D.2.1) (h3 : d.2.2.1 < D.2.2) (hn : 2 * pno f < B) (h0 : pev (kbs B D) f = 0) (x : K4) : pev x f = 0 := by
  have hc : ∀ t ∈ f, tcd D t < D.1 * (D.2.1 * (D.2.2 * (d.2.2.2 + 1))) := by
    intro t ht
    obtain ⟨q1, q2, q3, q4⟩ := hd t ht
    have a3 : t.2.2.2.1 + D.2.2 * t.2.2.2.2 + 1 ≤ D.2.2 * (d.2.2.2 + 1) := by
      have : D.2.2 * t.2.2.2.2 ≤ D.2.2 * d.2.2.2 := Nat.mul_le_mul_left _ q4
      rw [Nat.mul_add]
      omega
    have a2 : t.2.2.1 + D.2.1 * (t.2.2.2.1 + D.2.2 * t.2.2.2.2) + 1 ≤ D.2.1 * (D.2.2 * (d.2.2.2 + 1)) := by
      have := Nat.mul_le_mul_left D.2.1 a3
      rw [Nat.mul_add] at this
      omega
    have a1 := Nat.mul_le_mul_left D.1 a2
    rw [Nat.mul_add] at a1
    rw [tcd]
    omega
  rw [csm_pev D (fun k => (B : Int) ^ k) (kbs B D) f (fun t _ => tev_kbs B D t), csm_sm D _ _ f hc] at h0
  have hz := sm_dig (B := B) (a := kcf D f) (fun k => by have := kcf_le D k f; omega) _ h0
  rw [csm_pev D (kmo D x) x f (fun t ht => by obtain ⟨q1, q2, q3, q4⟩ := hd t ht; exact tev_kmo x (by omega) (by omega) (by omega)), csm_sm D _ _ f hc]
  rw [sm_congr _ (fun k hk => by rw [hz k hk, Int.zero_mul])]
  exact sm_0 _
