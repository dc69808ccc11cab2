/-! The form of a map: what both sides read -/
def byn (cs : List Int32) (p : Nat) : Nat := match cs[p]? with | some x => uw x | none => 256
theorem uw_nI {c : Nat} (h : c < 4294967296) : uw (nI c) = c := by
  show (BitVec.ofNat 32 c).toNat = c
  rw [BitVec.toNat_ofNat]
  omega
theorem isB_get {cs : List Int32} (hb : isB cs) {p : Nat} (h : p < cs.length) : byn cs p < 256 ∧ cs[p]? = some (nI (byn cs p)) := by
  have h1 := List.getElem?_eq_getElem h
  obtain ⟨c, hc, e⟩ := hb cs[p] (List.getElem_mem h)
  unfold byn
  rw [h1]
  show uw cs[p] < 256 ∧ some cs[p] = some (nI (uw cs[p]))
  rw [e, uw_nI (by omega)]
  exact ⟨hc, rfl⟩
theorem byn_end {cs : List Int32} {p : Nat} (h : cs.length ≤ p) : byn cs p = 256 := by
  unfold byn
  rw [List.getElem?_eq_none h]
theorem nb_c {cs : List Int32} (hb : isB cs) {p : Nat} (hp : p ≤ cs.length) : (byn cs p < 256 ∧ p < cs.length ∧ nbV cs p = nI (byn cs p) ∧ nbP cs p = p + 1) ∨ (byn cs p = 256 ∧ p = cs.length ∧ nbV cs p = -1 ∧ nbP cs p = p) := by
  by_cases h : p < cs.length
  · obtain ⟨h1, h2⟩ := isB_get hb h
    exact Or.inl ⟨h1, h, by unfold nbV; rw [h2]; rfl, by unfold nbP; rw [if_pos h]⟩
  · exact Or.inr ⟨byn_end (by omega), by omega, by unfold nbV; rw [List.getElem?_eq_none (by omega)]; rfl, by unfold nbP; rw [if_neg h]⟩
def pln (cs : List Int32) (low p : Nat) : Option (Nat × Nat) := if low < 24 then some (low, p) else if low = 24 ∧ 24 ≤ byn cs p ∧ byn cs p < 256 then some (byn cs p, p + 1) else none
theorem pln_ok {cs : List Int32} {low p n q : Nat} (h : pln cs low p = some (n, q)) (hp : p ≤ cs.length) : n < 256 ∧ q ≤ cs.length ∧ p ≤ q := by
  unfold pln at h
  by_cases h1 : low < 24
  · rw [if_pos h1] at h
    cases h
    omega
  · rw [if_neg h1] at h
    by_cases h2 : low = 24 ∧ 24 ≤ byn cs p ∧ byn cs p < 256
    · rw [if_pos h2] at h
      cases h
      have : p < cs.length := by
        apply Classical.byContradiction
        intro q
        have := byn_end (cs := cs) (p := p) (by omega)
        omega
      omega
    · rw [if_neg h2] at h
      cases h
theorem rs_c {cs : List Int32} (hb : isB cs) {low p : Nat} (hp : p ≤ cs.length) (hl : low < 32) : (∃ n q, pln cs low p = some (n, q) ∧ rsV cs p (nI low) = nI n ∧ rsP cs p (nI low) = q) ∨ (pln cs low p = none ∧ rsV cs p (nI low) = -1) := by
  by_cases h1 : low < 24
  · have e : ¬ (24 : Int32) ≤ nI low := nI_ge (b := 24) h1 (by omega)
    exact Or.inl ⟨low, p, by unfold pln; rw [if_pos h1], by unfold rsV; rw [if_neg e], by unfold rsP; rw [if_neg e]⟩
  · have e : (24 : Int32) ≤ nI low := nI_le (a := 24) (by omega) (by omega)
    by_cases h2 : low = 24
    · subst h2
      have e2 : nI 24 = 24 := rfl
      rcases nb_c hb hp with ⟨b1, b2, b3, b4⟩ | ⟨b1, b2, b3, b4⟩
      · by_cases h3 : byn cs p < 24
        · have e3 : nI (byn cs p) < 24 := nI_lt (b := 24) h3 (by omega)
          exact Or.inr ⟨by unfold pln; rw [if_neg h1, if_neg (by omega)], by unfold rsV; rw [if_pos e, if_pos e2, b3, if_pos e3]⟩
        · have e3 : ¬ nI (byn cs p) < 24 := nI_nlt (b := 24) (by omega) (by omega)
          exact Or.inl ⟨_, _, by unfold pln; rw [if_neg h1, if_pos (by omega)], by unfold rsV; rw [if_pos e, if_pos e2, b3, if_neg e3], by unfold rsP; rw [if_pos e, if_pos e2, b4]⟩
      · exact Or.inr ⟨by unfold pln; rw [if_neg h1, if_neg (by omega)], by unfold rsV; rw [if_pos e, if_pos e2, b3, if_pos (by decide)]⟩
    · have e2 : ¬ nI low = 24 := fun z => h2 ((nI_eq (b := 24) (by omega) (by omega)).mp z)
      exact Or.inr ⟨by unfold pln; rw [if_neg h1, if_neg (fun z => h2 z.1)], by unfold rsV; rw [if_pos e, if_neg e2]⟩
/-- rows of a list -/
def pit (cs : List Int32) : Nat → Nat → Option (List (Nat × Nat) × Nat)
  | 0, p => some ([], p)
  | n + 1, p => if 64 ≤ byn cs p ∧ byn cs p < 96 then (pln cs (byn cs p - 64) (p + 1)).bind (fun r => if r.2 + r.1 ≤ cs.length then (pit cs n (r.2 + r.1)).map (fun t => ((r.2, r.1) :: t.1, t.2)) else none) else none
abbrev PV : Type := Nat × Nat × Nat × List (Nat × Nat)
abbrev PM : Type := List (Option PV)
def pva (cs : List Int32) (p : Nat) : Option (PV × Nat) :=
  if byn cs p < 24 then some ((1, 0, byn cs p, []), p + 1)
  else if byn cs p = 24 then (pln cs 24 (p + 1)).map (fun r => ((1, 0, r.1, []), r.2))
  else if byn cs p = 25 then (if 0 < byn cs (p + 1) ∧ byn cs (p + 1) < 256 ∧ byn cs (p + 2) < 256 then some ((1, 0, byn cs (p + 1) * 256 + byn cs (p + 2), []), p + 3) else none)
  else if byn cs p < 64 then none
  else if byn cs p < 96 then (pln cs (byn cs p - 64) (p + 1)).bind (fun r => if r.2 + r.1 ≤ cs.length then some ((2, r.2, r.1, []), r.2 + r.1) else none)
  else if byn cs p < 128 then (pln cs (byn cs p - 96) (p + 1)).bind (fun r => if r.2 + r.1 ≤ cs.length then some ((3, r.2, r.1, []), r.2 + r.1) else none)
  else if byn cs p < 144 then (pit cs (byn cs p - 128) (p + 1)).map (fun r => ((4, p + 1, byn cs p - 128, r.1), r.2))
  else if byn cs p = 244 then some ((5, 0, 0, []), p + 1)
  else if byn cs p = 245 then some ((5, 0, 1, []), p + 1)
  else none
def ppr (cs : List Int32) : Nat → Nat → Nat → PM → Option (PM × Nat)
  | 0, _, p, m => some (m, p)
  | n + 1, lo, p, m => if lo ≤ byn cs p ∧ byn cs p < 24 then (pva cs (p + 1)).bind (fun r => ppr cs n (byn cs p + 1) r.2 (m.set (byn cs p) (some r.1))) else none
def pmp (cs : List Int32) : Option PM := if 160 ≤ byn cs 0 ∧ byn cs 0 < 176 then (ppr cs (byn cs 0 - 160) 0 1 (List.replicate 24 none)).bind (fun r => if r.2 = cs.length then some r.1 else none) else none
theorem byn_lt {cs : List Int32} {p : Nat} (h : byn cs p < 256) : p < cs.length := by
  apply Classical.byContradiction
  intro q
  have := byn_end (cs := cs) (p := p) (by omega)
  omega
theorem pit_ok {cs : List Int32} : ∀ (n p : Nat) (its : List (Nat × Nat)) (q : Nat), pit cs n p = some (its, q) → p ≤ cs.length → its.length = n ∧ q ≤ cs.length ∧ ∀ e ∈ its, e.1 + e.2 ≤ cs.length ∧ e.2 < 256
  | 0, p, its, q, h, hp => by
    cases h
    exact ⟨rfl, hp, by simp⟩
  | n + 1, p, its, q, h, hp => by
    unfold pit at h
    by_cases h1 : 64 ≤ byn cs p ∧ byn cs p < 96
    · rw [if_pos h1] at h
      have hl := byn_lt (cs := cs) (p := p) (by omega)
      cases hq : pln cs (byn cs p - 64) (p + 1) with
      | none => rw [hq] at h; cases h
      | some r =>
        obtain ⟨z, s⟩ := r
        have hk := pln_ok hq (by omega)
        rw [hq, Option.bind_some] at h
        by_cases h2 : s + z ≤ cs.length
        · rw [if_pos h2] at h
          cases hq2 : pit cs n (s + z) with
          | none => rw [hq2] at h; cases h
          | some t =>
            obtain ⟨ts, q2⟩ := t
            rw [hq2] at h
            cases h
            obtain ⟨i1, i2, i3⟩ := pit_ok n (s + z) ts _ hq2 h2
            refine ⟨by simp [i1], i2, ?_⟩
            intro e he
            rcases List.mem_cons.mp he with rfl | he
            · exact ⟨h2, hk.1⟩
            · exact i3 e he
        · rw [if_neg h2] at h
          cases h
    · rw [if_neg h1] at h
      cases h
def okV (cs : List Int32) (v : PV) : Prop := (1 ≤ v.1 ∧ v.1 ≤ 5) ∧ v.2.2.1 < 65536 ∧ ((v.1 = 2 ∨ v.1 = 3) → v.2.1 + v.2.2.1 ≤ cs.length) ∧ (v.1 = 4 → v.2.1 ≤ cs.length ∧ v.2.2.1 < 16 ∧ v.2.2.2.length = v.2.2.1 ∧ ∃ q, pit cs v.2.2.1 v.2.1 = some (v.2.2.2, q)) ∧ (v.1 = 5 → v.2.2.1 < 2)
theorem pva_ok {cs : List Int32} {p q : Nat} {v : PV} (h : pva cs p = some (v, q)) (hp : p ≤ cs.length) : q ≤ cs.length ∧ okV cs v := by
  unfold pva at h
  by_cases c1 : byn cs p < 24
  · rw [if_pos c1] at h
    have := byn_lt (cs := cs) (p := p) (by omega)
    cases h
    exact ⟨by omega, by simp [okV]; omega⟩
  rw [if_neg c1] at h
  by_cases c2 : byn cs p = 24
  · rw [if_pos c2] at h
    have := byn_lt (cs := cs) (p := p) (by omega)
    cases hq : pln cs 24 (p + 1) with
    | none => rw [hq] at h; cases h
    | some r =>
      obtain ⟨n, s⟩ := r
      have hk := pln_ok hq (by omega)
      rw [hq] at h
      cases h
      exact ⟨by omega, by simp [okV]; omega⟩
  rw [if_neg c2] at h
  by_cases c3 : byn cs p = 25
  · rw [if_pos c3] at h
    by_cases c31 : 0 < byn cs (p + 1) ∧ byn cs (p + 1) < 256 ∧ byn cs (p + 2) < 256
    · rw [if_pos c31] at h
      have := byn_lt (cs := cs) (p := p + 2) (by omega)
      cases h
      exact ⟨by omega, by simp [okV]; omega⟩
    · rw [if_neg c31] at h; cases h
  rw [if_neg c3] at h
  by_cases c4 : byn cs p < 64
  · rw [if_pos c4] at h; cases h
  rw [if_neg c4] at h
  by_cases c5 : byn cs p < 96
  · rw [if_pos c5] at h
    have := byn_lt (cs := cs) (p := p) (by omega)
    cases hq : pln cs (byn cs p - 64) (p + 1) with
    | none => rw [hq] at h; cases h
    | some r =>
      obtain ⟨n, s⟩ := r
      have hk := pln_ok hq (by omega)
      rw [hq, Option.bind_some] at h
      by_cases c51 : s + n ≤ cs.length
      · rw [if_pos c51] at h
        cases h
        exact ⟨by omega, by simp [okV]; omega⟩
      · rw [if_neg c51] at h; cases h
  rw [if_neg c5] at h
  by_cases c6 : byn cs p < 128
  · rw [if_pos c6] at h
    have := byn_lt (cs := cs) (p := p) (by omega)
    cases hq : pln cs (byn cs p - 96) (p + 1) with
    | none => rw [hq] at h; cases h
    | some r =>
      obtain ⟨n, s⟩ := r
      have hk := pln_ok hq (by omega)
      rw [hq, Option.bind_some] at h
      by_cases c51 : s + n ≤ cs.length
      · rw [if_pos c51] at h
        cases h
        exact ⟨by omega, by simp [okV]; omega⟩
      · rw [if_neg c51] at h; cases h
  rw [if_neg c6] at h
  by_cases c7 : byn cs p < 144
  · rw [if_pos c7] at h
    have := byn_lt (cs := cs) (p := p) (by omega)
    cases hq : pit cs (byn cs p - 128) (p + 1) with
    | none => rw [hq] at h; cases h
    | some r =>
      obtain ⟨its, s⟩ := r
      obtain ⟨i1, i2, i3⟩ := pit_ok _ _ _ _ hq (by omega)
      rw [hq] at h
      cases h
      exact ⟨i2, by simp only [okV]; exact ⟨by omega, by omega, by omega, fun _ => ⟨by omega, by omega, i1, _, hq⟩, by omega⟩⟩
  rw [if_neg c7] at h
  by_cases c8 : byn cs p = 244
  · rw [if_pos c8] at h
    have := byn_lt (cs := cs) (p := p) (by omega)
    cases h
    exact ⟨by omega, by simp [okV]⟩
  rw [if_neg c8] at h
  by_cases c9 : byn cs p = 245
  · rw [if_pos c9] at h
    have := byn_lt (cs := cs) (p := p) (by omega)
    cases h
    exact ⟨by omega, by simp [okV]⟩
  rw [if_neg c9] at h
  cases h
def okM (cs : List Int32) (m : PM) : Prop := m.length = 24 ∧ ∀ (k : Nat) (v : PV), m[k]? = some (some v) → okV cs v
theorem okM.set {cs : List Int32} {m : PM} {k : Nat} {v : PV} (h : okM cs m) (hv : okV cs v) : okM cs (m.set k (some v)) := by
  refine ⟨by rw [List.length_set]; exact h.1, fun j w hj => ?_⟩
  by_cases q : k = j
  · subst q
    by_cases hl : k < m.length
    · rw [List.getElem?_set_self hl] at hj
      cases hj
      exact hv
    · rw [List.getElem?_eq_none (by rw [List.length_set]; omega)] at hj
      cases hj
  · rw [List.getElem?_set_ne q] at hj
    exact h.2 j w hj
theorem ppr_ok {cs : List Int32} : ∀ (n lo p : Nat) (m : PM) (m' : PM) (q : Nat), ppr cs n lo p m = some (m', q) → p ≤ cs.length → okM cs m → q ≤ cs.length ∧ okM cs m'
  | 0, lo, p, m, m', q, h, hp, hm => by
    cases h
    exact ⟨hp, hm⟩
  | n + 1, lo, p, m, m', q, h, hp, hm => by
    unfold ppr at h
    by_cases c : lo ≤ byn cs p ∧ byn cs p < 24
    · rw [if_pos c] at h
      have := byn_lt (cs := cs) (p := p) (by omega)
      cases hq : pva cs (p + 1) with
      | none => rw [hq] at h; cases h
      | some r =>
        obtain ⟨v, s⟩ := r
        obtain ⟨k1, k2⟩ := pva_ok hq (by omega)
        rw [hq, Option.bind_some] at h
        exact ppr_ok n _ s _ m' q h k1 (hm.set k2)
    · rw [if_neg c] at h
      cases h
theorem pmp_ok {cs : List Int32} {m : PM} (h : pmp cs = some m) : okM cs m := by
  unfold pmp at h
  by_cases c : 160 ≤ byn cs 0 ∧ byn cs 0 < 176
  · rw [if_pos c] at h
    have := byn_lt (cs := cs) (p := 0) (by omega)
    cases hq : ppr cs (byn cs 0 - 160) 0 1 (List.replicate 24 none) with
    | none => rw [hq] at h; cases h
    | some r =>
      obtain ⟨m', q⟩ := r
      rw [hq, Option.bind_some] at h
      have := ppr_ok _ _ _ _ _ _ hq (by omega) ⟨by simp, fun k v hk => by
        by_cases hl : k < 24
        · rw [List.getElem?_replicate, if_pos hl] at hk
          cases hk
        · rw [List.getElem?_eq_none (by simp; omega)] at hk
          cases hk⟩
      by_cases c2 : q = cs.length
      · rw [if_pos c2] at h
        cases h
        exact this.2
      · rw [if_neg c2] at h
        cases h
  · rw [if_neg c] at h
    cases h
