theorem kf_do_mono {r1 r2 : Nat → Nat → kf_L → List Value → kf_M → Option kf_R} (h : ∀ k pc ls st M q, r1 k pc ls st M = some q → r2 k pc ls st M = some q) {mx : List Nat} {k : Nat} {a : Option kf_A} {q : kf_R} (hq : kf_do r1 mx k a = some q) : kf_do r2 mx k a = some q := by
  match a with
  | none => simp [kf_do] at hq
  | some (.inl r) => exact hq
  | some (.inr (.inl (pc, ls, st, M))) => exact h _ _ _ _ _ _ hq
  | some (.inr (.inr (k', as, pc, ls, st, M))) =>
    simp only [kf_do, Option.bind_eq_some_iff] at hq ⊢
    obtain ⟨n, h1, q1, h2, h3⟩ := hq
    exact ⟨n, h1, q1, h _ _ _ _ _ _ h2, h _ _ _ _ _ _ h3⟩
theorem kf_run_mono : ∀ (n k pc : Nat) (ls : kf_L) (st : List Value) (M : kf_M) (q : kf_R), kf_run n k pc ls st M = some q → kf_run (n + 1) k pc ls st M = some q := by
  intro n
  induction n with
  | zero => intro k pc ls st M q h; simp [kf_run] at h
  | succ n ih =>
    intro k pc ls st M q h
    rw [kf_run] at h ⊢
    exact kf_do_mono ih h
theorem kf_run_le {n m k pc : Nat} {ls : kf_L} {st : List Value} {M : kf_M} {q : kf_R} (h : n ≤ m) (hr : kf_run n k pc ls st M = some q) : kf_run m k pc ls st M = some q := by
  induction h with
  | refl => exact hr
  | step _ ih => exact kf_run_mono _ _ _ _ _ _ _ ih
noncomputable def kf_ev (k pc : Nat) (ls : kf_L) (st : List Value) (M : kf_M) : Option kf_R := @dite _ (∃ q n, kf_run n k pc ls st M = some q) (Classical.propDecidable _) (fun h => some h.choose) (fun _ => none)
theorem kf_ev_iff {k pc : Nat} {ls : kf_L} {st : List Value} {M : kf_M} {q : kf_R} : kf_ev k pc ls st M = some q ↔ ∃ n, kf_run n k pc ls st M = some q := by
  unfold kf_ev
  constructor
  · intro h
    split at h
    · rename_i h1
      cases h
      exact h1.choose_spec
    · cases h
  · rintro ⟨n, hn⟩
    have h1 : ∃ q n, kf_run n k pc ls st M = some q := ⟨q, n, hn⟩
    rw [dif_pos h1]
    obtain ⟨m, hm⟩ := h1.choose_spec
    have a1 := kf_run_le (Nat.le_max_left n m) hn
    have a2 := kf_run_le (Nat.le_max_right n m) hm
    rw [← a1.symm.trans a2]
theorem kf_unf {k pc rt ln : Nat} {i : Instr} {ls : kf_L} {st : List Value} {M : kf_M} (hi : kf_I k pc = some (i, ln)) (hr : (kf_rt[k]?).getD 9 = rt) : kf_ev k pc ls st M = kf_do kf_ev kf_mx k (kf_stp kf_cs kf_nw kf_own rt i pc ln ls st M) := by
  apply Option.ext
  intro q
  rw [kf_ev_iff]
  constructor
  · rintro ⟨n, hn⟩
    cases n with
    | zero => simp [kf_run] at hn
    | succ n =>
      rw [kf_run, hi] at hn
      subst hr
      exact kf_do_mono (fun k pc ls st M q h => kf_ev_iff.mpr ⟨n, h⟩) hn
  · intro h
    subst hr
    match ha : kf_stp kf_cs kf_nw kf_own ((kf_rt[k]?).getD 9) i pc ln ls st M with
    | none => rw [ha] at h; simp [kf_do] at h
    | some (.inl r) => rw [ha] at h; exact ⟨1, by rw [kf_run, hi]; show kf_do _ _ _ (kf_stp kf_cs kf_nw kf_own ((kf_rt[k]?).getD 9) i pc ln ls st M) = _; rw [ha]; exact h⟩
    | some (.inr (.inl (pc', ls', st', M'))) =>
      rw [ha] at h
      obtain ⟨n, hn⟩ := kf_ev_iff.mp (show kf_ev k pc' ls' st' M' = some q from h)
      exact ⟨n + 1, by rw [kf_run, hi]; show kf_do _ _ _ (kf_stp kf_cs kf_nw kf_own ((kf_rt[k]?).getD 9) i pc ln ls st M) = _; rw [ha]; exact hn⟩
    | some (.inr (.inr (k', as, pc', ls', st', M'))) =>
      rw [ha] at h
      simp only [kf_do, Option.bind_eq_some_iff] at h
      obtain ⟨x, h1, q1, h2, h3⟩ := h
      obtain ⟨n, hn⟩ := kf_ev_iff.mp h2
      obtain ⟨m, hm⟩ := kf_ev_iff.mp h3
      refine ⟨max n m + 1, ?_⟩
      rw [kf_run, hi]
      show kf_do _ _ _ (kf_stp kf_cs kf_nw kf_own ((kf_rt[k]?).getD 9) i pc ln ls st M) = _
      rw [ha]
      simp only [kf_do, Option.bind_eq_some_iff]
      exact ⟨x, h1, q1, kf_run_le (Nat.le_max_left n m) hn, kf_run_le (Nat.le_max_right n m) hm⟩
