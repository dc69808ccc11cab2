/-! calls and returns of the small machine -/
theorem stp_cr {cs : List Int64} {nw : List (List Value)} {own : List Nat} {rt pc ln : Nat} {ls : kf_L} {st : List Value} {M : kf_M} {j : Instr} {act : kf_A} (hj : kf_cr j = true) (h : kf_stp cs nw own rt j pc ln ls st M = some act) :
    (∃ r, act = .inl (r, M) ∧ st = r.toList ∧ ((∃ v, r = some (.int v) ∧ j = .ireturn ∧ (rt = 1 ∨ (rt = 2 ∧ (v = 0 ∨ v = 1)))) ∨ (∃ v, r = some (.long v) ∧ j = .lreturn ∧ rt = 3) ∨ (∃ a, r = some (.ref a) ∧ j = .areturn ∧ rt = 4) ∨ (r = some .null ∧ j = .areturn ∧ rt = 4) ∨ (r = none ∧ j = .return_ ∧ rt = 0))) ∨
    (∃ x as st', act = .inr (.inr (x / 10, as, pc + ln, ls, st', M)) ∧ st = as.reverse ++ st' ∧ as.length = x % 10 ∧ kf_w st' ≤ 8 ∧ ((j = .invokestatic x ∧ x ≠ 9985 ∧ x ≠ 9972 ∧ x ≠ 9962) ∨ (j = .invokespecial x ∧ x ≠ 9991 ∧ ∃ b as', as = .ref b :: as') ∨ (j = .invokevirtual x ∧ ∃ c b as' fs, own[x / 10]? = some c ∧ as = .ref b :: as' ∧ gO M b = some (c, fs)))) := by
  have hd : ∀ {x b : Nat}, x % 10 ≠ 0 → x % 10 ≤ st.length → st[x % 10 - 1]? = some (.ref b) → ∃ as', (st.take (x % 10)).reverse = .ref b :: as' := by
    intro x b h0 h1 h2
    have hl : (st.take (x % 10)).reverse ≠ [] := by
      intro q
      have := congrArg List.length q
      simp at this
      rcases this with z | z
      · exact h0 z
      · subst z; simp at h1; exact h0 h1
    obtain ⟨a, t, hat⟩ := List.exists_cons_of_ne_nil hl
    refine ⟨t, ?_⟩
    have e0 : (st.take (x % 10)).reverse[0]? = some a := by rw [hat]; rfl
    rw [List.getElem?_reverse (by simp; omega), List.length_take, Nat.min_eq_left h1, List.getElem?_take_of_lt (by omega), show x % 10 - 1 - 0 = x % 10 - 1 by omega, h2] at e0
    cases e0
    exact hat
  have hcall : ∀ {x : Nat}, kf_call (x / 10) (x % 10) (pc + ln) ls st M = some act → x % 10 ≤ st.length ∧ act = .inr (.inr (x / 10, (st.take (x % 10)).reverse, pc + ln, ls, st.drop (x % 10), M)) ∧ st = (st.take (x % 10)).reverse.reverse ++ st.drop (x % 10) ∧ (st.take (x % 10)).reverse.length = x % 10 ∧ kf_w (st.drop (x % 10)) ≤ 8 := by
    intro x h
    unfold kf_call at h
    split at h
    · rename_i hc
      refine ⟨hc.1, (Option.some.inj h).symm, by simp, by simp; omega, hc.2⟩
    · cases h
  cases j with
  | ireturn =>
    simp only [kf_stp] at h
    split at h
    · rename_i v
      split at h
      · rename_i hr
        exact Or.inl ⟨some (.int v), (Option.some.inj h).symm, rfl, Or.inl ⟨v, rfl, rfl, hr⟩⟩
      · cases h
    · cases h
  | lreturn =>
    simp only [kf_stp] at h
    split at h
    · rename_i v
      split at h
      · rename_i hr
        exact Or.inl ⟨some (.long v), (Option.some.inj h).symm, rfl, Or.inr (Or.inl ⟨v, rfl, rfl, hr⟩)⟩
      · cases h
    · cases h
  | areturn =>
    simp only [kf_stp] at h
    split at h
    · rename_i a
      split at h
      · rename_i hr
        exact Or.inl ⟨some (.ref a), (Option.some.inj h).symm, rfl, Or.inr (Or.inr (Or.inl ⟨a, rfl, rfl, hr⟩))⟩
      · cases h
    · split at h
      · rename_i hr
        exact Or.inl ⟨some .null, (Option.some.inj h).symm, rfl, Or.inr (Or.inr (Or.inr (Or.inl ⟨rfl, rfl, hr⟩)))⟩
      · cases h
    · cases h
  | return_ =>
    simp only [kf_stp] at h
    split at h
    · split at h
      · rename_i hr
        exact Or.inl ⟨none, (Option.some.inj h).symm, rfl, Or.inr (Or.inr (Or.inr (Or.inr ⟨rfl, rfl, hr⟩)))⟩
      · cases h
    · cases h
  | invokestatic x =>
    have hj : x ≠ 9985 ∧ x ≠ 9972 ∧ x ≠ 9962 := of_decide_eq_true hj
    simp only [kf_stp] at h
    rw [if_neg hj.1, if_neg hj.2.1, if_neg hj.2.2] at h
    obtain ⟨h0, h1, h2, h3, h4⟩ := hcall h
    exact Or.inr ⟨x, _, _, h1, h2, h3, h4, Or.inl ⟨rfl, hj⟩⟩
  | invokespecial x =>
    have hj : x ≠ 9991 := of_decide_eq_true hj
    simp only [kf_stp] at h
    rw [if_neg hj] at h
    split at h
    · cases h
    rename_i hz
    split at h
    case isFalse => cases h
    rename_i hr
    obtain ⟨h0, h1, h2, h3, h4⟩ := hcall h
    unfold kf_isr at hr
    split at hr
    · rename_i b hb
      obtain ⟨as', ha⟩ := hd hz h0 hb
      exact Or.inr ⟨x, _, _, h1, h2, h3, h4, Or.inr (Or.inl ⟨rfl, hj, b, as', ha⟩)⟩
    · cases hr
  | invokevirtual x =>
    simp only [kf_stp] at h
    split at h
    · cases h
    rename_i hz
    obtain ⟨c, hc, h⟩ := Option.bind_eq_some_iff.mp h
    split at h
    case isFalse => cases h
    rename_i hr
    obtain ⟨h0, h1, h2, h3, h4⟩ := hcall h
    unfold kf_rcv at hr
    split at hr
    · rename_i b hb
      split at hr
      · rename_i c' fs hg
        have hcc : c' = c := by simpa using hr
        subst hcc
        obtain ⟨as', ha⟩ := hd hz h0 hb
        exact Or.inr ⟨x, _, _, h1, h2, h3, h4, Or.inr (Or.inr ⟨rfl, c', b, as', fs, hc, ha, hg⟩)⟩
      · cases hr
    · cases hr
  | _ => simp [kf_cr] at hj
theorem kf_run_mem : ∀ (n k pc : Nat) (ls : kf_L) (st : List Value) (M : kf_M) (q : kf_R), kf_run n k pc ls st M = some q → M.length ≤ q.2.length ∧ kf_sz M ≤ kf_sz q.2 := by
  intro n
  induction n with
  | zero => intro k pc ls st M q h; simp [kf_run] at h
  | succ n ih =>
    intro k pc ls st M q h
    rw [kf_run] at h
    cases hI : kf_I k pc with
    | none => rw [hI] at h; simp [kf_do] at h
    | some jl =>
      obtain ⟨j, ln⟩ := jl
      rw [hI] at h
      dsimp only at h
      cases hs : kf_stp kf_cs kf_nw kf_own ((kf_rt[k]?).getD 9) j pc ln ls st M with
      | none => rw [hs] at h; simp [kf_do] at h
      | some act =>
        rw [hs] at h
        cases hj : kf_cr j with
        | false =>
          obtain ⟨pc', ls', st', M', rfl, h1, h2⟩ := stp_go hj hs
          have := ih _ _ _ _ _ _ (show kf_run n k pc' ls' st' M' = some q from h)
          exact ⟨Nat.le_trans h1 this.1, Nat.le_trans h2 this.2⟩
        | true =>
          rcases stp_cr hj hs with ⟨r, rfl, -⟩ | ⟨x, as, st', rfl, -⟩
          · have h : some (r, M) = some q := h
            cases h
            exact ⟨Nat.le_refl _, Nat.le_refl _⟩
          · simp only [kf_do, Option.bind_eq_some_iff] at h
            obtain ⟨l0, h1, q1, h2, h3⟩ := h
            have a := ih _ _ _ _ _ _ h2
            have b := ih _ _ _ _ _ _ h3
            exact ⟨Nat.le_trans a.1 b.1, Nat.le_trans a.2 b.2⟩
