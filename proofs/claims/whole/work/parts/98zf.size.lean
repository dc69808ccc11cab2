/-! Sizes never change -/
section SIZE
variable {M M' M'' : kf_M} {a : Nat}
def SzR (M M' : kf_M) : Prop := M.length ≤ M'.length ∧ ∀ (a : Nat) (ob : kf_Ob), M[a]? = some ob → ∃ ob', M'[a]? = some ob' ∧ oSz ob' = oSz ob
theorem SzR.rf : SzR M M := ⟨Nat.le_refl _, fun _ ob h => ⟨ob, h, rfl⟩⟩
theorem SzR.tr (h1 : SzR M M') (h2 : SzR M' M'') : SzR M M'' := ⟨Nat.le_trans h1.1 h2.1, fun a ob h => by
  obtain ⟨o1, e1, s1⟩ := h1.2 a ob h
  obtain ⟨o2, e2, s2⟩ := h2.2 a o1 e1
  exact ⟨o2, e2, s2.trans s1⟩⟩
theorem SzR.app {x : kf_Ob} : SzR M (M ++ [x]) := ⟨by rw [List.length_append]; exact Nat.le_add_right _ _, fun a ob h => ⟨ob, by rw [List.getElem?_append_left (List.getElem?_eq_some_iff.mp h).1]; exact h, rfl⟩⟩
theorem SzR.st {ob ob' : kf_Ob} (h : M[a]? = some ob) (e : oSz ob' = oSz ob) : SzR M (M.set a ob') := ⟨by rw [List.length_set]; exact Nat.le_refl _, fun b x hb => by
  by_cases c : a = b
  · subst c
    rw [h] at hb
    cases hb
    exact ⟨ob', List.getElem?_set_self (List.getElem?_eq_some_iff.mp h).1, e⟩
  · exact ⟨x, by rw [List.getElem?_set_ne c]; exact hb, rfl⟩⟩
theorem SzR.sO {o : Nat × List Value} {k : Nat} {v : Value} (h : gO M a = some o) : SzR M (M.set a (oO o.1 (o.2.set k v))) := SzR.st (gO_at h) (by show (o.2.set k v).length = o.2.length; rw [List.length_set])
theorem SzR.sI {xs : List Int32} {k : Nat} {v : Int32} (h : gI M a = some xs) : SzR M (M.set a (oI (xs.set k v))) := SzR.st (gI_at h) (by show (xs.set k v).length = xs.length; rw [List.length_set])
theorem SzR.sJ {xs : List Int64} {k : Nat} {v : Int64} (h : gJ M a = some xs) : SzR M (M.set a (oJ (xs.set k v))) := SzR.st (gJ_at h) (by show (xs.set k v).length = xs.length; rw [List.length_set])
theorem SzR.sZ {xs : List Int32} {k : Nat} {v : Int32} (h : gZ M a = some xs) : SzR M (M.set a (oZ (xs.set k v))) := SzR.st (gZ_at h) (by show (xs.set k v).length = xs.length; rw [List.length_set])
theorem SzR.sR {xs : Nat × List (Option Nat)} {k : Nat} {v : Option Nat} (h : gR M a = some xs) : SzR M (M.set a (oR xs.1 (xs.2.set k v))) := SzR.st (gR_at h) (by show (xs.2.set k v).length = xs.2.length; rw [List.length_set])
theorem SzR.cI {xs ys : List Int32} {p q n : Nat} (h : gI M a = some ys) (c : p + n ≤ xs.length ∧ q + n ≤ ys.length) : SzR M (M.set a (oI (kf_cp xs ys p q n))) := SzR.st (gI_at h) (kf_cp_len c.1 c.2)
theorem SzR.cJ {xs ys : List Int64} {p q n : Nat} (h : gJ M a = some ys) (c : p + n ≤ xs.length ∧ q + n ≤ ys.length) : SzR M (M.set a (oJ (kf_cp xs ys p q n))) := SzR.st (gJ_at h) (kf_cp_len c.1 c.2)
def mA : kf_A → kf_M
  | .inl r => r.2
  | .inr (.inl s) => s.2.2.2
  | .inr (.inr c) => c.2.2.2.2.2
def okA (M : kf_M) (o : Option kf_A) : Prop := ∀ A, o = some A → SzR M (mA A)
theorem okA_n : okA M none := fun _ h => by cases h
theorem okA_G {pc : Nat} {ls : kf_L} {st : List Value} (h : SzR M M') : okA M (aG pc ls st M') := fun _ e => by cases e; exact h
theorem okA_R {r : Option Value} (h : SzR M M') : okA M (aR r M') := fun _ e => by cases e; exact h
theorem okA_C {k pc : Nat} {as : List Value} {ls : kf_L} {st : List Value} (h : SzR M M') : okA M (aC k as pc ls st M') := fun _ e => by cases e; exact h
theorem okA_b {α : Type} {o : Option α} {f : α → Option kf_A} (h : ∀ x, o = some x → okA M (f x)) : okA M (o.bind f) := by
  cases o with
  | none => exact okA_n
  | some x => exact h x rfl
variable {cs : List Int64} {nw : List (List Value)} {own : List Nat} {rt pc ln : Nat} {i : Instr} {ls : kf_L} {st : List Value}
theorem okA_i2 {f : Int32 → Int32 → Int32} : okA M (i2 f pc ls st M) := by
  unfold i2; split; exact okA_G SzR.rf; exact okA_n
theorem okA_i1 {f : Int32 → Int32} : okA M (i1 f pc ls st M) := by
  unfold i1; split; exact okA_G SzR.rf; exact okA_n
theorem okA_j2 {f : Int64 → Int64 → Int64} : okA M (j2 f pc ls st M) := by
  unfold j2; split; exact okA_G SzR.rf; exact okA_n
theorem okA_jS {f : Int64 → Int32 → Int64} : okA M (jS f pc ls st M) := by
  unfold jS; split; exact okA_G SzR.rf; exact okA_n
theorem okA_bI {c : ClassFile.Cond} {x y : Int32} {t : Nat} : okA M (bI c x y t pc ls st M) := by
  unfold bI
  repeat' first | exact okA_G SzR.rf | split
theorem okA_ca {k n : Nat} : okA M (kf_call k n pc ls st M) := by
  unfold kf_call
  repeat' first | exact okA_C SzR.rf | exact okA_n | split
theorem okA_sw {d lo hi : Int} {offs : Array Int} {x : Int32} : okA M (kf_sw d lo hi offs x ls st M) := by
  unfold kf_sw
  repeat' first | exact okA_G SzR.rf | exact okA_n | split
theorem okA_cp {sp dp n : Int32} {b : Nat} : okA M (kf_copy sp dp n a b pc ls st M) := by
  unfold kf_copy
  repeat' first | exact okA_n | exact okA_G (SzR.cI (by assumption) (by assumption)) | exact okA_G (SzR.cJ (by assumption) (by assumption)) | split
set_option maxHeartbeats 4000000 in
theorem okA_stp : okA M (kf_stp cs nw own rt i pc ln ls st M) := by
  unfold kf_stp
  repeat' first | exact okA_n | exact okA_G SzR.rf | exact okA_R SzR.rf | exact okA_G SzR.app | exact okA_i2 | exact okA_i1 | exact okA_j2 | exact okA_jS | exact okA_bI | exact okA_ca | exact okA_sw | exact okA_cp | exact okA_G (SzR.sO (by assumption)) | exact okA_G (SzR.sI (by assumption)) | exact okA_G (SzR.sJ (by assumption)) | exact okA_G (SzR.sZ (by assumption)) | exact okA_G (SzR.sR (by assumption)) | (refine okA_b fun _ _ => ?_) | split
theorem run_sz : ∀ (n k pc : Nat) (ls : kf_L) (st : List Value) (M : kf_M) (q : kf_R), kf_run n k pc ls st M = some q → SzR M q.2 := by
  intro n
  induction n with
  | zero => intro k pc ls st M q h; rw [kf_run] at h; cases h
  | succ n ih =>
    intro k pc ls st M q h
    rw [kf_run] at h
    cases hI : kf_I k pc with
    | none => rw [hI] at h; simp [kf_do] at h
    | some x =>
      obtain ⟨i, ln⟩ := x
      rw [hI] at h
      have ok : okA M (kf_stp kf_cs kf_nw kf_own ((kf_rt[k]?).getD 9) i pc ln ls st M) := okA_stp
      have h : kf_do (kf_run n) kf_mx k (kf_stp kf_cs kf_nw kf_own ((kf_rt[k]?).getD 9) i pc ln ls st M) = some q := h
      match hA : kf_stp kf_cs kf_nw kf_own ((kf_rt[k]?).getD 9) i pc ln ls st M with
      | none => rw [hA] at h; simp [kf_do] at h
      | some (.inl r) =>
        rw [hA] at h
        have := ok _ hA
        simp only [kf_do, Option.some.injEq] at h
        subst h
        exact this
      | some (.inr (.inl (pc', ls', st', M'))) =>
        rw [hA] at h
        have := ok _ hA
        exact SzR.tr this (ih _ _ _ _ _ _ h)
      | some (.inr (.inr (k', as, pc', ls', st', M'))) =>
        rw [hA] at h
        have := ok _ hA
        simp only [kf_do, Option.bind_eq_some_iff] at h
        obtain ⟨l0, -, q1, h1, h2⟩ := h
        exact (SzR.tr this (ih _ _ _ _ _ _ h1)).tr (ih _ _ _ _ _ _ h2)
theorem ev_sz {k pc : Nat} {q : kf_R} (h : kf_ev k pc ls st M = some q) : SzR M q.2 := by
  obtain ⟨n, hn⟩ := kf_ev_iff.mp h
  exact run_sz n k pc ls st M q hn
theorem sz_eq (h : SzR M M') (hl : M'.length = M.length) : kf_sz M' = kf_sz M := by
  unfold kf_sz
  congr 1
  apply List.ext_getElem?
  intro j
  rw [List.getElem?_map, List.getElem?_map]
  cases hj : M[j]? with
  | none =>
    have : M.length ≤ j := List.getElem?_eq_none_iff.mp hj
    rw [List.getElem?_eq_none (by omega)]
  | some ob =>
    obtain ⟨ob', e1, e2⟩ := h.2 j ob hj
    rw [e1]
    show some (oSz ob') = some (oSz ob)
    rw [e2]
theorem sz_le {B : Nat} : ∀ (L : kf_M), (∀ x ∈ L, oSz x ≤ B) → kf_sz L ≤ L.length * B
  | [], _ => Nat.zero_le _
  | x :: L, h => by
    have h1 := h x List.mem_cons_self
    have h2 := sz_le L (fun y hy => h y (List.mem_cons_of_mem _ hy))
    have e : kf_sz (x :: L) = oSz x + kf_sz L := by simp [kf_sz]
    rw [e, List.length_cons, Nat.add_mul]
    omega
theorem sz_cut (n : Nat) : kf_sz M = kf_sz (M.take n) + kf_sz (M.drop n) := by
  have e : M = M.take n ++ M.drop n := (List.take_append_drop n M).symm
  unfold kf_sz
  conv => lhs; rw [e, List.map_append, List.sum_append]
theorem sz_bd {B n : Nat} (h : ∀ a, n ≤ a → a < M.length → ∃ ob, M[a]? = some ob ∧ oSz ob ≤ B) : kf_sz M ≤ kf_sz (M.take n) + (M.length - n) * B := by
  rw [sz_cut n]
  have := sz_le (B := B) (M.drop n) (fun x hx => by
    obtain ⟨j, hj⟩ := List.mem_iff_getElem?.mp hx
    have hl := (List.getElem?_eq_some_iff.mp hj).1
    rw [List.length_drop] at hl
    rw [List.getElem?_drop] at hj
    obtain ⟨ob, e1, e2⟩ := h (n + j) (by omega) (by omega)
    rw [hj] at e1
    cases e1
    exact e2)
  rw [List.length_drop] at this
  omega
end SIZE
