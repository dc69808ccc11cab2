/-! what holds at every method's entry; locals -/
def kf_use : Cond → Bool
  | .methodLinkNest _ _ _ _ => true
  | .fieldLinkNest _ _ _ _ _ _ => true
  | .arrayOver (.object _) => true
  | .arrayClass _ => true
  | w => w.onTables && w.keeps
def kf_Ctx (sa : Nat → Nat) (N0 : Nat) (D : va_G) (H00 : Heap) (U : State) : Prop :=
  (∀ w ∈ lw_tbl, kf_use w = true → w.before #[] U = true) ∧ va_K D vwCl [] U ∧ (∀ k, k < kf_NS → sa k < N0) ∧ ∀ (i : Nat) (C n d : String), kf_st[i]? = some (C, n, d) → va_Z C n d (.ref (sa i)) (fun q => N0 ≤ q) U H00
theorem kf_wd {w : Cond} (hw : kf_use w = true) {A A' : Array Value} {u U : State} (h : u.vm = U.vm) (hb : w.before A u = true) : w.before A' U = true := by
  unfold kf_use at hw
  split at hw
  · exact va_tabs rfl h hb
  · exact va_tabs rfl h hb
  · rename_i C
    exact va_AO.use (va_AO.moved (by rw [h]; exact Vm.Alike.refl _) (va_AO.of hb))
  · rename_i ty
    have hW : u.WarmedH U.vm := by rw [← h]; exact State.WarmedH.refl u
    exact word_at hW (Or.inr ⟨ty, rfl⟩) hb
  · rw [Bool.and_eq_true] at hw
    exact va_tabs hw.1 h hb
theorem kf_wm {w : Cond} (hw : kf_use w = true) {s U : State} (hW : s.WarmedH U.vm) (hb : w.before #[] s = true) : w.before #[] U = true := by
  unfold kf_use at hw
  split at hw
  · exact va_Nw.warmM hW hb
  · exact va_Nw.warmF hW hb
  · exact va_AO.moved hW.alike hb
  · rename_i ty
    exact word_at hW (Or.inr ⟨ty, rfl⟩) hb
  · exact word_at hW (Or.inl hw) hb
section CTX
variable {sa : Nat → Nat} {N0 : Nat} {D : va_G} {H00 : Heap} {U u : State}
theorem kf_Ctx.moved (hW : u.WarmedH U.vm) (h : kf_Ctx sa N0 D H00 u) : kf_Ctx sa N0 D H00 U := ⟨fun w hw hu => kf_wm hu hW (h.1 w hw hu), va_K.moved hW.alike h.2.1, h.2.2.1, fun i C n d hi => (h.2.2.2 i C n d hi).moved hW.alike⟩
theorem kf_Ctx.same (hv : u.vm = U.vm) (h : kf_Ctx sa N0 D H00 u) : kf_Ctx sa N0 D H00 U := ⟨fun w hw hu => kf_wd hu hv (h.1 w hw hu), va_K.moved (by rw [hv]; exact Vm.Alike.refl _) h.2.1, h.2.2.1, fun i C n d hi => (h.2.2.2 i C n d hi).moved (by rw [hv]; exact Vm.Alike.refl _)⟩
theorem kf_Ctx.w (h : kf_Ctx sa N0 D H00 U) {w : Cond} (hw : w ∈ lw_tbl) (hu : kf_use w = true) {A : Array Value} : w.before A U = true := kf_wd hu rfl (h.1 w hw hu)
theorem lI_at {x : Int32} : ∀ {ls : kf_L} {n : Nat}, lI ls n = some x → ls[n]? = some (some (.int x))
  | [], _, h => by simp [lI] at h
  | a :: _, 0, h => by
    simp only [lI] at h
    split at h
    · cases h; rfl
    · cases h
  | _ :: t, n + 1, h => by
    rw [List.getElem?_cons_succ]
    exact lI_at h
theorem lJ_at {x : Int64} : ∀ {ls : kf_L} {n : Nat}, lJ ls n = some x → ls[n]? = some (some (.long x))
  | [], _, h => by simp [lJ] at h
  | a :: _, 0, h => by
    simp only [lJ] at h
    split at h
    · cases h; rfl
    · cases h
  | _ :: t, n + 1, h => by
    rw [List.getElem?_cons_succ]
    exact lJ_at h
theorem lA_at {x : Value} : ∀ {ls : kf_L} {n : Nat}, lA ls n = some x → ls[n]? = some (some x) ∧ ((∃ a, x = .ref a) ∨ x = .null)
  | [], _, h => by simp [lA] at h
  | a :: _, 0, h => by
    simp only [lA] at h
    split at h
    · cases h; exact ⟨rfl, Or.inl ⟨_, rfl⟩⟩
    · cases h; exact ⟨rfl, Or.inr rfl⟩
    · cases h
  | _ :: t, n + 1, h => by
    rw [List.getElem?_cons_succ]
    exact lA_at h
theorem lK_at {h : Option Value} {u : Value} (e : lK h = some u) : h = some u ∧ ¬ u.category = 2 := by
  unfold lK at e
  split at e
  · cases e
  · cases e
  · rename_i h1 h2
    refine ⟨e, ?_⟩
    subst e
    cases u <;> simp [Value.category] at h1 h2 ⊢
theorem lS1_at {v : Value} : ∀ {ls ls' : kf_L} {i : Nat}, lS1 ls i v = some ls' → i < ls.length ∧ ls'.length = ls.length ∧ ∀ (k : Nat) (u : Value), ls'[k]? = some (some u) → (k = i ∧ u = v) ∨ (k ≠ i ∧ ls[k]? = some (some u) ∧ ¬ (k + 1 = i ∧ u.category = 2))
  | [], _, _, h => by simp [lS1] at h
  | a :: t, ls', 0, h => by
    simp only [lS1, Option.some.injEq] at h
    subst h
    refine ⟨by simp, by simp, fun k u hk => ?_⟩
    cases k with
    | zero => simp at hk; exact Or.inl ⟨rfl, hk.symm⟩
    | succ k => exact Or.inr ⟨by omega, by simpa using hk, by omega⟩
  | a :: t, ls', n + 1, h => by
    simp only [lS1, Option.map_eq_some_iff] at h
    obtain ⟨t', h1, h2⟩ := h
    obtain ⟨g1, g2, g3⟩ := lS1_at h1
    subst h2
    refine ⟨by simp; omega, by simp [g2], fun k u hk => ?_⟩
    cases k with
    | zero =>
      rw [List.getElem?_cons_zero] at hk
      refine Or.inr ⟨by omega, ?_, ?_⟩
      · by_cases hn : n = 0
        · rw [if_pos hn] at hk
          rw [List.getElem?_cons_zero, (lK_at (Option.some.inj hk)).1]
        · rw [if_neg hn] at hk
          rw [List.getElem?_cons_zero]; exact hk
      · rintro ⟨e1, e2⟩
        have hn : n = 0 := by omega
        rw [if_pos hn] at hk
        exact (lK_at (Option.some.inj hk)).2 e2
    | succ k =>
      rw [List.getElem?_cons_succ] at hk
      rcases g3 k u hk with ⟨e1, e2⟩ | ⟨e1, e2, e3⟩
      · exact Or.inl ⟨by omega, e2⟩
      · exact Or.inr ⟨by omega, by rw [List.getElem?_cons_succ]; exact e2, fun q => e3 ⟨by omega, q.2⟩⟩
theorem lS2_at {v : Value} : ∀ {ls ls' : kf_L} {i : Nat}, lS2 ls i v = some ls' → i + 1 < ls.length ∧ ls'.length = ls.length ∧ ∀ (k : Nat) (u : Value), ls'[k]? = some (some u) → (k = i ∧ u = v) ∨ (k ≠ i ∧ k ≠ i + 1 ∧ ls[k]? = some (some u) ∧ ¬ (k + 1 = i ∧ u.category = 2))
  | [], _, _, h => by simp [lS2] at h
  | [a], ls', 0, h => by simp [lS2] at h
  | a :: b :: t, ls', 0, h => by
    simp only [lS2, Option.some.injEq] at h
    subst h
    refine ⟨by simp, by simp, fun k u hk => ?_⟩
    match k, hk with
    | 0, hk => simp at hk; exact Or.inl ⟨rfl, hk.symm⟩
    | 1, hk => simp at hk
    | k + 2, hk => exact Or.inr ⟨by omega, by omega, by simpa using hk, by omega⟩
  | a :: t, ls', n + 1, h => by
    simp only [lS2, Option.map_eq_some_iff] at h
    obtain ⟨t', h1, h2⟩ := h
    obtain ⟨g1, g2, g3⟩ := lS2_at h1
    subst h2
    refine ⟨by simp; omega, by simp [g2], fun k u hk => ?_⟩
    cases k with
    | zero =>
      rw [List.getElem?_cons_zero] at hk
      refine Or.inr ⟨by omega, by omega, ?_, ?_⟩
      · by_cases hn : n = 0
        · rw [if_pos hn] at hk
          rw [List.getElem?_cons_zero, (lK_at (Option.some.inj hk)).1]
        · rw [if_neg hn] at hk
          rw [List.getElem?_cons_zero]; exact hk
      · rintro ⟨e1, e2⟩
        have hn : n = 0 := by omega
        rw [if_pos hn] at hk
        exact (lK_at (Option.some.inj hk)).2 e2
    | succ k =>
      rw [List.getElem?_cons_succ] at hk
      rcases g3 k u hk with ⟨e1, e2⟩ | ⟨e1, e2, e3, e4⟩
      · exact Or.inl ⟨by omega, e2⟩
      · exact Or.inr ⟨by omega, by omega, by rw [List.getElem?_cons_succ]; exact e3, fun q => e4 ⟨by omega, q.2⟩⟩
/-- the locals of the small machine and those of the frame -/
def kf_lr (sa : Nat → Nat) (N0 nL : Nat) (ls : kf_L) (F : Array Slot) : Prop := F.size = nL ∧ lv_wf F ∧ ls.length = nL ∧ ∀ (k : Nat) (v : Value), ls[k]? = some (some v) → F[k]? = some (.val (cv sa N0 v))
def kf_pr (sa : Nat → Nat) (N0 : Nat) (ls : kf_L) : List (Nat × Value) := (List.range ls.length).filterMap fun k => match ls[k]? with
  | some (some v) => some (k, cv sa N0 v)
  | _ => none
theorem kf_pr_mem {ls : kf_L} {k : Nat} {v : Value} (h : ls[k]? = some (some v)) : (k, cv sa N0 v) ∈ kf_pr sa N0 ls := by
  refine List.mem_filterMap.mpr ⟨k, List.mem_range.mpr (List.getElem?_eq_some_iff.mp h).1, ?_⟩
  rw [h]
theorem kf_pr_of {ls : kf_L} {q : Nat × Value} (h : q ∈ kf_pr sa N0 ls) : ∃ v, ls[q.1]? = some (some v) ∧ q.2 = cv sa N0 v := by
  obtain ⟨k, -, hk⟩ := List.mem_filterMap.mp h
  split at hk
  · rename_i v hv
    cases hk
    exact ⟨v, hv, rfl⟩
  · cases hk
theorem kf_lr.has {nL : Nat} {ls : kf_L} {F : Array Slot} (h : kf_lr sa N0 nL ls F) : lv_has F nL (kf_pr sa N0 ls) := by
  refine ⟨h.1, h.2.1, fun q hq => ?_⟩
  obtain ⟨v, h1, h2⟩ := kf_pr_of hq
  rw [h2]
  exact h.2.2.2 _ _ h1
theorem kf_lr.st1 {nL i : Nat} {ls ls' : kf_L} {F F' : Array Slot} {v w : Value} (h : kf_lr sa N0 nL ls F) (hs : lS1 ls i v = some ls') (hw : w = cv sa N0 v) (h' : lv_has F' nL ((i, w) :: (kf_pr sa N0 ls).filter (fun q => !(q.1 == i) && !(q.1 + 1 == i && q.2.category == 2)))) : kf_lr sa N0 nL ls' F' := by
  obtain ⟨a1, a2, a3⟩ := lS1_at hs
  refine ⟨h'.1, h'.2.1, a2.trans h.2.2.1, fun k u hk => ?_⟩
  rcases a3 k u hk with ⟨e1, e2⟩ | ⟨e1, e2, e3⟩
  · subst e1; subst e2; subst hw
    exact h'.2.2 _ List.mem_cons_self
  · refine h'.2.2 (k, cv sa N0 u) (List.mem_cons_of_mem _ (List.mem_filter.mpr ⟨kf_pr_mem e2, ?_⟩))
    simp only [cv_cat, Bool.and_eq_true, Bool.not_eq_true', beq_eq_false_iff_ne, ne_eq, Bool.and_eq_false_iff]
    refine ⟨e1, ?_⟩
    by_cases q : k + 1 = i
    · exact Or.inr fun z => e3 ⟨q, z⟩
    · exact Or.inl q
theorem kf_lr.st2 {nL i : Nat} {ls ls' : kf_L} {F F' : Array Slot} {v w : Value} (h : kf_lr sa N0 nL ls F) (hs : lS2 ls i v = some ls') (hw : w = cv sa N0 v) (h' : lv_has F' nL ((i, w) :: (kf_pr sa N0 ls).filter (fun q => !(q.1 == i) && (!(q.1 == i + 1) && !(q.1 + 1 == i && q.2.category == 2))))) : kf_lr sa N0 nL ls' F' := by
  obtain ⟨a1, a2, a3⟩ := lS2_at hs
  refine ⟨h'.1, h'.2.1, a2.trans h.2.2.1, fun k u hk => ?_⟩
  rcases a3 k u hk with ⟨e1, e2⟩ | ⟨e1, e0, e2, e3⟩
  · subst e1; subst e2; subst hw
    exact h'.2.2 _ List.mem_cons_self
  · refine h'.2.2 (k, cv sa N0 u) (List.mem_cons_of_mem _ (List.mem_filter.mpr ⟨kf_pr_mem e2, ?_⟩))
    simp only [cv_cat, Bool.and_eq_true, Bool.not_eq_true', beq_eq_false_iff_ne, ne_eq, Bool.and_eq_false_iff]
    refine ⟨e1, e0, ?_⟩
    by_cases q : k + 1 = i
    · exact Or.inr fun z => e3 ⟨q, z⟩
    · exact Or.inl q
/-- the locals at a method's entry -/
theorem kf_lay_at : ∀ (as : List Value) (i k : Nat) (v : Value), (kf_lay as)[k]? = some (some v) → (i + k, cv sa N0 v) ∈ lv_args i (as.map (cv sa N0))
  | [], _, _, _, h => by simp [kf_lay] at h
  | a :: t, i, k, v, h => by
    simp only [kf_lay] at h
    simp only [List.map_cons, lv_args, cv_cat]
    by_cases hc : a.category = 2
    · rw [if_pos hc] at h ⊢
      match k, h with
      | 0, h => simp at h; subst h; exact List.mem_cons_self
      | 1, h => simp at h
      | k + 2, h =>
        have := kf_lay_at t (i + 2) k v (by simpa using h)
        rw [show i + (k + 2) = i + 2 + k by omega]
        exact List.mem_cons_of_mem _ this
    · rw [if_neg hc] at h ⊢
      match k, h with
      | 0, h => simp at h; subst h; exact List.mem_cons_self
      | k + 1, h =>
        have := kf_lay_at t (i + 1) k v (by simpa using h)
        rw [show i + (k + 1) = i + 1 + k by omega]
        exact List.mem_cons_of_mem _ this
theorem kf_lay_len : ∀ (as : List Value), (kf_lay as).length = (lg_sl (as.map (cv sa N0))).length
  | [] => rfl
  | a :: t => by
    have ih := kf_lay_len t
    simp only [kf_lay, lg_sl, List.map_cons, List.flatMap_cons, cv_cat] at ih ⊢
    by_cases hc : a.category = 2
    · rw [if_pos hc, if_pos hc]; simp [ih]
    · rw [if_neg hc, if_neg hc]; simp [ih]
theorem kf_init_lr {n : Nat} {as : List Value} (hn : (kf_lay as).length ≤ n) : kf_lr sa N0 n (kf_init n as) ((lg_sl (as.map (cv sa N0)) ++ List.replicate (n - (lg_sl (as.map (cv sa N0))).length) Slot.unset).toArray) := by
  have h := lv_entry (as.map (cv sa N0)) (n := n) (by rw [← kf_lay_len]; exact hn)
  refine ⟨h.1, h.2.1, by simp [kf_init]; omega, fun k v hk => ?_⟩
  unfold kf_init at hk
  by_cases hl : k < (kf_lay as).length
  · rw [List.getElem?_append_left hl] at hk
    have := h.2.2 (k, cv sa N0 v) (by have := kf_lay_at (sa := sa) (N0 := N0) as 0 k v hk; simpa using this)
    exact this
  · rw [List.getElem?_append_right (Nat.not_lt.mp hl)] at hk
    rw [List.getElem?_replicate] at hk
    split at hk <;> simp at hk
end CTX
