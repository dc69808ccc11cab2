/-! THE MEMORY AND THE HEAP: cell k of the small memory stands at ph k of the heap -/
def kf_ph (sa : Nat → Nat) (N0 : Nat) (k : Nat) : Nat := if k < kf_NS then sa k else N0 + (k - kf_NS)
def cv (sa : Nat → Nat) (N0 : Nat) : Value → Value
  | .ref a => .ref (kf_ph sa N0 a)
  | v => v
def kf_arr (U : State) (ty : FieldType) (vs : List Value) (cell : Cell) : Prop := U.isArrayOf cell ty ∧ cell.vm ≠ .unknown ∧ vs.length ≤ cell.slots.size ∧ cell.slots.size.toInt32 = vs.length.toInt32 ∧ ∀ (j : Nat) (v : Value), vs[j]? = some v → cell.slots[j]? = some v
def kf_cell (sa : Nat → Nat) (N0 : Nat) (D : va_G) (U : State) (ob : kf_Ob) (cell : Cell) : Prop := match ob with
  | .inl (c, fs) => ∃ r : vw_C, vwCl[c]? = some r ∧ fs.length = r.2.2 ∧ cell.cls = D.1 c ∧ cell.vm = .none ∧ ∀ k, k < r.2.2 → cell.slots[D.2 c k]? = some (cv sa N0 (fs.getD k .null))
  | .inr (.inl xs) => kf_arr U .int (xs.map .int) cell
  | .inr (.inr (.inl xs)) => kf_arr U .long (xs.map .long) cell
  | .inr (.inr (.inr (.inl xs))) => kf_arr U .boolean (xs.map .int) cell
  | .inr (.inr (.inr (.inr (c, rs)))) => ∃ r : vw_C, vwCl[c]? = some r ∧ kf_arr U (.object r.1) (rs.map fun o => cv sa N0 (vR o)) cell ∧ va_RA U cell.cls (.object r.1)
def kf_isO : kf_Ob → Bool
  | .inl _ => true
  | _ => false
def kf_Rel (sa : Nat → Nat) (N0 : Nat) (D : va_G) (H00 : Heap) (U : State) (M : kf_M) (H : Heap) : Prop :=
  kf_NS ≤ M.length ∧ H.size + kf_NS = N0 + M.length ∧ (∀ q : Nat, q < N0 → H[q]? = H00[q]?) ∧ ∀ (k : Nat) (ob : kf_Ob), M[k]? = some ob → (kf_isO ob = true → kf_NS ≤ k) ∧ ∃ cell : Cell, H[kf_ph sa N0 k]? = some cell ∧ kf_cell sa N0 D U ob cell
section REL
variable {sa : Nat → Nat} {N0 : Nat} {D : va_G} {H00 : Heap} {U u : State} {M : kf_M} {H H' : Heap}
theorem kf_ph_ge {k : Nat} (h : kf_NS ≤ k) : kf_ph sa N0 k = N0 + (k - kf_NS) := if_neg (Nat.not_lt.mpr h)
theorem kf_ph_lt {k : Nat} (h : k < kf_NS) : kf_ph sa N0 k = sa k := if_pos h
theorem kf_ph_ne (hsa : ∀ k, k < kf_NS → sa k < N0) {j k : Nat} (hk : kf_NS ≤ k) (hjk : j ≠ k) : kf_ph sa N0 j ≠ kf_ph sa N0 k := by
  rw [kf_ph_ge hk]
  by_cases h : kf_NS ≤ j
  · rw [kf_ph_ge h]; simp only [kf_NS] at *; omega
  · rw [kf_ph_lt (Nat.not_le.mp h)]
    have := hsa j (Nat.not_le.mp h)
    omega
theorem kf_arr_moved {ty : FieldType} {vs : List Value} {cell : Cell} (hvm : u.vm.Alike U.vm) (h : kf_arr u ty vs cell) : kf_arr U ty vs cell := ⟨State.isArrayOf_alike hvm h.1, h.2⟩
theorem kf_cell_moved {ob : kf_Ob} {cell : Cell} (hvm : u.vm.Alike U.vm) (h : kf_cell sa N0 D u ob cell) : kf_cell sa N0 D U ob cell := by
  match ob, h with
  | .inl (c, fs), h => exact h
  | .inr (.inl xs), h => exact kf_arr_moved hvm h
  | .inr (.inr (.inl xs)), h => exact kf_arr_moved hvm h
  | .inr (.inr (.inr (.inl xs))), h => exact kf_arr_moved hvm h
  | .inr (.inr (.inr (.inr (c, rs)))), h =>
    obtain ⟨r, h1, h2, h3⟩ := h
    exact ⟨r, h1, kf_arr_moved hvm h2, h3.moved hvm⟩
theorem kf_Rel.moved (hvm : u.vm.Alike U.vm) (h : kf_Rel sa N0 D H00 u M H) : kf_Rel sa N0 D H00 U M H := by
  obtain ⟨h0, h1, h2, h3⟩ := h
  refine ⟨h0, h1, h2, fun k ob hk => ?_⟩
  obtain ⟨a, cell, b, c⟩ := h3 k ob hk
  exact ⟨a, cell, b, kf_cell_moved hvm c⟩
theorem kf_Rel.at (h : kf_Rel sa N0 D H00 U M H) {k : Nat} {ob : kf_Ob} (hk : M[k]? = some ob) : ∃ cell : Cell, H[kf_ph sa N0 k]? = some cell ∧ kf_cell sa N0 D U ob cell := (h.2.2.2 k ob hk).2
theorem kf_Rel.lt (h : kf_Rel sa N0 D H00 U M H) (hsa : ∀ k, k < kf_NS → sa k < N0) {k : Nat} (hk : k < M.length) : kf_ph sa N0 k < H.size := by
  by_cases hk2 : kf_NS ≤ k
  · rw [kf_ph_ge hk2]; have := h.2.1; simp only [kf_NS] at *; omega
  · rw [kf_ph_lt (Nat.not_le.mp hk2)]
    have a := hsa k (Nat.not_le.mp hk2); have b := h.2.1; have c := h.1
    simp only [kf_NS] at *; omega
/-- a cell is written -/
theorem kf_Rel.set (h : kf_Rel sa N0 D H00 U M H) (hsa : ∀ k, k < kf_NS → sa k < N0) {k : Nat} {ob : kf_Ob} {cell : Cell} (hk : kf_NS ≤ k) (hl : k < M.length) (e1 : H'[kf_ph sa N0 k]? = some cell) (e2 : H'.size = H.size) (e3 : ∀ q, q ≠ kf_ph sa N0 k → H'[q]? = H[q]?) (hc : kf_cell sa N0 D U ob cell) : kf_Rel sa N0 D H00 U (M.set k ob) H' := by
  obtain ⟨h0, h1, h2, h3⟩ := h
  refine ⟨by rw [List.length_set]; exact h0, by rw [e2, List.length_set]; exact h1, fun q hq => ?_, fun j o hj => ?_⟩
  · rw [e3 q (by rw [kf_ph_ge hk]; omega)]
    exact h2 q hq
  · by_cases hjk : j = k
    · subst hjk
      rw [List.getElem?_set_self hl] at hj
      cases hj
      exact ⟨fun _ => hk, cell, e1, hc⟩
    · rw [List.getElem?_set_ne (Ne.symm hjk)] at hj
      obtain ⟨a, c2, b1, b2⟩ := h3 j o hj
      exact ⟨a, c2, by rw [e3 _ (kf_ph_ne hsa hk hjk)]; exact b1, b2⟩
/-- a cell is made -/
theorem kf_Rel.push (h : kf_Rel sa N0 D H00 U M H) (hsa : ∀ k, k < kf_NS → sa k < N0) {ob : kf_Ob} {cell : Cell} (e1 : H'[H.size]? = some cell) (e2 : H'.size = H.size + 1) (e3 : ∀ q, q < H.size → H'[q]? = H[q]?) (hc : kf_cell sa N0 D U ob cell) : kf_Rel sa N0 D H00 U (M ++ [ob]) H' ∧ kf_ph sa N0 M.length = H.size := by
  have hall := h
  obtain ⟨h0, h1, h2, h3⟩ := h
  have hp : kf_ph sa N0 M.length = H.size := by rw [kf_ph_ge h0]; simp only [kf_NS] at *; omega
  refine ⟨⟨by rw [List.length_append]; exact Nat.le_trans h0 (Nat.le_add_right _ _), by rw [e2, List.length_append]; simp only [List.length_cons, List.length_nil, kf_NS] at *; omega, fun q hq => ?_, fun j o hj => ?_⟩, hp⟩
  · rw [e3 q (by simp only [kf_NS] at *; omega)]
    exact h2 q hq
  · by_cases hl : j < M.length
    · rw [List.getElem?_append_left hl] at hj
      obtain ⟨a, c2, b1, b2⟩ := h3 j o hj
      exact ⟨a, c2, by rw [e3 _ (kf_Rel.lt hall hsa hl)]; exact b1, b2⟩
    · rw [List.getElem?_append_right (Nat.not_lt.mp hl)] at hj
      have hz : j - M.length < 1 := (List.getElem?_eq_some_iff.mp hj).1
      have hj0 : j = M.length := by omega
      subst hj0
      rw [Nat.sub_self] at hj
      cases hj
      exact ⟨fun _ => h0, cell, by rw [hp]; exact e1, hc⟩
theorem gO_at {a : Nat} {o : Nat × List Value} (h : gO M a = some o) : M[a]? = some (.inl o) := by
  unfold gO at h
  split at h
  · rename_i h1; cases h; exact h1
  · cases h
theorem gI_at {a : Nat} {o : List Int32} (h : gI M a = some o) : M[a]? = some (oI o) := by
  unfold gI at h
  split at h
  · rename_i h1; cases h; exact h1
  · cases h
theorem gJ_at {a : Nat} {o : List Int64} (h : gJ M a = some o) : M[a]? = some (oJ o) := by
  unfold gJ at h
  split at h
  · rename_i h1; cases h; exact h1
  · cases h
theorem gZ_at {a : Nat} {o : List Int32} (h : gZ M a = some o) : M[a]? = some (oZ o) := by
  unfold gZ at h
  split at h
  · rename_i h1; cases h; exact h1
  · cases h
theorem gR_at {a : Nat} {o : Nat × List (Option Nat)} (h : gR M a = some o) : M[a]? = some (oR o.1 o.2) := by
  unfold gR at h
  split at h
  · rename_i h1; cases h; exact h1
  · cases h
theorem cv_cat (v : Value) : (cv sa N0 v).category = v.category := by cases v <;> rfl
theorem cv_w (st : List Value) : ((st.map (cv sa N0)).map fun v => v.category).sum = kf_w st := by
  rw [List.map_map]
  unfold kf_w
  congr 1
  apply List.map_congr_left
  intro v _
  exact cv_cat v
/-- an array's slot is written -/
theorem kf_arr.set {ty : FieldType} {vs : List Value} {cell : Cell} (h : kf_arr U ty vs cell) {j : Nat} {v : Value} : kf_arr U ty (vs.set j v) (cell.setSlot j v) := by
  obtain ⟨h1, h2, h3, h4, h5⟩ := h
  refine ⟨h1, h2, ?_, ?_, fun i w hi => ?_⟩
  · show _ ≤ (cell.slots.setIfInBounds j v).size
    simpa using h3
  · show (cell.slots.setIfInBounds j v).size.toInt32 = _
    simpa using h4
  · show (cell.slots.setIfInBounds j v)[i]? = some w
    by_cases hij : j = i
    · subst hij
      have hl : j < (vs.set j v).length := (List.getElem?_eq_some_iff.mp hi).1
      rw [List.length_set] at hl
      rw [List.getElem?_set_self hl] at hi
      cases hi
      simp [Array.getElem?_setIfInBounds, Nat.lt_of_lt_of_le hl h3]
    · rw [List.getElem?_set_ne hij] at hi
      rw [Array.getElem?_setIfInBounds_ne hij]
      exact h5 i w hi
theorem kf_arr.in {ty : FieldType} {vs : List Value} {cell : Cell} (h : kf_arr U ty vs cell) {x : Int32} (h0 : ¬ x < 0) (hx : x.toNatClampNeg < vs.length) : ¬ (x < 0 ∨ cell.slots.size ≤ x.toNatClampNeg) := by
  rintro (a | a)
  · exact h0 a
  · have := h.2.2.1; omega
end REL
