/-! reading and writing the memory -/
section LIB
variable {M M' M'' : kf_M} {a b c : Nat} {ob : kf_Ob} {fs : List Value} {xs : List Int32} {ys : List Int64} {rs : List (Option Nat)}
theorem gO_of (h : M[a]? = some (oO c fs)) : gO M a = some (c, fs) := by simp [gO, h]
theorem gI_of (h : M[a]? = some (oI xs)) : gI M a = some xs := by simp [gI, h]
theorem gJ_of (h : M[a]? = some (oJ ys)) : gJ M a = some ys := by simp [gJ, h]
theorem gZ_of (h : M[a]? = some (oZ xs)) : gZ M a = some xs := by simp [gZ, h]
theorem gR_of (h : M[a]? = some (oR c rs)) : gR M a = some (c, rs) := by simp [gR, h]
theorem m_lt (h : M[a]? = some ob) : a < M.length := (List.getElem?_eq_some_iff.mp h).1
theorem m_self (h : a < M.length) : (M.set a ob)[a]? = some ob := List.getElem?_set_self h
theorem m_ne (h : a ≠ b) : (M.set a ob)[b]? = M[b]? := List.getElem?_set_ne h
theorem gO_ne (h : a ≠ b) : gO (M.set a ob) b = gO M b := by simp only [gO, m_ne h]
theorem gI_ne (h : a ≠ b) : gI (M.set a ob) b = gI M b := by simp only [gI, m_ne h]
theorem gJ_ne (h : a ≠ b) : gJ (M.set a ob) b = gJ M b := by simp only [gJ, m_ne h]
theorem gZ_ne (h : a ≠ b) : gZ (M.set a ob) b = gZ M b := by simp only [gZ, m_ne h]
theorem gR_ne (h : a ≠ b) : gR (M.set a ob) b = gR M b := by simp only [gR, m_ne h]
theorem gO_self (h : a < M.length) : gO (M.set a (oO c fs)) a = some (c, fs) := gO_of (m_self h)
theorem gI_self (h : a < M.length) : gI (M.set a (oI xs)) a = some xs := gI_of (m_self h)
theorem gJ_self (h : a < M.length) : gJ (M.set a (oJ ys)) a = some ys := gJ_of (m_self h)
theorem gZ_self (h : a < M.length) : gZ (M.set a (oZ xs)) a = some xs := gZ_of (m_self h)
theorem gR_self (h : a < M.length) : gR (M.set a (oR c rs)) a = some (c, rs) := gR_of (m_self h)
/-- only the cells of A may differ -/
def Off (A : List Nat) (M M' : kf_M) : Prop := M'.length = M.length ∧ ∀ a, a ∉ A → M'[a]? = M[a]?
theorem Off.rf {A : List Nat} : Off A M M := ⟨rfl, fun _ _ => rfl⟩
theorem Off.set {A : List Nat} (h : a ∈ A) : Off A M (M.set a ob) := ⟨List.length_set, fun b hb => m_ne (fun e => hb (e ▸ h))⟩
theorem Off.tr {A : List Nat} (h1 : Off A M M') (h2 : Off A M' M'') : Off A M M'' := ⟨h2.1.trans h1.1, fun b hb => (h2.2 b hb).trans (h1.2 b hb)⟩
theorem Off.wk {A B : List Nat} (h : Off A M M') (hAB : ∀ a ∈ A, a ∈ B) : Off B M M' := ⟨h.1, fun b hb => h.2 b (fun q => hb (hAB b q))⟩
theorem Off.at {A : List Nat} (h : Off A M M') (ha : a ∉ A) (hm : M[a]? = some ob) : M'[a]? = some ob := by rw [h.2 a ha]; exact hm
end LIB
/-- small numbers as ints -/
theorem iN_lt {n : Nat} (h : n < 2 ^ 31) : ¬ nI n < 0 := nI_pos h
/-- a Row: its content c in an array of cap bytes -/
def RowIs (M : kf_M) (a cap : Nat) (cs : List Int32) : Prop := ∃ bs : List Int32, M[a]? = some (oO 7 [.ref (a + 1), .int (nI cs.length)]) ∧ M[a + 1]? = some (oI bs) ∧ bs.length = cap ∧ bs.take cs.length = cs
theorem RowIs.off {M M' : kf_M} {A : List Nat} {a cap : Nat} {cs : List Int32} (h : RowIs M a cap cs) (ho : Off A M M') (h1 : a ∉ A) (h2 : a + 1 ∉ A) : RowIs M' a cap cs := by
  obtain ⟨bs, q1, q2, q3⟩ := h
  exact ⟨bs, ho.at h1 q1, ho.at h2 q2, q3⟩
theorem RowIs.le {M : kf_M} {a cap : Nat} {cs : List Int32} (h : RowIs M a cap cs) : cs.length ≤ cap := by
  obtain ⟨bs, -, -, rfl, h4⟩ := h
  have := congrArg List.length h4
  simp at this
  omega
theorem fv_0 : ((0 : Fin 4) : Nat) = 0 := rfl
theorem fv_1 : ((1 : Fin 4) : Nat) = 1 := rfl
theorem fv_2 : ((2 : Fin 4) : Nat) = 2 := rfl
theorem fv_3 : ((3 : Fin 4) : Nat) = 3 := rfl
theorem fw_0 : ((0 : Fin 2) : Nat) = 0 := rfl
theorem fw_1 : ((1 : Fin 2) : Nat) = 1 := rfl
