/-! The reference: a key's place takes over the next one's -/
theorem cpd_ne {xs : List Int32} {b L c r : Nat} (h : b + L + L ≤ xs.length) (hr : r ≤ L) (hc : c + L ≤ b ∨ b + L ≤ c) : ((kf_cp xs xs (b + L) b L).drop c).take r = (xs.drop c).take r := by
  apply List.ext_getElem?
  intro i
  by_cases hi : i < r
  · rw [List.getElem?_take_of_lt hi, List.getElem?_take_of_lt hi, List.getElem?_drop, List.getElem?_drop, kf_cp_get (by omega) (by omega), if_neg (by omega)]
  · rw [List.getElem?_eq_none (by rw [List.length_take]; omega), List.getElem?_eq_none (by rw [List.length_take]; omega)]
theorem cpd_eq {xs : List Int32} {b L r : Nat} (h : b + L + L ≤ xs.length) (hr : r ≤ L) : ((kf_cp xs xs (b + L) b L).drop b).take r = (xs.drop (b + L)).take r := by
  apply List.ext_getElem?
  intro i
  by_cases hi : i < r
  · rw [List.getElem?_take_of_lt hi, List.getElem?_take_of_lt hi, List.getElem?_drop, List.getElem?_drop, kf_cp_get (by omega) (by omega), if_pos (by omega)]
    congr 1
    omega
  · rw [List.getElem?_eq_none (by rw [List.length_take]; omega), List.getElem?_eq_none (by rw [List.length_take]; omega)]
/-- place i takes over place i + 1 -/
theorem kyR_ne {ho ul us se ide ct po : List Int32} {i q : Nat} {k : Ky} (hi : i + 1 < 10) (l1 : ho.length = 320) (l2 : ul.length = 10) (l3 : us.length = 160) (l4 : se.length = 320) (l5 : ide.length = 160) (l6 : ct.length = 10) (l7 : po.length = 640) (ok : okKy k) (hq : q ≠ i) (h : kyR ho ul us se ide ct po q k) : kyR (kf_cp ho ho (32 * i + 32) (32 * i) 32) (ul.set i (ul.getD (i + 1) 0)) (kf_cp us us (16 * i + 16) (16 * i) 16) (kf_cp se se (32 * i + 32) (32 * i) 32) (kf_cp ide ide (16 * i + 16) (16 * i) 16) (ct.set i (ct.getD (i + 1) 0)) (kf_cp po po (64 * i + 64) (64 * i) 64) q k := by
  obtain ⟨r1, r2, r3, r4, r5, r6, r7⟩ := h
  have lu := ok.2.2.1
  refine ⟨?_, ?_, ?_, ?_, ?_, ?_, ?_⟩
  · rw [cpd_ne (by omega) (by omega) (by omega)]; exact r1
  · rw [List.getElem?_set_ne (Ne.symm hq)]; exact r2
  · rw [cpd_ne (by omega) (by omega) (by omega)]; exact r3
  · rw [cpd_ne (by omega) (by omega) (by omega)]; exact r4
  · rw [cpd_ne (by omega) (by omega) (by omega)]; exact r5
  · rw [List.getElem?_set_ne (Ne.symm hq)]; exact r6
  · rw [cpd_ne (by omega) (by omega) (by omega)]; exact r7
theorem kyR_eq {ho ul us se ide ct po : List Int32} {i : Nat} {k : Ky} (hi : i + 1 < 10) (l1 : ho.length = 320) (l2 : ul.length = 10) (l3 : us.length = 160) (l4 : se.length = 320) (l5 : ide.length = 160) (l6 : ct.length = 10) (l7 : po.length = 640) (ok : okKy k) (h : kyR ho ul us se ide ct po (i + 1) k) : kyR (kf_cp ho ho (32 * i + 32) (32 * i) 32) (ul.set i (ul.getD (i + 1) 0)) (kf_cp us us (16 * i + 16) (16 * i) 16) (kf_cp se se (32 * i + 32) (32 * i) 32) (kf_cp ide ide (16 * i + 16) (16 * i) 16) (ct.set i (ct.getD (i + 1) 0)) (kf_cp po po (64 * i + 64) (64 * i) 64) i k := by
  obtain ⟨r1, r2, r3, r4, r5, r6, r7⟩ := h
  have lu := ok.2.2.1
  refine ⟨?_, ?_, ?_, ?_, ?_, ?_, ?_⟩
  · rw [cpd_eq (by omega) (by omega), show 32 * i + 32 = 32 * (i + 1) by omega]; exact r1
  · rw [List.getElem?_set_self (by omega), ← getD_of (by omega)]; exact r2
  · rw [cpd_eq (by omega) (by omega), show 16 * i + 16 = 16 * (i + 1) by omega]; exact r3
  · rw [cpd_eq (by omega) (by omega), show 32 * i + 32 = 32 * (i + 1) by omega]; exact r4
  · rw [cpd_eq (by omega) (by omega), show 16 * i + 16 = 16 * (i + 1) by omega]; exact r5
  · rw [List.getElem?_set_self (by omega), ← getD_of (by omega)]; exact r6
  · rw [cpd_eq (by omega) (by omega), show 64 * i + 64 = 64 * (i + 1) by omega]; exact r7
