/-! instructions that read or write the memory -/
theorem kf_pF_at {o x e : Nat} (h : kf_pF.elem (o, x, e) = true) : kf_isF (o, x, e) := kf_pF_ok _ (elem_F h)
section MEM
variable {p : Program} {l : Launch} {e : Env} {R : Room} {s : State} {m : MethodId} {args : Array Value} {below : List Frame} {meth : Method} {c : Code} {Q : State → Prop} {sa : Nat → Nat} {N0 : Nat} {D : va_G} {H00 : Heap} {nL L0 Z0 o rt : Nat} {ini : Bool} {cc : ByteArray} {pc pc' ln : Nat} {ls ls' : kf_L} {st st' : List Value} {M M' : kf_M} {i : Instr}
theorem kf_Ctx.lay {U : State} (h : kf_Ctx sa N0 D H00 U) {ci : Nat} {q : vw_C} (hc : vwCl[ci]? = some q) {A : Array Value} : ∀ w ∈ u_ws q.1 q.2.1 q.2.2, w.before A U = true := by
  intro w hw
  obtain ⟨k, hk, rfl⟩ := List.mem_map.mp hw
  refine h.w ((kf_cl_ok ci q hc).2.1 k (List.mem_range.mp hk)) ?_
  unfold u_lay
  split <;> rfl
/-- a field, as the machine finds it -/
theorem kf_Ctx.fd {U : State} (h : kf_Ctx sa N0 D H00 U) {ci : Nat} {q : vw_C} (hc : vwCl[ci]? = some q) {k : Nat} (hk : k < q.2.2) : ∃ (cf : Nat) (kf : Class) (fi : Nat) (f : Field), U.fieldFound? (q.2.1 k).1 (q.2.1 k).2.1 (q.2.1 k).2.2.1 = some (cf, kf, fi, f) ∧ f.slot = D.2 ci k ∧ f.isStatic = false := by
  obtain ⟨hS, hfc, kC, hkC, hkind⟩ := h.2.1.1 ci q hc
  obtain ⟨cf, kf, fi, f, hi, hsl⟩ := hS k hk
  exact ⟨cf, kf, fi, f, hi, hsl, (u_facts (args := #[]) hfc hkC (u_lays (h.lay hc) (fun _ hw => hw) hk) hi).1⟩
theorem kf_Ctx.apart {U : State} (h : kf_Ctx sa N0 D H00 U) {ci : Nat} {q : vw_C} (hc : vwCl[ci]? = some q) : ∀ x y, x < q.2.2 → y < q.2.2 → x ≠ y → D.2 ci x ≠ D.2 ci y := by
  obtain ⟨-, -, -, -, hnm, ty, hty, -⟩ := kf_cl_ok ci q hc
  exact va_apart (own := q.1) (args := #[]) (h.lay hc) (fun _ hw => hw) ty hty hnm h.2.1 hc
theorem g_getfield {x1 : Nat} (hx : p.tables.exec = Jvm.exec) (hb : c.code = cc) (hown : s.vm.findClass (kf_cno o) = some m.cls) (hC : kf_Ctx sa N0 D H00 s) (hdg : decode cc pc = .ok (i, ln)) (hok : kf_ok o ini pc ln i (.getfield x1) = true) (hst : kf_stp kf_cs kf_nw kf_own rt (.getfield x1) pc ln ls st M = some (.inr (.inl (pc', ls', st', M')))) (kk : kf_W p l e R s m args below meth c Q sa N0 D H00 nL L0 Z0 pc' ls' st' M') : kf_W p l e R s m args below meth c Q sa N0 D H00 nL L0 Z0 pc ls st M := by
  cases i with
  | getfield x =>
    have hok : (ln == 3 && kf_pF.elem (o, x, x1)) = true := hok
    simp only [Bool.and_eq_true, beq_iff_eq] at hok
    obtain ⟨rfl, hp⟩ := hok
    obtain ⟨C, T, N, hc, hk, -, -, -, -, hlink⟩ := kf_pF_at hp
    dsimp only at hc hk hlink
    simp only [kf_stp] at hst
    split at hst
    case h_2 => cases hst
    rename_i a r
    obtain ⟨⟨ci, fs⟩, h1, h2⟩ := Option.bind_eq_some_iff.mp hst
    split at h2
    case isFalse => cases h2
    rename_i hci
    dsimp only at hci
    subst hci
    obtain ⟨v, h3, h4⟩ := Option.bind_eq_some_iff.mp h2
    obtain ⟨rfl, rfl, rfl, rfl⟩ := aG_inj h4
    intro F H locs hl hR hlo
    obtain ⟨cell, c1, r0, c2, c3, c4, c5, c6⟩ := hR.at (gO_at h1)
    cases hc.symm.trans c2
    obtain ⟨cf, kf, fi, f, f1, f2, f3⟩ := hC.fd hc hk
    have hv : cell.slots[f.slot]? = some (cv sa N0 v) := by
      rw [f2, c6 _ hk]
      have : fs.getD (x1 / 10 % 100) .null = v := by rw [List.getD_eq_getElem?_getD, h3]; rfl
      rw [this]
    rcases hlink with hlink | ⟨-, -, hh, hlink⟩
    · exact W.getf hx hb hown (hC.w hlink rfl) f1 f3 c1 (by rw [c5]; exact fun h => by cases h) hv rfl rfl hdg (kk F H locs hl hR hlo)
    · exact va_Wgetf hx hb hown (hC.w hlink rfl) f1 f3 c1 (by rw [c5]; exact fun h => by cases h) hv rfl rfl hdg (kk F H locs hl hR hlo)
  | _ => cases hok
theorem kf_fit_of {t : Nat} {v : Value} {ty : FieldType} (h : kf_fit t v = true) (ht : (t = 0 ∧ ty = .int) ∨ (t = 1 ∧ ty = .long) ∨ (t = 2 ∧ ty = .boolean) ∨ (t = 3 ∧ ((∃ n, ty = .object n) ∨ ∃ a, ty = .array a))) : narrow ty (cv sa N0 v) = cv sa N0 v ∧ fits ty (cv sa N0 v) = true := by
  rcases ht with ⟨rfl, rfl⟩ | ⟨rfl, rfl⟩ | ⟨rfl, rfl⟩ | ⟨rfl, ⟨n, rfl⟩ | ⟨n, rfl⟩⟩
  · cases v <;> simp [kf_fit] at h ⊢ <;> exact ⟨rfl, rfl⟩
  · cases v <;> simp [kf_fit] at h ⊢ <;> exact ⟨rfl, rfl⟩
  · cases v with
    | int x =>
      simp [kf_fit] at h
      rcases h with rfl | rfl <;> exact ⟨rfl, rfl⟩
    | _ => simp [kf_fit] at h
  · cases v <;> simp [kf_fit] at h ⊢ <;> exact ⟨rfl, rfl⟩
  · cases v <;> simp [kf_fit] at h ⊢ <;> exact ⟨rfl, rfl⟩
theorem g_putfield {x1 : Nat} (hx : p.tables.exec = Jvm.exec) (hb : c.code = cc) (hown : s.vm.findClass (kf_cno o) = some m.cls) (hini : ini = true → meth.name = "<init>") (hC : kf_Ctx sa N0 D H00 s) (hdg : decode cc pc = .ok (i, ln)) (hok : kf_ok o ini pc ln i (.putfield x1) = true) (hst : kf_stp kf_cs kf_nw kf_own rt (.putfield x1) pc ln ls st M = some (.inr (.inl (pc', ls', st', M')))) (kk : kf_W p l e R s m args below meth c Q sa N0 D H00 nL L0 Z0 pc' ls' st' M') : kf_W p l e R s m args below meth c Q sa N0 D H00 nL L0 Z0 pc ls st M := by
  cases i with
  | putfield x =>
    have hok : (ln == 3 && kf_pF.elem (o, x, x1) && (!(kf_fin x1) || (ini && o == x1 / 1000))) = true := hok
    simp only [Bool.and_eq_true, beq_iff_eq] at hok
    obtain ⟨⟨rfl, hp⟩, hfi⟩ := hok
    obtain ⟨C, T, N, hc, hk, hd1, hd2, hd3, ⟨ty, hd4, hd5⟩, hlink⟩ := kf_pF_at hp
    dsimp only at hc hk hlink hd1 hd2 hd3 hd4 hd5
    simp only [kf_stp] at hst
    split at hst
    case h_2 => cases hst
    rename_i v a r
    obtain ⟨⟨ci, fs⟩, h1, h2⟩ := Option.bind_eq_some_iff.mp hst
    split at h2
    case isFalse => cases h2
    rename_i hci
    dsimp only at hci h2
    obtain ⟨hci, hkl, hfit⟩ := hci
    subst hci
    obtain ⟨rfl, rfl, rfl, rfl⟩ := aG_inj h2
    intro F H locs hl hR hlo
    have hMa := gO_at h1
    have hal : a < M.length := (List.getElem?_eq_some_iff.mp hMa).1
    have haN : kf_NS ≤ a := (hR.2.2.2 a _ hMa).1 rfl
    obtain ⟨cell, c1, r0, c2, c3, c4, c5, c6⟩ := hR.at hMa
    cases hc.symm.trans c2
    dsimp only at c3 c6
    obtain ⟨hS, hfc, kC, hkC, hkind⟩ := hC.2.1.1 _ _ hc
    obtain ⟨cf, kf, fi, f, f1, f2, f3⟩ := hC.fd hc hk
    obtain ⟨n1, n2⟩ := kf_fit_of (sa := sa) (N0 := N0) hfit hd5
    have hlay := hC.lay hc (A := args) _ (u_in_lay hk)
    unfold u_lay at hlay
    have fin : ∀ H' : Heap, H'[kf_ph sa N0 a]? = some (cell.setSlot f.slot (cv sa N0 v)) → H'.size = H.size → (∀ q, q ≠ kf_ph sa N0 a → H'[q]? = H[q]?) → W p l e R s m args below meth c H' (locs ++ [⟨kf_ph sa N0 a, f.slot⟩]) (M.length - L0) (kf_sz M - Z0) Q (F0 m (pc + 3) F (r.map (cv sa N0))) := by
      intro H' e1 e2 e3
      have hcell : kf_cell sa N0 D s (oO (x1 / 1000) (fs.set (x1 / 10 % 100) v)) (cell.setSlot f.slot (cv sa N0 v)) := by
        refine ⟨_, hc, by rw [List.length_set]; exact c3, c4, c5, fun j hj => ?_⟩
        dsimp only at hj
        rw [f2, t_set (V := fun k => cv sa N0 (fs.getD k .null)) c6 (hC.apart hc) hk (cv sa N0 v) j hj]
        unfold updV
        by_cases hjk : j = x1 / 10 % 100
        · subst hjk
          rw [if_pos rfl, List.getD_eq_getElem?_getD, List.getElem?_set_self hkl]
          rfl
        · rw [if_neg hjk, List.getD_eq_getElem?_getD, List.getElem?_set_ne (Ne.symm hjk), ← List.getD_eq_getElem?_getD]
      have hR' := hR.set hC.2.2.1 haN hal e1 e2 e3 hcell
      have := kk F H' (locs ++ [⟨kf_ph sa N0 a, f.slot⟩]) hl hR' (fun q hq => by
        rcases List.mem_append.mp hq with h | h
        · exact hlo q h
        · simp at h
          subst h
          show N0 ≤ kf_ph sa N0 a
          rw [kf_ph_ge haN]
          omega)
      rw [List.length_set, kf_sz_set M a _ _ hMa (by simp [oSz])] at this
      exact this
    rcases hlink with hlink | ⟨hf0, hne, -⟩
    · by_cases hfb : kf_fin x1 = true
      · rw [hfb] at hfi
        simp only [Bool.not_true, Bool.false_or, Bool.and_eq_true, beq_iff_eq] at hfi
        rw [if_pos (by rw [hd2]; exact hfb)] at hlay
        have hcf : m.cls = cf := by
          obtain ⟨_, _, c', _, _, _, -, -, hf', -, -, -, hown2, -⟩ := Cond.laysFinal_spec hlay
          have e1 : c' = cf := by have := f1.symm.trans hf'; simp at this; exact this.1.symm
          rw [hd1, hd3, ← hfi.2] at hown2
          rw [← e1]; exact Option.some.inj (hown.symm.trans hown2)
        have h6 := u_fits hfc hkC hkind (Or.inr hlay) f1 hd4 n1 n2
        exact W.putFinK hx hb hown (hC.w hlink rfl) f1 f3 hcf (hini hfi.1) (by rw [c4]; exact h6) c1 c5 (by rw [f2]; exact k2_hasslot (c6 _ hk)) rfl rfl hdg fin
      · rw [if_neg (by rw [hd2]; exact hfb)] at hlay
        have h6 := u_store hfc hkC hkind hlay f1 hd4 n1 n2
        exact W.putK hx hb (f := f) ⟨hown, hC.w hlink rfl, ⟨_, _, _, f1⟩, f3⟩ (by rw [c4]; exact h6) c1 c5 (by rw [f2]; exact k2_hasslot (c6 _ hk)) rfl rfl hdg fin
    · rw [hf0] at hfi
      simp only [Bool.not_true, Bool.false_or, Bool.and_eq_true, beq_iff_eq] at hfi
      exact absurd hfi.2 hne
  | _ => cases hok
end MEM
