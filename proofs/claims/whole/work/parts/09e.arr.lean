/-! arrays, constants, new things -/
section ARR
variable {p : Program} {l : Launch} {e : Env} {R : Room} {s : State} {m : MethodId} {args : Array Value} {below : List Frame} {meth : Method} {c : Code} {Q : State → Prop} {sa : Nat → Nat} {N0 : Nat} {D : va_G} {H00 : Heap} {nL L0 Z0 o rt : Nat} {ini : Bool} {cc : ByteArray} {pc pc' ln : Nat} {ls ls' : kf_L} {st st' : List Value} {M M' : kf_M} {i : Instr}
theorem g_getstatic {x1 : Nat} (hx : p.tables.exec = Jvm.exec) (hb : c.code = cc) (hown : s.vm.findClass (kf_cno o) = some m.cls) (hC : kf_Ctx sa N0 D H00 s) (hdg : decode cc pc = .ok (i, ln)) (hok : kf_ok o ini pc ln i (.getstatic x1) = true) (hst : kf_stp kf_cs kf_nw kf_own rt (.getstatic x1) pc ln ls st M = some (.inr (.inl (pc', ls', st', M')))) (kk : kf_W p l e R s m args below meth c Q sa N0 D H00 nL L0 Z0 pc' ls' st' M') : kf_W p l e R s m args below meth c Q sa N0 D H00 nL L0 Z0 pc ls st M := by
  cases i with
  | getstatic x =>
    have hok : (ln == 3 && kf_pS.elem (o, x, x1)) = true := hok
    simp only [Bool.and_eq_true, beq_iff_eq] at hok
    obtain ⟨rfl, hp⟩ := hok
    obtain ⟨C, n, d, h1, h2⟩ := kf_pS_ok _ (elem_F hp)
    dsimp only at h1 h2
    obtain ⟨rfl, rfl, rfl, rfl⟩ := aG_inj hst
    intro F H locs hl hR hlo
    obtain ⟨cf, kf, fi, f, a, cell, z1, z2, z3, z4, z5, z6, z7, z8⟩ := hC.2.2.2 x1 C n d h1
    have hlt : x1 < kf_NS := by
      have := (List.getElem?_eq_some_iff.mp h1).1
      exact Nat.lt_of_lt_of_le this (by decide)
    have := kk F H locs hl hR hlo
    have e1 : cv sa N0 (.ref x1) = .ref (sa x1) := by show Value.ref (kf_ph sa N0 x1) = _; rw [kf_ph_lt hlt]
    rw [List.map_cons, e1] at this
    exact W.gets hx hb hown (hC.w h2 rfl) z1 z2 z3 z4 (by rw [hR.2.2.1 a (Nat.not_le.mp z8)]; exact z5) (fun h => by rw [h] at z6; cases z6) z7 rfl hdg this
  | _ => cases hok
theorem g_ldc2_w {x1 : Nat} (hx : p.tables.exec = Jvm.exec) (hb : c.code = cc) (hown : s.vm.findClass (kf_cno o) = some m.cls) (hC : kf_Ctx sa N0 D H00 s) (hdg : decode cc pc = .ok (i, ln)) (hok : kf_ok o ini pc ln i (.ldc2_w x1) = true) (hst : kf_stp kf_cs kf_nw kf_own rt (.ldc2_w x1) pc ln ls st M = some (.inr (.inl (pc', ls', st', M')))) (kk : kf_W p l e R s m args below meth c Q sa N0 D H00 nL L0 Z0 pc' ls' st' M') : kf_W p l e R s m args below meth c Q sa N0 D H00 nL L0 Z0 pc ls st M := by
  cases i with
  | ldc2_w x =>
    have hok : (ln == 3 && kf_pK.elem (o, x, x1)) = true := hok
    simp only [Bool.and_eq_true, beq_iff_eq] at hok
    obtain ⟨rfl, hp⟩ := hok
    obtain ⟨v, h1, h2⟩ := kf_pK_ok _ (elem_F hp)
    dsimp only at h1 h2
    obtain ⟨v', h3, h4⟩ := Option.bind_eq_some_iff.mp (show (kf_cs[x1]?).bind _ = _ from hst)
    cases h1.symm.trans h3
    obtain ⟨rfl, rfl, rfl, rfl⟩ := aG_inj h4
    exact fun F H locs hl hR hlo => lv_ldc2 hx hb hown (hC.w h2 rfl) hdg (kk F H locs hl hR hlo)
  | _ => cases hok
theorem kf_map_get {α : Type} {f : α → Value} {xs : List α} {j : Nat} {v : α} (h : xs[j]? = some v) : (xs.map f)[j]? = some (f v) := by rw [List.getElem?_map, h]; rfl
theorem kf_map_set {α : Type} {f : α → Value} {xs : List α} {j : Nat} {v : α} : (xs.set j v).map f = (xs.map f).set j (f v) := by simp
theorem g_iaload (hx : p.tables.exec = Jvm.exec) (hb : c.code = cc) (hdg : decode cc pc = .ok (i, ln)) (hok : kf_ok o ini pc ln i .iaload = true) (hst : kf_stp kf_cs kf_nw kf_own rt .iaload pc ln ls st M = some (.inr (.inl (pc', ls', st', M')))) (kk : kf_W p l e R s m args below meth c Q sa N0 D H00 nL L0 Z0 pc' ls' st' M') : kf_W p l e R s m args below meth c Q sa N0 D H00 nL L0 Z0 pc ls st M := by
  obtain ⟨hi, hn⟩ := ok_eq (show (decide (i = .iaload) && ln == 1) = true from hok)
  subst hi; subst hn
  simp only [kf_stp] at hst
  split at hst
  case h_2 => cases hst
  rename_i x a r
  obtain ⟨xs, h1, h2⟩ := Option.bind_eq_some_iff.mp hst
  split at h2
  · cases h2
  rename_i h0
  obtain ⟨v, h3, h4⟩ := Option.bind_eq_some_iff.mp h2
  obtain ⟨rfl, rfl, rfl, rfl⟩ := aG_inj h4
  intro F H locs hl hR hlo
  obtain ⟨cell, c1, c2⟩ := hR.at (gI_at h1)
  have c2 : kf_arr s .int (xs.map .int) cell := c2
  exact W.iald hx hb c1 c2.1 c2.2.1 (c2.in h0 (by rw [List.length_map]; exact (List.getElem?_eq_some_iff.mp h3).1)) (c2.2.2.2.2 _ _ (kf_map_get h3)) rfl rfl hdg (kk F H locs hl hR hlo)
theorem g_laload (hx : p.tables.exec = Jvm.exec) (hb : c.code = cc) (hdg : decode cc pc = .ok (i, ln)) (hok : kf_ok o ini pc ln i .laload = true) (hst : kf_stp kf_cs kf_nw kf_own rt .laload pc ln ls st M = some (.inr (.inl (pc', ls', st', M')))) (kk : kf_W p l e R s m args below meth c Q sa N0 D H00 nL L0 Z0 pc' ls' st' M') : kf_W p l e R s m args below meth c Q sa N0 D H00 nL L0 Z0 pc ls st M := by
  obtain ⟨hi, hn⟩ := ok_eq (show (decide (i = .laload) && ln == 1) = true from hok)
  subst hi; subst hn
  simp only [kf_stp] at hst
  split at hst
  case h_2 => cases hst
  rename_i x a r
  obtain ⟨xs, h1, h2⟩ := Option.bind_eq_some_iff.mp hst
  split at h2
  · cases h2
  rename_i h0
  obtain ⟨v, h3, h4⟩ := Option.bind_eq_some_iff.mp h2
  obtain ⟨rfl, rfl, rfl, rfl⟩ := aG_inj h4
  intro F H locs hl hR hlo
  obtain ⟨cell, c1, c2⟩ := hR.at (gJ_at h1)
  have c2 : kf_arr s .long (xs.map .long) cell := c2
  exact W.lald hx hb c1 c2.1 c2.2.1 (c2.in h0 (by rw [List.length_map]; exact (List.getElem?_eq_some_iff.mp h3).1)) (c2.2.2.2.2 _ _ (kf_map_get h3)) rfl rfl hdg (kk F H locs hl hR hlo)
theorem g_baload (hx : p.tables.exec = Jvm.exec) (hb : c.code = cc) (hdg : decode cc pc = .ok (i, ln)) (hok : kf_ok o ini pc ln i .baload = true) (hst : kf_stp kf_cs kf_nw kf_own rt .baload pc ln ls st M = some (.inr (.inl (pc', ls', st', M')))) (kk : kf_W p l e R s m args below meth c Q sa N0 D H00 nL L0 Z0 pc' ls' st' M') : kf_W p l e R s m args below meth c Q sa N0 D H00 nL L0 Z0 pc ls st M := by
  obtain ⟨hi, hn⟩ := ok_eq (show (decide (i = .baload) && ln == 1) = true from hok)
  subst hi; subst hn
  simp only [kf_stp] at hst
  split at hst
  case h_2 => cases hst
  rename_i x a r
  obtain ⟨xs, h1, h2⟩ := Option.bind_eq_some_iff.mp hst
  split at h2
  · cases h2
  rename_i h0
  obtain ⟨v, h3, h4⟩ := Option.bind_eq_some_iff.mp h2
  obtain ⟨rfl, rfl, rfl, rfl⟩ := aG_inj h4
  intro F H locs hl hR hlo
  obtain ⟨cell, c1, c2⟩ := hR.at (gZ_at h1)
  have c2 : kf_arr s .boolean (xs.map .int) cell := c2
  exact W.zald hx hb c1 c2.1 c2.2.1 (c2.in h0 (by rw [List.length_map]; exact (List.getElem?_eq_some_iff.mp h3).1)) (c2.2.2.2.2 _ _ (kf_map_get h3)) rfl rfl hdg (kk F H locs hl hR hlo)
theorem g_aaload (hx : p.tables.exec = Jvm.exec) (hb : c.code = cc) (hdg : decode cc pc = .ok (i, ln)) (hok : kf_ok o ini pc ln i .aaload = true) (hst : kf_stp kf_cs kf_nw kf_own rt .aaload pc ln ls st M = some (.inr (.inl (pc', ls', st', M')))) (kk : kf_W p l e R s m args below meth c Q sa N0 D H00 nL L0 Z0 pc' ls' st' M') : kf_W p l e R s m args below meth c Q sa N0 D H00 nL L0 Z0 pc ls st M := by
  obtain ⟨hi, hn⟩ := ok_eq (show (decide (i = .aaload) && ln == 1) = true from hok)
  subst hi; subst hn
  simp only [kf_stp] at hst
  split at hst
  case h_2 => cases hst
  rename_i x a r
  obtain ⟨⟨ci, xs⟩, h1, h2⟩ := Option.bind_eq_some_iff.mp hst
  split at h2
  · cases h2
  rename_i h0
  obtain ⟨v, h3, h4⟩ := Option.bind_eq_some_iff.mp h2
  obtain ⟨rfl, rfl, rfl, rfl⟩ := aG_inj h4
  intro F H locs hl hR hlo
  obtain ⟨cell, c1, r0, c0, c2, c3⟩ := hR.at (gR_at h1)
  exact W.aald hx hb c1 c2.1 rfl c2.2.1 (c2.in h0 (by rw [List.length_map]; exact (List.getElem?_eq_some_iff.mp h3).1)) (c2.2.2.2.2 _ _ (kf_map_get h3)) rfl rfl hdg (kk F H locs hl hR hlo)
theorem kf_lo_add {locs : List Loc} {a j : Nat} (hlo : ∀ q ∈ locs, N0 ≤ q.base) (ha : kf_NS ≤ a) : ∀ q ∈ locs ++ [⟨kf_ph sa N0 a, j⟩], N0 ≤ q.base := fun q hq => by
  rcases List.mem_append.mp hq with h | h
  · exact hlo q h
  · simp at h
    subst h
    show N0 ≤ kf_ph sa N0 a
    rw [kf_ph_ge ha]
    omega
theorem g_iastore (hx : p.tables.exec = Jvm.exec) (hb : c.code = cc) (hC : kf_Ctx sa N0 D H00 s) (hdg : decode cc pc = .ok (i, ln)) (hok : kf_ok o ini pc ln i .iastore = true) (hst : kf_stp kf_cs kf_nw kf_own rt .iastore pc ln ls st M = some (.inr (.inl (pc', ls', st', M')))) (kk : kf_W p l e R s m args below meth c Q sa N0 D H00 nL L0 Z0 pc' ls' st' M') : kf_W p l e R s m args below meth c Q sa N0 D H00 nL L0 Z0 pc ls st M := by
  obtain ⟨hi, hn⟩ := ok_eq (show (decide (i = .iastore) && ln == 1) = true from hok)
  subst hi; subst hn
  simp only [kf_stp] at hst
  split at hst
  case h_2 => cases hst
  rename_i v x a r
  obtain ⟨xs, h1, h2⟩ := Option.bind_eq_some_iff.mp hst
  split at h2
  · cases h2
  rename_i h0
  simp only [not_or, Nat.not_le, Nat.not_lt] at h0
  obtain ⟨h0, h3, haN⟩ := h0
  obtain ⟨rfl, rfl, rfl, rfl⟩ := aG_inj h2
  intro F H locs hl hR hlo
  have hMa := gI_at h1
  obtain ⟨cell, c1, c2⟩ := hR.at hMa
  have c2 : kf_arr s .int (xs.map .int) cell := c2
  refine W.iast hx hb c1 c2.1 c2.2.1 (c2.in h0 (by rw [List.length_map]; exact h3)) rfl rfl hdg fun H' e1 e2 e3 => ?_
  have := kk F H' (locs ++ [⟨kf_ph sa N0 a, x.toNatClampNeg⟩]) hl (hR.set hC.2.2.1 haN (List.getElem?_eq_some_iff.mp hMa).1 e1 e2 e3 (by show kf_arr s .int ((xs.set x.toNatClampNeg v).map .int) _; rw [kf_map_set]; exact c2.set)) (kf_lo_add hlo haN)
  rw [List.length_set, kf_sz_set M a _ _ hMa (by simp [oSz])] at this
  exact this
theorem g_lastore (hx : p.tables.exec = Jvm.exec) (hb : c.code = cc) (hC : kf_Ctx sa N0 D H00 s) (hdg : decode cc pc = .ok (i, ln)) (hok : kf_ok o ini pc ln i .lastore = true) (hst : kf_stp kf_cs kf_nw kf_own rt .lastore pc ln ls st M = some (.inr (.inl (pc', ls', st', M')))) (kk : kf_W p l e R s m args below meth c Q sa N0 D H00 nL L0 Z0 pc' ls' st' M') : kf_W p l e R s m args below meth c Q sa N0 D H00 nL L0 Z0 pc ls st M := by
  obtain ⟨hi, hn⟩ := ok_eq (show (decide (i = .lastore) && ln == 1) = true from hok)
  subst hi; subst hn
  simp only [kf_stp] at hst
  split at hst
  case h_2 => cases hst
  rename_i v x a r
  obtain ⟨xs, h1, h2⟩ := Option.bind_eq_some_iff.mp hst
  split at h2
  · cases h2
  rename_i h0
  simp only [not_or, Nat.not_le, Nat.not_lt] at h0
  obtain ⟨h0, h3, haN⟩ := h0
  obtain ⟨rfl, rfl, rfl, rfl⟩ := aG_inj h2
  intro F H locs hl hR hlo
  have hMa := gJ_at h1
  obtain ⟨cell, c1, c2⟩ := hR.at hMa
  have c2 : kf_arr s .long (xs.map .long) cell := c2
  refine W.last hx hb c1 c2.1 c2.2.1 (c2.in h0 (by rw [List.length_map]; exact h3)) rfl rfl hdg fun H' e1 e2 e3 => ?_
  have := kk F H' (locs ++ [⟨kf_ph sa N0 a, x.toNatClampNeg⟩]) hl (hR.set hC.2.2.1 haN (List.getElem?_eq_some_iff.mp hMa).1 e1 e2 e3 (by show kf_arr s .long ((xs.set x.toNatClampNeg v).map .long) _; rw [kf_map_set]; exact c2.set)) (kf_lo_add hlo haN)
  rw [List.length_set, kf_sz_set M a _ _ hMa (by simp [oSz])] at this
  exact this
theorem g_bastore (hx : p.tables.exec = Jvm.exec) (hb : c.code = cc) (hC : kf_Ctx sa N0 D H00 s) (hdg : decode cc pc = .ok (i, ln)) (hok : kf_ok o ini pc ln i .bastore = true) (hst : kf_stp kf_cs kf_nw kf_own rt .bastore pc ln ls st M = some (.inr (.inl (pc', ls', st', M')))) (kk : kf_W p l e R s m args below meth c Q sa N0 D H00 nL L0 Z0 pc' ls' st' M') : kf_W p l e R s m args below meth c Q sa N0 D H00 nL L0 Z0 pc ls st M := by
  obtain ⟨hi, hn⟩ := ok_eq (show (decide (i = .bastore) && ln == 1) = true from hok)
  subst hi; subst hn
  simp only [kf_stp] at hst
  split at hst
  case h_2 => cases hst
  rename_i v x a r
  obtain ⟨xs, h1, h2⟩ := Option.bind_eq_some_iff.mp hst
  split at h2
  · cases h2
  rename_i h0
  simp only [not_or, Nat.not_le, Nat.not_lt, Classical.not_not] at h0
  obtain ⟨h0, h3, haN, hv⟩ := h0
  obtain ⟨rfl, rfl, rfl, rfl⟩ := aG_inj h2
  intro F H locs hl hR hlo
  have hMa := gZ_at h1
  obtain ⟨cell, c1, c2⟩ := hR.at hMa
  have c2 : kf_arr s .boolean (xs.map .int) cell := c2
  have hnv : narrow .boolean (.int v) = .int v := by
    have hv : v = 0 ∨ v = 1 := by
      by_cases q : v = 0
      · exact Or.inl q
      · exact Or.inr (Classical.byContradiction fun q2 => hv ⟨q, q2⟩)
    rcases hv with rfl | rfl <;> rfl
  refine W.zast hx hb c1 c2.1 c2.2.1 (c2.in h0 (by rw [List.length_map]; exact h3)) rfl rfl hdg fun H' e1 e2 e3 => ?_
  rw [hnv] at e1
  have := kk F H' (locs ++ [⟨kf_ph sa N0 a, x.toNatClampNeg⟩]) hl (hR.set hC.2.2.1 haN (List.getElem?_eq_some_iff.mp hMa).1 e1 e2 e3 (by show kf_arr s .boolean ((xs.set x.toNatClampNeg v).map .int) _; rw [kf_map_set]; exact c2.set)) (kf_lo_add hlo haN)
  rw [List.length_set, kf_sz_set M a _ _ hMa (by simp [oSz])] at this
  exact this
theorem g_aastore (hx : p.tables.exec = Jvm.exec) (hb : c.code = cc) (hC : kf_Ctx sa N0 D H00 s) (hdg : decode cc pc = .ok (i, ln)) (hok : kf_ok o ini pc ln i .aastore = true) (hst : kf_stp kf_cs kf_nw kf_own rt .aastore pc ln ls st M = some (.inr (.inl (pc', ls', st', M')))) (kk : kf_W p l e R s m args below meth c Q sa N0 D H00 nL L0 Z0 pc' ls' st' M') : kf_W p l e R s m args below meth c Q sa N0 D H00 nL L0 Z0 pc ls st M := by
  obtain ⟨hi, hn⟩ := ok_eq (show (decide (i = .aastore) && ln == 1) = true from hok)
  subst hi; subst hn
  simp only [kf_stp] at hst
  split at hst
  case h_2 => cases hst
  rename_i v x a r
  obtain ⟨⟨ci, xs⟩, h1, h2⟩ := Option.bind_eq_some_iff.mp hst
  obtain ⟨⟨cj, fs⟩, h5, h6⟩ := Option.bind_eq_some_iff.mp h2
  dsimp only at h6
  split at h6
  · cases h6
  rename_i h0
  simp only [not_or, Nat.not_le, Nat.not_lt, Classical.not_not] at h0
  obtain ⟨h0, h3, haN, rfl⟩ := h0
  obtain ⟨rfl, rfl, rfl, rfl⟩ := aG_inj h6
  intro F H locs hl hR hlo
  have hMa := gR_at h1
  obtain ⟨cell, c1, r0, c0, c2, kA, comp, k1, k2, k3, k4⟩ := hR.at hMa
  obtain ⟨cV, d1, r1, d0, d2, d3, d4, -⟩ := hR.at (gO_at h5)
  obtain ⟨-, hcls⟩ := hC.2.1.1 _ _ c0
  have hcomp : comp = D.1 cj := Option.some.inj (k3.symm.trans hcls.1)
  subst hcomp
  obtain ⟨kC, hkC, -⟩ := hcls.2
  have hin := c2.in h0 (by rw [List.length_map]; exact h3)
  refine W.aast hx hb c1 c2.1.1 c2.2.1 k1 k2 rfl hkC ⟨h0, Nat.not_le.mp fun q => hin (Or.inr q)⟩ d1 (fun q h => by rw [d4] at h; cases h) (by rw [d3]; exact hkC) (by rw [d3]; exact va_assign hcls) rfl rfl hdg fun H' e1 e2 e3 => ?_
  have := kk F H' (locs ++ [⟨kf_ph sa N0 a, x.toNatClampNeg⟩]) hl (hR.set hC.2.2.1 haN (List.getElem?_eq_some_iff.mp hMa).1 e1 e2 e3 (by
    refine ⟨r0, c0, ?_, kA, D.1 cj, k1, k2, k3, k4⟩
    rw [kf_map_set]
    exact c2.set)) (kf_lo_add hlo haN)
  rw [List.length_set, kf_sz_set M a _ _ hMa (by simp [oSz])] at this
  exact this
theorem g_arraylength (hx : p.tables.exec = Jvm.exec) (hb : c.code = cc) (hdg : decode cc pc = .ok (i, ln)) (hok : kf_ok o ini pc ln i .arraylength = true) (hst : kf_stp kf_cs kf_nw kf_own rt .arraylength pc ln ls st M = some (.inr (.inl (pc', ls', st', M')))) (kk : kf_W p l e R s m args below meth c Q sa N0 D H00 nL L0 Z0 pc' ls' st' M') : kf_W p l e R s m args below meth c Q sa N0 D H00 nL L0 Z0 pc ls st M := by
  obtain ⟨hi, hn⟩ := ok_eq (show (decide (i = .arraylength) && ln == 1) = true from hok)
  subst hi; subst hn
  simp only [kf_stp] at hst
  split at hst
  case h_2 => cases hst
  rename_i a r
  obtain ⟨ob, h1, h2⟩ := Option.bind_eq_some_iff.mp hst
  obtain ⟨n, h3, h4⟩ := Option.bind_eq_some_iff.mp h2
  obtain ⟨rfl, rfl, rfl, rfl⟩ := aG_inj h4
  intro F H locs hl hR hlo
  obtain ⟨cell, c1, c2⟩ := hR.at h1
  have key : ∃ ty, s.isArrayOf cell ty ∧ cell.slots.size.toInt32 = n.toInt32 := by
    match ob, h3, c2 with
    | .inl _, h3, _ => cases h3
    | .inr (.inl xs), h3, c2 => cases h3; exact ⟨_, c2.1, by have := c2.2.2.2.1; simpa using this⟩
    | .inr (.inr (.inl xs)), h3, c2 => cases h3; exact ⟨_, c2.1, by have := c2.2.2.2.1; simpa using this⟩
    | .inr (.inr (.inr (.inl xs))), h3, c2 => cases h3; exact ⟨_, c2.1, by have := c2.2.2.2.1; simpa using this⟩
    | .inr (.inr (.inr (.inr (ci, xs)))), h3, c2 => cases h3; obtain ⟨r0, -, c2, -⟩ := c2; exact ⟨_, c2.1, by have := c2.2.2.2.1; simpa using this⟩
  obtain ⟨ty, k1, k2⟩ := key
  exact W.alen hx hb c1 k1 k2 rfl rfl hdg (kk F H locs hl hR hlo)
end ARR
