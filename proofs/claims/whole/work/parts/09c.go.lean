/-! one instruction that is neither call nor return -/
def oSz : kf_Ob → Nat
  | .inl o => o.2.length
  | .inr (.inl xs) => xs.length
  | .inr (.inr (.inl xs)) => xs.length
  | .inr (.inr (.inr (.inl xs))) => xs.length
  | .inr (.inr (.inr (.inr r))) => r.2.length
def kf_sz (M : kf_M) : Nat := (M.map oSz).sum
theorem kf_sz_app (M : kf_M) (ob : kf_Ob) : kf_sz (M ++ [ob]) = kf_sz M + oSz ob := by simp [kf_sz]
theorem kf_sz_set : ∀ (M : kf_M) (a : Nat) (ob ob' : kf_Ob), M[a]? = some ob → oSz ob' = oSz ob → kf_sz (M.set a ob') = kf_sz M
  | [], a, _, _, h, _ => by simp at h
  | x :: t, 0, ob, ob', h, he => by
    simp at h
    subst h
    simp [kf_sz, he]
  | x :: t, a + 1, ob, ob', h, he => by
    have := kf_sz_set t a ob ob' (by simpa using h) he
    simp only [kf_sz, List.set_cons_succ, List.map_cons, List.sum_cons] at this ⊢
    omega
def kf_W (p : Program) (l : Launch) (e : Env) (R : Room) (s : State) (m : MethodId) (args : Array Value) (below : List Frame) (meth : Method) (c : Code) (Q : State → Prop) (sa : Nat → Nat) (N0 : Nat) (D : va_G) (H00 : Heap) (nL L0 Z0 : Nat) (pc : Nat) (ls : kf_L) (st : List Value) (M : kf_M) : Prop :=
  ∀ (F : Array Slot) (H : Heap) (locs : List Loc), kf_lr sa N0 nL ls F → kf_Rel sa N0 D H00 s M H → (∀ q ∈ locs, N0 ≤ q.base) → W p l e R s m args below meth c H locs (M.length - L0) (kf_sz M - Z0) Q (F0 m pc F (st.map (cv sa N0)))
theorem aG_inj {a a' : Nat} {b b' : kf_L} {c c' : List Value} {d d' : kf_M} (h : aG a b c d = some (.inr (.inl (a', b', c', d')))) : a = a' ∧ b = b' ∧ c = c' ∧ d = d' := by
  simp only [aG, Option.some.injEq, Sum.inr.injEq, Sum.inl.injEq, Prod.mk.injEq] at h
  exact h
theorem ok_eq {i j : Instr} {ln n : Nat} (h : (decide (i = j) && ln == n) = true) : i = j ∧ ln = n := by
  simpa using h
theorem i2_inv {f : Int32 → Int32 → Int32} {pc pc' : Nat} {ls ls' : kf_L} {st st' : List Value} {M M' : kf_M} (h : i2 f pc ls st M = some (.inr (.inl (pc', ls', st', M')))) : ∃ x y r, st = .int y :: .int x :: r ∧ pc = pc' ∧ ls = ls' ∧ .int (f x y) :: r = st' ∧ M = M' := by
  unfold i2 at h
  split at h
  · exact ⟨_, _, _, rfl, aG_inj h⟩
  · cases h
theorem i1_inv {f : Int32 → Int32} {pc pc' : Nat} {ls ls' : kf_L} {st st' : List Value} {M M' : kf_M} (h : i1 f pc ls st M = some (.inr (.inl (pc', ls', st', M')))) : ∃ x r, st = .int x :: r ∧ pc = pc' ∧ ls = ls' ∧ .int (f x) :: r = st' ∧ M = M' := by
  unfold i1 at h
  split at h
  · exact ⟨_, _, rfl, aG_inj h⟩
  · cases h
theorem j2_inv {f : Int64 → Int64 → Int64} {pc pc' : Nat} {ls ls' : kf_L} {st st' : List Value} {M M' : kf_M} (h : j2 f pc ls st M = some (.inr (.inl (pc', ls', st', M')))) : ∃ x y r, st = .long y :: .long x :: r ∧ pc = pc' ∧ ls = ls' ∧ .long (f x y) :: r = st' ∧ M = M' := by
  unfold j2 at h
  split at h
  · exact ⟨_, _, _, rfl, aG_inj h⟩
  · cases h
theorem jS_inv {f : Int64 → Int32 → Int64} {pc pc' : Nat} {ls ls' : kf_L} {st st' : List Value} {M M' : kf_M} (h : jS f pc ls st M = some (.inr (.inl (pc', ls', st', M')))) : ∃ x y r, st = .int y :: .long x :: r ∧ pc = pc' ∧ ls = ls' ∧ .long (f x y) :: r = st' ∧ M = M' := by
  unfold jS at h
  split at h
  · exact ⟨_, _, _, rfl, aG_inj h⟩
  · cases h
theorem elem_F {t : Nat × Nat × Nat} {l : List (Nat × Nat × Nat)} (h : l.elem t = true) : t ∈ l := by simpa using h
section GO1
variable {p : Program} {l : Launch} {e : Env} {R : Room} {s : State} {m : MethodId} {args : Array Value} {below : List Frame} {meth : Method} {c : Code} {Q : State → Prop} {sa : Nat → Nat} {N0 : Nat} {D : va_G} {H00 : Heap} {nL L0 Z0 o rt : Nat} {ini : Bool} {cc : ByteArray} {pc pc' ln : Nat} {ls ls' : kf_L} {st st' : List Value} {M M' : kf_M} {i : Instr}
theorem g_iload {n : Nat} (hx : p.tables.exec = Jvm.exec) (hb : c.code = cc) (hdg : decode cc pc = .ok (i, ln)) (hok : kf_ok o ini pc ln i (.iload n) = true) (hst : kf_stp kf_cs kf_nw kf_own rt (.iload n) pc ln ls st M = some (.inr (.inl (pc', ls', st', M')))) (kk : kf_W p l e R s m args below meth c Q sa N0 D H00 nL L0 Z0 pc' ls' st' M') : kf_W p l e R s m args below meth c Q sa N0 D H00 nL L0 Z0 pc ls st M := by
  obtain ⟨hi, hn⟩ := ok_eq (show (decide (i = .iload n) && ln == 2) = true from hok)
  subst hi; subst hn
  obtain ⟨v, h1, h2⟩ := Option.bind_eq_some_iff.mp (show (lI ls n).bind _ = _ from hst)
  obtain ⟨rfl, rfl, rfl, rfl⟩ := aG_inj h2
  exact fun F H locs hl hR hlo => lv_iload hx hb hdg (hl.2.2.2 _ _ (lI_at h1)) (kk F H locs hl hR hlo)
theorem g_iload_n {n : Fin 4} (hx : p.tables.exec = Jvm.exec) (hb : c.code = cc) (hdg : decode cc pc = .ok (i, ln)) (hok : kf_ok o ini pc ln i (.iload_n n) = true) (hst : kf_stp kf_cs kf_nw kf_own rt (.iload_n n) pc ln ls st M = some (.inr (.inl (pc', ls', st', M')))) (kk : kf_W p l e R s m args below meth c Q sa N0 D H00 nL L0 Z0 pc' ls' st' M') : kf_W p l e R s m args below meth c Q sa N0 D H00 nL L0 Z0 pc ls st M := by
  obtain ⟨hi, hn⟩ := ok_eq (show (decide (i = .iload_n n) && ln == 1) = true from hok)
  subst hi; subst hn
  obtain ⟨v, h1, h2⟩ := Option.bind_eq_some_iff.mp (show (lI ls n.val).bind _ = _ from hst)
  obtain ⟨rfl, rfl, rfl, rfl⟩ := aG_inj h2
  exact fun F H locs hl hR hlo => lv_iload_n hx hb hdg rfl (hl.2.2.2 _ _ (lI_at h1)) (kk F H locs hl hR hlo)
theorem g_lload {n : Nat} (hx : p.tables.exec = Jvm.exec) (hb : c.code = cc) (hdg : decode cc pc = .ok (i, ln)) (hok : kf_ok o ini pc ln i (.lload n) = true) (hst : kf_stp kf_cs kf_nw kf_own rt (.lload n) pc ln ls st M = some (.inr (.inl (pc', ls', st', M')))) (kk : kf_W p l e R s m args below meth c Q sa N0 D H00 nL L0 Z0 pc' ls' st' M') : kf_W p l e R s m args below meth c Q sa N0 D H00 nL L0 Z0 pc ls st M := by
  obtain ⟨hi, hn⟩ := ok_eq (show (decide (i = .lload n) && ln == 2) = true from hok)
  subst hi; subst hn
  obtain ⟨v, h1, h2⟩ := Option.bind_eq_some_iff.mp (show (lJ ls n).bind _ = _ from hst)
  obtain ⟨rfl, rfl, rfl, rfl⟩ := aG_inj h2
  exact fun F H locs hl hR hlo => lv_lload hx hb hdg (hl.2.2.2 _ _ (lJ_at h1)) (kk F H locs hl hR hlo)
theorem g_lload_n {n : Fin 4} (hx : p.tables.exec = Jvm.exec) (hb : c.code = cc) (hdg : decode cc pc = .ok (i, ln)) (hok : kf_ok o ini pc ln i (.lload_n n) = true) (hst : kf_stp kf_cs kf_nw kf_own rt (.lload_n n) pc ln ls st M = some (.inr (.inl (pc', ls', st', M')))) (kk : kf_W p l e R s m args below meth c Q sa N0 D H00 nL L0 Z0 pc' ls' st' M') : kf_W p l e R s m args below meth c Q sa N0 D H00 nL L0 Z0 pc ls st M := by
  obtain ⟨hi, hn⟩ := ok_eq (show (decide (i = .lload_n n) && ln == 1) = true from hok)
  subst hi; subst hn
  obtain ⟨v, h1, h2⟩ := Option.bind_eq_some_iff.mp (show (lJ ls n.val).bind _ = _ from hst)
  obtain ⟨rfl, rfl, rfl, rfl⟩ := aG_inj h2
  exact fun F H locs hl hR hlo => lv_lload_n hx hb hdg rfl (hl.2.2.2 _ _ (lJ_at h1)) (kk F H locs hl hR hlo)
theorem g_aload {n : Nat} (hx : p.tables.exec = Jvm.exec) (hb : c.code = cc) (hdg : decode cc pc = .ok (i, ln)) (hok : kf_ok o ini pc ln i (.aload n) = true) (hst : kf_stp kf_cs kf_nw kf_own rt (.aload n) pc ln ls st M = some (.inr (.inl (pc', ls', st', M')))) (kk : kf_W p l e R s m args below meth c Q sa N0 D H00 nL L0 Z0 pc' ls' st' M') : kf_W p l e R s m args below meth c Q sa N0 D H00 nL L0 Z0 pc ls st M := by
  obtain ⟨hi, hn⟩ := ok_eq (show (decide (i = .aload n) && ln == 2) = true from hok)
  subst hi; subst hn
  obtain ⟨v, h1, h2⟩ := Option.bind_eq_some_iff.mp (show (lA ls n).bind _ = _ from hst)
  obtain ⟨rfl, rfl, rfl, rfl⟩ := aG_inj h2
  obtain ⟨h3, ⟨a, rfl⟩ | rfl⟩ := lA_at h1
  · exact fun F H locs hl hR hlo => lv_aload hx hb hdg (hl.2.2.2 _ _ h3) (kk F H locs hl hR hlo)
  · exact fun F H locs hl hR hlo => lv_aloadN hx hb hdg (hl.2.2.2 _ _ h3) (kk F H locs hl hR hlo)
theorem g_aload_n {n : Fin 4} (hx : p.tables.exec = Jvm.exec) (hb : c.code = cc) (hdg : decode cc pc = .ok (i, ln)) (hok : kf_ok o ini pc ln i (.aload_n n) = true) (hst : kf_stp kf_cs kf_nw kf_own rt (.aload_n n) pc ln ls st M = some (.inr (.inl (pc', ls', st', M')))) (kk : kf_W p l e R s m args below meth c Q sa N0 D H00 nL L0 Z0 pc' ls' st' M') : kf_W p l e R s m args below meth c Q sa N0 D H00 nL L0 Z0 pc ls st M := by
  obtain ⟨hi, hn⟩ := ok_eq (show (decide (i = .aload_n n) && ln == 1) = true from hok)
  subst hi; subst hn
  obtain ⟨v, h1, h2⟩ := Option.bind_eq_some_iff.mp (show (lA ls n.val).bind _ = _ from hst)
  obtain ⟨rfl, rfl, rfl, rfl⟩ := aG_inj h2
  obtain ⟨h3, ⟨a, rfl⟩ | rfl⟩ := lA_at h1
  · exact fun F H locs hl hR hlo => lv_aload_n hx hb hdg rfl (hl.2.2.2 _ _ h3) (kk F H locs hl hR hlo)
  · exact fun F H locs hl hR hlo => lv_aload_nN hx hb hdg rfl (hl.2.2.2 _ _ h3) (kk F H locs hl hR hlo)
theorem g_istore {n : Nat} (hx : p.tables.exec = Jvm.exec) (hb : c.code = cc) (hdg : decode cc pc = .ok (i, ln)) (hok : kf_ok o ini pc ln i (.istore n) = true) (hst : kf_stp kf_cs kf_nw kf_own rt (.istore n) pc ln ls st M = some (.inr (.inl (pc', ls', st', M')))) (kk : kf_W p l e R s m args below meth c Q sa N0 D H00 nL L0 Z0 pc' ls' st' M') : kf_W p l e R s m args below meth c Q sa N0 D H00 nL L0 Z0 pc ls st M := by
  obtain ⟨hi, hn⟩ := ok_eq (show (decide (i = .istore n) && ln == 2) = true from hok)
  subst hi; subst hn
  simp only [kf_stp] at hst
  split at hst
  · obtain ⟨ls2, h1, h2⟩ := Option.bind_eq_some_iff.mp hst
    obtain ⟨rfl, rfl, rfl, rfl⟩ := aG_inj h2
    exact fun F H locs hl hR hlo => lv_istore hx hb hdg hl.has (by have := (lS1_at h1).1; have := hl.2.2.1; omega) rfl (fun F' hF => kk F' H locs (hl.st1 h1 rfl hF) hR hlo)
  · cases hst
theorem g_istore_n {n : Fin 4} (hx : p.tables.exec = Jvm.exec) (hb : c.code = cc) (hdg : decode cc pc = .ok (i, ln)) (hok : kf_ok o ini pc ln i (.istore_n n) = true) (hst : kf_stp kf_cs kf_nw kf_own rt (.istore_n n) pc ln ls st M = some (.inr (.inl (pc', ls', st', M')))) (kk : kf_W p l e R s m args below meth c Q sa N0 D H00 nL L0 Z0 pc' ls' st' M') : kf_W p l e R s m args below meth c Q sa N0 D H00 nL L0 Z0 pc ls st M := by
  obtain ⟨hi, hn⟩ := ok_eq (show (decide (i = .istore_n n) && ln == 1) = true from hok)
  subst hi; subst hn
  simp only [kf_stp] at hst
  split at hst
  · obtain ⟨ls2, h1, h2⟩ := Option.bind_eq_some_iff.mp hst
    obtain ⟨rfl, rfl, rfl, rfl⟩ := aG_inj h2
    exact fun F H locs hl hR hlo => lv_istore_n hx hb hdg rfl hl.has (by have := (lS1_at h1).1; have := hl.2.2.1; omega) rfl (fun F' hF => kk F' H locs (hl.st1 h1 rfl hF) hR hlo)
  · cases hst
theorem g_astore {n : Nat} (hx : p.tables.exec = Jvm.exec) (hb : c.code = cc) (hdg : decode cc pc = .ok (i, ln)) (hok : kf_ok o ini pc ln i (.astore n) = true) (hst : kf_stp kf_cs kf_nw kf_own rt (.astore n) pc ln ls st M = some (.inr (.inl (pc', ls', st', M')))) (kk : kf_W p l e R s m args below meth c Q sa N0 D H00 nL L0 Z0 pc' ls' st' M') : kf_W p l e R s m args below meth c Q sa N0 D H00 nL L0 Z0 pc ls st M := by
  obtain ⟨hi, hn⟩ := ok_eq (show (decide (i = .astore n) && ln == 2) = true from hok)
  subst hi; subst hn
  simp only [kf_stp] at hst
  split at hst
  · obtain ⟨ls2, h1, h2⟩ := Option.bind_eq_some_iff.mp hst
    obtain ⟨rfl, rfl, rfl, rfl⟩ := aG_inj h2
    exact fun F H locs hl hR hlo => lv_astore hx hb hdg hl.has (by have := (lS1_at h1).1; have := hl.2.2.1; omega) rfl (fun F' hF => kk F' H locs (hl.st1 h1 rfl hF) hR hlo)
  · obtain ⟨ls2, h1, h2⟩ := Option.bind_eq_some_iff.mp hst
    obtain ⟨rfl, rfl, rfl, rfl⟩ := aG_inj h2
    exact fun F H locs hl hR hlo => lv_astoreN hx hb hdg hl.has (by have := (lS1_at h1).1; have := hl.2.2.1; omega) rfl (fun F' hF => kk F' H locs (hl.st1 h1 rfl hF) hR hlo)
  · cases hst
theorem g_astore_n {n : Fin 4} (hx : p.tables.exec = Jvm.exec) (hb : c.code = cc) (hdg : decode cc pc = .ok (i, ln)) (hok : kf_ok o ini pc ln i (.astore_n n) = true) (hst : kf_stp kf_cs kf_nw kf_own rt (.astore_n n) pc ln ls st M = some (.inr (.inl (pc', ls', st', M')))) (kk : kf_W p l e R s m args below meth c Q sa N0 D H00 nL L0 Z0 pc' ls' st' M') : kf_W p l e R s m args below meth c Q sa N0 D H00 nL L0 Z0 pc ls st M := by
  obtain ⟨hi, hn⟩ := ok_eq (show (decide (i = .astore_n n) && ln == 1) = true from hok)
  subst hi; subst hn
  simp only [kf_stp] at hst
  split at hst
  · obtain ⟨ls2, h1, h2⟩ := Option.bind_eq_some_iff.mp hst
    obtain ⟨rfl, rfl, rfl, rfl⟩ := aG_inj h2
    exact fun F H locs hl hR hlo => lv_astore_n hx hb hdg rfl hl.has (by have := (lS1_at h1).1; have := hl.2.2.1; omega) rfl (fun F' hF => kk F' H locs (hl.st1 h1 rfl hF) hR hlo)
  · obtain ⟨ls2, h1, h2⟩ := Option.bind_eq_some_iff.mp hst
    obtain ⟨rfl, rfl, rfl, rfl⟩ := aG_inj h2
    exact fun F H locs hl hR hlo => lv_astore_nN hx hb hdg rfl hl.has (by have := (lS1_at h1).1; have := hl.2.2.1; omega) rfl (fun F' hF => kk F' H locs (hl.st1 h1 rfl hF) hR hlo)
  · cases hst
theorem g_lstore {n : Nat} (hx : p.tables.exec = Jvm.exec) (hb : c.code = cc) (hdg : decode cc pc = .ok (i, ln)) (hok : kf_ok o ini pc ln i (.lstore n) = true) (hst : kf_stp kf_cs kf_nw kf_own rt (.lstore n) pc ln ls st M = some (.inr (.inl (pc', ls', st', M')))) (kk : kf_W p l e R s m args below meth c Q sa N0 D H00 nL L0 Z0 pc' ls' st' M') : kf_W p l e R s m args below meth c Q sa N0 D H00 nL L0 Z0 pc ls st M := by
  obtain ⟨hi, hn⟩ := ok_eq (show (decide (i = .lstore n) && ln == 2) = true from hok)
  subst hi; subst hn
  simp only [kf_stp] at hst
  split at hst
  · obtain ⟨ls2, h1, h2⟩ := Option.bind_eq_some_iff.mp hst
    obtain ⟨rfl, rfl, rfl, rfl⟩ := aG_inj h2
    exact fun F H locs hl hR hlo => lv_lstore hx hb hdg hl.has (by have := (lS2_at h1).1; have := hl.2.2.1; omega) rfl (fun F' hF => kk F' H locs (hl.st2 h1 rfl hF) hR hlo)
  · cases hst
theorem g_lstore_n {n : Fin 4} (hx : p.tables.exec = Jvm.exec) (hb : c.code = cc) (hdg : decode cc pc = .ok (i, ln)) (hok : kf_ok o ini pc ln i (.lstore_n n) = true) (hst : kf_stp kf_cs kf_nw kf_own rt (.lstore_n n) pc ln ls st M = some (.inr (.inl (pc', ls', st', M')))) (kk : kf_W p l e R s m args below meth c Q sa N0 D H00 nL L0 Z0 pc' ls' st' M') : kf_W p l e R s m args below meth c Q sa N0 D H00 nL L0 Z0 pc ls st M := by
  obtain ⟨hi, hn⟩ := ok_eq (show (decide (i = .lstore_n n) && ln == 1) = true from hok)
  subst hi; subst hn
  simp only [kf_stp] at hst
  split at hst
  · obtain ⟨ls2, h1, h2⟩ := Option.bind_eq_some_iff.mp hst
    obtain ⟨rfl, rfl, rfl, rfl⟩ := aG_inj h2
    exact fun F H locs hl hR hlo => lv_lstore_n hx hb hdg rfl hl.has (by have := (lS2_at h1).1; have := hl.2.2.1; omega) rfl (fun F' hF => kk F' H locs (hl.st2 h1 rfl hF) hR hlo)
  · cases hst
theorem g_iinc {n : Nat} {z : Int} (hx : p.tables.exec = Jvm.exec) (hb : c.code = cc) (hdg : decode cc pc = .ok (i, ln)) (hok : kf_ok o ini pc ln i (.iinc n z) = true) (hst : kf_stp kf_cs kf_nw kf_own rt (.iinc n z) pc ln ls st M = some (.inr (.inl (pc', ls', st', M')))) (kk : kf_W p l e R s m args below meth c Q sa N0 D H00 nL L0 Z0 pc' ls' st' M') : kf_W p l e R s m args below meth c Q sa N0 D H00 nL L0 Z0 pc ls st M := by
  obtain ⟨hi, hn⟩ := ok_eq (show (decide (i = .iinc n z) && ln == 3) = true from hok)
  subst hi; subst hn
  obtain ⟨x, h1, h2⟩ := Option.bind_eq_some_iff.mp (show (lI ls n).bind _ = _ from hst)
  obtain ⟨ls2, h3, h4⟩ := Option.bind_eq_some_iff.mp h2
  obtain ⟨rfl, rfl, rfl, rfl⟩ := aG_inj h4
  intro F H locs hl hR hlo
  obtain ⟨k, hk⟩ := List.getElem?_of_mem (kf_pr_mem (sa := sa) (N0 := N0) (lI_at h1))
  exact lv_iinc hx hb hdg hl.has hk rfl (by have := (lS1_at h3).1; have := hl.2.2.1; omega) rfl (fun F' hF => kk F' H locs (hl.st1 h3 rfl hF) hR hlo)
theorem g_iconst {z : Int} (hx : p.tables.exec = Jvm.exec) (hb : c.code = cc) (hdg : decode cc pc = .ok (i, ln)) (hok : kf_ok o ini pc ln i (.iconst z) = true) (hst : kf_stp kf_cs kf_nw kf_own rt (.iconst z) pc ln ls st M = some (.inr (.inl (pc', ls', st', M')))) (kk : kf_W p l e R s m args below meth c Q sa N0 D H00 nL L0 Z0 pc' ls' st' M') : kf_W p l e R s m args below meth c Q sa N0 D H00 nL L0 Z0 pc ls st M := by
  obtain ⟨hi, hn⟩ := ok_eq (show (decide (i = .iconst z) && ln == 1) = true from hok)
  subst hi; subst hn
  obtain ⟨rfl, rfl, rfl, rfl⟩ := aG_inj hst
  exact fun F H locs hl hR hlo => lv_iconst hx hb hdg rfl (kk F H locs hl hR hlo)
theorem g_bipush {z : Int} (hx : p.tables.exec = Jvm.exec) (hb : c.code = cc) (hdg : decode cc pc = .ok (i, ln)) (hok : kf_ok o ini pc ln i (.bipush z) = true) (hst : kf_stp kf_cs kf_nw kf_own rt (.bipush z) pc ln ls st M = some (.inr (.inl (pc', ls', st', M')))) (kk : kf_W p l e R s m args below meth c Q sa N0 D H00 nL L0 Z0 pc' ls' st' M') : kf_W p l e R s m args below meth c Q sa N0 D H00 nL L0 Z0 pc ls st M := by
  have hok : (decide (i = .bipush z) && ln == 2 && decide ((Int8.ofInt z).toInt32 = Int32.ofInt z)) = true := hok
  simp only [Bool.and_eq_true, decide_eq_true_eq, beq_iff_eq] at hok
  obtain ⟨⟨hi, hn⟩, hv⟩ := hok
  subst hi; subst hn
  obtain ⟨rfl, rfl, rfl, rfl⟩ := aG_inj hst
  exact fun F H locs hl hR hlo => lv_bipush hx hb hdg hv (kk F H locs hl hR hlo)
theorem g_sipush {z : Int} (hx : p.tables.exec = Jvm.exec) (hb : c.code = cc) (hdg : decode cc pc = .ok (i, ln)) (hok : kf_ok o ini pc ln i (.sipush z) = true) (hst : kf_stp kf_cs kf_nw kf_own rt (.sipush z) pc ln ls st M = some (.inr (.inl (pc', ls', st', M')))) (kk : kf_W p l e R s m args below meth c Q sa N0 D H00 nL L0 Z0 pc' ls' st' M') : kf_W p l e R s m args below meth c Q sa N0 D H00 nL L0 Z0 pc ls st M := by
  have hok : (decide (i = .sipush z) && ln == 3 && decide ((Int16.ofInt z).toInt32 = Int32.ofInt z)) = true := hok
  simp only [Bool.and_eq_true, decide_eq_true_eq, beq_iff_eq] at hok
  obtain ⟨⟨hi, hn⟩, hv⟩ := hok
  subst hi; subst hn
  obtain ⟨rfl, rfl, rfl, rfl⟩ := aG_inj hst
  exact fun F H locs hl hR hlo => lv_sipush hx hb hdg hv (kk F H locs hl hR hlo)
theorem g_lconst {z : Fin 2} (hx : p.tables.exec = Jvm.exec) (hb : c.code = cc) (hdg : decode cc pc = .ok (i, ln)) (hok : kf_ok o ini pc ln i (.lconst z) = true) (hst : kf_stp kf_cs kf_nw kf_own rt (.lconst z) pc ln ls st M = some (.inr (.inl (pc', ls', st', M')))) (kk : kf_W p l e R s m args below meth c Q sa N0 D H00 nL L0 Z0 pc' ls' st' M') : kf_W p l e R s m args below meth c Q sa N0 D H00 nL L0 Z0 pc ls st M := by
  obtain ⟨hi, hn⟩ := ok_eq (show (decide (i = .lconst z) && ln == 1) = true from hok)
  subst hi; subst hn
  obtain ⟨rfl, rfl, rfl, rfl⟩ := aG_inj hst
  exact fun F H locs hl hR hlo => lv_lconst hx hb hdg rfl (kk F H locs hl hR hlo)
theorem g_aconst_null  (hx : p.tables.exec = Jvm.exec) (hb : c.code = cc) (hdg : decode cc pc = .ok (i, ln)) (hok : kf_ok o ini pc ln i (.aconst_null) = true) (hst : kf_stp kf_cs kf_nw kf_own rt (.aconst_null) pc ln ls st M = some (.inr (.inl (pc', ls', st', M')))) (kk : kf_W p l e R s m args below meth c Q sa N0 D H00 nL L0 Z0 pc' ls' st' M') : kf_W p l e R s m args below meth c Q sa N0 D H00 nL L0 Z0 pc ls st M := by
  obtain ⟨hi, hn⟩ := ok_eq (show (decide (i = .aconst_null) && ln == 1) = true from hok)
  subst hi; subst hn
  obtain ⟨rfl, rfl, rfl, rfl⟩ := aG_inj hst
  exact fun F H locs hl hR hlo => lv_null hx hb hdg (kk F H locs hl hR hlo)
theorem g_dup  (hx : p.tables.exec = Jvm.exec) (hb : c.code = cc) (hdg : decode cc pc = .ok (i, ln)) (hok : kf_ok o ini pc ln i (.dup) = true) (hst : kf_stp kf_cs kf_nw kf_own rt (.dup) pc ln ls st M = some (.inr (.inl (pc', ls', st', M')))) (kk : kf_W p l e R s m args below meth c Q sa N0 D H00 nL L0 Z0 pc' ls' st' M') : kf_W p l e R s m args below meth c Q sa N0 D H00 nL L0 Z0 pc ls st M := by
  obtain ⟨hi, hn⟩ := ok_eq (show (decide (i = .dup) && ln == 1) = true from hok)
  subst hi; subst hn
  simp only [kf_stp] at hst
  split at hst
  · split at hst
    · rename_i v r hc
      obtain ⟨rfl, rfl, rfl, rfl⟩ := aG_inj hst
      exact fun F H locs hl hR hlo => lv_dup hx hb hdg ((cv_cat v).trans hc) (kk F H locs hl hR hlo)
    · cases hst
  · cases hst
theorem g_dup2  (hx : p.tables.exec = Jvm.exec) (hb : c.code = cc) (hdg : decode cc pc = .ok (i, ln)) (hok : kf_ok o ini pc ln i (.dup2) = true) (hst : kf_stp kf_cs kf_nw kf_own rt (.dup2) pc ln ls st M = some (.inr (.inl (pc', ls', st', M')))) (kk : kf_W p l e R s m args below meth c Q sa N0 D H00 nL L0 Z0 pc' ls' st' M') : kf_W p l e R s m args below meth c Q sa N0 D H00 nL L0 Z0 pc ls st M := by
  obtain ⟨hi, hn⟩ := ok_eq (show (decide (i = .dup2) && ln == 1) = true from hok)
  subst hi; subst hn
  simp only [kf_stp] at hst
  split at hst
  · obtain ⟨rfl, rfl, rfl, rfl⟩ := aG_inj hst
    exact fun F H locs hl hR hlo => lv_dup2_11 hx hb hdg rfl rfl (kk F H locs hl hR hlo)
  · cases hst
theorem g_iadd  (hx : p.tables.exec = Jvm.exec) (hb : c.code = cc) (hdg : decode cc pc = .ok (i, ln)) (hok : kf_ok o ini pc ln i (.iadd) = true) (hst : kf_stp kf_cs kf_nw kf_own rt (.iadd) pc ln ls st M = some (.inr (.inl (pc', ls', st', M')))) (kk : kf_W p l e R s m args below meth c Q sa N0 D H00 nL L0 Z0 pc' ls' st' M') : kf_W p l e R s m args below meth c Q sa N0 D H00 nL L0 Z0 pc ls st M := by
  obtain ⟨hi, hn⟩ := ok_eq (show (decide (i = .iadd) && ln == 1) = true from hok)
  subst hi; subst hn
  obtain ⟨x, y, r, rfl, rfl, rfl, rfl, rfl⟩ := i2_inv hst
  exact fun F H locs hl hR hlo => lv_iadd hx hb hdg (kk F H locs hl hR hlo)
theorem g_isub  (hx : p.tables.exec = Jvm.exec) (hb : c.code = cc) (hdg : decode cc pc = .ok (i, ln)) (hok : kf_ok o ini pc ln i (.isub) = true) (hst : kf_stp kf_cs kf_nw kf_own rt (.isub) pc ln ls st M = some (.inr (.inl (pc', ls', st', M')))) (kk : kf_W p l e R s m args below meth c Q sa N0 D H00 nL L0 Z0 pc' ls' st' M') : kf_W p l e R s m args below meth c Q sa N0 D H00 nL L0 Z0 pc ls st M := by
  obtain ⟨hi, hn⟩ := ok_eq (show (decide (i = .isub) && ln == 1) = true from hok)
  subst hi; subst hn
  obtain ⟨x, y, r, rfl, rfl, rfl, rfl, rfl⟩ := i2_inv hst
  exact fun F H locs hl hR hlo => lv_isub hx hb hdg (kk F H locs hl hR hlo)
theorem g_imul  (hx : p.tables.exec = Jvm.exec) (hb : c.code = cc) (hdg : decode cc pc = .ok (i, ln)) (hok : kf_ok o ini pc ln i (.imul) = true) (hst : kf_stp kf_cs kf_nw kf_own rt (.imul) pc ln ls st M = some (.inr (.inl (pc', ls', st', M')))) (kk : kf_W p l e R s m args below meth c Q sa N0 D H00 nL L0 Z0 pc' ls' st' M') : kf_W p l e R s m args below meth c Q sa N0 D H00 nL L0 Z0 pc ls st M := by
  obtain ⟨hi, hn⟩ := ok_eq (show (decide (i = .imul) && ln == 1) = true from hok)
  subst hi; subst hn
  obtain ⟨x, y, r, rfl, rfl, rfl, rfl, rfl⟩ := i2_inv hst
  exact fun F H locs hl hR hlo => lv_imul hx hb hdg (kk F H locs hl hR hlo)
theorem g_iand  (hx : p.tables.exec = Jvm.exec) (hb : c.code = cc) (hdg : decode cc pc = .ok (i, ln)) (hok : kf_ok o ini pc ln i (.iand) = true) (hst : kf_stp kf_cs kf_nw kf_own rt (.iand) pc ln ls st M = some (.inr (.inl (pc', ls', st', M')))) (kk : kf_W p l e R s m args below meth c Q sa N0 D H00 nL L0 Z0 pc' ls' st' M') : kf_W p l e R s m args below meth c Q sa N0 D H00 nL L0 Z0 pc ls st M := by
  obtain ⟨hi, hn⟩ := ok_eq (show (decide (i = .iand) && ln == 1) = true from hok)
  subst hi; subst hn
  obtain ⟨x, y, r, rfl, rfl, rfl, rfl, rfl⟩ := i2_inv hst
  exact fun F H locs hl hR hlo => lv_iand hx hb hdg (kk F H locs hl hR hlo)
theorem g_ior  (hx : p.tables.exec = Jvm.exec) (hb : c.code = cc) (hdg : decode cc pc = .ok (i, ln)) (hok : kf_ok o ini pc ln i (.ior) = true) (hst : kf_stp kf_cs kf_nw kf_own rt (.ior) pc ln ls st M = some (.inr (.inl (pc', ls', st', M')))) (kk : kf_W p l e R s m args below meth c Q sa N0 D H00 nL L0 Z0 pc' ls' st' M') : kf_W p l e R s m args below meth c Q sa N0 D H00 nL L0 Z0 pc ls st M := by
  obtain ⟨hi, hn⟩ := ok_eq (show (decide (i = .ior) && ln == 1) = true from hok)
  subst hi; subst hn
  obtain ⟨x, y, r, rfl, rfl, rfl, rfl, rfl⟩ := i2_inv hst
  exact fun F H locs hl hR hlo => lv_ior hx hb hdg (kk F H locs hl hR hlo)
theorem g_ixor  (hx : p.tables.exec = Jvm.exec) (hb : c.code = cc) (hdg : decode cc pc = .ok (i, ln)) (hok : kf_ok o ini pc ln i (.ixor) = true) (hst : kf_stp kf_cs kf_nw kf_own rt (.ixor) pc ln ls st M = some (.inr (.inl (pc', ls', st', M')))) (kk : kf_W p l e R s m args below meth c Q sa N0 D H00 nL L0 Z0 pc' ls' st' M') : kf_W p l e R s m args below meth c Q sa N0 D H00 nL L0 Z0 pc ls st M := by
  obtain ⟨hi, hn⟩ := ok_eq (show (decide (i = .ixor) && ln == 1) = true from hok)
  subst hi; subst hn
  obtain ⟨x, y, r, rfl, rfl, rfl, rfl, rfl⟩ := i2_inv hst
  exact fun F H locs hl hR hlo => lv_ixor hx hb hdg (kk F H locs hl hR hlo)
theorem g_ishl  (hx : p.tables.exec = Jvm.exec) (hb : c.code = cc) (hdg : decode cc pc = .ok (i, ln)) (hok : kf_ok o ini pc ln i (.ishl) = true) (hst : kf_stp kf_cs kf_nw kf_own rt (.ishl) pc ln ls st M = some (.inr (.inl (pc', ls', st', M')))) (kk : kf_W p l e R s m args below meth c Q sa N0 D H00 nL L0 Z0 pc' ls' st' M') : kf_W p l e R s m args below meth c Q sa N0 D H00 nL L0 Z0 pc ls st M := by
  obtain ⟨hi, hn⟩ := ok_eq (show (decide (i = .ishl) && ln == 1) = true from hok)
  subst hi; subst hn
  obtain ⟨x, y, r, rfl, rfl, rfl, rfl, rfl⟩ := i2_inv hst
  exact fun F H locs hl hR hlo => lv_ishl hx hb hdg (kk F H locs hl hR hlo)
theorem g_ishr  (hx : p.tables.exec = Jvm.exec) (hb : c.code = cc) (hdg : decode cc pc = .ok (i, ln)) (hok : kf_ok o ini pc ln i (.ishr) = true) (hst : kf_stp kf_cs kf_nw kf_own rt (.ishr) pc ln ls st M = some (.inr (.inl (pc', ls', st', M')))) (kk : kf_W p l e R s m args below meth c Q sa N0 D H00 nL L0 Z0 pc' ls' st' M') : kf_W p l e R s m args below meth c Q sa N0 D H00 nL L0 Z0 pc ls st M := by
  obtain ⟨hi, hn⟩ := ok_eq (show (decide (i = .ishr) && ln == 1) = true from hok)
  subst hi; subst hn
  obtain ⟨x, y, r, rfl, rfl, rfl, rfl, rfl⟩ := i2_inv hst
  exact fun F H locs hl hR hlo => lv_ishr hx hb hdg (kk F H locs hl hR hlo)
theorem g_iushr  (hx : p.tables.exec = Jvm.exec) (hb : c.code = cc) (hdg : decode cc pc = .ok (i, ln)) (hok : kf_ok o ini pc ln i (.iushr) = true) (hst : kf_stp kf_cs kf_nw kf_own rt (.iushr) pc ln ls st M = some (.inr (.inl (pc', ls', st', M')))) (kk : kf_W p l e R s m args below meth c Q sa N0 D H00 nL L0 Z0 pc' ls' st' M') : kf_W p l e R s m args below meth c Q sa N0 D H00 nL L0 Z0 pc ls st M := by
  obtain ⟨hi, hn⟩ := ok_eq (show (decide (i = .iushr) && ln == 1) = true from hok)
  subst hi; subst hn
  obtain ⟨x, y, r, rfl, rfl, rfl, rfl, rfl⟩ := i2_inv hst
  exact fun F H locs hl hR hlo => lv_iushr hx hb hdg rfl (kk F H locs hl hR hlo)
theorem g_ineg  (hx : p.tables.exec = Jvm.exec) (hb : c.code = cc) (hdg : decode cc pc = .ok (i, ln)) (hok : kf_ok o ini pc ln i (.ineg) = true) (hst : kf_stp kf_cs kf_nw kf_own rt (.ineg) pc ln ls st M = some (.inr (.inl (pc', ls', st', M')))) (kk : kf_W p l e R s m args below meth c Q sa N0 D H00 nL L0 Z0 pc' ls' st' M') : kf_W p l e R s m args below meth c Q sa N0 D H00 nL L0 Z0 pc ls st M := by
  obtain ⟨hi, hn⟩ := ok_eq (show (decide (i = .ineg) && ln == 1) = true from hok)
  subst hi; subst hn
  obtain ⟨x, r, rfl, rfl, rfl, rfl, rfl⟩ := i1_inv hst
  exact fun F H locs hl hR hlo => lv_ineg hx hb hdg (kk F H locs hl hR hlo)
theorem g_ladd  (hx : p.tables.exec = Jvm.exec) (hb : c.code = cc) (hdg : decode cc pc = .ok (i, ln)) (hok : kf_ok o ini pc ln i (.ladd) = true) (hst : kf_stp kf_cs kf_nw kf_own rt (.ladd) pc ln ls st M = some (.inr (.inl (pc', ls', st', M')))) (kk : kf_W p l e R s m args below meth c Q sa N0 D H00 nL L0 Z0 pc' ls' st' M') : kf_W p l e R s m args below meth c Q sa N0 D H00 nL L0 Z0 pc ls st M := by
  obtain ⟨hi, hn⟩ := ok_eq (show (decide (i = .ladd) && ln == 1) = true from hok)
  subst hi; subst hn
  obtain ⟨x, y, r, rfl, rfl, rfl, rfl, rfl⟩ := j2_inv hst
  exact fun F H locs hl hR hlo => lv_ladd hx hb hdg (kk F H locs hl hR hlo)
theorem g_lsub  (hx : p.tables.exec = Jvm.exec) (hb : c.code = cc) (hdg : decode cc pc = .ok (i, ln)) (hok : kf_ok o ini pc ln i (.lsub) = true) (hst : kf_stp kf_cs kf_nw kf_own rt (.lsub) pc ln ls st M = some (.inr (.inl (pc', ls', st', M')))) (kk : kf_W p l e R s m args below meth c Q sa N0 D H00 nL L0 Z0 pc' ls' st' M') : kf_W p l e R s m args below meth c Q sa N0 D H00 nL L0 Z0 pc ls st M := by
  obtain ⟨hi, hn⟩ := ok_eq (show (decide (i = .lsub) && ln == 1) = true from hok)
  subst hi; subst hn
  obtain ⟨x, y, r, rfl, rfl, rfl, rfl, rfl⟩ := j2_inv hst
  exact fun F H locs hl hR hlo => lv_lsub hx hb hdg (kk F H locs hl hR hlo)
theorem g_lmul  (hx : p.tables.exec = Jvm.exec) (hb : c.code = cc) (hdg : decode cc pc = .ok (i, ln)) (hok : kf_ok o ini pc ln i (.lmul) = true) (hst : kf_stp kf_cs kf_nw kf_own rt (.lmul) pc ln ls st M = some (.inr (.inl (pc', ls', st', M')))) (kk : kf_W p l e R s m args below meth c Q sa N0 D H00 nL L0 Z0 pc' ls' st' M') : kf_W p l e R s m args below meth c Q sa N0 D H00 nL L0 Z0 pc ls st M := by
  obtain ⟨hi, hn⟩ := ok_eq (show (decide (i = .lmul) && ln == 1) = true from hok)
  subst hi; subst hn
  obtain ⟨x, y, r, rfl, rfl, rfl, rfl, rfl⟩ := j2_inv hst
  exact fun F H locs hl hR hlo => lv_lmul hx hb hdg (kk F H locs hl hR hlo)
theorem g_land  (hx : p.tables.exec = Jvm.exec) (hb : c.code = cc) (hdg : decode cc pc = .ok (i, ln)) (hok : kf_ok o ini pc ln i (.land) = true) (hst : kf_stp kf_cs kf_nw kf_own rt (.land) pc ln ls st M = some (.inr (.inl (pc', ls', st', M')))) (kk : kf_W p l e R s m args below meth c Q sa N0 D H00 nL L0 Z0 pc' ls' st' M') : kf_W p l e R s m args below meth c Q sa N0 D H00 nL L0 Z0 pc ls st M := by
  obtain ⟨hi, hn⟩ := ok_eq (show (decide (i = .land) && ln == 1) = true from hok)
  subst hi; subst hn
  obtain ⟨x, y, r, rfl, rfl, rfl, rfl, rfl⟩ := j2_inv hst
  exact fun F H locs hl hR hlo => lv_land hx hb hdg (kk F H locs hl hR hlo)
theorem g_lor  (hx : p.tables.exec = Jvm.exec) (hb : c.code = cc) (hdg : decode cc pc = .ok (i, ln)) (hok : kf_ok o ini pc ln i (.lor) = true) (hst : kf_stp kf_cs kf_nw kf_own rt (.lor) pc ln ls st M = some (.inr (.inl (pc', ls', st', M')))) (kk : kf_W p l e R s m args below meth c Q sa N0 D H00 nL L0 Z0 pc' ls' st' M') : kf_W p l e R s m args below meth c Q sa N0 D H00 nL L0 Z0 pc ls st M := by
  obtain ⟨hi, hn⟩ := ok_eq (show (decide (i = .lor) && ln == 1) = true from hok)
  subst hi; subst hn
  obtain ⟨x, y, r, rfl, rfl, rfl, rfl, rfl⟩ := j2_inv hst
  exact fun F H locs hl hR hlo => lv_lor hx hb hdg (kk F H locs hl hR hlo)
theorem g_lxor  (hx : p.tables.exec = Jvm.exec) (hb : c.code = cc) (hdg : decode cc pc = .ok (i, ln)) (hok : kf_ok o ini pc ln i (.lxor) = true) (hst : kf_stp kf_cs kf_nw kf_own rt (.lxor) pc ln ls st M = some (.inr (.inl (pc', ls', st', M')))) (kk : kf_W p l e R s m args below meth c Q sa N0 D H00 nL L0 Z0 pc' ls' st' M') : kf_W p l e R s m args below meth c Q sa N0 D H00 nL L0 Z0 pc ls st M := by
  obtain ⟨hi, hn⟩ := ok_eq (show (decide (i = .lxor) && ln == 1) = true from hok)
  subst hi; subst hn
  obtain ⟨x, y, r, rfl, rfl, rfl, rfl, rfl⟩ := j2_inv hst
  exact fun F H locs hl hR hlo => lv_lxor hx hb hdg (kk F H locs hl hR hlo)
theorem g_lshl  (hx : p.tables.exec = Jvm.exec) (hb : c.code = cc) (hdg : decode cc pc = .ok (i, ln)) (hok : kf_ok o ini pc ln i (.lshl) = true) (hst : kf_stp kf_cs kf_nw kf_own rt (.lshl) pc ln ls st M = some (.inr (.inl (pc', ls', st', M')))) (kk : kf_W p l e R s m args below meth c Q sa N0 D H00 nL L0 Z0 pc' ls' st' M') : kf_W p l e R s m args below meth c Q sa N0 D H00 nL L0 Z0 pc ls st M := by
  obtain ⟨hi, hn⟩ := ok_eq (show (decide (i = .lshl) && ln == 1) = true from hok)
  subst hi; subst hn
  obtain ⟨x, y, r, rfl, rfl, rfl, rfl, rfl⟩ := jS_inv hst
  exact fun F H locs hl hR hlo => lv_lshl hx hb hdg rfl (kk F H locs hl hR hlo)
theorem g_lshr  (hx : p.tables.exec = Jvm.exec) (hb : c.code = cc) (hdg : decode cc pc = .ok (i, ln)) (hok : kf_ok o ini pc ln i (.lshr) = true) (hst : kf_stp kf_cs kf_nw kf_own rt (.lshr) pc ln ls st M = some (.inr (.inl (pc', ls', st', M')))) (kk : kf_W p l e R s m args below meth c Q sa N0 D H00 nL L0 Z0 pc' ls' st' M') : kf_W p l e R s m args below meth c Q sa N0 D H00 nL L0 Z0 pc ls st M := by
  obtain ⟨hi, hn⟩ := ok_eq (show (decide (i = .lshr) && ln == 1) = true from hok)
  subst hi; subst hn
  obtain ⟨x, y, r, rfl, rfl, rfl, rfl, rfl⟩ := jS_inv hst
  exact fun F H locs hl hR hlo => lv_lshr hx hb hdg rfl (kk F H locs hl hR hlo)
theorem g_lushr  (hx : p.tables.exec = Jvm.exec) (hb : c.code = cc) (hdg : decode cc pc = .ok (i, ln)) (hok : kf_ok o ini pc ln i (.lushr) = true) (hst : kf_stp kf_cs kf_nw kf_own rt (.lushr) pc ln ls st M = some (.inr (.inl (pc', ls', st', M')))) (kk : kf_W p l e R s m args below meth c Q sa N0 D H00 nL L0 Z0 pc' ls' st' M') : kf_W p l e R s m args below meth c Q sa N0 D H00 nL L0 Z0 pc ls st M := by
  obtain ⟨hi, hn⟩ := ok_eq (show (decide (i = .lushr) && ln == 1) = true from hok)
  subst hi; subst hn
  obtain ⟨x, y, r, rfl, rfl, rfl, rfl, rfl⟩ := jS_inv hst
  exact fun F H locs hl hR hlo => lv_lushr hx hb hdg rfl (kk F H locs hl hR hlo)
theorem g_idiv  (hx : p.tables.exec = Jvm.exec) (hb : c.code = cc) (hdg : decode cc pc = .ok (i, ln)) (hok : kf_ok o ini pc ln i (.idiv) = true) (hst : kf_stp kf_cs kf_nw kf_own rt (.idiv) pc ln ls st M = some (.inr (.inl (pc', ls', st', M')))) (kk : kf_W p l e R s m args below meth c Q sa N0 D H00 nL L0 Z0 pc' ls' st' M') : kf_W p l e R s m args below meth c Q sa N0 D H00 nL L0 Z0 pc ls st M := by
  obtain ⟨hi, hn⟩ := ok_eq (show (decide (i = .idiv) && ln == 1) = true from hok)
  subst hi; subst hn
  simp only [kf_stp] at hst
  split at hst
  · split at hst
    · cases hst
    · rename_i hz
      obtain ⟨rfl, rfl, rfl, rfl⟩ := aG_inj hst
      exact fun F H locs hl hR hlo => lv_idiv hx hb hdg hz (kk F H locs hl hR hlo)
  · cases hst
theorem g_irem  (hx : p.tables.exec = Jvm.exec) (hb : c.code = cc) (hdg : decode cc pc = .ok (i, ln)) (hok : kf_ok o ini pc ln i (.irem) = true) (hst : kf_stp kf_cs kf_nw kf_own rt (.irem) pc ln ls st M = some (.inr (.inl (pc', ls', st', M')))) (kk : kf_W p l e R s m args below meth c Q sa N0 D H00 nL L0 Z0 pc' ls' st' M') : kf_W p l e R s m args below meth c Q sa N0 D H00 nL L0 Z0 pc ls st M := by
  obtain ⟨hi, hn⟩ := ok_eq (show (decide (i = .irem) && ln == 1) = true from hok)
  subst hi; subst hn
  simp only [kf_stp] at hst
  split at hst
  · split at hst
    · cases hst
    · rename_i hz
      obtain ⟨rfl, rfl, rfl, rfl⟩ := aG_inj hst
      exact fun F H locs hl hR hlo => lv_irem hx hb hdg hz (kk F H locs hl hR hlo)
  · cases hst
theorem g_ldiv  (hx : p.tables.exec = Jvm.exec) (hb : c.code = cc) (hdg : decode cc pc = .ok (i, ln)) (hok : kf_ok o ini pc ln i (.ldiv) = true) (hst : kf_stp kf_cs kf_nw kf_own rt (.ldiv) pc ln ls st M = some (.inr (.inl (pc', ls', st', M')))) (kk : kf_W p l e R s m args below meth c Q sa N0 D H00 nL L0 Z0 pc' ls' st' M') : kf_W p l e R s m args below meth c Q sa N0 D H00 nL L0 Z0 pc ls st M := by
  obtain ⟨hi, hn⟩ := ok_eq (show (decide (i = .ldiv) && ln == 1) = true from hok)
  subst hi; subst hn
  simp only [kf_stp] at hst
  split at hst
  · split at hst
    · cases hst
    · rename_i hz
      obtain ⟨rfl, rfl, rfl, rfl⟩ := aG_inj hst
      exact fun F H locs hl hR hlo => lv_ldiv hx hb hdg hz (kk F H locs hl hR hlo)
  · cases hst
theorem g_i2l  (hx : p.tables.exec = Jvm.exec) (hb : c.code = cc) (hdg : decode cc pc = .ok (i, ln)) (hok : kf_ok o ini pc ln i (.i2l) = true) (hst : kf_stp kf_cs kf_nw kf_own rt (.i2l) pc ln ls st M = some (.inr (.inl (pc', ls', st', M')))) (kk : kf_W p l e R s m args below meth c Q sa N0 D H00 nL L0 Z0 pc' ls' st' M') : kf_W p l e R s m args below meth c Q sa N0 D H00 nL L0 Z0 pc ls st M := by
  obtain ⟨hi, hn⟩ := ok_eq (show (decide (i = .i2l) && ln == 1) = true from hok)
  subst hi; subst hn
  simp only [kf_stp] at hst
  split at hst
  · obtain ⟨rfl, rfl, rfl, rfl⟩ := aG_inj hst
    exact fun F H locs hl hR hlo => lv_i2l hx hb hdg rfl (kk F H locs hl hR hlo)
  · cases hst
theorem g_l2i  (hx : p.tables.exec = Jvm.exec) (hb : c.code = cc) (hdg : decode cc pc = .ok (i, ln)) (hok : kf_ok o ini pc ln i (.l2i) = true) (hst : kf_stp kf_cs kf_nw kf_own rt (.l2i) pc ln ls st M = some (.inr (.inl (pc', ls', st', M')))) (kk : kf_W p l e R s m args below meth c Q sa N0 D H00 nL L0 Z0 pc' ls' st' M') : kf_W p l e R s m args below meth c Q sa N0 D H00 nL L0 Z0 pc ls st M := by
  obtain ⟨hi, hn⟩ := ok_eq (show (decide (i = .l2i) && ln == 1) = true from hok)
  subst hi; subst hn
  simp only [kf_stp] at hst
  split at hst
  · obtain ⟨rfl, rfl, rfl, rfl⟩ := aG_inj hst
    exact fun F H locs hl hR hlo => lv_l2i hx hb hdg rfl (kk F H locs hl hR hlo)
  · cases hst
theorem g_lcmp  (hx : p.tables.exec = Jvm.exec) (hb : c.code = cc) (hdg : decode cc pc = .ok (i, ln)) (hok : kf_ok o ini pc ln i (.lcmp) = true) (hst : kf_stp kf_cs kf_nw kf_own rt (.lcmp) pc ln ls st M = some (.inr (.inl (pc', ls', st', M')))) (kk : kf_W p l e R s m args below meth c Q sa N0 D H00 nL L0 Z0 pc' ls' st' M') : kf_W p l e R s m args below meth c Q sa N0 D H00 nL L0 Z0 pc ls st M := by
  obtain ⟨hi, hn⟩ := ok_eq (show (decide (i = .lcmp) && ln == 1) = true from hok)
  subst hi; subst hn
  simp only [kf_stp] at hst
  split at hst
  · obtain ⟨rfl, rfl, rfl, rfl⟩ := aG_inj hst
    exact fun F H locs hl hR hlo => W.lcmp hx hb hdg (kk F H locs hl hR hlo)
  · cases hst
end GO1
section GO2
variable {p : Program} {l : Launch} {e : Env} {R : Room} {s : State} {m : MethodId} {args : Array Value} {below : List Frame} {meth : Method} {c : Code} {Q : State → Prop} {sa : Nat → Nat} {N0 : Nat} {D : va_G} {H00 : Heap} {nL L0 Z0 o rt : Nat} {ini : Bool} {cc : ByteArray} {pc pc' ln : Nat} {ls ls' : kf_L} {st st' : List Value} {M M' : kf_M} {i : Instr}
theorem g_goto {t : Int} (hx : p.tables.exec = Jvm.exec) (hb : c.code = cc) (hdg : decode cc pc = .ok (i, ln)) (hok : kf_ok o ini pc ln i (.goto t) = true) (hst : kf_stp kf_cs kf_nw kf_own rt (.goto t) pc ln ls st M = some (.inr (.inl (pc', ls', st', M')))) (kk : kf_W p l e R s m args below meth c Q sa N0 D H00 nL L0 Z0 pc' ls' st' M') : kf_W p l e R s m args below meth c Q sa N0 D H00 nL L0 Z0 pc ls st M := by
  cases i with
  | goto f =>
    have hok : (ln == 3 && decide ((pc : Int) + f = t) && decide (0 ≤ t)) = true := hok
    simp only [Bool.and_eq_true, decide_eq_true_eq, beq_iff_eq] at hok
    obtain ⟨⟨hn, ht⟩, h0⟩ := hok
    subst hn
    obtain ⟨rfl, rfl, rfl, rfl⟩ := aG_inj hst
    exact fun F H locs hl hR hlo => lv_goto hx hb hdg (by omega) (kk F H locs hl hR hlo)
  | _ => cases hok
theorem g_if_icmp {cd : ClassFile.Cond} {t : Int} (hx : p.tables.exec = Jvm.exec) (hb : c.code = cc) (hdg : decode cc pc = .ok (i, ln)) (hok : kf_ok o ini pc ln i (.if_icmp cd t) = true) (hst : kf_stp kf_cs kf_nw kf_own rt (.if_icmp cd t) pc ln ls st M = some (.inr (.inl (pc', ls', st', M')))) (kk : kf_W p l e R s m args below meth c Q sa N0 D H00 nL L0 Z0 pc' ls' st' M') : kf_W p l e R s m args below meth c Q sa N0 D H00 nL L0 Z0 pc ls st M := by
  cases i with
  | if_icmp cd' f =>
    have hok : (ln == 3 && decide (cd' = cd) && decide ((pc : Int) + f = t) && decide (0 ≤ t)) = true := hok
    simp only [Bool.and_eq_true, decide_eq_true_eq, beq_iff_eq] at hok
    obtain ⟨⟨⟨hn, hc⟩, ht⟩, h0⟩ := hok
    subst hn; subst hc
    simp only [kf_stp] at hst
    split at hst
    case h_2 => cases hst
    rename_i y x r
    cases cd' with
    | eq =>
      by_cases h : x = y
      · obtain ⟨rfl, rfl, rfl, rfl⟩ := aG_inj ((if_pos h).symm.trans hst)
        exact fun F H locs hl hR hlo => lv_icmp_eq hx hb hdg (by omega) (fun _ => kk F H locs hl hR hlo) (fun g => absurd h g)
      · obtain ⟨rfl, rfl, rfl, rfl⟩ := aG_inj ((if_neg h).symm.trans hst)
        exact fun F H locs hl hR hlo => lv_icmp_eq hx hb hdg (by omega : (pc : Int) + f = (t.toNat : Int)) (fun g => absurd g h) (fun _ => kk F H locs hl hR hlo)
    | ne =>
      by_cases h : x = y
      · obtain ⟨rfl, rfl, rfl, rfl⟩ := aG_inj ((if_pos h).symm.trans hst)
        exact fun F H locs hl hR hlo => lv_icmp_ne hx hb hdg (by omega : (pc : Int) + f = (t.toNat : Int)) (fun g => absurd h g) (fun _ => kk F H locs hl hR hlo)
      · obtain ⟨rfl, rfl, rfl, rfl⟩ := aG_inj ((if_neg h).symm.trans hst)
        exact fun F H locs hl hR hlo => lv_icmp_ne hx hb hdg (by omega) (fun _ => kk F H locs hl hR hlo) (fun g => absurd g h)
    | lt =>
      by_cases h : x < y
      · obtain ⟨rfl, rfl, rfl, rfl⟩ := aG_inj ((if_pos h).symm.trans hst)
        exact fun F H locs hl hR hlo => lv_icmp_lt hx hb hdg (by omega) (fun _ => kk F H locs hl hR hlo) (fun g => absurd h g)
      · obtain ⟨rfl, rfl, rfl, rfl⟩ := aG_inj ((if_neg h).symm.trans hst)
        exact fun F H locs hl hR hlo => lv_icmp_lt hx hb hdg (by omega : (pc : Int) + f = (t.toNat : Int)) (fun g => absurd g h) (fun _ => kk F H locs hl hR hlo)
    | ge =>
      by_cases h : y ≤ x
      · obtain ⟨rfl, rfl, rfl, rfl⟩ := aG_inj ((if_pos h).symm.trans hst)
        exact fun F H locs hl hR hlo => lv_icmp_ge hx hb hdg (by omega) (fun _ => kk F H locs hl hR hlo) (fun g => absurd h g)
      · obtain ⟨rfl, rfl, rfl, rfl⟩ := aG_inj ((if_neg h).symm.trans hst)
        exact fun F H locs hl hR hlo => lv_icmp_ge hx hb hdg (by omega : (pc : Int) + f = (t.toNat : Int)) (fun g => absurd g h) (fun _ => kk F H locs hl hR hlo)
    | gt =>
      by_cases h : y < x
      · obtain ⟨rfl, rfl, rfl, rfl⟩ := aG_inj ((if_pos h).symm.trans hst)
        exact fun F H locs hl hR hlo => lv_icmp_gt hx hb hdg (by omega) (fun _ => kk F H locs hl hR hlo) (fun g => absurd h g)
      · obtain ⟨rfl, rfl, rfl, rfl⟩ := aG_inj ((if_neg h).symm.trans hst)
        exact fun F H locs hl hR hlo => lv_icmp_gt hx hb hdg (by omega : (pc : Int) + f = (t.toNat : Int)) (fun g => absurd g h) (fun _ => kk F H locs hl hR hlo)
    | le =>
      by_cases h : x ≤ y
      · obtain ⟨rfl, rfl, rfl, rfl⟩ := aG_inj ((if_pos h).symm.trans hst)
        exact fun F H locs hl hR hlo => lv_icmp_le hx hb hdg (by omega) (fun _ => kk F H locs hl hR hlo) (fun g => absurd h g)
      · obtain ⟨rfl, rfl, rfl, rfl⟩ := aG_inj ((if_neg h).symm.trans hst)
        exact fun F H locs hl hR hlo => lv_icmp_le hx hb hdg (by omega : (pc : Int) + f = (t.toNat : Int)) (fun g => absurd g h) (fun _ => kk F H locs hl hR hlo)
  | _ => cases hok
theorem g_ifCond {cd : ClassFile.Cond} {t : Int} (hx : p.tables.exec = Jvm.exec) (hb : c.code = cc) (hdg : decode cc pc = .ok (i, ln)) (hok : kf_ok o ini pc ln i (.ifCond cd t) = true) (hst : kf_stp kf_cs kf_nw kf_own rt (.ifCond cd t) pc ln ls st M = some (.inr (.inl (pc', ls', st', M')))) (kk : kf_W p l e R s m args below meth c Q sa N0 D H00 nL L0 Z0 pc' ls' st' M') : kf_W p l e R s m args below meth c Q sa N0 D H00 nL L0 Z0 pc ls st M := by
  cases i with
  | ifCond cd' f =>
    have hok : (ln == 3 && decide (cd' = cd) && decide ((pc : Int) + f = t) && decide (0 ≤ t)) = true := hok
    simp only [Bool.and_eq_true, decide_eq_true_eq, beq_iff_eq] at hok
    obtain ⟨⟨⟨hn, hc⟩, ht⟩, h0⟩ := hok
    subst hn; subst hc
    simp only [kf_stp] at hst
    split at hst
    case h_2 => cases hst
    rename_i x r
    cases cd' with
    | eq =>
      by_cases h : x = 0
      · obtain ⟨rfl, rfl, rfl, rfl⟩ := aG_inj ((if_pos h).symm.trans hst)
        exact fun F H locs hl hR hlo => lv_if_eq hx hb hdg (by omega) (fun _ => kk F H locs hl hR hlo) (fun g => absurd h g)
      · obtain ⟨rfl, rfl, rfl, rfl⟩ := aG_inj ((if_neg h).symm.trans hst)
        exact fun F H locs hl hR hlo => lv_if_eq hx hb hdg (by omega : (pc : Int) + f = (t.toNat : Int)) (fun g => absurd g h) (fun _ => kk F H locs hl hR hlo)
    | ne =>
      by_cases h : x = 0
      · obtain ⟨rfl, rfl, rfl, rfl⟩ := aG_inj ((if_pos h).symm.trans hst)
        exact fun F H locs hl hR hlo => lv_if_ne hx hb hdg (by omega : (pc : Int) + f = (t.toNat : Int)) (fun g => absurd h g) (fun _ => kk F H locs hl hR hlo)
      · obtain ⟨rfl, rfl, rfl, rfl⟩ := aG_inj ((if_neg h).symm.trans hst)
        exact fun F H locs hl hR hlo => lv_if_ne hx hb hdg (by omega) (fun _ => kk F H locs hl hR hlo) (fun g => absurd g h)
    | lt =>
      by_cases h : x < 0
      · obtain ⟨rfl, rfl, rfl, rfl⟩ := aG_inj ((if_pos h).symm.trans hst)
        exact fun F H locs hl hR hlo => lv_if_lt hx hb hdg (by omega) (fun _ => kk F H locs hl hR hlo) (fun g => absurd h g)
      · obtain ⟨rfl, rfl, rfl, rfl⟩ := aG_inj ((if_neg h).symm.trans hst)
        exact fun F H locs hl hR hlo => lv_if_lt hx hb hdg (by omega : (pc : Int) + f = (t.toNat : Int)) (fun g => absurd g h) (fun _ => kk F H locs hl hR hlo)
    | ge =>
      by_cases h : 0 ≤ x
      · obtain ⟨rfl, rfl, rfl, rfl⟩ := aG_inj ((if_pos h).symm.trans hst)
        exact fun F H locs hl hR hlo => lv_if_ge hx hb hdg (by omega) (fun _ => kk F H locs hl hR hlo) (fun g => absurd h g)
      · obtain ⟨rfl, rfl, rfl, rfl⟩ := aG_inj ((if_neg h).symm.trans hst)
        exact fun F H locs hl hR hlo => lv_if_ge hx hb hdg (by omega : (pc : Int) + f = (t.toNat : Int)) (fun g => absurd g h) (fun _ => kk F H locs hl hR hlo)
    | gt =>
      by_cases h : 0 < x
      · obtain ⟨rfl, rfl, rfl, rfl⟩ := aG_inj ((if_pos h).symm.trans hst)
        exact fun F H locs hl hR hlo => lv_if_gt hx hb hdg (by omega) (fun _ => kk F H locs hl hR hlo) (fun g => absurd h g)
      · obtain ⟨rfl, rfl, rfl, rfl⟩ := aG_inj ((if_neg h).symm.trans hst)
        exact fun F H locs hl hR hlo => lv_if_gt hx hb hdg (by omega : (pc : Int) + f = (t.toNat : Int)) (fun g => absurd g h) (fun _ => kk F H locs hl hR hlo)
    | le =>
      by_cases h : x ≤ 0
      · obtain ⟨rfl, rfl, rfl, rfl⟩ := aG_inj ((if_pos h).symm.trans hst)
        exact fun F H locs hl hR hlo => lv_if_le hx hb hdg (by omega) (fun _ => kk F H locs hl hR hlo) (fun g => absurd h g)
      · obtain ⟨rfl, rfl, rfl, rfl⟩ := aG_inj ((if_neg h).symm.trans hst)
        exact fun F H locs hl hR hlo => lv_if_le hx hb hdg (by omega : (pc : Int) + f = (t.toNat : Int)) (fun g => absurd g h) (fun _ => kk F H locs hl hR hlo)
  | _ => cases hok
theorem g_ifnull {t : Int} (hx : p.tables.exec = Jvm.exec) (hb : c.code = cc) (hdg : decode cc pc = .ok (i, ln)) (hok : kf_ok o ini pc ln i (.ifnull t) = true) (hst : kf_stp kf_cs kf_nw kf_own rt (.ifnull t) pc ln ls st M = some (.inr (.inl (pc', ls', st', M')))) (kk : kf_W p l e R s m args below meth c Q sa N0 D H00 nL L0 Z0 pc' ls' st' M') : kf_W p l e R s m args below meth c Q sa N0 D H00 nL L0 Z0 pc ls st M := by
  cases i with
  | ifnull f =>
    have hok : (ln == 3 && decide ((pc : Int) + f = t) && decide (0 ≤ t)) = true := hok
    simp only [Bool.and_eq_true, decide_eq_true_eq, beq_iff_eq] at hok
    obtain ⟨⟨hn, ht⟩, h0⟩ := hok
    subst hn
    simp only [kf_stp] at hst
    split at hst
    · obtain ⟨rfl, rfl, rfl, rfl⟩ := aG_inj hst
      exact fun F H locs hl hR hlo => lv_ifnull hx hb hdg (kk F H locs hl hR hlo)
    · obtain ⟨rfl, rfl, rfl, rfl⟩ := aG_inj hst
      exact fun F H locs hl hR hlo => lv_ifnullN hx hb hdg (by omega) (kk F H locs hl hR hlo)
    · cases hst
  | _ => cases hok
theorem g_ifnonnull {t : Int} (hx : p.tables.exec = Jvm.exec) (hb : c.code = cc) (hdg : decode cc pc = .ok (i, ln)) (hok : kf_ok o ini pc ln i (.ifnonnull t) = true) (hst : kf_stp kf_cs kf_nw kf_own rt (.ifnonnull t) pc ln ls st M = some (.inr (.inl (pc', ls', st', M')))) (kk : kf_W p l e R s m args below meth c Q sa N0 D H00 nL L0 Z0 pc' ls' st' M') : kf_W p l e R s m args below meth c Q sa N0 D H00 nL L0 Z0 pc ls st M := by
  cases i with
  | ifnonnull f =>
    have hok : (ln == 3 && decide ((pc : Int) + f = t) && decide (0 ≤ t)) = true := hok
    simp only [Bool.and_eq_true, decide_eq_true_eq, beq_iff_eq] at hok
    obtain ⟨⟨hn, ht⟩, h0⟩ := hok
    subst hn
    simp only [kf_stp] at hst
    split at hst
    · obtain ⟨rfl, rfl, rfl, rfl⟩ := aG_inj hst
      exact fun F H locs hl hR hlo => lv_ifnonnull hx hb hdg (by omega) (kk F H locs hl hR hlo)
    · obtain ⟨rfl, rfl, rfl, rfl⟩ := aG_inj hst
      exact fun F H locs hl hR hlo => lv_ifnonnullN hx hb hdg (kk F H locs hl hR hlo)
    · cases hst
  | _ => cases hok
theorem g_tableswitch {d lo hi : Int} {os : Array Int} (hx : p.tables.exec = Jvm.exec) (hb : c.code = cc) (hdg : decode cc pc = .ok (i, ln)) (hok : kf_ok o ini pc ln i (.tableswitch d lo hi os) = true) (hst : kf_stp kf_cs kf_nw kf_own rt (.tableswitch d lo hi os) pc ln ls st M = some (.inr (.inl (pc', ls', st', M')))) (kk : kf_W p l e R s m args below meth c Q sa N0 D H00 nL L0 Z0 pc' ls' st' M') : kf_W p l e R s m args below meth c Q sa N0 D H00 nL L0 Z0 pc ls st M := by
  cases i with
  | tableswitch d' lo' hi' os' =>
    have hok : (decide (lo' = lo) && decide (hi' = hi) && decide ((pc : Int) + d' = d) && decide (0 ≤ d) && decide (os.toList = os'.toList.map (fun f => (pc : Int) + f)) && os.toList.all (fun t => decide (0 ≤ t))) = true := hok
    simp only [Bool.and_eq_true, decide_eq_true_eq, List.all_eq_true] at hok
    obtain ⟨⟨⟨⟨⟨rfl, rfl⟩, hd⟩, h0⟩, hos⟩, hall⟩ := hok
    simp only [kf_stp] at hst
    split at hst
    case h_2 => cases hst
    rename_i x r
    unfold kf_sw at hst
    split at hst
    · rename_i h
      obtain ⟨rfl, rfl, rfl, rfl⟩ := aG_inj hst
      exact fun F H locs hl hR hlo => lv_tableOut hx hb hdg h (by omega) (kk F H locs hl hR hlo)
    · rename_i h
      split at hst
      · rename_i t ht
        obtain ⟨rfl, rfl, rfl, rfl⟩ := aG_inj hst
        rw [← Array.getElem?_toList, hos, List.getElem?_map] at ht
        obtain ⟨f, hf, he⟩ := Option.map_eq_some_iff.mp ht
        rw [Array.getElem?_toList] at hf
        have hp : 0 ≤ t := hall t (by rw [hos]; exact List.mem_of_getElem? (by rw [List.getElem?_map]; exact ht))
        exact fun F H locs hl hR hlo => lv_tableIn hx hb hdg (fun q => h (Or.inl q)) (fun q => h (Or.inr q)) hf (by omega) (kk F H locs hl hR hlo)
      · cases hst
  | _ => cases hok
theorem g_lookupswitch {d : Int} {ps : Array (Int × Int)} (hx : p.tables.exec = Jvm.exec) (hb : c.code = cc) (hdg : decode cc pc = .ok (i, ln)) (hok : kf_ok o ini pc ln i (.lookupswitch d ps) = true) (hst : kf_stp kf_cs kf_nw kf_own rt (.lookupswitch d ps) pc ln ls st M = some (.inr (.inl (pc', ls', st', M')))) (kk : kf_W p l e R s m args below meth c Q sa N0 D H00 nL L0 Z0 pc' ls' st' M') : kf_W p l e R s m args below meth c Q sa N0 D H00 nL L0 Z0 pc ls st M := by
  cases i with
  | lookupswitch d' ps' =>
    have hok : (decide ((pc : Int) + d' = d) && decide (0 ≤ d) && decide (ps.toList = ps'.toList.map (fun q => (q.1, (pc : Int) + q.2))) && ps.toList.all (fun q => decide (0 ≤ q.2)) && (ps'.toList.zip (ps'.toList.drop 1)).all (fun (a, next) => a.1 < next.1)) = true := hok
    simp only [Bool.and_eq_true, decide_eq_true_eq, List.all_eq_true] at hok
    obtain ⟨⟨⟨⟨hd, h0⟩, hps⟩, hall⟩, hsrt⟩ := hok
    simp only [kf_stp] at hst
    split at hst
    case h_2 => cases hst
    rename_i x r
    obtain ⟨rfl, rfl, rfl, rfl⟩ := aG_inj hst
    have key : ∀ (qs : List (Int × Int)), (∀ q ∈ qs.map (fun q => (q.1, (pc : Int) + q.2)), 0 ≤ q.2) → Op.lookupswitch.offset (qs.map (fun q => (q.1, (pc : Int) + q.2))) d x.toInt = (pc : Int) + Op.lookupswitch.offset qs d' x.toInt ∧ 0 ≤ Op.lookupswitch.offset (qs.map (fun q => (q.1, (pc : Int) + q.2))) d x.toInt := by
      intro qs
      induction qs with
      | nil => intro _; exact ⟨hd.symm, h0⟩
      | cons q t ih =>
        intro hq
        obtain ⟨a, b⟩ := q
        simp only [List.map_cons, Op.lookupswitch.offset_cons]
        have i1 := ih (fun q h => hq q (List.mem_cons_of_mem _ h))
        have i2 := hq (a, (pc : Int) + b) List.mem_cons_self
        split
        · exact ⟨rfl, i2⟩
        · exact i1
    have kx := key ps'.toList (by rw [← hps]; exact hall)
    rw [← hps] at kx
    exact fun F H locs hl hR hlo => lv_lookup hx hb hdg (by simp only [List.all_eq_true, decide_eq_true_eq]; exact hsrt) rfl (by omega) (kk F H locs hl hR hlo)
  | _ => cases hok
end GO2
