/-! new things; the library's own: arraycopy, max, min, Object's constructor -/
def kf_sp : Instr → Bool
  | .invokestatic x => decide (9000 ≤ x)
  | .invokespecial x => decide (9000 ≤ x)
  | _ => false
theorem kf_cp_len {α : Type} {xs ys : List α} {sp dp n : Nat} (h1 : sp + n ≤ xs.length) (h2 : dp + n ≤ ys.length) : (kf_cp xs ys sp dp n).length = ys.length := by
  simp [kf_cp]; omega
theorem kf_cp_get {α : Type} {xs ys : List α} {sp dp n : Nat} (h1 : sp + n ≤ xs.length) (h2 : dp + n ≤ ys.length) (j : Nat) : (kf_cp xs ys sp dp n)[j]? = if dp ≤ j ∧ j < dp + n then xs[sp + (j - dp)]? else ys[j]? := by
  unfold kf_cp
  have l1 : (ys.take dp).length = dp := by simp; omega
  have l2 : ((xs.drop sp).take n).length = n := by simp; omega
  by_cases a : j < dp
  · rw [if_neg (by omega), List.append_assoc, List.getElem?_append_left (by rw [l1]; exact a), List.getElem?_take_of_lt a]
  · by_cases b : j < dp + n
    · rw [if_pos ⟨by omega, b⟩, List.append_assoc, List.getElem?_append_right (by rw [l1]; omega), l1, List.getElem?_append_left (by rw [l2]; omega), List.getElem?_take_of_lt (by omega), List.getElem?_drop]
    · rw [if_neg (by omega), List.getElem?_append_right (by rw [List.length_append, l1, l2]; omega), List.length_append, l1, l2, List.getElem?_drop]
      congr 1
      omega
theorem kf_cp_map {α : Type} {f : α → Value} {xs ys : List α} {sp dp n : Nat} : (kf_cp xs ys sp dp n).map f = kf_cp (xs.map f) (ys.map f) sp dp n := by
  simp [kf_cp, List.map_take, List.map_drop]
theorem cv_def {sa : Nat → Nat} {N0 : Nat} (t : FieldType) : cv sa N0 (defaultValue t) = defaultValue t := by cases t <;> rfl
section NEW
variable {p : Program} {l : Launch} {e : Env} {R : Room} {s : State} {m : MethodId} {args : Array Value} {below : List Frame} {meth : Method} {c : Code} {Q : State → Prop} {sa : Nat → Nat} {N0 : Nat} {D : va_G} {H00 : Heap} {nL L0 Z0 o rt : Nat} {ini : Bool} {cc : ByteArray} {pc pc' ln : Nat} {ls ls' : kf_L} {st st' : List Value} {M M' : kf_M} {i : Instr}
theorem kf_arr_cp {U : State} {ty : FieldType} {vs ws : List Value} {cs cd : Cell} {sp dp n : Int32} (h1 : kf_arr U ty vs cs) (h2 : kf_arr U ty ws cd) (ha : sp.toNatClampNeg + n.toNatClampNeg ≤ vs.length) (hb : dp.toNatClampNeg + n.toNatClampNeg ≤ ws.length) : kf_arr U ty (kf_cp vs ws sp.toNatClampNeg dp.toNatClampNeg n.toNatClampNeg) (copied cs cd sp dp n) := by
  obtain ⟨f1, f2, f3, -, -⟩ := Cell.storeRun_facts cd dp.toNatClampNeg (cs.stretch sp.toNatClampNeg n.toNatClampNeg)
  have hs := h1.2.2.1
  have hd := h2.2.2.1
  refine ⟨⟨fun k => by rw [f2]; exact h2.1.1 k, by rw [f1]; exact h2.1.2⟩, by rw [f2]; exact h2.2.1, by rw [f3, kf_cp_len ha hb]; exact hd, by rw [f3, kf_cp_len ha hb]; exact h2.2.2.2.1, fun j v hj => ?_⟩
  rw [kf_cp_get ha hb] at hj
  rw [Cell.storeRun_get _ _ _ _ (by rw [Cell.stretch_length]; omega), Cell.stretch_length]
  by_cases q : dp.toNatClampNeg ≤ j ∧ j < dp.toNatClampNeg + n.toNatClampNeg
  · rw [if_pos q] at hj ⊢
    have e1 := h1.2.2.2.2 _ _ hj
    unfold Cell.stretch
    rw [List.getElem?_map, List.getElem?_range (by omega)]
    show some (cs.slots.getD (sp.toNatClampNeg + (j - dp.toNatClampNeg)) .null) = some v
    rw [Array.getD_eq_getD_getElem?, e1]
    rfl
  · rw [if_neg q] at hj ⊢
    exact h2.2.2.2.2 _ _ hj
theorem kf_nn {z : Int32} (hz : ¬ z < 0) : z.toInt = (z.toNatClampNeg : Int) := by
  have hz0 : (0 : Int) ≤ z.toInt := by
    have := Int32.not_lt.mp hz
    simpa using Int32.le_iff_toInt_le.mp this
  show z.toInt = ((z.toInt.toNat : Nat) : Int)
  omega
/-- a copy between arrays of one kind of numbers -/
theorem kf_copyW (hx : p.tables.exec = Jvm.exec) (hb : c.code = cc) (hml : c.maxLocals = nL) (hown : s.vm.findClass (kf_cno o) = some m.cls) (hC : kf_Ctx sa N0 D H00 s) {x : Nat} (hlink : Cond.methodLink (kf_cno o) x arraycopyName ∈ lw_tbl) {ty : FieldType} (hty : refKind ty = false) {vs ws : List Value} {a b : Nat} {cs cd : Cell} {sp dp n : Int32} {r : List Value} {H : Heap} {locs : List Loc} {F : Array Slot} {cells slots : Nat} (hF : F.size = nL) (hbN : kf_NS ≤ b) (h1 : H[kf_ph sa N0 a]? = some cs) (h2 : H[kf_ph sa N0 b]? = some cd) (k1 : kf_arr s ty vs cs) (k2 : kf_arr s ty ws cd) (hsp : ¬ sp < 0) (hdp : ¬ dp < 0) (hn : ¬ n < 0) (ha : sp.toNatClampNeg + n.toNatClampNeg ≤ vs.length) (hb2 : dp.toNatClampNeg + n.toNatClampNeg ≤ ws.length) (hfit : ∀ v ∈ vs, fits ty v = true ∧ ∀ q, v ≠ .ref q) (hw : kf_w r ≤ 8) (hlo : ∀ q ∈ locs, N0 ≤ q.base) (hr : 1 ≤ R.frames ∧ 60 ≤ R.locals) (hdg : decode cc pc = .ok (.invokestatic x, 3))
    (kk : ∀ (H' : Heap) (locs' : List Loc), H'[kf_ph sa N0 b]? = some (copied cs cd sp dp n) → H'.size = H.size → (∀ q, q ≠ kf_ph sa N0 b → H'[q]? = H[q]?) → (∀ q ∈ locs', N0 ≤ q.base) → W p l e R s m args below meth c H' locs' cells slots Q (F0 m (pc + 3) F (r.map (cv sa N0)))) :
    W p l e R s m args below meth c H locs cells slots Q (F0 m pc F (.int n :: .int dp :: .ref (kf_ph sa N0 b) :: .int sp :: .ref (kf_ph sa N0 a) :: r.map (cv sa N0))) := by
  intro T hT X
  obtain ⟨⟨so, ks, hks, cms, hkks⟩, skn, ssz, -, sval⟩ := id k1
  obtain ⟨⟨dO, kd, hkd, cmd, hkkd⟩, dkn, dsz, -, -⟩ := id k2
  obtain ⟨vm', X', step⟩ := X.arraycopy hx hown (hC.w hlink rfl) (hC.w wx_cn rfl) (hC.w wx_cs rfl) (hC.w wx_ci rfl) (src := kf_ph sa N0 a) (dst := kf_ph sa N0 b) (cs := cs) (cd := cd) (srcPos := sp) (destPos := dp) (n := n) (by rw [hT]; exact h1) (by rw [hT]; exact h2) so dO skn dkn hks hkd hkks hkkd (by simp [hty]) hsp hdp hn
    (by rw [kf_nn hsp, kf_nn hn]; omega) (by rw [kf_nn hdp, kf_nn hn]; omega)
    (fun vm₁ _ i hi => by
      have hlt : sp.toNatClampNeg + i < vs.length := by omega
      have e := sval (sp.toNatClampNeg + i) _ (List.getElem?_eq_getElem hlt)
      have e2 : cs.slots.getD (sp.toNatClampNeg + i) .null = vs[sp.toNatClampNeg + i] := by rw [Array.getD_eq_getD_getElem?, e]; rfl
      obtain ⟨f1, f2⟩ := hfit _ (List.getElem_mem hlt)
      rw [e2]
      refine ⟨f1, ?_⟩
      match vs[sp.toNatClampNeg + i], f2 with
      | .ref q, f2 => exact absurd rfl (f2 q)
      | .int _, _ => exact trivial
      | .long _, _ => exact trivial
      | .float _, _ => exact trivial
      | .double _, _ => exact trivial
      | .null, _ => exact trivial
      | .retAddr _, _ => exact trivial)
    (g := F0 m pc F (.int n :: .int dp :: .ref (kf_ph sa N0 b) :: .int sp :: .ref (kf_ph sa N0 a) :: r.map (cv sa N0))) rfl (by rw [hml]; exact hF) (rest := r.map (cv sa N0)) rfl (by rw [hb]; exact hdg) hr.1
    (by
      have e : nativeFrameWords "java/lang/System" "arraycopy" 5 = 7 := by decide +kernel
      rw [e, cv_w]
      show 2 * 0 + _ + _ ≤ _
      omega)
  have hl : kf_ph sa N0 b < H.size := (Array.getElem?_eq_some_iff.mp h2).1
  obtain ⟨t, a1, b1⟩ := kk (H.setIfInBounds (kf_ph sa N0 b) (copied cs cd sp dp n)) _ (by simp [Array.getElem?_setIfInBounds, hl]) (by simp) (fun q hq => by simp [Array.getElem?_setIfInBounds, Ne.symm hq]) (fun q hq => by
      rcases List.mem_append.mp hq with h | h
      · exact hlo q h
      · obtain ⟨z, -, rfl⟩ := List.mem_map.mp h
        show N0 ≤ kf_ph sa N0 b
        rw [kf_ph_ge hbN]
        omega) _ (by rw [← hT]; rfl) X'
  exact ⟨t, step t a1, b1⟩
theorem g_invokestatic {x1 : Nat} (hx : p.tables.exec = Jvm.exec) (hb : c.code = cc) (hml : c.maxLocals = nL) (hown : s.vm.findClass (kf_cno o) = some m.cls) (hC : kf_Ctx sa N0 D H00 s) (hroom : M.length - L0 ≤ R.cells ∧ kf_sz M - Z0 ≤ R.slots) (hsp : kf_sp (.invokestatic x1) = true → 1 ≤ R.frames ∧ 60 ≤ R.locals) (hdg : decode cc pc = .ok (i, ln)) (hok : kf_ok o ini pc ln i (.invokestatic x1) = true) (hst : kf_stp kf_cs kf_nw kf_own rt (.invokestatic x1) pc ln ls st M = some (.inr (.inl (pc', ls', st', M')))) (kk : kf_W p l e R s m args below meth c Q sa N0 D H00 nL L0 Z0 pc' ls' st' M') : kf_W p l e R s m args below meth c Q sa N0 D H00 nL L0 Z0 pc ls st M := by
  cases i with
  | invokestatic x =>
    have hok : (ln == 3 && kf_pM.elem (o, x, x1) && (x1 == 9985 || x1 == 9972 || x1 == 9962 || kf_kd[x1 / 10]? == some 0)) = true := hok
    simp only [Bool.and_eq_true, beq_iff_eq] at hok
    obtain ⟨⟨rfl, hp⟩, -⟩ := hok
    have hM := kf_pM_ok _ (elem_F hp)
    simp only [kf_stp] at hst
    split at hst
    · rename_i hx1
      subst hx1
      have hr := hsp (by decide)
      have hlink : Cond.methodLink (kf_cno o) x arraycopyName ∈ lw_tbl := by
        rcases hM with h | h | h | h | h
        · exact h.2
        · exact absurd h.1 (by simp)
        · exact absurd h.1 (by simp)
        · exact absurd h.1 (by simp)
        · exact absurd rfl h.1
      split at hst
      case h_2 => cases hst
      rename_i n dp b sp a r
      unfold kf_copy at hst
      split at hst
      · cases hst
      rename_i h0
      simp only [not_or, Nat.not_lt] at h0
      obtain ⟨h1, h2, h3, hbN, hw⟩ := h0
      split at hst
      · rename_i xs ys g1 g2
        split at hst
        case isFalse => cases hst
        rename_i hlen
        obtain ⟨rfl, rfl, rfl, rfl⟩ := aG_inj hst
        intro F H locs hl hR hlo
        have hMb := gI_at g2
        obtain ⟨cs, c1, c2⟩ := hR.at (gI_at g1)
        obtain ⟨cd, d1, d2⟩ := hR.at hMb
        have c2 : kf_arr s .int (xs.map .int) cs := c2
        have d2 : kf_arr s .int (ys.map .int) cd := d2
        refine kf_copyW hx hb hml hown hC hlink rfl hl.1 hbN c1 d1 c2 d2 h1 h2 h3 (by simpa using hlen.1) (by simpa using hlen.2) (fun v hv => by obtain ⟨z, -, rfl⟩ := List.mem_map.mp hv; exact ⟨rfl, fun q h => by cases h⟩) hw hlo hr hdg fun H' locs' e1 e2 e3 e4 => ?_
        have := kk F H' locs' hl (hR.set hC.2.2.1 hbN (List.getElem?_eq_some_iff.mp hMb).1 e1 e2 e3 (by show kf_arr s .int ((kf_cp xs ys _ _ _).map .int) _; rw [kf_cp_map]; exact kf_arr_cp c2 d2 (by simpa using hlen.1) (by simpa using hlen.2))) e4
        rw [List.length_set, kf_sz_set M b _ _ hMb (by simp [oSz, kf_cp_len hlen.1 hlen.2])] at this
        exact this
      · split at hst
        case h_2 => cases hst
        rename_i xs ys g1 g2
        split at hst
        case isFalse => cases hst
        rename_i hlen
        obtain ⟨rfl, rfl, rfl, rfl⟩ := aG_inj hst
        intro F H locs hl hR hlo
        have hMb := gJ_at g2
        obtain ⟨cs, c1, c2⟩ := hR.at (gJ_at g1)
        obtain ⟨cd, d1, d2⟩ := hR.at hMb
        have c2 : kf_arr s .long (xs.map .long) cs := c2
        have d2 : kf_arr s .long (ys.map .long) cd := d2
        refine kf_copyW hx hb hml hown hC hlink rfl hl.1 hbN c1 d1 c2 d2 h1 h2 h3 (by simpa using hlen.1) (by simpa using hlen.2) (fun v hv => by obtain ⟨z, -, rfl⟩ := List.mem_map.mp hv; exact ⟨rfl, fun q h => by cases h⟩) hw hlo hr hdg fun H' locs' e1 e2 e3 e4 => ?_
        have := kk F H' locs' hl (hR.set hC.2.2.1 hbN (List.getElem?_eq_some_iff.mp hMb).1 e1 e2 e3 (by show kf_arr s .long ((kf_cp xs ys _ _ _).map .long) _; rw [kf_cp_map]; exact kf_arr_cp c2 d2 (by simpa using hlen.1) (by simpa using hlen.2))) e4
        rw [List.length_set, kf_sz_set M b _ _ hMb (by simp [oSz, kf_cp_len hlen.1 hlen.2])] at this
        exact this
    · split at hst
      · rename_i hx0 hx1
        subst hx1
        have hr := hsp (by decide)
        have hlink : Cond.methodLink (kf_cno o) x Lib.Math.max.name ∈ lw_tbl := by
          rcases hM with h | h | h | h | h
          · exact absurd h.1 (by simp)
          · exact h.2
          · exact absurd h.1 (by simp)
          · exact absurd h.1 (by simp)
          · exact absurd rfl h.2.1
        split at hst
        case h_2 => cases hst
        rename_i y x r
        split at hst
        case isFalse => cases hst
        rename_i hw
        obtain ⟨rfl, rfl, rfl, rfl⟩ := aG_inj hst
        exact fun F H locs hl hR hlo => va_mmax hx hb (by rw [hml]; exact hl.1.symm) hown (hC.w hlink rfl) (hC.w wx_maxs rfl) (hC.w wx_mi rfl) (hC.w wx_maxc rfl) hr.1 (by rw [cv_w]; omega) hroom.1 hroom.2 hdg (kk F H locs hl hR hlo)
      · split at hst
        · rename_i hx0 hx2 hx1
          subst hx1
          have hr := hsp (by decide)
          have hlink : Cond.methodLink (kf_cno o) x Lib.Math.min.name ∈ lw_tbl := by
            rcases hM with h | h | h | h | h
            · exact absurd h.1 (by simp)
            · exact absurd h.1 (by simp)
            · exact h.2
            · exact absurd h.1 (by simp)
            · exact absurd rfl h.2.2.1
          split at hst
          case h_2 => cases hst
          rename_i y x r
          split at hst
          case isFalse => cases hst
          rename_i hw
          obtain ⟨rfl, rfl, rfl, rfl⟩ := aG_inj hst
          exact fun F H locs hl hR hlo => va_mmin hx hb (by rw [hml]; exact hl.1.symm) hown (hC.w hlink rfl) (hC.w wx_mins rfl) (hC.w wx_mi rfl) (hC.w wx_minc rfl) hr.1 (by rw [cv_w]; omega) hroom.1 hroom.2 hdg (kk F H locs hl hR hlo)
        · unfold kf_call at hst
          split at hst
          · simp [aC] at hst
          · cases hst
  | _ => cases hok
theorem g_invokespecial {x1 : Nat} (hx : p.tables.exec = Jvm.exec) (hb : c.code = cc) (hml : c.maxLocals = nL) (hown : s.vm.findClass (kf_cno o) = some m.cls) (hC : kf_Ctx sa N0 D H00 s) (hsp : kf_sp (.invokespecial x1) = true → 1 ≤ R.frames ∧ 60 ≤ R.locals) (hdg : decode cc pc = .ok (i, ln)) (hok : kf_ok o ini pc ln i (.invokespecial x1) = true) (hst : kf_stp kf_cs kf_nw kf_own rt (.invokespecial x1) pc ln ls st M = some (.inr (.inl (pc', ls', st', M')))) (kk : kf_W p l e R s m args below meth c Q sa N0 D H00 nL L0 Z0 pc' ls' st' M') : kf_W p l e R s m args below meth c Q sa N0 D H00 nL L0 Z0 pc ls st M := by
  cases i with
  | invokespecial x =>
    have hok : (ln == 3 && kf_pM.elem (o, x, x1) && (x1 == 9991 || kf_kd[x1 / 10]? == some 2)) = true := hok
    simp only [Bool.and_eq_true, beq_iff_eq] at hok
    obtain ⟨⟨rfl, hp⟩, -⟩ := hok
    have hM := kf_pM_ok _ (elem_F hp)
    simp only [kf_stp] at hst
    split at hst
    · rename_i hx1
      subst hx1
      have hr := hsp (by decide)
      have hlink : Cond.methodLink (kf_cno o) x objectInit ∈ lw_tbl := by
        rcases hM with h | h | h | h | h
        · exact absurd h.1 (by simp)
        · exact absurd h.1 (by simp)
        · exact absurd h.1 (by simp)
        · exact h.2
        · exact absurd rfl h.2.2.2.1
      split at hst
      case h_2 => cases hst
      rename_i a r
      split at hst
      case isFalse => cases hst
      rename_i hw
      obtain ⟨rfl, rfl, rfl, rfl⟩ := aG_inj hst
      exact fun F H locs hl hR hlo => W.objInit hx hb hown (hC.w hlink rfl) (hC.w wx_oi rfl) (hC.w wx_oc rfl) rfl (by rw [hml]; exact hl.1) rfl hdg hr.1 (by rw [cv_w]; show 2 * 0 + _ + 12 ≤ _; omega) (kk F H locs hl hR hlo)
    · split at hst
      · cases hst
      · split at hst
        · unfold kf_call at hst
          split at hst
          · simp [aC] at hst
          · cases hst
        · cases hst
  | _ => cases hok
theorem g_new {x1 : Nat} (hx : p.tables.exec = Jvm.exec) (hb : c.code = cc) (hown : s.vm.findClass (kf_cno o) = some m.cls) (hC : kf_Ctx sa N0 D H00 s) (hL : L0 ≤ M.length ∧ Z0 ≤ kf_sz M) (hroom : M'.length - L0 ≤ R.cells ∧ kf_sz M' - Z0 ≤ R.slots) (hdg : decode cc pc = .ok (i, ln)) (hok : kf_ok o ini pc ln i (.new x1) = true) (hst : kf_stp kf_cs kf_nw kf_own rt (.new x1) pc ln ls st M = some (.inr (.inl (pc', ls', st', M')))) (kk : kf_W p l e R s m args below meth c Q sa N0 D H00 nL L0 Z0 pc' ls' st' M') : kf_W p l e R s m args below meth c Q sa N0 D H00 nL L0 Z0 pc ls st M := by
  cases i with
  | new x =>
    have hok : (ln == 3 && kf_pC.elem (o, x, x1)) = true := hok
    simp only [Bool.and_eq_true, beq_iff_eq] at hok
    obtain ⟨rfl, hp⟩ := hok
    obtain ⟨C, T, N, hc, hlink⟩ := kf_pC_ok _ (elem_F hp)
    dsimp only at hc hlink
    obtain ⟨-, -, hins, hini, hnm, ty, hty, fs, hfs, hfl, hdef⟩ := kf_cl_ok _ _ hc
    dsimp only at hins hini hty hfl hdef
    obtain ⟨fs', h3, h4⟩ := Option.bind_eq_some_iff.mp (show (kf_nw[x1]?).bind _ = _ from hst)
    cases hfs.symm.trans h3
    obtain ⟨rfl, rfl, rfl, rfl⟩ := aG_inj h4
    intro F H locs hl hR hlo
    have hKn := hC.2.1.1 _ _ hc
    rw [List.length_append, kf_sz_app] at hroom
    have eo : oSz (oO x1 fs) = N := hfl
    rw [eo] at hroom
    simp only [List.length_cons, List.length_nil] at hroom
    refine W.newcK hx hb hown (hC.w hlink rfl) (hC.w hins rfl) (hC.w hini rfl) rfl hdg (by omega) (by omega) hKn.2.1 rfl fun H' kC k1 e1 e2 e3 => ?_
    obtain ⟨cell, t1, t2, t3, t4⟩ := u_born (args := #[]) ty (hC.lay hc) (fun _ hw => hw) hKn k1 e1 hty
    obtain ⟨hR', hph⟩ := hR.push hC.2.2.1 (ob := oO x1 fs) t1 e2 e3 ⟨_, hc, hfl, t2, t3, fun k hk => by rw [t4 k hk]; show some (defaultValue (ty k)) = some (cv sa N0 (vp_V fs k)); rw [← hdef k hk, cv_def]⟩
    have := kk F H' locs hl hR' hlo
    rw [List.length_append, kf_sz_app, eo, List.map_cons, show cv sa N0 (.ref M.length) = .ref H.size from congrArg Value.ref hph] at this
    simp only [List.length_cons, List.length_nil] at this
    rw [show M.length - L0 + 1 = M.length + (0 + 1) - L0 by omega, show kf_sz M - Z0 + N = kf_sz M + N - Z0 by omega]
    exact this
  | _ => cases hok
theorem g_anewarray {x1 : Nat} (hx : p.tables.exec = Jvm.exec) (hb : c.code = cc) (hown : s.vm.findClass (kf_cno o) = some m.cls) (hC : kf_Ctx sa N0 D H00 s) (hL : L0 ≤ M.length ∧ Z0 ≤ kf_sz M) (hroom : M'.length - L0 ≤ R.cells ∧ kf_sz M' - Z0 ≤ R.slots) (hdg : decode cc pc = .ok (i, ln)) (hok : kf_ok o ini pc ln i (.anewarray x1) = true) (hst : kf_stp kf_cs kf_nw kf_own rt (.anewarray x1) pc ln ls st M = some (.inr (.inl (pc', ls', st', M')))) (kk : kf_W p l e R s m args below meth c Q sa N0 D H00 nL L0 Z0 pc' ls' st' M') : kf_W p l e R s m args below meth c Q sa N0 D H00 nL L0 Z0 pc ls st M := by
  cases i with
  | anewarray x =>
    have hok : (ln == 3 && kf_pC.elem (o, x, x1) && (x1 == 3 || x1 == 4)) = true := hok
    simp only [Bool.and_eq_true, beq_iff_eq, Bool.or_eq_true] at hok
    obtain ⟨⟨rfl, hp⟩, h34⟩ := hok
    obtain ⟨C, T, N, hc, hlink⟩ := kf_pC_ok _ (elem_F hp)
    dsimp only at hc hlink
    have hov : Cond.arrayOver (.object C) ∈ lw_tbl := by
      rcases h34 with rfl | rfl
      · cases hc; exact wo_Key
      · cases hc; exact wo_Point
    simp only [kf_stp] at hst
    split at hst
    case h_2 => cases hst
    rename_i n r
    split at hst
    · cases hst
    rename_i h0
    simp only [not_or, Nat.not_lt] at h0
    obtain ⟨rfl, rfl, rfl, rfl⟩ := aG_inj hst
    intro F H locs hl hR hlo
    rw [List.length_append, kf_sz_app] at hroom
    have eo : oSz (oR x1 (List.replicate n.toNatClampNeg none)) = n.toNatClampNeg := by simp [oSz]
    rw [eo] at hroom
    simp only [List.length_cons, List.length_nil] at hroom
    refine W.anew hx hb hown (hC.w hlink rfl) (hC.w hov rfl) rfl hdg rfl h0.1 (by omega) (by omega) (by omega) fun cA kA comp f1 f2 f3 f4 => ?_
    obtain ⟨hR', hph⟩ := hR.push (H' := H.push ({ cls := cA, slots := Array.replicate n.toNatClampNeg .null, vm := .none } : Cell)) hC.2.2.1 (ob := oR x1 (List.replicate n.toNatClampNeg none)) (cell := { cls := cA, slots := Array.replicate n.toNatClampNeg .null, vm := .none }) (by simp) (by simp) (fun q hq => by rw [Array.getElem?_push, if_neg (Nat.ne_of_lt hq)])
      ⟨_, hc, ⟨⟨fun k h => (by cases h), kA, f2, comp, f3⟩, fun h => (by cases h), by simp, by simp, fun j v hj => by
        rw [List.map_replicate, List.getElem?_replicate] at hj
        split at hj
        · cases hj
          rename_i hlt
          simp [hlt]; rfl
        · cases hj⟩, kA, comp, f2, f3, f4, f1⟩
    have := kk F _ locs hl hR' hlo
    rw [List.length_append, kf_sz_app, eo, List.map_cons, show cv sa N0 (.ref M.length) = .ref H.size from congrArg Value.ref hph] at this
    simp only [List.length_cons, List.length_nil] at this
    rw [show M.length - L0 + 1 = M.length + (0 + 1) - L0 by omega, show kf_sz M - Z0 + n.toNatClampNeg = kf_sz M + n.toNatClampNeg - Z0 by omega]
    exact this
  | _ => cases hok
theorem g_newarray {at1 : ArrayType} (hx : p.tables.exec = Jvm.exec) (hb : c.code = cc) (hC : kf_Ctx sa N0 D H00 s) (hL : L0 ≤ M.length ∧ Z0 ≤ kf_sz M) (hroom : M'.length - L0 ≤ R.cells ∧ kf_sz M' - Z0 ≤ R.slots) (hdg : decode cc pc = .ok (i, ln)) (hok : kf_ok o ini pc ln i (.newarray at1) = true) (hst : kf_stp kf_cs kf_nw kf_own rt (.newarray at1) pc ln ls st M = some (.inr (.inl (pc', ls', st', M')))) (kk : kf_W p l e R s m args below meth c Q sa N0 D H00 nL L0 Z0 pc' ls' st' M') : kf_W p l e R s m args below meth c Q sa N0 D H00 nL L0 Z0 pc ls st M := by
  obtain ⟨hi, hn⟩ := ok_eq (show (decide (i = .newarray at1) && ln == 2) = true from hok)
  subst hi; subst hn
  simp only [kf_stp] at hst
  split at hst
  case h_2 => cases hst
  rename_i n r
  split at hst
  · cases hst
  rename_i h0
  simp only [not_or, Nat.not_lt] at h0
  have key : ∀ (ob : kf_Ob), oSz ob = n.toNatClampNeg → aG (pc + 2) ls (.ref M.length :: r) (M ++ [ob]) = some (.inr (.inl (pc', ls', st', M'))) → (Cond.arrayClass (newarray.typeOf at1)) ∈ lw_tbl → n.toNatClampNeg * componentBytes (newarray.typeOf at1) ≤ 536870912 → (∀ cell : Cell, kf_arr s (newarray.typeOf at1) (List.replicate n.toNatClampNeg (defaultValue (newarray.typeOf at1))) cell → kf_cell sa N0 D s ob cell) → kf_W p l e R s m args below meth c Q sa N0 D H00 nL L0 Z0 pc ls (.int n :: r) M := by
    intro ob eo hst hac hby hcell
    obtain ⟨rfl, rfl, rfl, rfl⟩ := aG_inj hst
    intro F H locs hl hR hlo
    rw [List.length_append, kf_sz_app, eo] at hroom
    simp only [List.length_cons, List.length_nil] at hroom
    refine W.newa hx hb (hC.w hac rfl) rfl hdg rfl h0.1 hby (by omega) (by omega) fun cA kA comp f1 f2 f3 => ?_
    obtain ⟨hR', hph⟩ := hR.push (H' := H.push ({ cls := cA, slots := Array.replicate n.toNatClampNeg (defaultValue (newarray.typeOf at1)), vm := .none } : Cell)) hC.2.2.1 (ob := ob) (cell := { cls := cA, slots := Array.replicate n.toNatClampNeg (defaultValue (newarray.typeOf at1)), vm := .none }) (by simp) (by simp) (fun q hq => by rw [Array.getElem?_push, if_neg (Nat.ne_of_lt hq)])
      (hcell _ ⟨⟨fun k h => (by cases h), kA, f2, comp, f3⟩, fun h => (by cases h), by simp, by simp, fun j v hj => by
        rw [List.getElem?_replicate] at hj
        split at hj
        · cases hj
          rename_i hlt
          simp [hlt]
        · cases hj⟩)
    have := kk F _ locs hl hR' hlo
    rw [List.length_append, kf_sz_app, eo, List.map_cons, show cv sa N0 (.ref M.length) = .ref H.size from congrArg Value.ref hph] at this
    simp only [List.length_cons, List.length_nil] at this
    rw [show M.length - L0 + 1 = M.length + (0 + 1) - L0 by omega, show kf_sz M - Z0 + n.toNatClampNeg = kf_sz M + n.toNatClampNeg - Z0 by omega]
    exact this
  cases at1 with
  | int => exact key _ (by simp [oSz]) hst wa_int (by show _ * 4 ≤ _; omega) (fun cell hc => by show kf_arr s .int _ cell; rw [List.map_replicate]; exact hc)
  | long => exact key _ (by simp [oSz]) hst wa_long (by show _ * 8 ≤ _; omega) (fun cell hc => by show kf_arr s .long _ cell; rw [List.map_replicate]; exact hc)
  | boolean => exact key _ (by simp [oSz]) hst wa_boolean (by show _ * 1 ≤ _; omega) (fun cell hc => by show kf_arr s .boolean _ cell; rw [List.map_replicate]; exact hc)
  | _ => cases hst
end NEW
