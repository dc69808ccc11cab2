/-! calls; the whole -/
section MAIN
variable {p : Program} {l : Launch} {e : Env} {R : Room} {s : State} {m : MethodId} {args : Array Value} {below : List Frame} {meth : Method} {c : Code} {Q : State → Prop} {sa : Nat → Nat} {N0 : Nat} {D : va_G} {H00 : Heap} {nL L0 Z0 : Nat} {pc : Nat} {ls : kf_L} {st st' : List Value} {M : kf_M} {q1 : kf_R}
theorem kf_after {H : Heap} {locs : List Loc} {F : Array Slot} {st0 : List Value} {a : Array Value} (hr : va_Run p l e R s m args below meth c H locs (M.length - L0) (kf_sz M - Z0) (q1.2.length - M.length) (kf_sz q1.2 - kf_sz M) (F0 m pc F st0) (st'.map (cv sa N0)) (kf_Qc sa N0 D H00 q1 a) (fun x => N0 ≤ x)) (kk : kf_W p l e R s m args below meth c Q sa N0 D H00 nL L0 Z0 (pc + 3) ls (q1.1.toList ++ st') q1.2) (hl : kf_lr sa N0 nL ls F) (hlo : ∀ x ∈ locs, N0 ≤ x.base) (h1 : L0 ≤ M.length) (h2 : M.length ≤ q1.2.length) (h3 : Z0 ≤ kf_sz M) (h4 : kf_sz M ≤ kf_sz q1.2) : W p l e R s m args below meth c H locs (M.length - L0) (kf_sz M - Z0) Q (F0 m pc F st0) := by
  intro T hT X
  obtain ⟨v, st₀, t, T', L, h0, X', hL', e1, e2, ⟨hv, hRel⟩, go⟩ := hr T hT X
  have hv : v = q1.1.map (cv sa N0) := by injection hv
  subst hv
  have hRs : kf_Rel sa N0 D H00 s q1.2 T'.heap := by
    rw [e1]
    exact kf_Rel.moved (by rw [← e2]; exact X'.warmed.alike.symm) hRel
  rw [show M.length - L0 + (q1.2.length - M.length) = q1.2.length - L0 by omega, show kf_sz M - Z0 + (kf_sz q1.2 - kf_sz M) = kf_sz q1.2 - Z0 by omega] at X'
  obtain ⟨t2, a1, b1⟩ := kk F T'.heap (locs ++ L) hl hRs (fun x hx => (List.mem_append.mp hx).elim (hlo x) (hL' x)) T' rfl X'
  refine ⟨t2, go t2 ?_, b1⟩
  have e3 : (q1.1.map (cv sa N0)).toList ++ st'.map (cv sa N0) = (q1.1.toList ++ st').map (cv sa N0) := by cases q1.1 <;> rfl
  rw [e3]
  exact a1
theorem kf_blind {as : List Value} : FrameBlind (kf_Pc sa N0 D H00 as M) := fun a U g mk h => ⟨h.1, kf_Ctx.same (u := U) (U := U.calling g mk a) rfl h.2.1, kf_Rel.moved (u := U) (U := U.calling g mk a) (Vm.Alike.refl U.vm) h.2.2⟩
theorem kf_pre {as : List Value} {H : Heap} (hC : kf_Ctx sa N0 D H00 s) (hR : kf_Rel sa N0 D H00 s M H) : ∀ U : State, U.heap = H → s.WarmedH U.vm → kf_Pc sa N0 D H00 as M (as.map (cv sa N0)).toArray U := fun U hU hW => ⟨rfl, hC.moved hW, by rw [hU]; exact hR.moved hW.alike⟩
theorem kf_Ynp {k : Nat} (hk : k < 209) {y : MethodName} {rf : Option FieldType} (h1 : kf_ys[k]? = some y) (h2 : kf_rf[k]? = some rf) : ∃ np rt, kf_np[k]? = some np ∧ (kf_rt[k]?).getD 9 = rt ∧ (parseMethodDescriptor y.desc).map (fun d => d.parameters.length) = some np ∧ kf_rtP rf rt := by
  have h := np_all k hk
  unfold kf_npok at h
  rw [h1, h2] at h
  split at h
  · rename_i y' np rf' rt a1 a2 a3 a4
    cases a1; cases a3
    simp only [Bool.and_eq_true, decide_eq_true_eq] at h
    refine ⟨np, rt, a2, by rw [a4]; rfl, h.1, ?_⟩
    have h5 := h.2
    unfold kf_rtok at h5
    split at h5 <;> first | rfl | cases h5
  · cases h
theorem kf_sound : ∀ n, kf_SO l sa N0 D H00 n := by
  intro n
  induction n with
  | zero => intro k pc ls st M q h; simp [kf_run] at h
  | succ n ih =>
    intro k pc ls st M q h hk p e R s m args below meth c Q cc nL o kd fr lo L0 Z0 hx hb hcc hmx hml ho hkd hfr hlo hown hnm hC hRf hRl hL hZ hq1 hq2 hfin
    have hmem := kf_run_mem _ _ _ _ _ _ _ h
    rw [kf_run] at h
    cases hI : kf_I k pc with
    | none => rw [hI] at h; simp [kf_do] at h
    | some jl =>
      obtain ⟨j, ln⟩ := jl
      rw [hI] at h
      dsimp only at h
      obtain ⟨i, hdg, hok⟩ := kf_row hI hk hcc ho hkd
      obtain ⟨hsp, hcr⟩ := kf_room hI hk hfr hlo
      cases hs : kf_stp kf_cs kf_nw kf_own ((kf_rt[k]?).getD 9) j pc ln ls st M with
      | none => rw [hs] at h; simp [kf_do] at h
      | some act =>
        rw [hs] at h
        cases hj : kf_cr j with
        | false =>
          obtain ⟨pc', ls', st', M', rfl, h1, h2⟩ := stp_go hj hs
          have hr : kf_run n k pc' ls' st' M' = some q := h
          have hm2 := kf_run_mem _ _ _ _ _ _ _ hr
          exact kf_go hx hb hml hown (fun z => hnm (by simpa using z)) hC ⟨hL, hZ⟩ ⟨by omega, by omega⟩ ⟨by omega, by omega⟩ (fun z => ⟨Nat.le_trans (hsp z).1 hRf, Nat.le_trans (hsp z).2 hRl⟩) hdg hok hs
            (ih k pc' ls' st' M' q hr hk p e R s m args below meth c Q cc nL o kd fr lo L0 Z0 hx hb hcc hmx hml ho hkd hfr hlo hown hnm hC hRf hRl (by omega) (by omega) hq1 hq2 hfin)
        | true =>
          rcases stp_cr hj hs with ⟨r, rfl, hst, hret⟩ | ⟨x, as, st', rfl, hst, hlen, hw, hkind⟩
          · have h : some (r, M) = some q := h
            cases h
            subst hst
            intro F H locs hl hR hlc
            refine hfin F H locs pc hR hlc ?_
            rcases hret with ⟨v, rfl, rfl, hr⟩ | ⟨v, rfl, rfl, hr⟩ | ⟨a, rfl, rfl, hr⟩ | ⟨rfl, rfl, hr⟩ | ⟨rfl, rfl, hr⟩
            · obtain ⟨rfl, rfl⟩ := ok_eq (show (decide (i = .ireturn) && ln == 1) = true from hok)
              exact ⟨hr, hdg⟩
            · obtain ⟨rfl, rfl⟩ := ok_eq (show (decide (i = .lreturn) && ln == 1) = true from hok)
              exact ⟨hr, hdg⟩
            · obtain ⟨rfl, rfl⟩ := ok_eq (show (decide (i = .areturn) && ln == 1) = true from hok)
              exact ⟨hr, hdg⟩
            · obtain ⟨rfl, rfl⟩ := ok_eq (show (decide (i = .areturn) && ln == 1) = true from hok)
              exact ⟨hr, hdg⟩
            · obtain ⟨rfl, rfl⟩ := ok_eq (show (decide (i = .return_) && ln == 1) = true from hok)
              exact ⟨hr, hdg⟩
          · simp only [kf_do, Option.bind_eq_some_iff] at h
            obtain ⟨l0, h0, q1, h1, h2⟩ := h
            have m1 := kf_run_mem _ _ _ _ _ _ _ h1
            have m2 := kf_run_mem _ _ _ _ _ _ _ h2
            obtain ⟨hf2, hl2⟩ := hcr x (by
              rcases hkind with ⟨a, b⟩ | ⟨a, b, -⟩ | ⟨a, -⟩
              · exact Or.inl ⟨a, b⟩
              · exact Or.inr (Or.inl ⟨a, b⟩)
              · exact Or.inr (Or.inr a))
            -- the pool's entry
            have hpool : ∃ xi, ln = 3 ∧ (o, xi, x) ∈ kf_pM ∧ ((j = .invokestatic x ∧ i = .invokestatic xi ∧ kf_kd[x / 10]? = some 0) ∨ (j = .invokespecial x ∧ i = .invokespecial xi ∧ kf_kd[x / 10]? = some 2) ∨ (j = .invokevirtual x ∧ i = .invokevirtual xi ∧ kf_kd[x / 10]? = some 1)) := by
              rcases hkind with ⟨rfl, a, b, d⟩ | ⟨rfl, a, -⟩ | ⟨rfl, -⟩
              · cases i with
                | invokestatic xi =>
                  have hok : (ln == 3 && kf_pM.elem (o, xi, x) && (x == 9985 || x == 9972 || x == 9962 || kf_kd[x / 10]? == some 0)) = true := hok
                  simp only [Bool.and_eq_true, beq_iff_eq, Bool.or_eq_true] at hok
                  obtain ⟨⟨rfl, hp⟩, hz⟩ := hok
                  refine ⟨xi, rfl, elem_F hp, Or.inl ⟨rfl, rfl, ?_⟩⟩
                  rcases hz with ((z | z) | z) | z
                  · exact absurd z a
                  · exact absurd z b
                  · exact absurd z d
                  · exact z
                | _ => cases hok
              · cases i with
                | invokespecial xi =>
                  have hok : (ln == 3 && kf_pM.elem (o, xi, x) && (x == 9991 || kf_kd[x / 10]? == some 2)) = true := hok
                  simp only [Bool.and_eq_true, beq_iff_eq, Bool.or_eq_true] at hok
                  obtain ⟨⟨rfl, hp⟩, hz⟩ := hok
                  refine ⟨xi, rfl, elem_F hp, Or.inr (Or.inl ⟨rfl, rfl, ?_⟩)⟩
                  rcases hz with z | z
                  · exact absurd z a
                  · exact z
                | _ => cases hok
              · cases i with
                | invokevirtual xi =>
                  have hok : (ln == 3 && kf_pM.elem (o, xi, x) && kf_kd[x / 10]? == some 1) = true := hok
                  simp only [Bool.and_eq_true, beq_iff_eq] at hok
                  obtain ⟨⟨rfl, hp⟩, hz⟩ := hok
                  exact ⟨xi, rfl, elem_F hp, Or.inr (Or.inr ⟨rfl, rfl, hz⟩)⟩
                | _ => cases hok
            obtain ⟨xi, rfl, hpm, hpk⟩ := hpool
            have hM := kf_pM_ok _ hpm
            have hMk := List.all_eq_true.mp pMok_all _ hpm
            have hns : x ≠ 9985 ∧ x ≠ 9972 ∧ x ≠ 9962 ∧ x ≠ 9991 ∧ ∃ y, kf_ys[x / 10]? = some y ∧ (Cond.methodLink (kf_cno o) xi y ∈ lw_tbl ∨ ∃ h, Cond.methodLinkNest (kf_cno o) xi y h ∈ lw_tbl) := by
              have big : ∀ z, 9000 ≤ x → kf_kd[x / 10]? = some z → False := by
                intro z hz hz2
                have l1 : kf_kd.length = 209 := by decide +kernel
                rw [List.getElem?_eq_none (by rw [l1]; omega)] at hz2
                cases hz2
              rcases hM with hM | hM | hM | hM | hM
              · exfalso; have : x = 9985 := hM.1; rcases hpk with z | z | z <;> exact big _ (by omega) z.2.2
              · exfalso; have : x = 9972 := hM.1; rcases hpk with z | z | z <;> exact big _ (by omega) z.2.2
              · exfalso; have : x = 9962 := hM.1; rcases hpk with z | z | z <;> exact big _ (by omega) z.2.2
              · exfalso; have : x = 9991 := hM.1; rcases hpk with z | z | z <;> exact big _ (by omega) z.2.2
              · exact hM
            obtain ⟨-, -, -, -, y, hy, hlink⟩ := hns
            have hk9 : x / 10 < 209 ∧ x / 10 ≠ 207 := by
              unfold kf_pMok at hMk
              simp only [Bool.or_eq_true, Bool.and_eq_true, decide_eq_true_eq] at hMk
              rcases hMk with z | z
              · exfalso
                have l1 : kf_kd.length = 209 := by decide +kernel
                have : kf_kd[x / 10]? = none := List.getElem?_eq_none (by rw [l1]; omega)
                rcases hpk with w | w | w <;> (have := w.2.2; simp_all)
              · exact z.1
            obtain ⟨y', cc', mx', rf', kd', y1, y2, y3, y4, y5, y6, y7, y8, y9, y10, y11, y12, y13⟩ := py_all _ hk9.1 hk9.2
            cases hy.symm.trans y1
            obtain ⟨np, rt, n1, n2, n3, n4⟩ := kf_Ynp hk9.1 y1 y4
            have lco : kf_co.length = 209 := by decide +kernel
            have lfr : kf_fr.length = 209 := by decide +kernel
            have llo : kf_lo.length = 209 := by decide +kernel
            obtain ⟨o', ho'⟩ : ∃ o', kf_co[x / 10]? = some o' := ⟨_, List.getElem?_eq_getElem (by rw [lco]; exact hk9.1)⟩
            obtain ⟨fr', hfr'⟩ : ∃ o', kf_fr[x / 10]? = some o' := ⟨_, List.getElem?_eq_getElem (by rw [lfr]; exact hk9.1)⟩
            obtain ⟨lo', hlo'⟩ : ∃ o', kf_lo[x / 10]? = some o' := ⟨_, List.getElem?_eq_getElem (by rw [llo]; exact hk9.1)⟩
            rw [hfr'] at hf2
            rw [y3, hlo'] at hl2
            simp only [Option.getD_some] at hf2 hl2
            rw [ho'] at y6
            simp only [Option.getD_some] at y6
            have hY : kf_Y (x / 10) y cc' mx' rf' kd' o' np rt := ⟨y1, y2, y3, y4, y5, ho', n2, n3, n4⟩
            have hinit2 : kd' = 2 → y.name = "<init>" := by
              intro z
              rcases y13 with w | w | w
              · omega
              · omega
              · exact w.2.2.1
            have hMet := kf_met ih hk9.1 hY y7 y6 hinit2 hfr' hlo' h0 h1
            have hnp : x % 10 = np + (if kd' = 0 then 0 else 1) := by
              unfold kf_pMok at hMk
              simp only [Bool.or_eq_true, Bool.and_eq_true, decide_eq_true_eq] at hMk
              rw [n1, y5] at hMk
              simp only [decide_eq_true_eq] at hMk
              rcases hMk with z | z
              · exfalso; omega
              · exact z.2
            have kk := ih k (pc + 3) ls (q1.1.toList ++ st') q1.2 q h2 hk p e R s m args below meth c Q cc nL o kd fr lo L0 Z0 hx hb hcc hmx hml ho hkd hfr hlo hown hnm hC hRf hRl (by omega) (by omega) hq1 hq2 hfin
            have hcode : (Cond.code y cc' mx' rf').before args s = true := hC.w y11 y10
            have hinic : (Cond.initialized y.cls).before args s = true := hC.w y12 rfl
            have hws : ∀ w ∈ [Cond.code y cc' mx' rf'], ∀ (a' : Array Value) (U : State), s.WarmedH U.vm → w.before a' U = true := by
              intro w hw a' U hW
              simp at hw
              subst hw
              exact (hC.moved hW).w y11 y10
            have hsig : ∀ sig, parseMethodDescriptor y.desc = some sig → np = sig.parameters.length := by
              intro sig hsg
              rw [hsg] at n3
              simpa using n3.symm
            intro F H locs hl hR hlc
            have hroomc : M.length - L0 + (q1.2.length - M.length) ≤ R.cells ∧ kf_sz M - Z0 + (kf_sz q1.2 - kf_sz M) ≤ R.slots := ⟨by omega, by omega⟩
            have hWr : 2 * (F0 m pc F (st.map (cv sa N0))).monitorRoom + ((st'.map (cv sa N0)).map fun v => v.category).sum ≤ 8 := by
              rw [cv_w]
              show 2 * 0 + _ ≤ 8
              omega
            have S : CallFix p m c cc nL s args [] (kf_cno o) := ⟨hx, hb, hml, hown, fun w hw => by cases hw⟩
            subst hst
            refine kf_after (q1 := q1) (a := (as.map (cv sa N0)).toArray) ?_ kk hl hlc hL m1.1 hZ m1.2
            have hCB : ∀ (hl1 : (Cond.methodLink (kf_cno o) xi y).before args s = true), CallB R s args (kf_cno o) xi y cc' mx' rf' [Cond.code y cc' mx' rf'] { frames := fr', cells := q1.2.length - M.length, slots := kf_sz q1.2 - kf_sz M, locals := lo' } (q1.2.length - M.length) (kf_sz q1.2 - kf_sz M) np := fun hl1 => ⟨rfl, rfl, Nat.le_trans hf2 hRf, Nat.le_trans hl2 hRl, hws, List.mem_cons_self, hcode, hinic, ⟨y8, y9⟩, hsig, hl1⟩
            have hCN : ∀ (hh : String) (hl1 : (Cond.methodLinkNest (kf_cno o) xi y hh).before args s = true), va_CN R s args (kf_cno o) xi y hh cc' mx' rf' [Cond.code y cc' mx' rf'] { frames := fr', cells := q1.2.length - M.length, slots := kf_sz q1.2 - kf_sz M, locals := lo' } (q1.2.length - M.length) (kf_sz q1.2 - kf_sz M) np := fun hh hl1 => ⟨⟨rfl, rfl, Nat.le_trans hf2 hRf, Nat.le_trans hl2 hRl, hws, List.mem_cons_self⟩, hcode, hinic, ⟨y8, y9⟩, hsig, hl1⟩
            rcases hpk with ⟨rfl, rfl, hkd0⟩ | ⟨rfl, rfl, hkd2⟩ | ⟨rfl, rfl, hkd1⟩
            · cases y5.symm.trans hkd0
              have hst2 : (Cond.static y).before args s = true := by
                rcases y13 with w | w | w
                · exact hC.w w.2 rfl
                · exact absurd w.1 (by decide)
                · exact absurd w.1 (by decide)
              have hlen2 : (as.map (cv sa N0)).length = np := by rw [List.length_map]; simpa using hlen.trans hnp
              have hstk : (F0 m pc F ((as.reverse ++ st').map (cv sa N0))).stack = (as.map (cv sa N0)).reverse ++ st'.map (cv sa N0) := by simp
              rcases hlink with hl1 | ⟨hh, hl1⟩
              · exact va_runS S hMet ⟨hCB (hC.w hl1 rfl), hst2⟩ ⟨kf_blind, kf_pre hC hR⟩ rfl hlen2 hl.1 hstk hWr hdg hroomc
              · exact va_runSN S hMet ⟨hCN hh (hC.w hl1 rfl), hst2, trivial⟩ ⟨kf_blind, kf_pre hC hR⟩ rfl hlen2 hl.1 hstk hWr hdg hroomc
            · cases y5.symm.trans hkd2
              obtain ⟨b, as', rfl⟩ : ∃ b as', as = .ref b :: as' := by
                rcases hkind with ⟨z, -⟩ | ⟨-, -, z⟩ | ⟨z, -⟩
                · cases z
                · exact z
                · cases z
              obtain ⟨rfl, hin2⟩ : rf' = none ∧ (Cond.instanceMethod y).before args s = true := by
                rcases y13 with w | w | w
                · exact absurd w.1 (by decide)
                · exact absurd w.1 (by decide)
                · exact ⟨w.2.1, hC.w w.2.2.2 rfl⟩
              have hlen2 : (as'.map (cv sa N0)).length = np := by
                have := hlen.trans hnp
                simp at this
                rw [List.length_map]
                omega
              have hstk : (F0 m pc F (((.ref b :: as').reverse ++ st').map (cv sa N0))).stack = (as'.map (cv sa N0)).reverse ++ .ref (kf_ph sa N0 b) :: st'.map (cv sa N0) := by simp [cv]
              rcases hlink with hl1 | ⟨hh, hl1⟩
              · exact va_runI S hMet ⟨hCB (hC.w hl1 rfl), hinit2 rfl, hin2⟩ ⟨kf_blind, kf_pre hC hR⟩ rfl hlen2 hl.1 hstk hWr hdg hroomc
              · exact va_runIN S hMet ⟨hCN hh (hC.w hl1 rfl), hinit2 rfl, hin2⟩ ⟨kf_blind, kf_pre hC hR⟩ rfl hlen2 hl.1 hstk hWr hdg hroomc
            · cases y5.symm.trans hkd1
              obtain ⟨cx, b, as', fs, hcx, rfl, hg⟩ : ∃ c b as' fs, kf_own[x / 10]? = some c ∧ as = .ref b :: as' ∧ gO M b = some (c, fs) := by
                rcases hkind with ⟨z, -⟩ | ⟨z, -⟩ | ⟨-, z⟩
                · cases z
                · cases z
                · exact z
              obtain ⟨hin2, hsel, hoo⟩ : (Cond.instanceMethod y).before args s = true ∧ (Cond.selects y.cls y y).before args s = true ∧ cx = o' := by
                rcases y13 with w | w | w
                · exact absurd w.1 (by decide)
                · refine ⟨hC.w w.2.1 rfl, hC.w w.2.2.1 rfl, ?_⟩
                  have := w.2.2.2.1
                  rw [hcx, ho'] at this
                  simpa using this
                · exact absurd w.1 (by decide)
              subst hoo
              have hlen2 : (as'.map (cv sa N0)).length = np := by
                have := hlen.trans hnp
                simp at this
                rw [List.length_map]
                omega
              have hstk : (F0 m pc F (((.ref b :: as').reverse ++ st').map (cv sa N0))).stack = (as'.map (cv sa N0)).reverse ++ .ref (kf_ph sa N0 b) :: st'.map (cv sa N0) := by simp [cv]
              have hrc : ∃ cellB : Cell, H[kf_ph sa N0 b]? = some cellB ∧ cellB.vm.isStatics = false ∧ s.vm.findClass y.cls = some cellB.cls := by
                obtain ⟨cell, g1, r0, g2, g3, g4, g5, -⟩ := hR.at (gO_at hg)
                refine ⟨cell, g1, by rw [g5]; rfl, ?_⟩
                rw [g4, y6, ← (kf_cl_ok _ _ g2).1]
                exact (hC.2.1.1 _ _ g2).2.1
              rcases hlink with hl1 | ⟨hh, hl1⟩
              · exact va_runV S hMet ⟨hCB (hC.w hl1 rfl), hin2, hsel⟩ ⟨kf_blind, hrc, kf_pre hC hR⟩ rfl hlen2 hl.1 hstk hWr hdg hroomc
              · exact va_runVN S hMet ⟨hCN hh (hC.w hl1 rfl), hin2, hsel⟩ ⟨kf_blind, hrc, kf_pre hC hR⟩ rfl hlen2 hl.1 hstk hWr hdg hroomc
end MAIN
