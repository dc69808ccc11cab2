/-! THE SMALL MACHINE IS SOUND: where it answers, the machine answers so -/
theorem lookup_mem {β : Type} : ∀ {l : List (Nat × β)} {a : Nat} {b : β}, l.lookup a = some b → (a, b) ∈ l
  | [], _, _, h => by simp at h
  | (x, y) :: t, a, b, h => by
    rw [List.lookup_cons] at h
    split at h
    · rename_i hx
      cases h
      have : a = x := by simpa using hx
      subst this
      exact List.mem_cons_self
    · exact List.mem_cons_of_mem _ (lookup_mem h)
theorem kf_row {k pc ln o kd : Nat} {j : Instr} {cc : ByteArray} (hI : kf_I k pc = some (j, ln)) (hk : k < 209) (hcc : kf_cc[k]? = some cc) (ho : kf_co[k]? = some o) (hkd : kf_kd[k]? = some kd) : ∃ i, decode cc pc = .ok (i, ln) ∧ kf_ok o (kd == 2) pc ln i j = true := by
  have h := tk_all k hk
  unfold kf_tabok at h
  rw [hcc, ho, hkd] at h
  cases ht : kf_tabs[k]? with
  | none => rw [ht] at h; cases h
  | some t =>
    rw [ht] at h
    dsimp only at h
    have hm : (pc, j, ln) ∈ t := by
      have := lookup_mem hI
      rwa [ht] at this
    have := List.all_eq_true.mp h _ hm
    unfold kf_rowok at this
    dsimp only at this
    split at this
    · rename_i i ln' hd
      simp only [Bool.and_eq_true, beq_iff_eq] at this
      obtain ⟨rfl, h2⟩ := this
      exact ⟨i, hd, h2⟩
    · cases this
theorem kf_room {k pc ln fr lo : Nat} {j : Instr} (hI : kf_I k pc = some (j, ln)) (hk : k < 209) (hf : kf_fr[k]? = some fr) (hl : kf_lo[k]? = some lo) : (kf_sp j = true → 1 ≤ fr ∧ 60 ≤ lo) ∧ ∀ x, ((j = .invokestatic x ∧ x ≠ 9985 ∧ x ≠ 9972 ∧ x ≠ 9962) ∨ (j = .invokespecial x ∧ x ≠ 9991) ∨ j = .invokevirtual x) → ((kf_fr[x / 10]?).getD 99) + 1 ≤ fr ∧ 8 + (((kf_mx[x / 10]?).getD 999) + 11) + ((kf_lo[x / 10]?).getD 999) ≤ lo := by
  have h := rk_all k hk
  unfold kf_roomok at h
  rw [hf, hl] at h
  cases ht : kf_tabs[k]? with
  | none => rw [ht] at h; cases h
  | some t =>
    rw [ht] at h
    dsimp only at h
    have hm : (pc, j, ln) ∈ t := by
      have := lookup_mem hI
      rwa [ht] at this
    have := List.all_eq_true.mp h _ hm
    dsimp only at this
    have l1 : kf_fr.length = 209 := by decide +kernel
    have l2 : kf_lo.length = 209 := by decide +kernel
    constructor
    · intro hs
      cases j with
      | invokestatic x =>
        have hs : 9000 ≤ x := of_decide_eq_true hs
        dsimp only at this
        split at this
        · exact of_decide_eq_true this
        · have := of_decide_eq_true this
          rw [List.getElem?_eq_none (by rw [l1]; omega), List.getElem?_eq_none (l := kf_lo) (by rw [l2]; omega)] at this
          simp only [Option.getD_none] at this
          omega
      | invokespecial x =>
        have hs : 9000 ≤ x := of_decide_eq_true hs
        dsimp only at this
        split at this
        · exact of_decide_eq_true this
        · have := of_decide_eq_true this
          rw [List.getElem?_eq_none (by rw [l1]; omega), List.getElem?_eq_none (l := kf_lo) (by rw [l2]; omega)] at this
          simp only [Option.getD_none] at this
          omega
      | _ => cases hs
    · rintro x (⟨rfl, a, b, c⟩ | ⟨rfl, a⟩ | rfl)
      · dsimp only at this
        rw [if_neg (fun z => z.elim a (fun z => z.elim b c))] at this
        exact of_decide_eq_true this
      · dsimp only at this
        rw [if_neg a] at this
        exact of_decide_eq_true this
      · exact of_decide_eq_true this
/-- the frame stands at a return that gives r -/
def kf_isret (cc : ByteArray) (rt pc : Nat) (r : Option Value) : Prop := match r with
  | none => rt = 0 ∧ decode cc pc = .ok (.return_, 1)
  | some (.int v) => (rt = 1 ∨ (rt = 2 ∧ (v = 0 ∨ v = 1))) ∧ decode cc pc = .ok (.ireturn, 1)
  | some (.long _) => rt = 3 ∧ decode cc pc = .ok (.lreturn, 1)
  | some (.ref _) => rt = 4 ∧ decode cc pc = .ok (.areturn, 1)
  | some .null => rt = 4 ∧ decode cc pc = .ok (.areturn, 1)
  | _ => False
def kf_rtP (rf : Option FieldType) (rt : Nat) : Prop := match rf with
  | none => rt = 0
  | some .int => rt = 1
  | some .boolean => rt = 2
  | some .long => rt = 3
  | some (.object _) => rt = 4
  | some (.array _) => rt = 4
  | _ => False
/-- what is used of a method that is called -/
def kf_Y (k : Nat) (y : MethodName) (cc : ByteArray) (mx : Nat) (rf : Option FieldType) (kd o np rt : Nat) : Prop :=
  kf_ys[k]? = some y ∧ kf_cc[k]? = some cc ∧ kf_mx[k]? = some mx ∧ kf_rf[k]? = some rf ∧ kf_kd[k]? = some kd ∧ kf_co[k]? = some o ∧ (kf_rt[k]?).getD 9 = rt ∧ (parseMethodDescriptor y.desc).map (fun d => d.parameters.length) = some np ∧ kf_rtP rf rt
section SOUND
variable {l : Launch} {sa : Nat → Nat} {N0 : Nat} {D : va_G} {H00 : Heap}
/-- the soundness of runs of at most n steps -/
def kf_SO (l : Launch) (sa : Nat → Nat) (N0 : Nat) (D : va_G) (H00 : Heap) (n : Nat) : Prop := ∀ (k pc : Nat) (ls : kf_L) (st : List Value) (M : kf_M) (q : kf_R), kf_run n k pc ls st M = some q → k < 209 → ∀ (p : Program) (e : Env) (R : Room) (s : State) (m : MethodId) (args : Array Value) (below : List Frame) (meth : Method) (c : Code) (Q : State → Prop) (cc : ByteArray) (nL o kd fr lo L0 Z0 : Nat), p.tables.exec = Jvm.exec → c.code = cc → kf_cc[k]? = some cc → kf_mx[k]? = some nL → c.maxLocals = nL → kf_co[k]? = some o → kf_kd[k]? = some kd → kf_fr[k]? = some fr → kf_lo[k]? = some lo → s.vm.findClass (kf_cno o) = some m.cls → (kd = 2 → meth.name = "<init>") → kf_Ctx sa N0 D H00 s → fr ≤ R.frames → lo ≤ R.locals → L0 ≤ M.length → Z0 ≤ kf_sz M → q.2.length - L0 ≤ R.cells → kf_sz q.2 - Z0 ≤ R.slots →
  (∀ (F : Array Slot) (H : Heap) (locs : List Loc) (pc' : Nat), kf_Rel sa N0 D H00 s q.2 H → (∀ x ∈ locs, N0 ≤ x.base) → kf_isret cc ((kf_rt[k]?).getD 9) pc' q.1 → W p l e R s m args below meth c H locs (q.2.length - L0) (kf_sz q.2 - Z0) Q (F0 m pc' F (q.1.toList.map (cv sa N0)))) →
  kf_W p l e R s m args below meth c Q sa N0 D H00 nL L0 Z0 pc ls st M
def kf_Pc (sa : Nat → Nat) (N0 : Nat) (D : va_G) (H00 : Heap) (as : List Value) (M : kf_M) : Array Value → State → Prop := fun a U => a = (as.map (cv sa N0)).toArray ∧ kf_Ctx sa N0 D H00 U ∧ kf_Rel sa N0 D H00 U M U.heap
def kf_Qc (sa : Nat → Nat) (N0 : Nat) (D : va_G) (H00 : Heap) (q : kf_R) : Array Value → State → Outcome → State → Prop := fun _ _ oc t => oc = .returned (q.1.map (cv sa N0)) ∧ kf_Rel sa N0 D H00 t q.2 t.heap
/-- a method's contract, out of its run -/
theorem kf_met {n : Nat} (hS : kf_SO l sa N0 D H00 n) {k : Nat} (hk : k < 209) {y : MethodName} {cc : ByteArray} {mx kd o np rt fr lo : Nat} {rf : Option FieldType} (hY : kf_Y k y cc mx rf kd o np rt) (hpl : plainName y.cls = true) (hcls : y.cls = kf_cno o) (hnm : kd = 2 → y.name = "<init>") (hfr : kf_fr[k]? = some fr) (hlo : kf_lo[k]? = some lo) {as : List Value} {M : kf_M} {q : kf_R} {l0 : kf_L} (h0 : kf_ini kf_mx k as = some l0) (hrun : kf_run n k 0 l0 [] M = some q) :
    Met l y [Cond.code y cc mx rf] { frames := fr, cells := q.2.length - M.length, slots := kf_sz q.2 - kf_sz M, locals := lo } (kf_Pc sa N0 D H00 as M) (kf_Qc sa N0 D H00 q) (q.2.length - M.length) (kf_sz q.2 - kf_sz M) (fun x => N0 ≤ x) := by
  obtain ⟨y1, y2, y3, y4, y5, y6, y7, -, y9⟩ := hY
  unfold kf_rtP at y9
  refine Met.ofW (cc := cc) (maxL := mx) (ret := rf) hpl rfl ?_
  intro p e s m args below meth c s₁ B hml hv
  obtain ⟨rfl, hC, hR⟩ := hv
  have hmeth : meth.name = y.name := (name_of_methodNamed B.named B.method).1
  obtain ⟨n', hn', hl0⟩ := Option.bind_eq_some_iff.mp h0
  cases y3.symm.trans hn'
  split at hl0
  case isFalse => cases hl0
  rename_i hlay
  cases hl0
  have hW := hS k 0 _ [] M q hrun hk p e (headSpec [Cond.code y cc mx rf] { frames := fr, cells := q.2.length - M.length, slots := kf_sz q.2 - kf_sz M, locals := lo }).room s m (as.map (cv sa N0)).toArray below meth c (MQ below (kf_Qc sa N0 D H00 q) (as.map (cv sa N0)).toArray s (q.2.length - M.length) (kf_sz q.2 - kf_sz M) (fun x => N0 ≤ x)) cc mx o kd fr lo M.length (kf_sz M) B.exec B.bytes y2 y3 hml y6 y5 hfr hlo (by rw [← hcls]; exact findClass_of_methodNamed B.named) (fun h => hmeth.trans (hnm h)) hC (Nat.le_refl _) (Nat.le_refl _) (Nat.le_refl _) (Nat.le_refl _) (Nat.le_refl _) (Nat.le_refl _) (by
      intro F H locs pc' hRl hlc hret
      rw [y7] at hret
      obtain ⟨r, M'⟩ := q
      have hq : ∀ t : State, t.heap = H → s.WarmedH t.vm → kf_Qc sa N0 D H00 (r, M') (as.map (cv sa N0)).toArray s (.returned (r.map (cv sa N0))) t := fun t ht hw => ⟨rfl, by rw [ht]; exact kf_Rel.moved hw.alike hRl⟩
      have hrt : meth.sig.returnType = rf := B.returns
      have hlk : meth.locks = false := B.notSynchronized
      match r, hret, hq with
      | none, hret, hq =>
        obtain ⟨h1, h2⟩ := hret
        have : rf = none := by
          cases rf with
          | none => rfl
          | some t => cases t <;> simp_all
        subst this
        exact W.vret B.exec B.bytes hrt hq hlc h2
      | some (.int v), hret, hq =>
        obtain ⟨h1, h2⟩ := hret
        rcases h1 with h1 | ⟨h1, hv⟩
        · have : rf = some .int := by
            cases rf with
            | none => simp_all
            | some t => cases t <;> simp_all
          subst this
          exact W.iret B.exec B.bytes hrt hq hlc h2
        · have : rf = some .boolean := by
            cases rf with
            | none => simp_all
            | some t => cases t <;> simp_all
          subst this
          exact W.zret B.exec B.bytes hrt (by rcases hv with rfl | rfl <;> rfl) hq hlc h2
      | some (.long v), hret, hq =>
        obtain ⟨h1, h2⟩ := hret
        have : rf = some .long := by
          cases rf with
          | none => simp_all
          | some t => cases t <;> simp_all
        subst this
        exact W.lret B.exec B.bytes hrt hq hlc h2
      | some (.ref a), hret, hq =>
        obtain ⟨h1, h2⟩ := hret
        have : ∃ t, rf = some t ∧ ((∃ n, t = .object n) ∨ ∃ u, t = .array u) := by
          cases rf with
          | none => simp_all
          | some t => cases t <;> simp_all
        obtain ⟨t, rfl, ht⟩ := this
        exact W.aret B.exec B.bytes hrt ht (Or.inr ⟨_, rfl⟩) hq hlc h2
      | some .null, hret, hq =>
        obtain ⟨h1, h2⟩ := hret
        have : ∃ t, rf = some t ∧ ((∃ n, t = .object n) ∨ ∃ u, t = .array u) := by
          cases rf with
          | none => simp_all
          | some t => cases t <;> simp_all
        obtain ⟨t, rfl, ht⟩ := this
        exact W.aret B.exec B.bytes hrt ht (Or.inl rfl) hq hlc h2
      | some (.float _), hret, _ => cases hret
      | some (.double _), hret, _ => cases hret
      | some (.retAddr _), hret, _ => cases hret)
  have hl := kf_init_lr (sa := sa) (N0 := N0) hlay
  have h := hW _ s.heap [] hl hR (fun x hx => by cases hx)
  rw [Nat.sub_self, Nat.sub_self] at h
  rw [lg_entry_eq]
  exact h
end SOUND
