/-! all steps together -/
def kf_cr : Instr → Bool
  | .invokestatic x => decide (x ≠ 9985 ∧ x ≠ 9972 ∧ x ≠ 9962)
  | .invokespecial x => decide (x ≠ 9991)
  | .invokevirtual _ => true
  | .ireturn => true
  | .lreturn => true
  | .areturn => true
  | .return_ => true
  | _ => false
theorem kf_same {a : Nat} {b : kf_L} {c : List Value} {M : kf_M} {act : kf_A} (h : aG a b c M = some act) : ∃ pc' ls' st' M', act = .inr (.inl (pc', ls', st', M')) ∧ M.length ≤ M'.length ∧ kf_sz M ≤ kf_sz M' := ⟨_, _, _, _, (Option.some.inj h).symm, Nat.le_refl _, Nat.le_refl _⟩
theorem kf_upd {a : Nat} {b : kf_L} {c : List Value} {M M1 : kf_M} {act : kf_A} (h : aG a b c M1 = some act) (h1 : M.length ≤ M1.length) (h2 : kf_sz M ≤ kf_sz M1) : ∃ pc' ls' st' M', act = .inr (.inl (pc', ls', st', M')) ∧ M.length ≤ M'.length ∧ kf_sz M ≤ kf_sz M' := ⟨_, _, _, _, (Option.some.inj h).symm, h1, h2⟩
theorem kf_setle {M : kf_M} {a : Nat} {ob ob' : kf_Ob} (h : M[a]? = some ob) (he : oSz ob' = oSz ob) : M.length ≤ (M.set a ob').length ∧ kf_sz M ≤ kf_sz (M.set a ob') := ⟨by rw [List.length_set]; exact Nat.le_refl _, by rw [kf_sz_set M a ob ob' h he]; exact Nat.le_refl _⟩
theorem kf_apple (M : kf_M) (ob : kf_Ob) : M.length ≤ (M ++ [ob]).length ∧ kf_sz M ≤ kf_sz (M ++ [ob]) := ⟨by simp, by rw [kf_sz_app]; omega⟩
theorem stp_go {cs : List Int64} {nw : List (List Value)} {own : List Nat} {rt pc ln : Nat} {ls : kf_L} {st : List Value} {M : kf_M} {j : Instr} {act : kf_A} (hj : kf_cr j = false) (h : kf_stp cs nw own rt j pc ln ls st M = some act) : ∃ pc' ls' st' M', act = .inr (.inl (pc', ls', st', M')) ∧ M.length ≤ M'.length ∧ kf_sz M ≤ kf_sz M' := by
  cases j with
  | aload n =>
    obtain ⟨v, h1, h2⟩ := Option.bind_eq_some_iff.mp h
    exact kf_same h2
  | aload_n n =>
    obtain ⟨v, h1, h2⟩ := Option.bind_eq_some_iff.mp h
    exact kf_same h2
  | iload n =>
    obtain ⟨v, h1, h2⟩ := Option.bind_eq_some_iff.mp h
    exact kf_same h2
  | iload_n n =>
    obtain ⟨v, h1, h2⟩ := Option.bind_eq_some_iff.mp h
    exact kf_same h2
  | lload n =>
    obtain ⟨v, h1, h2⟩ := Option.bind_eq_some_iff.mp h
    exact kf_same h2
  | lload_n n =>
    obtain ⟨v, h1, h2⟩ := Option.bind_eq_some_iff.mp h
    exact kf_same h2
  | ldc2_w n =>
    obtain ⟨v, h1, h2⟩ := Option.bind_eq_some_iff.mp h
    exact kf_same h2
  | istore n =>
    simp only [kf_stp] at h
    split at h
    · obtain ⟨_, _, h2⟩ := Option.bind_eq_some_iff.mp h
      exact kf_same h2
    · cases h
  | istore_n n =>
    simp only [kf_stp] at h
    split at h
    · obtain ⟨_, _, h2⟩ := Option.bind_eq_some_iff.mp h
      exact kf_same h2
    · cases h
  | lstore n =>
    simp only [kf_stp] at h
    split at h
    · obtain ⟨_, _, h2⟩ := Option.bind_eq_some_iff.mp h
      exact kf_same h2
    · cases h
  | lstore_n n =>
    simp only [kf_stp] at h
    split at h
    · obtain ⟨_, _, h2⟩ := Option.bind_eq_some_iff.mp h
      exact kf_same h2
    · cases h
  | astore n =>
    simp only [kf_stp] at h
    split at h
    · obtain ⟨_, _, h2⟩ := Option.bind_eq_some_iff.mp h
      exact kf_same h2
    · obtain ⟨_, _, h2⟩ := Option.bind_eq_some_iff.mp h
      exact kf_same h2
    · cases h
  | astore_n n =>
    simp only [kf_stp] at h
    split at h
    · obtain ⟨_, _, h2⟩ := Option.bind_eq_some_iff.mp h
      exact kf_same h2
    · obtain ⟨_, _, h2⟩ := Option.bind_eq_some_iff.mp h
      exact kf_same h2
    · cases h
  | iinc n z =>
    obtain ⟨v, h1, h2⟩ := Option.bind_eq_some_iff.mp h
    obtain ⟨_, _, h3⟩ := Option.bind_eq_some_iff.mp h2
    exact kf_same h3
  | iconst z => exact kf_same h
  | bipush z => exact kf_same h
  | sipush z => exact kf_same h
  | lconst z => exact kf_same h
  | aconst_null => exact kf_same h
  | goto t => exact kf_same h
  | getstatic n => exact kf_same h
  | dup =>
    simp only [kf_stp] at h
    split at h
    · split at h
      · exact kf_same h
      · cases h
    · cases h
  | dup2 =>
    simp only [kf_stp] at h
    split at h
    · exact kf_same h
    · cases h
  | i2l =>
    simp only [kf_stp] at h
    split at h
    · exact kf_same h
    · cases h
  | l2i =>
    simp only [kf_stp] at h
    split at h
    · exact kf_same h
    · cases h
  | lcmp =>
    simp only [kf_stp] at h
    split at h
    · exact kf_same h
    · cases h
  | iadd =>
    simp only [kf_stp, i2] at h
    split at h
    · exact kf_same h
    · cases h
  | isub =>
    simp only [kf_stp, i2] at h
    split at h
    · exact kf_same h
    · cases h
  | imul =>
    simp only [kf_stp, i2] at h
    split at h
    · exact kf_same h
    · cases h
  | iand =>
    simp only [kf_stp, i2] at h
    split at h
    · exact kf_same h
    · cases h
  | ior =>
    simp only [kf_stp, i2] at h
    split at h
    · exact kf_same h
    · cases h
  | ixor =>
    simp only [kf_stp, i2] at h
    split at h
    · exact kf_same h
    · cases h
  | ishl =>
    simp only [kf_stp, i2] at h
    split at h
    · exact kf_same h
    · cases h
  | ishr =>
    simp only [kf_stp, i2] at h
    split at h
    · exact kf_same h
    · cases h
  | iushr =>
    simp only [kf_stp, i2] at h
    split at h
    · exact kf_same h
    · cases h
  | ineg =>
    simp only [kf_stp, i1] at h
    split at h
    · exact kf_same h
    · cases h
  | ladd =>
    simp only [kf_stp, j2] at h
    split at h
    · exact kf_same h
    · cases h
  | lsub =>
    simp only [kf_stp, j2] at h
    split at h
    · exact kf_same h
    · cases h
  | lmul =>
    simp only [kf_stp, j2] at h
    split at h
    · exact kf_same h
    · cases h
  | land =>
    simp only [kf_stp, j2] at h
    split at h
    · exact kf_same h
    · cases h
  | lor =>
    simp only [kf_stp, j2] at h
    split at h
    · exact kf_same h
    · cases h
  | lxor =>
    simp only [kf_stp, j2] at h
    split at h
    · exact kf_same h
    · cases h
  | lshl =>
    simp only [kf_stp, jS] at h
    split at h
    · exact kf_same h
    · cases h
  | lshr =>
    simp only [kf_stp, jS] at h
    split at h
    · exact kf_same h
    · cases h
  | lushr =>
    simp only [kf_stp, jS] at h
    split at h
    · exact kf_same h
    · cases h
  | idiv =>
    simp only [kf_stp] at h
    split at h
    · split at h
      · cases h
      · exact kf_same h
    · cases h
  | irem =>
    simp only [kf_stp] at h
    split at h
    · split at h
      · cases h
      · exact kf_same h
    · cases h
  | ldiv =>
    simp only [kf_stp] at h
    split at h
    · split at h
      · cases h
      · exact kf_same h
    · cases h
  | if_icmp cd t =>
    simp only [kf_stp] at h
    split at h
    · cases cd <;> (simp only [bI] at h; split at h <;> exact kf_same h)
    · cases h
  | ifCond cd t =>
    simp only [kf_stp] at h
    split at h
    · cases cd <;> (simp only [bI] at h; split at h <;> exact kf_same h)
    · cases h
  | ifnull t =>
    simp only [kf_stp] at h
    split at h
    · exact kf_same h
    · exact kf_same h
    · cases h
  | ifnonnull t =>
    simp only [kf_stp] at h
    split at h
    · exact kf_same h
    · exact kf_same h
    · cases h
  | tableswitch d lo hi os =>
    simp only [kf_stp, kf_sw] at h
    split at h
    · split at h
      · exact kf_same h
      · split at h
        · exact kf_same h
        · cases h
    · cases h
  | lookupswitch d ps =>
    simp only [kf_stp] at h
    split at h
    · exact kf_same h
    · cases h
  | getfield x =>
    simp only [kf_stp] at h
    split at h
    · obtain ⟨_, _, h2⟩ := Option.bind_eq_some_iff.mp h
      split at h2
      · obtain ⟨_, _, h3⟩ := Option.bind_eq_some_iff.mp h2
        exact kf_same h3
      · cases h2
    · cases h
  | putfield x =>
    simp only [kf_stp] at h
    split at h
    · obtain ⟨_, h1, h2⟩ := Option.bind_eq_some_iff.mp h
      split at h2
      · exact kf_upd h2 (kf_setle (gO_at h1) (by simp [oSz])).1 (kf_setle (gO_at h1) (by simp [oSz])).2
      · cases h2
    · cases h
  | iaload =>
    simp only [kf_stp] at h
    split at h
    · obtain ⟨_, _, h2⟩ := Option.bind_eq_some_iff.mp h
      split at h2
      · cases h2
      · obtain ⟨_, _, h3⟩ := Option.bind_eq_some_iff.mp h2
        exact kf_same h3
    · cases h
  | laload =>
    simp only [kf_stp] at h
    split at h
    · obtain ⟨_, _, h2⟩ := Option.bind_eq_some_iff.mp h
      split at h2
      · cases h2
      · obtain ⟨_, _, h3⟩ := Option.bind_eq_some_iff.mp h2
        exact kf_same h3
    · cases h
  | baload =>
    simp only [kf_stp] at h
    split at h
    · obtain ⟨_, _, h2⟩ := Option.bind_eq_some_iff.mp h
      split at h2
      · cases h2
      · obtain ⟨_, _, h3⟩ := Option.bind_eq_some_iff.mp h2
        exact kf_same h3
    · cases h
  | aaload =>
    simp only [kf_stp] at h
    split at h
    · obtain ⟨_, _, h2⟩ := Option.bind_eq_some_iff.mp h
      split at h2
      · cases h2
      · obtain ⟨_, _, h3⟩ := Option.bind_eq_some_iff.mp h2
        exact kf_same h3
    · cases h
  | iastore =>
    simp only [kf_stp] at h
    split at h
    · obtain ⟨_, h1, h2⟩ := Option.bind_eq_some_iff.mp h
      split at h2
      · cases h2
      · exact kf_upd h2 (kf_setle (gI_at h1) (by simp [oSz])).1 (kf_setle (gI_at h1) (by simp [oSz])).2
    · cases h
  | lastore =>
    simp only [kf_stp] at h
    split at h
    · obtain ⟨_, h1, h2⟩ := Option.bind_eq_some_iff.mp h
      split at h2
      · cases h2
      · exact kf_upd h2 (kf_setle (gJ_at h1) (by simp [oSz])).1 (kf_setle (gJ_at h1) (by simp [oSz])).2
    · cases h
  | bastore =>
    simp only [kf_stp] at h
    split at h
    · obtain ⟨_, h1, h2⟩ := Option.bind_eq_some_iff.mp h
      split at h2
      · cases h2
      · exact kf_upd h2 (kf_setle (gZ_at h1) (by simp [oSz])).1 (kf_setle (gZ_at h1) (by simp [oSz])).2
    · cases h
  | aastore =>
    simp only [kf_stp] at h
    split at h
    · obtain ⟨_, h1, h2⟩ := Option.bind_eq_some_iff.mp h
      obtain ⟨_, _, h3⟩ := Option.bind_eq_some_iff.mp h2
      split at h3
      · cases h3
      · exact kf_upd h3 (kf_setle (gR_at h1) (by simp [oSz])).1 (kf_setle (gR_at h1) (by simp [oSz])).2
    · cases h
  | arraylength =>
    simp only [kf_stp] at h
    split at h
    · obtain ⟨_, _, h2⟩ := Option.bind_eq_some_iff.mp h
      obtain ⟨_, _, h3⟩ := Option.bind_eq_some_iff.mp h2
      exact kf_same h3
    · cases h
  | newarray t =>
    simp only [kf_stp] at h
    split at h
    · split at h
      · cases h
      · cases t <;> first | exact kf_upd h (kf_apple _ _).1 (kf_apple _ _).2 | cases h
    · cases h
  | anewarray x =>
    simp only [kf_stp] at h
    split at h
    · split at h
      · cases h
      · exact kf_upd h (kf_apple _ _).1 (kf_apple _ _).2
    · cases h
  | new x =>
    obtain ⟨_, _, h2⟩ := Option.bind_eq_some_iff.mp h
    exact kf_upd h2 (kf_apple _ _).1 (kf_apple _ _).2
  | invokestatic x =>
    have hj : ¬ (x ≠ 9985 ∧ x ≠ 9972 ∧ x ≠ 9962) := of_decide_eq_false hj
    simp only [kf_stp] at h
    split at h
    · split at h
      · unfold kf_copy at h
        split at h
        · cases h
        · split at h
          · rename_i g1 g2
            split at h
            · rename_i hlen
              exact kf_upd h (kf_setle (gI_at g2) (by simp [oSz, kf_cp_len hlen.1 hlen.2])).1 (kf_setle (gI_at g2) (by simp [oSz, kf_cp_len hlen.1 hlen.2])).2
            · cases h
          · split at h
            · rename_i g1 g2
              split at h
              · rename_i hlen
                exact kf_upd h (kf_setle (gJ_at g2) (by simp [oSz, kf_cp_len hlen.1 hlen.2])).1 (kf_setle (gJ_at g2) (by simp [oSz, kf_cp_len hlen.1 hlen.2])).2
              · cases h
            · cases h
      · cases h
    · split at h
      · split at h
        · split at h
          · exact kf_same h
          · cases h
        · cases h
      · split at h
        · split at h
          · split at h
            · exact kf_same h
            · cases h
          · cases h
        · rename_i a1 a2 a3
          exact absurd ⟨a1, a2, a3⟩ hj
  | invokespecial x =>
    have hj : ¬ (x ≠ 9991) := of_decide_eq_false hj
    simp only [kf_stp] at h
    split at h
    · split at h
      · split at h
        · exact kf_same h
        · cases h
      · cases h
    · rename_i a1
      exact absurd a1 hj
  | invokevirtual x => simp [kf_cr] at hj
  | ireturn => simp [kf_cr] at hj
  | lreturn => simp [kf_cr] at hj
  | areturn => simp [kf_cr] at hj
  | return_ => simp [kf_cr] at hj
  | _ => cases h
section ALL
variable {p : Program} {l : Launch} {e : Env} {R : Room} {s : State} {m : MethodId} {args : Array Value} {below : List Frame} {meth : Method} {c : Code} {Q : State → Prop} {sa : Nat → Nat} {N0 : Nat} {D : va_G} {H00 : Heap} {nL L0 Z0 o rt : Nat} {ini : Bool} {cc : ByteArray} {pc pc' ln : Nat} {ls ls' : kf_L} {st st' : List Value} {M M' : kf_M} {i : Instr}
theorem kf_go {j : Instr} (hx : p.tables.exec = Jvm.exec) (hb : c.code = cc) (hml : c.maxLocals = nL) (hown : s.vm.findClass (kf_cno o) = some m.cls) (hini : ini = true → meth.name = "<init>") (hC : kf_Ctx sa N0 D H00 s) (hL : L0 ≤ M.length ∧ Z0 ≤ kf_sz M) (hr0 : M.length - L0 ≤ R.cells ∧ kf_sz M - Z0 ≤ R.slots) (hr1 : M'.length - L0 ≤ R.cells ∧ kf_sz M' - Z0 ≤ R.slots) (hsp : kf_sp j = true → 1 ≤ R.frames ∧ 60 ≤ R.locals) (hdg : decode cc pc = .ok (i, ln)) (hok : kf_ok o ini pc ln i j = true) (hst : kf_stp kf_cs kf_nw kf_own rt j pc ln ls st M = some (.inr (.inl (pc', ls', st', M')))) (kk : kf_W p l e R s m args below meth c Q sa N0 D H00 nL L0 Z0 pc' ls' st' M') : kf_W p l e R s m args below meth c Q sa N0 D H00 nL L0 Z0 pc ls st M := by
  cases j with
  | aload n => exact g_aload hx hb hdg hok hst kk
  | aload_n n => exact g_aload_n hx hb hdg hok hst kk
  | iload n => exact g_iload hx hb hdg hok hst kk
  | iload_n n => exact g_iload_n hx hb hdg hok hst kk
  | lload n => exact g_lload hx hb hdg hok hst kk
  | lload_n n => exact g_lload_n hx hb hdg hok hst kk
  | istore n => exact g_istore hx hb hdg hok hst kk
  | istore_n n => exact g_istore_n hx hb hdg hok hst kk
  | lstore n => exact g_lstore hx hb hdg hok hst kk
  | lstore_n n => exact g_lstore_n hx hb hdg hok hst kk
  | astore n => exact g_astore hx hb hdg hok hst kk
  | astore_n n => exact g_astore_n hx hb hdg hok hst kk
  | iinc n z => exact g_iinc hx hb hdg hok hst kk
  | iconst z => exact g_iconst hx hb hdg hok hst kk
  | bipush z => exact g_bipush hx hb hdg hok hst kk
  | sipush z => exact g_sipush hx hb hdg hok hst kk
  | lconst z => exact g_lconst hx hb hdg hok hst kk
  | aconst_null => exact g_aconst_null hx hb hdg hok hst kk
  | goto t => exact g_goto hx hb hdg hok hst kk
  | dup => exact g_dup hx hb hdg hok hst kk
  | dup2 => exact g_dup2 hx hb hdg hok hst kk
  | i2l => exact g_i2l hx hb hdg hok hst kk
  | l2i => exact g_l2i hx hb hdg hok hst kk
  | lcmp => exact g_lcmp hx hb hdg hok hst kk
  | iadd => exact g_iadd hx hb hdg hok hst kk
  | isub => exact g_isub hx hb hdg hok hst kk
  | imul => exact g_imul hx hb hdg hok hst kk
  | iand => exact g_iand hx hb hdg hok hst kk
  | ior => exact g_ior hx hb hdg hok hst kk
  | ixor => exact g_ixor hx hb hdg hok hst kk
  | ishl => exact g_ishl hx hb hdg hok hst kk
  | ishr => exact g_ishr hx hb hdg hok hst kk
  | iushr => exact g_iushr hx hb hdg hok hst kk
  | ineg => exact g_ineg hx hb hdg hok hst kk
  | ladd => exact g_ladd hx hb hdg hok hst kk
  | lsub => exact g_lsub hx hb hdg hok hst kk
  | lmul => exact g_lmul hx hb hdg hok hst kk
  | land => exact g_land hx hb hdg hok hst kk
  | lor => exact g_lor hx hb hdg hok hst kk
  | lxor => exact g_lxor hx hb hdg hok hst kk
  | lshl => exact g_lshl hx hb hdg hok hst kk
  | lshr => exact g_lshr hx hb hdg hok hst kk
  | lushr => exact g_lushr hx hb hdg hok hst kk
  | idiv => exact g_idiv hx hb hdg hok hst kk
  | irem => exact g_irem hx hb hdg hok hst kk
  | ldiv => exact g_ldiv hx hb hdg hok hst kk
  | if_icmp cd t => exact g_if_icmp hx hb hdg hok hst kk
  | ifCond cd t => exact g_ifCond hx hb hdg hok hst kk
  | ifnull t => exact g_ifnull hx hb hdg hok hst kk
  | ifnonnull t => exact g_ifnonnull hx hb hdg hok hst kk
  | tableswitch d lo hi os => exact g_tableswitch hx hb hdg hok hst kk
  | lookupswitch d ps => exact g_lookupswitch hx hb hdg hok hst kk
  | iaload => exact g_iaload hx hb hdg hok hst kk
  | laload => exact g_laload hx hb hdg hok hst kk
  | baload => exact g_baload hx hb hdg hok hst kk
  | aaload => exact g_aaload hx hb hdg hok hst kk
  | arraylength => exact g_arraylength hx hb hdg hok hst kk
  | iastore => exact g_iastore hx hb hC hdg hok hst kk
  | lastore => exact g_lastore hx hb hC hdg hok hst kk
  | bastore => exact g_bastore hx hb hC hdg hok hst kk
  | aastore => exact g_aastore hx hb hC hdg hok hst kk
  | getfield x => exact g_getfield hx hb hown hC hdg hok hst kk
  | getstatic x => exact g_getstatic hx hb hown hC hdg hok hst kk
  | ldc2_w x => exact g_ldc2_w hx hb hown hC hdg hok hst kk
  | putfield x => exact g_putfield hx hb hown hini hC hdg hok hst kk
  | new x => exact g_new hx hb hown hC hL hr1 hdg hok hst kk
  | anewarray x => exact g_anewarray hx hb hown hC hL hr1 hdg hok hst kk
  | newarray t => exact g_newarray hx hb hC hL hr1 hdg hok hst kk
  | invokestatic x => exact g_invokestatic hx hb hml hown hC hr0 hsp hdg hok hst kk
  | invokespecial x => exact g_invokespecial hx hb hml hown hC hsp hdg hok hst kk
  | invokevirtual x =>
    simp only [kf_stp] at hst
    split at hst
    · cases hst
    · obtain ⟨_, _, h2⟩ := Option.bind_eq_some_iff.mp hst
      split at h2
      · unfold kf_call at h2
        split at h2
        · simp [aC] at h2
        · cases h2
      · cases h2
  | ireturn =>
    simp only [kf_stp] at hst
    split at hst
    · split at hst
      · simp [aR] at hst
      · cases hst
    · cases hst
  | lreturn =>
    simp only [kf_stp] at hst
    split at hst
    · split at hst
      · simp [aR] at hst
      · cases hst
    · cases hst
  | areturn =>
    simp only [kf_stp] at hst
    split at hst
    · split at hst
      · simp [aR] at hst
      · cases hst
    · split at hst
      · simp [aR] at hst
      · cases hst
    · cases hst
  | return_ =>
    simp only [kf_stp] at hst
    split at hst
    · split at hst
      · simp [aR] at hst
      · cases hst
    · cases hst
  | _ => cases hst
end ALL
