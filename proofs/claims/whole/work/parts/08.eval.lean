/-! rows by which the small machine is walked: one for each instruction (all by unfolding) -/
section STEPS
variable {cs : List Int64} {nw : List (List Value)} {own : List Nat} {rt pc ln n a b e t : Nat} {ls : kf_L} {st r : List Value} {M : kf_M} {x y v : Int32} {p q w : Int64} {c : Int} {rn : Nat → Nat → kf_L → List Value → kf_M → Option kf_R} {mx : List Nat} {k : Nat} {f4 : Fin 4} {f2 : Fin 2}
theorem d_G : kf_do rn mx k (aG pc ls st M) = rn k pc ls st M := rfl
theorem d_R {o : Option Value} : kf_do rn mx k (aR o M) = some (o, M) := rfl
theorem d_C {as : List Value} {k' : Nat} : kf_do rn mx k (aC k' as pc ls st M) = (kf_ini mx k' as).bind fun l0 => (rn k' 0 l0 [] M).bind fun q => rn k pc ls (q.1.toList ++ st) q.2 := rfl
theorem s_aload : kf_stp cs nw own rt (.aload n) pc ln ls st M = (lA ls n).bind fun v => aG (pc + ln) ls (v :: st) M := rfl
theorem s_aload_n : kf_stp cs nw own rt (.aload_n f4) pc ln ls st M = (lA ls f4.val).bind fun v => aG (pc + ln) ls (v :: st) M := rfl
theorem s_iload : kf_stp cs nw own rt (.iload n) pc ln ls st M = (lI ls n).bind fun v => aG (pc + ln) ls (.int v :: st) M := rfl
theorem s_iload_n : kf_stp cs nw own rt (.iload_n f4) pc ln ls st M = (lI ls f4.val).bind fun v => aG (pc + ln) ls (.int v :: st) M := rfl
theorem s_lload : kf_stp cs nw own rt (.lload n) pc ln ls st M = (lJ ls n).bind fun v => aG (pc + ln) ls (.long v :: st) M := rfl
theorem s_lload_n : kf_stp cs nw own rt (.lload_n f4) pc ln ls st M = (lJ ls f4.val).bind fun v => aG (pc + ln) ls (.long v :: st) M := rfl
theorem s_istore : kf_stp cs nw own rt (.istore n) pc ln ls (.int x :: r) M = (lS1 ls n (.int x)).bind fun ls' => aG (pc + ln) ls' r M := rfl
theorem s_istore_n : kf_stp cs nw own rt (.istore_n f4) pc ln ls (.int x :: r) M = (lS1 ls f4.val (.int x)).bind fun ls' => aG (pc + ln) ls' r M := rfl
theorem s_astore : kf_stp cs nw own rt (.astore n) pc ln ls (.ref a :: r) M = (lS1 ls n (.ref a)).bind fun ls' => aG (pc + ln) ls' r M := rfl
theorem s_astoreN : kf_stp cs nw own rt (.astore n) pc ln ls (.null :: r) M = (lS1 ls n .null).bind fun ls' => aG (pc + ln) ls' r M := rfl
theorem s_astore_n : kf_stp cs nw own rt (.astore_n f4) pc ln ls (.ref a :: r) M = (lS1 ls f4.val (.ref a)).bind fun ls' => aG (pc + ln) ls' r M := rfl
theorem s_astore_nN : kf_stp cs nw own rt (.astore_n f4) pc ln ls (.null :: r) M = (lS1 ls f4.val .null).bind fun ls' => aG (pc + ln) ls' r M := rfl
theorem s_lstore : kf_stp cs nw own rt (.lstore n) pc ln ls (.long p :: r) M = (lS2 ls n (.long p)).bind fun ls' => aG (pc + ln) ls' r M := rfl
theorem s_lstore_n : kf_stp cs nw own rt (.lstore_n f4) pc ln ls (.long p :: r) M = (lS2 ls f4.val (.long p)).bind fun ls' => aG (pc + ln) ls' r M := rfl
theorem s_iinc : kf_stp cs nw own rt (.iinc n c) pc ln ls st M = (lI ls n).bind fun x => (lS1 ls n (.int (x + Int32.ofInt c))).bind fun ls' => aG (pc + ln) ls' st M := rfl
theorem s_iconst : kf_stp cs nw own rt (.iconst c) pc ln ls st M = aG (pc + ln) ls (.int (Int32.ofInt c) :: st) M := rfl
theorem s_bipush : kf_stp cs nw own rt (.bipush c) pc ln ls st M = aG (pc + ln) ls (.int (Int32.ofInt c) :: st) M := rfl
theorem s_sipush : kf_stp cs nw own rt (.sipush c) pc ln ls st M = aG (pc + ln) ls (.int (Int32.ofInt c) :: st) M := rfl
theorem s_lconst : kf_stp cs nw own rt (.lconst f2) pc ln ls st M = aG (pc + ln) ls (.long (Int64.ofNat f2.val) :: st) M := rfl
theorem s_ldc2_w : kf_stp cs nw own rt (.ldc2_w e) pc ln ls st M = (cs[e]?).bind fun v => aG (pc + ln) ls (.long v :: st) M := rfl
theorem s_aconst_null : kf_stp cs nw own rt .aconst_null pc ln ls st M = aG (pc + ln) ls (.null :: st) M := rfl
theorem s_dupA : kf_stp cs nw own rt .dup pc ln ls (.ref a :: r) M = aG (pc + ln) ls (.ref a :: .ref a :: r) M := rfl
theorem s_dupI : kf_stp cs nw own rt .dup pc ln ls (.int x :: r) M = aG (pc + ln) ls (.int x :: .int x :: r) M := rfl
theorem s_dup2 : kf_stp cs nw own rt .dup2 pc ln ls (.int x :: .ref a :: r) M = aG (pc + ln) ls (.int x :: .ref a :: .int x :: .ref a :: r) M := rfl
theorem s_iadd : kf_stp cs nw own rt .iadd pc ln ls (.int y :: .int x :: r) M = aG (pc + ln) ls (.int (x + y) :: r) M := rfl
theorem s_isub : kf_stp cs nw own rt .isub pc ln ls (.int y :: .int x :: r) M = aG (pc + ln) ls (.int (x - y) :: r) M := rfl
theorem s_imul : kf_stp cs nw own rt .imul pc ln ls (.int y :: .int x :: r) M = aG (pc + ln) ls (.int (x * y) :: r) M := rfl
theorem s_iand : kf_stp cs nw own rt .iand pc ln ls (.int y :: .int x :: r) M = aG (pc + ln) ls (.int (x &&& y) :: r) M := rfl
theorem s_ior : kf_stp cs nw own rt .ior pc ln ls (.int y :: .int x :: r) M = aG (pc + ln) ls (.int (x ||| y) :: r) M := rfl
theorem s_ixor : kf_stp cs nw own rt .ixor pc ln ls (.int y :: .int x :: r) M = aG (pc + ln) ls (.int (x ^^^ y) :: r) M := rfl
theorem s_ishl : kf_stp cs nw own rt .ishl pc ln ls (.int y :: .int x :: r) M = aG (pc + ln) ls (.int (x <<< (y &&& 31)) :: r) M := rfl
theorem s_ishr : kf_stp cs nw own rt .ishr pc ln ls (.int y :: .int x :: r) M = aG (pc + ln) ls (.int (x >>> (y &&& 31)) :: r) M := rfl
theorem s_iushr : kf_stp cs nw own rt .iushr pc ln ls (.int y :: .int x :: r) M = aG (pc + ln) ls (.int (kf_ush x y) :: r) M := rfl
theorem s_ineg : kf_stp cs nw own rt .ineg pc ln ls (.int x :: r) M = aG (pc + ln) ls (.int (-x) :: r) M := rfl
theorem s_idiv : kf_stp cs nw own rt .idiv pc ln ls (.int y :: .int x :: r) M = if y = 0 then none else aG (pc + ln) ls (.int (x / y) :: r) M := rfl
theorem s_irem : kf_stp cs nw own rt .irem pc ln ls (.int y :: .int x :: r) M = if y = 0 then none else aG (pc + ln) ls (.int (x - x / y * y) :: r) M := rfl
theorem s_ladd : kf_stp cs nw own rt .ladd pc ln ls (.long q :: .long p :: r) M = aG (pc + ln) ls (.long (p + q) :: r) M := rfl
theorem s_lsub : kf_stp cs nw own rt .lsub pc ln ls (.long q :: .long p :: r) M = aG (pc + ln) ls (.long (p - q) :: r) M := rfl
theorem s_lmul : kf_stp cs nw own rt .lmul pc ln ls (.long q :: .long p :: r) M = aG (pc + ln) ls (.long (p * q) :: r) M := rfl
theorem s_land : kf_stp cs nw own rt .land pc ln ls (.long q :: .long p :: r) M = aG (pc + ln) ls (.long (p &&& q) :: r) M := rfl
theorem s_lor : kf_stp cs nw own rt .lor pc ln ls (.long q :: .long p :: r) M = aG (pc + ln) ls (.long (p ||| q) :: r) M := rfl
theorem s_lxor : kf_stp cs nw own rt .lxor pc ln ls (.long q :: .long p :: r) M = aG (pc + ln) ls (.long (p ^^^ q) :: r) M := rfl
theorem s_ldiv : kf_stp cs nw own rt .ldiv pc ln ls (.long q :: .long p :: r) M = if q = 0 then none else aG (pc + ln) ls (.long (p / q) :: r) M := rfl
theorem s_lshl : kf_stp cs nw own rt .lshl pc ln ls (.int y :: .long p :: r) M = aG (pc + ln) ls (.long (p <<< (y.toInt64 &&& 63)) :: r) M := rfl
theorem s_lshr : kf_stp cs nw own rt .lshr pc ln ls (.int y :: .long p :: r) M = aG (pc + ln) ls (.long (p >>> (y.toInt64 &&& 63)) :: r) M := rfl
theorem s_lushr : kf_stp cs nw own rt .lushr pc ln ls (.int y :: .long p :: r) M = aG (pc + ln) ls (.long (kf_lush p y) :: r) M := rfl
theorem s_i2l : kf_stp cs nw own rt .i2l pc ln ls (.int x :: r) M = aG (pc + ln) ls (.long x.toInt64 :: r) M := rfl
theorem s_l2i : kf_stp cs nw own rt .l2i pc ln ls (.long p :: r) M = aG (pc + ln) ls (.int p.toInt32 :: r) M := rfl
theorem s_lcmp : kf_stp cs nw own rt .lcmp pc ln ls (.long q :: .long p :: r) M = aG (pc + ln) ls (.int (lg_cmp p q) :: r) M := rfl
theorem s_goto : kf_stp cs nw own rt (.goto c) pc ln ls st M = aG c.toNat ls st M := rfl
theorem s_ieq : kf_stp cs nw own rt (.if_icmp .eq c) pc ln ls (.int y :: .int x :: r) M = if x = y then aG c.toNat ls r M else aG (pc + ln) ls r M := rfl
theorem s_ine : kf_stp cs nw own rt (.if_icmp .ne c) pc ln ls (.int y :: .int x :: r) M = if x = y then aG (pc + ln) ls r M else aG c.toNat ls r M := rfl
theorem s_ilt : kf_stp cs nw own rt (.if_icmp .lt c) pc ln ls (.int y :: .int x :: r) M = if x < y then aG c.toNat ls r M else aG (pc + ln) ls r M := rfl
theorem s_ige : kf_stp cs nw own rt (.if_icmp .ge c) pc ln ls (.int y :: .int x :: r) M = if y ≤ x then aG c.toNat ls r M else aG (pc + ln) ls r M := rfl
theorem s_igt : kf_stp cs nw own rt (.if_icmp .gt c) pc ln ls (.int y :: .int x :: r) M = if y < x then aG c.toNat ls r M else aG (pc + ln) ls r M := rfl
theorem s_ile : kf_stp cs nw own rt (.if_icmp .le c) pc ln ls (.int y :: .int x :: r) M = if x ≤ y then aG c.toNat ls r M else aG (pc + ln) ls r M := rfl
theorem s_zeq : kf_stp cs nw own rt (.ifCond .eq c) pc ln ls (.int x :: r) M = if x = 0 then aG c.toNat ls r M else aG (pc + ln) ls r M := rfl
theorem s_zne : kf_stp cs nw own rt (.ifCond .ne c) pc ln ls (.int x :: r) M = if x = 0 then aG (pc + ln) ls r M else aG c.toNat ls r M := rfl
theorem s_zlt : kf_stp cs nw own rt (.ifCond .lt c) pc ln ls (.int x :: r) M = if x < 0 then aG c.toNat ls r M else aG (pc + ln) ls r M := rfl
theorem s_zge : kf_stp cs nw own rt (.ifCond .ge c) pc ln ls (.int x :: r) M = if 0 ≤ x then aG c.toNat ls r M else aG (pc + ln) ls r M := rfl
theorem s_zgt : kf_stp cs nw own rt (.ifCond .gt c) pc ln ls (.int x :: r) M = if 0 < x then aG c.toNat ls r M else aG (pc + ln) ls r M := rfl
theorem s_zle : kf_stp cs nw own rt (.ifCond .le c) pc ln ls (.int x :: r) M = if x ≤ 0 then aG c.toNat ls r M else aG (pc + ln) ls r M := rfl
theorem s_ifnull : kf_stp cs nw own rt (.ifnull c) pc ln ls (.ref a :: r) M = aG (pc + ln) ls r M := rfl
theorem s_ifnullN : kf_stp cs nw own rt (.ifnull c) pc ln ls (.null :: r) M = aG c.toNat ls r M := rfl
theorem s_ifnonnull : kf_stp cs nw own rt (.ifnonnull c) pc ln ls (.ref a :: r) M = aG c.toNat ls r M := rfl
theorem s_ifnonnullN : kf_stp cs nw own rt (.ifnonnull c) pc ln ls (.null :: r) M = aG (pc + ln) ls r M := rfl
theorem s_tableswitch {d lo hi : Int} {os : Array Int} : kf_stp cs nw own rt (.tableswitch d lo hi os) pc ln ls (.int x :: r) M = kf_sw d lo hi os x ls r M := rfl
theorem s_lookupswitch {d : Int} {os : Array (Int × Int)} : kf_stp cs nw own rt (.lookupswitch d os) pc ln ls (.int x :: r) M = aG (Op.lookupswitch.offset os.toList d x.toInt).toNat ls r M := rfl
theorem s_getfield : kf_stp cs nw own rt (.getfield e) pc ln ls (.ref a :: r) M = (gO M a).bind fun o => if o.1 = e / 1000 then (o.2[e / 10 % 100]?).bind fun v => aG (pc + ln) ls (v :: r) M else none := rfl
theorem s_putfield {z : Value} : kf_stp cs nw own rt (.putfield e) pc ln ls (z :: .ref a :: r) M = (gO M a).bind fun o => if o.1 = e / 1000 ∧ e / 10 % 100 < o.2.length ∧ kf_fit (e % 10) z = true then aG (pc + ln) ls r (M.set a (oO o.1 (o.2.set (e / 10 % 100) z))) else none := rfl
theorem s_getstatic : kf_stp cs nw own rt (.getstatic e) pc ln ls st M = aG (pc + ln) ls (.ref e :: st) M := rfl
theorem s_iaload : kf_stp cs nw own rt .iaload pc ln ls (.int x :: .ref a :: r) M = (gI M a).bind fun xs => if x < 0 then none else (xs[x.toNatClampNeg]?).bind fun v => aG (pc + ln) ls (.int v :: r) M := rfl
theorem s_laload : kf_stp cs nw own rt .laload pc ln ls (.int x :: .ref a :: r) M = (gJ M a).bind fun xs => if x < 0 then none else (xs[x.toNatClampNeg]?).bind fun v => aG (pc + ln) ls (.long v :: r) M := rfl
theorem s_baload : kf_stp cs nw own rt .baload pc ln ls (.int x :: .ref a :: r) M = (gZ M a).bind fun xs => if x < 0 then none else (xs[x.toNatClampNeg]?).bind fun v => aG (pc + ln) ls (.int v :: r) M := rfl
theorem s_aaload : kf_stp cs nw own rt .aaload pc ln ls (.int x :: .ref a :: r) M = (gR M a).bind fun xs => if x < 0 then none else (xs.2[x.toNatClampNeg]?).bind fun v => aG (pc + ln) ls (vR v :: r) M := rfl
theorem s_iastore : kf_stp cs nw own rt .iastore pc ln ls (.int v :: .int x :: .ref a :: r) M = (gI M a).bind fun xs => if x < 0 ∨ xs.length ≤ x.toNatClampNeg ∨ a < kf_NS then none else aG (pc + ln) ls r (M.set a (oI (xs.set x.toNatClampNeg v))) := rfl
theorem s_lastore : kf_stp cs nw own rt .lastore pc ln ls (.long p :: .int x :: .ref a :: r) M = (gJ M a).bind fun xs => if x < 0 ∨ xs.length ≤ x.toNatClampNeg ∨ a < kf_NS then none else aG (pc + ln) ls r (M.set a (oJ (xs.set x.toNatClampNeg p))) := rfl
theorem s_bastore : kf_stp cs nw own rt .bastore pc ln ls (.int v :: .int x :: .ref a :: r) M = (gZ M a).bind fun xs => if x < 0 ∨ xs.length ≤ x.toNatClampNeg ∨ a < kf_NS ∨ ¬ (v = 0 ∨ v = 1) then none else aG (pc + ln) ls r (M.set a (oZ (xs.set x.toNatClampNeg v))) := rfl
theorem s_aastore : kf_stp cs nw own rt .aastore pc ln ls (.ref b :: .int x :: .ref a :: r) M = (gR M a).bind fun xs => (gO M b).bind fun o => if x < 0 ∨ xs.2.length ≤ x.toNatClampNeg ∨ a < kf_NS ∨ ¬ o.1 = xs.1 then none else aG (pc + ln) ls r (M.set a (oR xs.1 (xs.2.set x.toNatClampNeg (some b)))) := rfl
theorem s_arraylength : kf_stp cs nw own rt .arraylength pc ln ls (.ref a :: r) M = (M[a]?).bind fun o => (oLen o).bind fun n => aG (pc + ln) ls (.int n.toInt32 :: r) M := rfl
theorem s_newI : kf_stp cs nw own rt (.newarray .int) pc ln ls (.int x :: r) M = if x < 0 ∨ 65536 < x.toNatClampNeg then none else aG (pc + ln) ls (.ref M.length :: r) (M ++ [oI (List.replicate x.toNatClampNeg 0)]) := rfl
theorem s_newJ : kf_stp cs nw own rt (.newarray .long) pc ln ls (.int x :: r) M = if x < 0 ∨ 65536 < x.toNatClampNeg then none else aG (pc + ln) ls (.ref M.length :: r) (M ++ [oJ (List.replicate x.toNatClampNeg 0)]) := rfl
theorem s_newZ : kf_stp cs nw own rt (.newarray .boolean) pc ln ls (.int x :: r) M = if x < 0 ∨ 65536 < x.toNatClampNeg then none else aG (pc + ln) ls (.ref M.length :: r) (M ++ [oZ (List.replicate x.toNatClampNeg 0)]) := rfl
theorem s_anewarray : kf_stp cs nw own rt (.anewarray e) pc ln ls (.int x :: r) M = if x < 0 ∨ 65536 < x.toNatClampNeg then none else aG (pc + ln) ls (.ref M.length :: r) (M ++ [oR e (List.replicate x.toNatClampNeg none)]) := rfl
theorem s_new : kf_stp cs nw own rt (.new e) pc ln ls st M = (nw[e]?).bind fun fs => aG (pc + ln) ls (.ref M.length :: st) (M ++ [oO e fs]) := rfl
theorem s_copy : kf_stp cs nw own rt (.invokestatic 9985) pc ln ls (.int x :: .int y :: .ref b :: .int v :: .ref a :: r) M = kf_copy v y x a b (pc + ln) ls r M := rfl
theorem s_max : kf_stp cs nw own rt (.invokestatic 9972) pc ln ls (.int y :: .int x :: r) M = if kf_w r ≤ 8 then aG (pc + ln) ls (.int (if x < y then y else x) :: r) M else none := rfl
theorem s_min : kf_stp cs nw own rt (.invokestatic 9962) pc ln ls (.int y :: .int x :: r) M = if kf_w r ≤ 8 then aG (pc + ln) ls (.int (if y < x then y else x) :: r) M else none := rfl
theorem s_invokestatic (h : e < 9000) : kf_stp cs nw own rt (.invokestatic e) pc ln ls st M = kf_call (e / 10) (e % 10) (pc + ln) ls st M := (if_neg (by omega)).trans ((if_neg (by omega)).trans (if_neg (by omega)))
theorem s_objinit : kf_stp cs nw own rt (.invokespecial 9991) pc ln ls (.ref a :: r) M = if kf_w r ≤ 8 then aG (pc + ln) ls r M else none := rfl
theorem s_invokespecial (h : e < 9000) : kf_stp cs nw own rt (.invokespecial e) pc ln ls st M = if e % 10 = 0 then none else if kf_isr st[e % 10 - 1]? then kf_call (e / 10) (e % 10) (pc + ln) ls st M else none := if_neg (by omega)
theorem kf_isr_r : kf_isr (some (.ref a)) = true := rfl
theorem s_invokevirtual : kf_stp cs nw own rt (.invokevirtual e) pc ln ls st M = if e % 10 = 0 then none else (own[e / 10]?).bind fun c => if kf_rcv M c st[e % 10 - 1]? then kf_call (e / 10) (e % 10) (pc + ln) ls st M else none := rfl
theorem s_ireturn : kf_stp cs nw own rt .ireturn pc ln ls [.int x] M = if rt = 1 ∨ (rt = 2 ∧ (x = 0 ∨ x = 1)) then aR (some (.int x)) M else none := rfl
theorem s_lreturn : kf_stp cs nw own rt .lreturn pc ln ls [.long p] M = if rt = 3 then aR (some (.long p)) M else none := rfl
theorem s_areturn : kf_stp cs nw own rt .areturn pc ln ls [.ref a] M = if rt = 4 then aR (some (.ref a)) M else none := rfl
theorem s_areturnN : kf_stp cs nw own rt .areturn pc ln ls [.null] M = if rt = 4 then aR (some .null) M else none := rfl
theorem s_return : kf_stp cs nw own rt .return_ pc ln ls [] M = if rt = 0 then aR none M else none := rfl
theorem lI_0 {t : kf_L} : lI (some (.int x) :: t) 0 = some x := rfl
theorem lI_s {h : Option Value} {t : kf_L} : lI (h :: t) (n + 1) = lI t n := rfl
theorem lJ_0 {t : kf_L} : lJ (some (.long p) :: t) 0 = some p := rfl
theorem lJ_s {h : Option Value} {t : kf_L} : lJ (h :: t) (n + 1) = lJ t n := rfl
theorem lA_0 {t : kf_L} : lA (some (.ref a) :: t) 0 = some (.ref a) := rfl
theorem lA_0N {t : kf_L} : lA (some .null :: t) 0 = some .null := rfl
theorem lA_s {h : Option Value} {t : kf_L} : lA (h :: t) (n + 1) = lA t n := rfl
theorem lS1_0 {h : Option Value} {t : kf_L} {z : Value} : lS1 (h :: t) 0 z = some (some z :: t) := rfl
theorem lS1_1 {h : Option Value} {t : kf_L} {z : Value} : lS1 (h :: t) 1 z = (lS1 t 0 z).map (fun t' => lK h :: t') := rfl
theorem lS1_2 {h : Option Value} {t : kf_L} {z : Value} : lS1 (h :: t) (n + 2) z = (lS1 t (n + 1) z).map (fun t' => h :: t') := rfl
theorem lS2_0 {h h' : Option Value} {t : kf_L} {z : Value} : lS2 (h :: h' :: t) 0 z = some (some z :: none :: t) := rfl
theorem lS2_1 {h : Option Value} {t : kf_L} {z : Value} : lS2 (h :: t) 1 z = (lS2 t 0 z).map (fun t' => lK h :: t') := rfl
theorem lS2_2 {h : Option Value} {t : kf_L} {z : Value} : lS2 (h :: t) (n + 2) z = (lS2 t (n + 1) z).map (fun t' => h :: t') := rfl
theorem lK_n : lK none = none := rfl
theorem lK_i : lK (some (.int x)) = some (.int x) := rfl
theorem lK_j : lK (some (.long p)) = none := rfl
theorem lK_a : lK (some (.ref a)) = some (.ref a) := rfl
theorem lK_N : lK (some .null) = some .null := rfl
end STEPS
