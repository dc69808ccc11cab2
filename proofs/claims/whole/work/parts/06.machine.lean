/-! THE SMALL MACHINE: my own picture of the bytecode, over a memory that is a list of things; its answers are those of the real machine (part 'sound') -/
abbrev kf_Ob : Type := (Nat × List Value) ⊕ (List Int32) ⊕ (List Int64) ⊕ (List Int32) ⊕ (Nat × List (Option Nat))
abbrev kf_M : Type := List kf_Ob
abbrev kf_L : Type := List (Option Value)
abbrev kf_R : Type := Option Value × kf_M
abbrev kf_S : Type := Nat × kf_L × List Value × kf_M
abbrev kf_A : Type := kf_R ⊕ kf_S ⊕ (Nat × List Value × kf_S)
abbrev oO (c : Nat) (fs : List Value) : kf_Ob := .inl (c, fs)
abbrev oI (xs : List Int32) : kf_Ob := .inr (.inl xs)
abbrev oJ (xs : List Int64) : kf_Ob := .inr (.inr (.inl xs))
abbrev oZ (xs : List Int32) : kf_Ob := .inr (.inr (.inr (.inl xs)))
abbrev oR (c : Nat) (rs : List (Option Nat)) : kf_Ob := .inr (.inr (.inr (.inr (c, rs))))
def aR (r : Option Value) (M : kf_M) : Option kf_A := some (.inl (r, M))
def aG (pc : Nat) (ls : kf_L) (st : List Value) (M : kf_M) : Option kf_A := some (.inr (.inl (pc, ls, st, M)))
def aC (k : Nat) (as : List Value) (pc : Nat) (ls : kf_L) (st : List Value) (M : kf_M) : Option kf_A := some (.inr (.inr (k, as, pc, ls, st, M)))
/-- the first cells of the memory are never written: the static arrays, and the script -/
abbrev kf_NS : Nat := 19
def gO (M : kf_M) (a : Nat) : Option (Nat × List Value) := match M[a]? with | some (.inl o) => some o | _ => none
def gI (M : kf_M) (a : Nat) : Option (List Int32) := match M[a]? with | some (.inr (.inl xs)) => some xs | _ => none
def gJ (M : kf_M) (a : Nat) : Option (List Int64) := match M[a]? with | some (.inr (.inr (.inl xs))) => some xs | _ => none
def gZ (M : kf_M) (a : Nat) : Option (List Int32) := match M[a]? with | some (.inr (.inr (.inr (.inl xs)))) => some xs | _ => none
def gR (M : kf_M) (a : Nat) : Option (Nat × List (Option Nat)) := match M[a]? with | some (.inr (.inr (.inr (.inr r)))) => some r | _ => none
def oLen : kf_Ob → Option Nat
  | .inl _ => none
  | .inr (.inl xs) => some xs.length
  | .inr (.inr (.inl xs)) => some xs.length
  | .inr (.inr (.inr (.inl xs))) => some xs.length
  | .inr (.inr (.inr (.inr r))) => some r.2.length
def lI : kf_L → Nat → Option Int32
  | [], _ => none
  | h :: _, 0 => match h with | some (.int x) => some x | _ => none
  | _ :: t, n + 1 => lI t n
def lJ : kf_L → Nat → Option Int64
  | [], _ => none
  | h :: _, 0 => match h with | some (.long x) => some x | _ => none
  | _ :: t, n + 1 => lJ t n
def lA : kf_L → Nat → Option Value
  | [], _ => none
  | h :: _, 0 => match h with | some (.ref x) => some (.ref x) | some .null => some .null | _ => none
  | _ :: t, n + 1 => lA t n
def lK : Option Value → Option Value
  | some (.long _) => none
  | some (.double _) => none
  | h => h
def lS1 : kf_L → Nat → Value → Option kf_L
  | [], _, _ => none
  | _ :: t, 0, v => some (some v :: t)
  | h :: t, n + 1, v => (lS1 t n v).map (fun t' => (if n = 0 then lK h else h) :: t')
def lS2 : kf_L → Nat → Value → Option kf_L
  | [], _, _ => none
  | _ :: t, 0, v => match t with | [] => none | _ :: t' => some (some v :: none :: t')
  | h :: t, n + 1, v => (lS2 t n v).map (fun t' => (if n = 0 then lK h else h) :: t')
def kf_fit : Nat → Value → Bool
  | 0, .int _ => true
  | 1, .long _ => true
  | 2, .int v => v == 0 || v == 1
  | 3, .ref _ => true
  | 3, .null => true
  | _, _ => false
/-- a reference's value -/
def vR : Option Nat → Value
  | some a => .ref a
  | none => .null
def kf_lay : List Value → kf_L
  | [] => []
  | v :: vs => if v.category = 2 then some v :: none :: kf_lay vs else some v :: kf_lay vs
def kf_init (n : Nat) (as : List Value) : kf_L := kf_lay as ++ List.replicate (n - (kf_lay as).length) none
def kf_w (st : List Value) : Nat := (st.map fun v => v.category).sum
def i2 (f : Int32 → Int32 → Int32) (pc : Nat) (ls : kf_L) (st : List Value) (M : kf_M) : Option kf_A := match st with
  | .int y :: .int x :: r => aG pc ls (.int (f x y) :: r) M
  | _ => none
def i1 (f : Int32 → Int32) (pc : Nat) (ls : kf_L) (st : List Value) (M : kf_M) : Option kf_A := match st with
  | .int x :: r => aG pc ls (.int (f x) :: r) M
  | _ => none
def j2 (f : Int64 → Int64 → Int64) (pc : Nat) (ls : kf_L) (st : List Value) (M : kf_M) : Option kf_A := match st with
  | .long y :: .long x :: r => aG pc ls (.long (f x y) :: r) M
  | _ => none
def jS (f : Int64 → Int32 → Int64) (pc : Nat) (ls : kf_L) (st : List Value) (M : kf_M) : Option kf_A := match st with
  | .int y :: .long x :: r => aG pc ls (.long (f x y) :: r) M
  | _ => none
def cI (c : ClassFile.Cond) (x y : Int32) : Prop := match c with
  | .eq => x = y
  | .ne => ¬ x = y
  | .lt => x < y
  | .ge => y ≤ x
  | .gt => y < x
  | .le => x ≤ y
def kf_ush (x y : Int32) : Int32 := (x.toUInt32 >>> (y.toUInt32 &&& Int32.toUInt32 31)).toInt32
def kf_lush (x : Int64) (y : Int32) : Int64 := (x.toUInt64 >>> (y.toInt64.toUInt64 &&& Int64.toUInt64 63)).toInt64
def bI (c : ClassFile.Cond) (x y : Int32) (t pc : Nat) (ls : kf_L) (r : List Value) (M : kf_M) : Option kf_A := match c with
  | .eq => if x = y then aG t ls r M else aG pc ls r M
  | .ne => if x = y then aG pc ls r M else aG t ls r M
  | .lt => if x < y then aG t ls r M else aG pc ls r M
  | .ge => if y ≤ x then aG t ls r M else aG pc ls r M
  | .gt => if y < x then aG t ls r M else aG pc ls r M
  | .le => if x ≤ y then aG t ls r M else aG pc ls r M
def kf_call (k n pc : Nat) (ls : kf_L) (st : List Value) (M : kf_M) : Option kf_A :=
  if n ≤ st.length ∧ kf_w (st.drop n) ≤ 8 then aC k (st.take n).reverse pc ls (st.drop n) M else none
def kf_isr : Option Value → Bool
  | some (.ref _) => true
  | _ => false
/-- the receiver is a thing of the class c -/
def kf_rcv (M : kf_M) (c : Nat) (v : Option Value) : Bool := match v with
  | some (.ref b) => match gO M b with | some (c', _) => c' == c | none => false
  | _ => false
/-- System.arraycopy of n elements -/
def kf_cp {α : Type} (xs ys : List α) (sp dp n : Nat) : List α := ys.take dp ++ (xs.drop sp).take n ++ ys.drop (dp + n)
def kf_copy (sp dp n : Int32) (a b pc : Nat) (ls : kf_L) (r : List Value) (M : kf_M) : Option kf_A :=
  if sp < 0 ∨ dp < 0 ∨ n < 0 ∨ b < kf_NS ∨ 8 < kf_w r then none else
  match gI M a, gI M b with
  | some xs, some ys => if sp.toNatClampNeg + n.toNatClampNeg ≤ xs.length ∧ dp.toNatClampNeg + n.toNatClampNeg ≤ ys.length then aG pc ls r (M.set b (oI (kf_cp xs ys sp.toNatClampNeg dp.toNatClampNeg n.toNatClampNeg))) else none
  | _, _ => match gJ M a, gJ M b with
    | some xs, some ys => if sp.toNatClampNeg + n.toNatClampNeg ≤ xs.length ∧ dp.toNatClampNeg + n.toNatClampNeg ≤ ys.length then aG pc ls r (M.set b (oJ (kf_cp xs ys sp.toNatClampNeg dp.toNatClampNeg n.toNatClampNeg))) else none
    | _, _ => none
def kf_sw (d lo hi : Int) (offs : Array Int) (x : Int32) (ls : kf_L) (r : List Value) (M : kf_M) : Option kf_A :=
  if x.toInt < lo ∨ hi < x.toInt then aG d.toNat ls r M else match offs[(x.toInt - lo).toNat]? with | some o => aG o.toNat ls r M | none => none
/-- one instruction, its constants and places resolved; rt: what the method answers (0 nothing, 1 int, 2 boolean, 3 long, 4 reference); own: the class of each method; cs: long constants; nw: fields of new things -/
def kf_stp (cs : List Int64) (nw : List (List Value)) (own : List Nat) (rt : Nat) (i : Instr) (pc ln : Nat) (ls : kf_L) (st : List Value) (M : kf_M) : Option kf_A :=
  match i with
  | .aload n => (lA ls n).bind fun v => aG (pc + ln) ls (v :: st) M
  | .aload_n n => (lA ls n.val).bind fun v => aG (pc + ln) ls (v :: st) M
  | .iload n => (lI ls n).bind fun v => aG (pc + ln) ls (.int v :: st) M
  | .iload_n n => (lI ls n.val).bind fun v => aG (pc + ln) ls (.int v :: st) M
  | .lload n => (lJ ls n).bind fun v => aG (pc + ln) ls (.long v :: st) M
  | .lload_n n => (lJ ls n.val).bind fun v => aG (pc + ln) ls (.long v :: st) M
  | .istore n => match st with | .int x :: r => (lS1 ls n (.int x)).bind fun ls' => aG (pc + ln) ls' r M | _ => none
  | .istore_n n => match st with | .int x :: r => (lS1 ls n.val (.int x)).bind fun ls' => aG (pc + ln) ls' r M | _ => none
  | .astore n => match st with | .ref x :: r => (lS1 ls n (.ref x)).bind fun ls' => aG (pc + ln) ls' r M | .null :: r => (lS1 ls n .null).bind fun ls' => aG (pc + ln) ls' r M | _ => none
  | .astore_n n => match st with | .ref x :: r => (lS1 ls n.val (.ref x)).bind fun ls' => aG (pc + ln) ls' r M | .null :: r => (lS1 ls n.val .null).bind fun ls' => aG (pc + ln) ls' r M | _ => none
  | .lstore n => match st with | .long x :: r => (lS2 ls n (.long x)).bind fun ls' => aG (pc + ln) ls' r M | _ => none
  | .lstore_n n => match st with | .long x :: r => (lS2 ls n.val (.long x)).bind fun ls' => aG (pc + ln) ls' r M | _ => none
  | .iinc n c => (lI ls n).bind fun x => (lS1 ls n (.int (x + Int32.ofInt c))).bind fun ls' => aG (pc + ln) ls' st M
  | .iconst c => aG (pc + ln) ls (.int (Int32.ofInt c) :: st) M
  | .bipush c => aG (pc + ln) ls (.int (Int32.ofInt c) :: st) M
  | .sipush c => aG (pc + ln) ls (.int (Int32.ofInt c) :: st) M
  | .lconst c => aG (pc + ln) ls (.long (Int64.ofNat c.val) :: st) M
  | .ldc2_w e => (cs[e]?).bind fun v => aG (pc + ln) ls (.long v :: st) M
  | .aconst_null => aG (pc + ln) ls (.null :: st) M
  | .dup => match st with | v :: r => if v.category = 1 then aG (pc + ln) ls (v :: v :: r) M else none | _ => none
  | .dup2 => match st with | .int i :: .ref a :: r => aG (pc + ln) ls (.int i :: .ref a :: .int i :: .ref a :: r) M | _ => none
  | .iadd => i2 (fun x y => x + y) (pc + ln) ls st M
  | .isub => i2 (fun x y => x - y) (pc + ln) ls st M
  | .imul => i2 (fun x y => x * y) (pc + ln) ls st M
  | .iand => i2 (fun x y => x &&& y) (pc + ln) ls st M
  | .ior => i2 (fun x y => x ||| y) (pc + ln) ls st M
  | .ixor => i2 (fun x y => x ^^^ y) (pc + ln) ls st M
  | .ishl => i2 (fun x y => x <<< (y &&& 31)) (pc + ln) ls st M
  | .ishr => i2 (fun x y => x >>> (y &&& 31)) (pc + ln) ls st M
  | .iushr => i2 kf_ush (pc + ln) ls st M
  | .ineg => i1 (fun x => -x) (pc + ln) ls st M
  | .idiv => match st with | .int y :: .int x :: r => if y = 0 then none else aG (pc + ln) ls (.int (x / y) :: r) M | _ => none
  | .irem => match st with | .int y :: .int x :: r => if y = 0 then none else aG (pc + ln) ls (.int (x - x / y * y) :: r) M | _ => none
  | .ladd => j2 (fun x y => x + y) (pc + ln) ls st M
  | .lsub => j2 (fun x y => x - y) (pc + ln) ls st M
  | .lmul => j2 (fun x y => x * y) (pc + ln) ls st M
  | .land => j2 (fun x y => x &&& y) (pc + ln) ls st M
  | .lor => j2 (fun x y => x ||| y) (pc + ln) ls st M
  | .lxor => j2 (fun x y => x ^^^ y) (pc + ln) ls st M
  | .ldiv => match st with | .long y :: .long x :: r => if y = 0 then none else aG (pc + ln) ls (.long (x / y) :: r) M | _ => none
  | .lshl => jS (fun x y => x <<< (y.toInt64 &&& 63)) (pc + ln) ls st M
  | .lshr => jS (fun x y => x >>> (y.toInt64 &&& 63)) (pc + ln) ls st M
  | .lushr => jS kf_lush (pc + ln) ls st M
  | .i2l => match st with | .int x :: r => aG (pc + ln) ls (.long x.toInt64 :: r) M | _ => none
  | .l2i => match st with | .long x :: r => aG (pc + ln) ls (.int x.toInt32 :: r) M | _ => none
  | .lcmp => match st with | .long y :: .long x :: r => aG (pc + ln) ls (.int (lg_cmp x y) :: r) M | _ => none
  | .goto t => aG t.toNat ls st M
  | .if_icmp c t => match st with | .int y :: .int x :: r => bI c x y t.toNat (pc + ln) ls r M | _ => none
  | .ifCond c t => match st with | .int x :: r => bI c x 0 t.toNat (pc + ln) ls r M | _ => none
  | .ifnull t => match st with | .ref _ :: r => aG (pc + ln) ls r M | .null :: r => aG t.toNat ls r M | _ => none
  | .ifnonnull t => match st with | .ref _ :: r => aG t.toNat ls r M | .null :: r => aG (pc + ln) ls r M | _ => none
  | .tableswitch d lo hi offs => match st with | .int x :: r => kf_sw d lo hi offs x ls r M | _ => none
  | .lookupswitch d ps => match st with | .int x :: r => aG (Op.lookupswitch.offset ps.toList d x.toInt).toNat ls r M | _ => none
  | .getfield e => match st with
    | .ref a :: r => (gO M a).bind fun o => if o.1 = e / 1000 then (o.2[e / 10 % 100]?).bind fun v => aG (pc + ln) ls (v :: r) M else none
    | _ => none
  | .putfield e => match st with
    | v :: .ref a :: r => (gO M a).bind fun o => if o.1 = e / 1000 ∧ e / 10 % 100 < o.2.length ∧ kf_fit (e % 10) v = true then aG (pc + ln) ls r (M.set a (oO o.1 (o.2.set (e / 10 % 100) v))) else none
    | _ => none
  | .getstatic e => aG (pc + ln) ls (.ref e :: st) M
  | .iaload => match st with
    | .int i :: .ref a :: r => (gI M a).bind fun xs => if i < 0 then none else (xs[i.toNatClampNeg]?).bind fun v => aG (pc + ln) ls (.int v :: r) M
    | _ => none
  | .laload => match st with
    | .int i :: .ref a :: r => (gJ M a).bind fun xs => if i < 0 then none else (xs[i.toNatClampNeg]?).bind fun v => aG (pc + ln) ls (.long v :: r) M
    | _ => none
  | .baload => match st with
    | .int i :: .ref a :: r => (gZ M a).bind fun xs => if i < 0 then none else (xs[i.toNatClampNeg]?).bind fun v => aG (pc + ln) ls (.int v :: r) M
    | _ => none
  | .aaload => match st with
    | .int i :: .ref a :: r => (gR M a).bind fun xs => if i < 0 then none else (xs.2[i.toNatClampNeg]?).bind fun v => aG (pc + ln) ls (vR v :: r) M
    | _ => none
  | .iastore => match st with
    | .int v :: .int i :: .ref a :: r => (gI M a).bind fun xs => if i < 0 ∨ xs.length ≤ i.toNatClampNeg ∨ a < kf_NS then none else aG (pc + ln) ls r (M.set a (oI (xs.set i.toNatClampNeg v)))
    | _ => none
  | .lastore => match st with
    | .long v :: .int i :: .ref a :: r => (gJ M a).bind fun xs => if i < 0 ∨ xs.length ≤ i.toNatClampNeg ∨ a < kf_NS then none else aG (pc + ln) ls r (M.set a (oJ (xs.set i.toNatClampNeg v)))
    | _ => none
  | .bastore => match st with
    | .int v :: .int i :: .ref a :: r => (gZ M a).bind fun xs => if i < 0 ∨ xs.length ≤ i.toNatClampNeg ∨ a < kf_NS ∨ ¬ (v = 0 ∨ v = 1) then none else aG (pc + ln) ls r (M.set a (oZ (xs.set i.toNatClampNeg v)))
    | _ => none
  | .aastore => match st with
    | .ref v :: .int i :: .ref a :: r => (gR M a).bind fun xs => (gO M v).bind fun o => if i < 0 ∨ xs.2.length ≤ i.toNatClampNeg ∨ a < kf_NS ∨ ¬ o.1 = xs.1 then none else aG (pc + ln) ls r (M.set a (oR xs.1 (xs.2.set i.toNatClampNeg (some v))))
    | _ => none
  | .arraylength => match st with
    | .ref a :: r => (M[a]?).bind fun o => (oLen o).bind fun n => aG (pc + ln) ls (.int n.toInt32 :: r) M
    | _ => none
  | .newarray t => match st with
    | .int n :: r => if n < 0 ∨ 65536 < n.toNatClampNeg then none else match t with
      | .int => aG (pc + ln) ls (.ref M.length :: r) (M ++ [oI (List.replicate n.toNatClampNeg 0)])
      | .long => aG (pc + ln) ls (.ref M.length :: r) (M ++ [oJ (List.replicate n.toNatClampNeg 0)])
      | .boolean => aG (pc + ln) ls (.ref M.length :: r) (M ++ [oZ (List.replicate n.toNatClampNeg 0)])
      | _ => none
    | _ => none
  | .anewarray e => match st with
    | .int n :: r => if n < 0 ∨ 65536 < n.toNatClampNeg then none else aG (pc + ln) ls (.ref M.length :: r) (M ++ [oR e (List.replicate n.toNatClampNeg none)])
    | _ => none
  | .new e => (nw[e]?).bind fun fs => aG (pc + ln) ls (.ref M.length :: st) (M ++ [oO e fs])
  | .invokestatic e => if e = 9985 then (match st with
      | .int n :: .int dp :: .ref b :: .int sp :: .ref a :: r => kf_copy sp dp n a b (pc + ln) ls r M
      | _ => none) else if e = 9972 then (match st with
      | .int y :: .int x :: r => if kf_w r ≤ 8 then aG (pc + ln) ls (.int (if x < y then y else x) :: r) M else none
      | _ => none) else if e = 9962 then (match st with
      | .int y :: .int x :: r => if kf_w r ≤ 8 then aG (pc + ln) ls (.int (if y < x then y else x) :: r) M else none
      | _ => none) else kf_call (e / 10) (e % 10) (pc + ln) ls st M
  | .invokespecial e => if e = 9991 then (match st with
      | .ref _ :: r => if kf_w r ≤ 8 then aG (pc + ln) ls r M else none
      | _ => none) else if e % 10 = 0 then none else if kf_isr st[e % 10 - 1]? then kf_call (e / 10) (e % 10) (pc + ln) ls st M else none
  | .invokevirtual e => if e % 10 = 0 then none else (own[e / 10]?).bind fun c => if kf_rcv M c st[e % 10 - 1]? then kf_call (e / 10) (e % 10) (pc + ln) ls st M else none
  | .ireturn => match st with
    | [.int v] => if rt = 1 ∨ (rt = 2 ∧ (v = 0 ∨ v = 1)) then aR (some (.int v)) M else none
    | _ => none
  | .lreturn => match st with
    | [.long v] => if rt = 3 then aR (some (.long v)) M else none
    | _ => none
  | .areturn => match st with
    | [.ref a] => if rt = 4 then aR (some (.ref a)) M else none
    | [.null] => if rt = 4 then aR (some .null) M else none
    | _ => none
  | .return_ => match st with
    | [] => if rt = 0 then aR none M else none
    | _ => none
  | _ => none
def kf_ini (mx : List Nat) (k : Nat) (as : List Value) : Option kf_L := (mx[k]?).bind fun n => if (kf_lay as).length ≤ n then some (kf_init n as) else none
def kf_do (rn : Nat → Nat → kf_L → List Value → kf_M → Option kf_R) (mx : List Nat) (k : Nat) : Option kf_A → Option kf_R
  | none => none
  | some (.inl r) => some r
  | some (.inr (.inl (pc, ls, st, M))) => rn k pc ls st M
  | some (.inr (.inr (k', as, pc, ls, st, M))) => (kf_ini mx k' as).bind fun l0 => (rn k' 0 l0 [] M).bind fun q => rn k pc ls (q.1.toList ++ st) q.2
def kf_run : Nat → Nat → Nat → kf_L → List Value → kf_M → Option kf_R
  | 0, _, _, _, _, _ => none
  | n + 1, k, pc, ls, st, M => kf_do (kf_run n) kf_mx k (match kf_I k pc with
    | some (i, ln) => kf_stp kf_cs kf_nw kf_own ((kf_rt[k]?).getD 9) i pc ln ls st M
    | none => none)
