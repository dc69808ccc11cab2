/-! one digest for the class and the reference -/
theorem gD_self {W : List Int32} {i : Nat} {v : Int32} (h : i < W.length) : (W.set i v).getD i 0 = v := by rw [List.getD_eq_getElem?_getD, List.getElem?_set_self h]; rfl
theorem gD_ne {W : List Int32} {i j : Nat} {v : Int32} (h : i ≠ j) : (W.set i v).getD j 0 = W.getD j 0 := by rw [List.getD_eq_getElem?_getD, List.getElem?_set_ne h, List.getD_eq_getElem?_getD]
theorem gD_ext {W V : List Int32} (hl : W.length = V.length) (h : ∀ j, j < W.length → W.getD j 0 = V.getD j 0) : W = V := by
  apply List.ext_getElem hl
  intro j h1 h2
  have := h j h1
  rw [List.getD_eq_getElem?_getD, List.getD_eq_getElem?_getD, List.getElem?_eq_getElem h1, List.getElem?_eq_getElem h2] at this
  exact this
theorem wext_loc : ∀ (m i : Nat) (W V : List Int32), i + m = 64 → 16 ≤ i → W.length = 64 → V.length = 64 → (∀ j, j < i → W.getD j 0 = V.getD j 0) → wext W i m = wext V i m
  | 0, i, W, V, h, _, hW, hV, he => by
    show W = V
    exact gD_ext (by omega) (fun j hj => he j (by omega))
  | m + 1, i, W, V, h, h16, hW, hV, he => by
    show wext (wstep W i) (i + 1) m = wext (wstep V i) (i + 1) m
    refine wext_loc m (i + 1) _ _ (by omega) (by omega) (by simp [wstep, hW]) (by simp [wstep, hV]) ?_
    intro j hj
    by_cases e : i = j
    · subst e
      unfold wstep
      rw [gD_self (by omega), gD_self (by omega), he (i - 16) (by omega), he (i - 15) (by omega), he (i - 7) (by omega), he (i - 2) (by omega)]
    · unfold wstep
      rw [gD_ne e, gD_ne e]
      exact he j (by omega)
theorem ldF_get {X : List Int32} {at1 : Nat} : ∀ (m t : Nat) (W : List Int32) (j : Nat), t + m ≤ W.length → (ldF X at1 W t m).getD j 0 = if t ≤ j ∧ j < t + m then ldw X (at1 + 4 * j) else W.getD j 0
  | 0, t, W, j, h => by
    rw [if_neg (by omega)]
    rfl
  | m + 1, t, W, j, h => by
    show (ldF X at1 (W.set t (ldw X (at1 + 4 * t))) (t + 1) m).getD j 0 = _
    rw [ldF_get m (t + 1) _ j (by rw [List.length_set]; omega)]
    by_cases e : t = j
    · subst e
      rw [if_neg (by omega), if_pos (by omega), gD_self (by omega)]
    · rw [gD_ne e]
      by_cases q : t + 1 ≤ j ∧ j < t + 1 + m
      · rw [if_pos q, if_pos (by omega)]
      · rw [if_neg q, if_neg (by omega)]
theorem mix_loc {S W V : List Int32} (hW : W.length = 64) (hV : V.length = 64) (he : ∀ j, j < 16 → W.getD j 0 = V.getD j 0) : mixS S W = mixS S V ∧ wext W 16 48 = wext V 16 48 := by
  have := wext_loc 48 16 W V rfl (Nat.le_refl _) hW hV he
  exact ⟨by unfold mixS; rw [this], this⟩
def wz : List Int32 := List.replicate 64 0
theorem wz_len : wz.length = 64 := by simp [wz]
/-- the blocks of X from at1 on, m of them -/
def bfo (X : List Int32) (S : List Int32) (at1 : Nat) : Nat → List Int32
  | 0 => S
  | m + 1 => bfo X (mixS S (ldF X at1 wz 0 16)) (at1 + 64) m
theorem ldF_w {X V W : List Int32} {at1 at2 : Nat} {Y : List Int32} (hW : W.length = 64) (hV : V.length = 64) (h : ∀ j, j < 16 → ldw X (at1 + 4 * j) = ldw Y (at2 + 4 * j)) : ∀ j, j < 16 → (ldF X at1 W 0 16).getD j 0 = (ldF Y at2 V 0 16).getD j 0 := by
  intro j hj
  rw [ldF_get 16 0 W j (by omega), ldF_get 16 0 V j (by omega), if_pos (by omega), if_pos (by omega), h j hj]
theorem mblk_bfo {X : List Int32} : ∀ (m at1 : Nat) (S W : List Int32), W.length = 64 → (mblk X (S, W) at1 m).1 = bfo X S at1 m
  | 0, _, _, _, _ => rfl
  | m + 1, at1, S, W, hW => by
    show (mblk X (mixS S (ldF X at1 W 0 16), wext (ldF X at1 W 0 16) 16 48) (at1 + 64) m).1 = bfo X (mixS S (ldF X at1 wz 0 16)) (at1 + 64) m
    rw [mblk_bfo m (at1 + 64) _ _ (by rw [wext_len, ldF_len]; exact hW)]
    rw [(mix_loc (S := S) (by rw [ldF_len]; exact hW) (by rw [ldF_len]; exact wz_len) (ldF_w (X := X) (Y := X) (at1 := at1) (at2 := at1) hW wz_len (fun _ _ => rfl))).1]
theorem bfo_congr {X Y : List Int32} : ∀ (m at1 at2 : Nat) (S : List Int32), (∀ j, j < 64 * m → X.getD (at1 + j) 0 = Y.getD (at2 + j) 0) → bfo X S at1 m = bfo Y S at2 m
  | 0, _, _, _, _ => rfl
  | m + 1, at1, at2, S, h => by
    have h1 : ∀ j, j < 16 → ldw X (at1 + 4 * j) = ldw Y (at2 + 4 * j) := by
      intro j hj
      unfold ldw
      rw [show at1 + 4 * j + 1 = at1 + (4 * j + 1) by omega, show at1 + 4 * j + 2 = at1 + (4 * j + 2) by omega, show at1 + 4 * j + 3 = at1 + (4 * j + 3) by omega, h (4 * j) (by omega), h (4 * j + 1) (by omega), h (4 * j + 2) (by omega), h (4 * j + 3) (by omega)]
      rfl
    show bfo X (mixS S (ldF X at1 wz 0 16)) (at1 + 64) m = bfo Y (mixS S (ldF Y at2 wz 0 16)) (at2 + 64) m
    rw [(mix_loc (S := S) (by rw [ldF_len]; exact wz_len) (by rw [ldF_len]; exact wz_len) (ldF_w wz_len wz_len h1)).1]
    exact bfo_congr m (at1 + 64) (at2 + 64) _ (fun j hj => by have := h (64 + j) (by omega); rw [show at1 + 64 + j = at1 + (64 + j) by omega, show at2 + 64 + j = at2 + (64 + j) by omega]; exact this)
/-! the class: four bytes make a word -/
def cmb (a b c d : Int32) : Int32 := (a &&& 255) <<< ((24 : Int32) &&& 31) ||| (b &&& 255) <<< ((16 : Int32) &&& 31) ||| (c &&& 255) <<< ((8 : Int32) &&& 31) ||| (d &&& 255)
theorem cmb_bits (w a b c d : BitVec 32) : (((((w <<< 8 ||| a) <<< 8 ||| b) <<< 8 ||| c) <<< 8 ||| d)) = a <<< 24 ||| b <<< 16 ||| c <<< 8 ||| d := by
  simp only [BitVec.shiftLeft_or_distrib, ← BitVec.shiftLeft_add, Nat.reduceAdd]
  rw [BitVec.shiftLeft_eq_zero (Nat.le_refl 32), BitVec.zero_or]
theorem cmb_ok (w a b c d : Int32) : (((((w <<< ((8 : Int32) &&& 31) ||| (a &&& 255)) <<< ((8 : Int32) &&& 31) ||| (b &&& 255)) <<< ((8 : Int32) &&& 31) ||| (c &&& 255)) <<< ((8 : Int32) &&& 31) ||| (d &&& 255))) = cmb a b c d := by
  apply Int32.toBitVec_inj.mp
  exact cmb_bits w.toBitVec (a &&& 255).toBitVec (b &&& 255).toBitVec (c &&& 255).toBitVec (d &&& 255).toBitVec
theorem hput4 {S W : List Int32} {n j : Nat} {a b c d : Int32} (hW1 : W.length = 64) (hn : n % 64 = 4 * j) (hj : j < 16) : hputs (S, W, n) [a, b, c, d] = if j = 15 then (mixS S (W.set j (cmb a b c d)), wext (W.set j (cmb a b c d)) 16 48, n + 4) else (S, W.set j (cmb a b c d), n + 4) := by
  have d0 : n % 64 / 4 = j := by omega
  have d1 : (n + 1) % 64 / 4 = j := by omega
  have d2 : (n + 1 + 1) % 64 / 4 = j := by omega
  have d3 : (n + 1 + 1 + 1) % 64 / 4 = j := by omega
  have e0 : hput (S, W, n) a = (S, hW W n a, n + 1) := by unfold hput; rw [if_neg (by show ¬ n % 64 = 63; omega)]
  have e1 : hput (S, hW W n a, n + 1) b = (S, hW (hW W n a) (n + 1) b, n + 1 + 1) := by unfold hput; rw [if_neg (by show ¬ (n + 1) % 64 = 63; omega)]
  have e2 : hput (S, hW (hW W n a) (n + 1) b, n + 1 + 1) c = (S, hW (hW (hW W n a) (n + 1) b) (n + 1 + 1) c, n + 1 + 1 + 1) := by unfold hput; rw [if_neg (by show ¬ (n + 1 + 1) % 64 = 63; omega)]
  have e3 : hW (hW (hW (hW W n a) (n + 1) b) (n + 1 + 1) c) (n + 1 + 1 + 1) d = W.set j (cmb a b c d) := by
    unfold hW
    rw [d0, d1, d2, d3]
    rw [gD_self (by first | omega | (simp only [List.length_set]; omega)), List.set_set, gD_self (by first | omega | (simp only [List.length_set]; omega)), List.set_set, gD_self (by first | omega | (simp only [List.length_set]; omega)), List.set_set, cmb_ok]
  show hput (hput (hput (hput (S, W, n) a) b) c) d = _
  rw [e0, e1, e2]
  unfold hput
  simp only [e3]
  by_cases q : j = 15
  · rw [if_pos (by omega), if_pos q]
  · rw [if_neg (by omega), if_neg q]
def ldG : List Int32 → Nat → List Int32 → List Int32
  | a :: b :: c :: d :: r, t, W => ldG r (t + 1) (W.set t (cmb a b c d))
  | _, _, W => W
theorem ldG_len : ∀ (m : Nat) (Y : List Int32) (t : Nat) (W : List Int32), Y.length = 4 * m → (ldG Y t W).length = W.length
  | 0, Y, t, W, h => by
    have : Y = [] := List.length_eq_zero_iff.mp (by omega)
    subst this
    rfl
  | m + 1, Y, t, W, h => by
    match Y, h with
    | a :: b :: c :: d :: r, h =>
      show (ldG r (t + 1) (W.set t (cmb a b c d))).length = _
      rw [ldG_len m r (t + 1) _ (by simp at h; omega), List.length_set]
theorem hputs_app {s : HS} {X Y : List Int32} : hputs s (X ++ Y) = hputs (hputs s X) Y := by simp [hputs, List.foldl_append]
theorem hblk : ∀ (m j : Nat) (S W Y : List Int32) (n : Nat), j + (m + 1) = 16 → Y.length = 4 * (m + 1) → n % 64 = 4 * j → W.length = 64 → hputs (S, W, n) Y = (mixS S (ldG Y j W), wext (ldG Y j W) 16 48, n + 4 * (m + 1))
  | 0, j, S, W, Y, n, hj, hY, hn, hWl => by
    match Y, hY with
    | [a, b, c, d], _ =>
      rw [hput4 hWl hn (by omega), if_pos (by omega)]
      rfl
  | m + 1, j, S, W, Y, n, hj, hY, hn, hWl => by
    match Y, hY with
    | a :: b :: c :: d :: r, hY =>
      show hputs (S, W, n) ([a, b, c, d] ++ r) = _
      rw [hputs_app, hput4 hWl hn (by omega), if_neg (by omega)]
      rw [hblk m (j + 1) S (W.set j (cmb a b c d)) r (n + 4) (by omega) (by simp at hY; omega) (by omega) (by rw [List.length_set]; exact hWl)]
      show (mixS S (ldG r (j + 1) (W.set j (cmb a b c d))), wext (ldG r (j + 1) (W.set j (cmb a b c d))) 16 48, n + 4 + 4 * (m + 1)) = _
      rw [show n + 4 + 4 * (m + 1) = n + 4 * (m + 1 + 1) by omega]
      rfl
theorem ldG_get : ∀ (m : Nat) (Y : List Int32) (t : Nat) (W : List Int32) (j : Nat), Y.length = 4 * m → t + m ≤ W.length → (ldG Y t W).getD j 0 = if t ≤ j ∧ j < t + m then ldw (Y.map (· &&& 255)) (4 * (j - t)) else W.getD j 0
  | 0, Y, t, W, j, h, _ => by
    have : Y = [] := List.length_eq_zero_iff.mp (by omega)
    subst this
    rw [if_neg (by omega)]
    rfl
  | m + 1, Y, t, W, j, h, hl => by
    match Y, h with
    | a :: b :: c :: d :: r, h =>
      show (ldG r (t + 1) (W.set t (cmb a b c d))).getD j 0 = _
      rw [ldG_get m r (t + 1) _ j (by simp at h; omega) (by rw [List.length_set]; omega)]
      by_cases e : t = j
      · subst e
        rw [if_neg (by omega), if_pos (by omega), gD_self (by omega), Nat.sub_self]
        rfl
      · rw [gD_ne e]
        by_cases q : t + 1 ≤ j ∧ j < t + 1 + m
        · rw [if_pos q, if_pos (by omega), show 4 * (j - t) = 4 * (j - (t + 1)) + 4 by omega]
          rfl
        · rw [if_neg q, if_neg (by omega)]
/-- whole blocks -/
theorem hblks : ∀ (m : Nat) (S W Y : List Int32) (n : Nat), Y.length = 64 * m → n % 64 = 0 → W.length = 64 → (hputs (S, W, n) Y).1 = bfo (Y.map (· &&& 255)) S 0 m
  | 0, S, W, Y, n, hY, hn, hWl => by
    have : Y = [] := List.length_eq_zero_iff.mp (by omega)
    subst this
    rfl
  | m + 1, S, W, Y, n, hY, hn, hWl => by
    rw [← List.take_append_drop 64 Y, hputs_app]
    have l1 : (Y.take 64).length = 4 * (15 + 1) := by rw [List.length_take]; omega
    rw [hblk 15 0 S W (Y.take 64) n rfl l1 (by omega) hWl]
    rw [hblks m _ _ (Y.drop 64) _ (by rw [List.length_drop]; omega) (by omega) (by rw [wext_len, ldG_len 16 _ _ _ l1]; exact hWl)]
    show _ = bfo ((Y.take 64 ++ Y.drop 64).map (· &&& 255)) (mixS S (ldF ((Y.take 64 ++ Y.drop 64).map (· &&& 255)) 0 wz 0 16)) (0 + 64) m
    rw [List.take_append_drop]
    have e1 : mixS S (ldG (Y.take 64) 0 W) = mixS S (ldF (Y.map (· &&& 255)) 0 wz 0 16) := by
      refine (mix_loc (by rw [ldG_len 16 _ _ _ l1]; exact hWl) (by rw [ldF_len]; exact wz_len) ?_).1
      intro j hj
      rw [ldG_get 16 _ 0 W j l1 (by omega), if_pos (by omega), ldF_get 16 0 wz j (by rw [wz_len]; omega), if_pos (by omega)]
      have g : ∀ i, i < 64 → ((Y.take 64).map (· &&& 255)).getD i 0 = (Y.map (· &&& 255)).getD i 0 := by
        intro i hi
        rw [List.getD_eq_getElem?_getD, List.getD_eq_getElem?_getD, List.getElem?_map, List.getElem?_map, List.getElem?_take_of_lt hi]
      unfold ldw
      rw [show 4 * (j - 0) = 4 * j by omega, show 0 + 4 * j = 4 * j by omega, g _ (by omega), g _ (by omega), g _ (by omega), g _ (by omega)]
    rw [e1]
    refine bfo_congr m 0 (0 + 64) _ ?_
    intro j hj
    rw [List.getD_eq_getElem?_getD, List.getD_eq_getElem?_getD, List.getElem?_map, List.getElem?_map, List.getElem?_drop, Nat.zero_add, Nat.zero_add]
/-! padding -/
def pzn (n : Nat) : Nat := (120 - n % 64) % 64
theorem padz_eq : ∀ (m : Nat) (s : HS), hok s → pzn s.2.2 ≤ m → padz m s = hputs s (List.replicate (pzn s.2.2) 0)
  | 0, s, ho, h => by
    have : pzn s.2.2 = 0 := by omega
    rw [this]
    rfl
  | m + 1, s, ho, h => by
    rw [padz]
    by_cases e : s.2.2 % 64 = 56
    · rw [if_pos e]
      have : pzn s.2.2 = 0 := by unfold pzn; omega
      rw [this]
      rfl
    · rw [if_neg e]
      have h2 := (hput_len (v := 0) ho.1 ho.2).2.2
      have h3 : pzn s.2.2 = pzn (s.2.2 + 1) + 1 := by unfold pzn; omega
      rw [padz_eq m _ (hput_ok ho) (by rw [h2]; omega), h2, h3]
      rfl
theorem mpad_eq : ∀ (m : Nat) (bs : List Int32), pzn bs.length ≤ m → mpad bs m = bs ++ List.replicate (pzn bs.length) 0
  | 0, bs, h => by
    have : pzn bs.length = 0 := by omega
    rw [this]
    simp [mpad]
  | m + 1, bs, h => by
    rw [mpad]
    by_cases e : bs.length % 64 = 56
    · rw [if_pos e]
      have : pzn bs.length = 0 := by unfold pzn; omega
      rw [this]
      simp
    · rw [if_neg e]
      have h2 : (bs ++ [(0 : Int32) &&& 255]).length = bs.length + 1 := by simp
      have h3 : pzn bs.length = pzn (bs.length + 1) + 1 := by unfold pzn; omega
      rw [mpad_eq m _ (by rw [h2]; omega), h2, h3, List.replicate_succ]
      simp
/-- the bytes that tell the length -/
def lnb (n : Nat) : List Int32 := [0, 0, 0, 0, sh32 (nI (8 * n)) 24 &&& 255, sh32 (nI (8 * n)) 16 &&& 255, sh32 (nI (8 * n)) 8 &&& 255, sh32 (nI (8 * n)) 0 &&& 255]
def padd1 (bs : List Int32) : List Int32 := bs ++ [128] ++ List.replicate (pzn (bs.length + 1)) 0 ++ lnb bs.length
theorem padd1_len {bs : List Int32} : (padd1 bs).length = 64 * ((bs.length + 72) / 64) := by
  simp only [padd1, List.length_append, List.length_replicate, List.length_cons, List.length_nil, lnb, pzn]
  omega
/-- SHA-256 of bytes -/
def sha (bs : List Int32) : List Int32 := dg (bfo (padd1 bs) sx_0 0 ((bs.length + 72) / 64))
theorem sha_len {bs : List Int32} : (sha bs).length = 32 := dg_len
set_option maxRecDepth 100000 in
theorem lnb_ok : ∀ n, n < 512 → [sh64 (hbits n) 56 &&& 255, sh64 (hbits n) 48 &&& 255, sh64 (hbits n) 40 &&& 255, sh64 (hbits n) 32 &&& 255, sh64 (hbits n) 24 &&& 255, sh64 (hbits n) 16 &&& 255, sh64 (hbits n) 8 &&& 255, sh64 (hbits n) 0 &&& 255] = lnb n := by decide +kernel
theorem map_rep (k : Nat) : (List.replicate k (0 : Int32)).map (· &&& 255) = List.replicate k 0 := by rw [List.map_replicate]; rfl
/-- the class's end gives that digest -/
theorem hend_sha {W bs : List Int32} (hWl : W.length = 64) (hb : bs.length < 512) : dg (hend (hputs (sx_0, W, 0) bs)).1 = sha (bs.map (· &&& 255)) := by
  have h0 : sx_0.length = 8 := by decide
  have hl := hputs_len bs (sx_0, W, 0) h0 hWl
  have ho : hok (hputs (sx_0, W, 0) bs) := ⟨hl.1, hl.2.1⟩
  have hn : (hputs (sx_0, W, 0) bs).2.2 = bs.length := by rw [hl.2.2]; simp
  have e1 : hput (hputs (sx_0, W, 0) bs) 128 = hputs (sx_0, W, 0) (bs ++ [128]) := by rw [hputs_app]; rfl
  have l1 := hputs_len (bs ++ [128]) (sx_0, W, 0) h0 hWl
  have n1 : (hputs (sx_0, W, 0) (bs ++ [128])).2.2 = bs.length + 1 := by rw [l1.2.2]; simp
  have ho1 : hok (hputs (sx_0, W, 0) (bs ++ [128])) := ⟨l1.1, l1.2.1⟩
  unfold hend
  rw [e1, padz_eq 64 _ ho1 (by unfold pzn; omega), n1, hn, ← hputs_app, ← hputs_app]
  rw [hblks ((bs.length + 72) / 64) sx_0 W _ 0 (by simp only [List.length_append, List.length_replicate, List.length_cons, List.length_nil, pzn]; omega) rfl hWl]
  unfold sha
  rw [List.length_map]
  congr 2
  rw [List.map_append, List.map_append, List.map_append, map_rep]
  unfold padd1
  rw [List.length_map, ← lnb_ok bs.length hb]
  simp only [List.append_assoc, List.map_cons, List.map_nil]
  rfl
