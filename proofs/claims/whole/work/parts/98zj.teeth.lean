/-! The teeth of the comb: 2^64 times, 2^128 times, 2^192 times the base point -/
theorem zp_nmod {a b : Nat} (h : a % pP = b % pP) : zp ((a : Int) - b) := by
  have h1 := zp_md (a : Int)
  have h2 := zp_md (b : Int)
  have e : ((a : Int) % pP) = (b : Int) % pP := by rw [← Int.natCast_emod, ← Int.natCast_emod, h]
  exact zp2 (u := -1) (v := 1) h1 h2 (by rw [e]; grind)
theorem tooth {e X Y : Nat} (h0 : 0 < e) (h1 : e < nN) (hX : X < pP) (hY : Y < pP) (k1 : (nmk gN e 256 (0, 1, 0)).1 % pP = X * (nmk gN e 256 (0, 1, 0)).2.2 % pP) (k2 : (nmk gN e 256 (0, 1, 0)).2.1 % pP = Y * (nmk gN e 256 (0, 1, 0)).2.2 % pP) : pmul e Gpt = some ((X : Int), (Y : Int)) := by
  have he : e < 2 ^ 256 := by have := nN_lt; omega
  have r0 : rep (ctr (0, 1, 0)) (pmul (e / 2 ^ 256) Gpt) := by
    rw [Nat.div_eq_of_lt he]
    exact n0_rep
  have r1 := nmk_ok (e := e) Gpt_v gN_rep 256 (0, 1, 0) r0
  have hn := kG_some h0 h1
  have hv := Gm_v e
  generalize nmk gN e 256 (0, 1, 0) = T at *
  generalize pmul e Gpt = P at *
  cases P with
  | none => exact absurd rfl hn
  | some w =>
    obtain ⟨x, y⟩ := w
    obtain ⟨z0, z1, z2⟩ := r1
    obtain ⟨v1, v2, v3, v4, -⟩ := hv
    have c1 := zp_nmod k1
    have c2 := zp_nmod k2
    rw [Int.natCast_mul] at c1 c2
    have z0 : ¬ zp ((T.2.2 : Nat) : Int) := z0
    have z1 : zp (((T.1 : Nat) : Int) - x * ((T.2.2 : Nat) : Int)) := z1
    have z2 : zp (((T.2.1 : Nat) : Int) - y * ((T.2.2 : Nat) : Int)) := z2
    have d1 : zp (((T.2.2 : Nat) : Int) * (x - (X : Int))) := zp2 (u := -1) (v := 1) z1 c1 (by grind)
    have d2 : zp (((T.2.2 : Nat) : Int) * (y - (Y : Int))) := zp2 (u := -1) (v := 1) z2 c2 (by grind)
    have q1 := zp_eq v1 v2 (by omega) (by omega) (zp_cancel z0 d1)
    have q2 := zp_eq v3 v4 (by omega) (by omega) (zp_cancel z0 d2)
    rw [q1, q2]
set_option maxRecDepth 100000 in
theorem tooth1 : pmul (2 ^ 64) Gpt = some (((7081762767697287976009771493310263771290289599581147299482766892475312560995 : Nat) : Int), ((86823381773038968119624426030239743822549553315161612703449942820586000887527 : Nat) : Int)) := tooth (by decide) (by decide) (by decide) (by decide) (by decide +kernel) (by decide +kernel)
set_option maxRecDepth 100000 in
theorem tooth2 : pmul (2 ^ 128) Gpt = some (((30978927491535595270285342502287618780579786685182435011955893029189825707397 : Nat) : Int), ((20481551163499472379222416201371726725754635744576161296521936142531318405938 : Nat) : Int)) := tooth (by decide) (by decide) (by decide) (by decide) (by decide +kernel) (by decide +kernel)
set_option maxRecDepth 100000 in
theorem tooth3 : pmul (2 ^ 192) Gpt = some (((75457776083317821252662798697757590755920885718289763058263534551782236039358 : Nat) : Int), ((46728718496393669138731607516029863508010621830530871863089645384465424840180 : Nat) : Int)) := tooth (by decide) (by decide) (by decide) (by decide) (by decide +kernel) (by decide +kernel)
