/-! primes -/
def prm (n : Nat) : Prop := 2 ≤ n ∧ ∀ d, d ∣ n → d = 1 ∨ d = n
theorem prm_cop {p a : Nat} (hp : prm p) (h : ¬ p ∣ a) : Nat.Coprime p a := by
  rcases hp.2 (Nat.gcd p a) (Nat.gcd_dvd_left p a) with q | q
  · exact q
  · have := Nat.gcd_dvd_right p a
    rw [q] at this
    exact absurd this h
theorem prm_mul {p a b : Nat} (hp : prm p) (h : p ∣ a * b) : p ∣ a ∨ p ∣ b := by
  by_cases ha : p ∣ a
  · exact Or.inl ha
  · exact Or.inr ((prm_cop hp ha).dvd_of_dvd_mul_left h)
theorem prm_not {n : Nat} (h2 : 2 ≤ n) (hp : ¬ prm n) : ∃ d, d ∣ n ∧ d ≠ 1 ∧ d ≠ n := by
  apply Classical.byContradiction
  intro hc
  apply hp
  refine ⟨h2, fun d hd => ?_⟩
  by_cases h1 : d = 1
  · exact Or.inl h1
  · by_cases hn : d = n
    · exact Or.inr hn
    · exact absurd ⟨d, hd, h1, hn⟩ hc
theorem prm_ex : ∀ n : Nat, 2 ≤ n → ∃ r, prm r ∧ r ∣ n := by
  intro n
  induction n using Nat.strongRecOn with
  | ind n ih =>
    intro h2
    by_cases hp : prm n
    · exact ⟨n, hp, Nat.dvd_refl n⟩
    · obtain ⟨d, hd, h1, hn⟩ := prm_not h2 hp
      have hdn : d ≤ n := Nat.le_of_dvd (by omega) hd
      have hd0 : d ≠ 0 := by
        intro e
        subst e
        have := Nat.eq_zero_of_zero_dvd hd
        omega
      obtain ⟨r, hr, hrd⟩ := ih d (by omega) (by omega)
      exact ⟨r, hr, Nat.dvd_trans hrd hd⟩
theorem prm_sq {n : Nat} (h2 : 2 ≤ n) (hp : ¬ prm n) : ∃ r, prm r ∧ r ∣ n ∧ r * r ≤ n := by
  obtain ⟨d, ⟨e, he⟩, h1, hn⟩ := prm_not h2 hp
  have hd0 : d ≠ 0 := by intro q; subst q; omega
  have he0 : e ≠ 0 := by intro q; subst q; omega
  have he1 : e ≠ 1 := by intro q; subst q; omega
  by_cases hde : d ≤ e
  · obtain ⟨r, hr, hrd⟩ := prm_ex d (by omega)
    have hle : r ≤ d := Nat.le_of_dvd (by omega) hrd
    exact ⟨r, hr, Nat.dvd_trans hrd ⟨e, he⟩, by rw [he]; exact Nat.mul_le_mul hle (by omega)⟩
  · obtain ⟨r, hr, hrd⟩ := prm_ex e (by omega)
    have hle : r ≤ e := Nat.le_of_dvd (by omega) hrd
    exact ⟨r, hr, Nat.dvd_trans hrd ⟨d, by rw [he, Nat.mul_comm]⟩, by rw [he]; exact Nat.mul_le_mul (by omega) hle⟩
/-! Fermat -/
def lpr : List Nat → Nat
  | [] => 1
  | x :: t => x * lpr t
theorem lpr_erase : ∀ (l : List Nat) (x : Nat), x ∈ l → lpr l = x * lpr (l.erase x)
  | [], x, h => by simp at h
  | y :: t, x, h => by
    by_cases e : y = x
    · subst e
      rw [List.erase_cons_head]
      rfl
    · rw [List.erase_cons_tail (by simpa using e)]
      have hx : x ∈ t := by
        rcases List.mem_cons.mp h with q | q
        · exact absurd q.symm e
        · exact q
      show y * lpr t = x * (y * lpr (t.erase x))
      rw [lpr_erase t x hx, Nat.mul_left_comm]
theorem lpr_eq : ∀ (l m : List Nat), l.Nodup → (∀ x ∈ l, x ∈ m) → m.length ≤ l.length → lpr l = lpr m
  | [], m, _, _, h => by
    have : m = [] := List.length_eq_zero_iff.mp (by simpa using h)
    rw [this]
  | x :: t, m, hn, hs, hl => by
    have hx := hs x (by simp)
    rw [lpr_erase m x hx]
    show x * lpr t = _
    rw [lpr_eq t (m.erase x) (List.nodup_cons.mp hn).2 ?_ ?_]
    · intro y hy
      have : y ≠ x := by
        intro q
        subst q
        exact (List.nodup_cons.mp hn).1 hy
      exact (List.mem_erase_of_ne this).mpr (hs y (by simp [hy]))
    · rw [List.length_erase_of_mem hx]
      simp at hl
      omega
def upto : Nat → List Nat
  | 0 => []
  | n + 1 => (n + 1) :: upto n
theorem mem_upto : ∀ {n x : Nat}, x ∈ upto n ↔ 1 ≤ x ∧ x ≤ n
  | 0, x => by simp [upto]; omega
  | n + 1, x => by simp only [upto, List.mem_cons, mem_upto (n := n)]; omega
theorem len_upto : ∀ n : Nat, (upto n).length = n
  | 0 => rfl
  | n + 1 => by simp only [upto, List.length_cons, len_upto n]
theorem flt_inj {p a i j : Nat} (hp : prm p) (ha : ¬ p ∣ a) (hij : i ≤ j) (hj : j < p) (h : a * j % p = a * i % p) : i = j := by
  have h1 := Nat.sub_mod_eq_zero_of_mod_eq h
  rw [← Nat.mul_sub] at h1
  rcases prm_mul hp (Nat.dvd_of_mod_eq_zero h1) with q | q
  · exact absurd q ha
  · by_cases e : j - i = 0
    · omega
    · have := Nat.le_of_dvd (by omega) q
      omega
theorem flt_nodup {p a : Nat} (hp : prm p) (ha : ¬ p ∣ a) : ∀ n, n < p → ((upto n).map (fun i => a * i % p)).Nodup
  | 0, _ => by simp [upto]
  | n + 1, h => by
    simp only [upto, List.map_cons, List.nodup_cons]
    refine ⟨?_, flt_nodup hp ha n (by omega)⟩
    intro q
    obtain ⟨i, hi, he⟩ := List.mem_map.mp q
    have h1 := mem_upto.mp hi
    have := flt_inj hp ha (i := i) (j := n + 1) (by omega) h he.symm
    omega
theorem flt_prod {p a : Nat} : ∀ l : List Nat, lpr (l.map (fun i => a * i % p)) % p = a ^ l.length * lpr l % p
  | [] => by simp [lpr]
  | x :: t => by
    simp only [List.map_cons, lpr, List.length_cons]
    rw [Nat.mul_mod, flt_prod t, Nat.mod_mod, ← Nat.mul_mod]
    congr 1
    rw [Nat.pow_succ]
    simp only [Nat.mul_comm, Nat.mul_left_comm, Nat.mul_assoc]
theorem flt_cop {p : Nat} (hp : prm p) : ∀ n, n < p → ¬ p ∣ lpr (upto n)
  | 0, _ => by
    intro q
    have := Nat.le_of_dvd (by decide) q
    have := hp.1
    simp [upto, lpr] at *
    omega
  | n + 1, h => by
    intro q
    rcases prm_mul hp q with r | r
    · have := Nat.le_of_dvd (by omega) r
      omega
    · exact flt_cop hp n (by omega) r
theorem flt {p a : Nat} (hp : prm p) (ha : ¬ p ∣ a) : a ^ (p - 1) % p = 1 := by
  have h2 := hp.1
  have h1 : lpr ((upto (p - 1)).map (fun i => a * i % p)) = lpr (upto (p - 1)) := by
    apply lpr_eq _ _ (flt_nodup hp ha (p - 1) (by omega))
    · intro x hx
      obtain ⟨i, hi, rfl⟩ := List.mem_map.mp hx
      have h3 := mem_upto.mp hi
      have h4 : a * i % p < p := Nat.mod_lt _ (by omega)
      have h5 : a * i % p ≠ 0 := by
        intro q
        rcases prm_mul hp (Nat.dvd_of_mod_eq_zero q) with r | r
        · exact ha r
        · have := Nat.le_of_dvd (by omega) r
          omega
      exact mem_upto.mpr (by omega)
    · rw [List.length_map]
      exact Nat.le_refl _
  have h3 := flt_prod (p := p) (a := a) (upto (p - 1))
  rw [h1, len_upto] at h3
  have h4 := Nat.sub_mod_eq_zero_of_mod_eq h3.symm
  have h5 : a ^ (p - 1) * lpr (upto (p - 1)) - lpr (upto (p - 1)) = (a ^ (p - 1) - 1) * lpr (upto (p - 1)) := by
    rw [Nat.sub_mul, Nat.one_mul]
  rw [h5] at h4
  rcases prm_mul hp (Nat.dvd_of_mod_eq_zero h4) with r | r
  · obtain ⟨k, hk⟩ := r
    have ha0 : 0 < a := by
      rcases Nat.eq_zero_or_pos a with q | q
      · subst q
        exact absurd (Nat.dvd_zero p) ha
      · exact q
    have h6 : 0 < a ^ (p - 1) := Nat.pow_pos ha0
    have h7 : a ^ (p - 1) = 1 + p * k := by omega
    rw [h7, Nat.add_mul_mod_self_left]
    exact Nat.mod_eq_of_lt (by omega)
  · exact absurd r (flt_cop hp (p - 1) (by omega))
/-! Pocklington -/
theorem pw_gcd {r b : Nat} (hr : 2 ≤ r) : ∀ m n, b ^ m % r = 1 → b ^ n % r = 1 → b ^ (Nat.gcd m n) % r = 1 := by
  intro m n
  induction m, n using Nat.gcd.induction with
  | H0 n =>
    intro _ h
    rwa [Nat.gcd_zero_left]
  | H1 m n hm ih =>
    intro h1 h2
    rw [Nat.gcd_rec]
    refine ih ?_ h1
    have h3 : b ^ n = (b ^ m) ^ (n / m) * b ^ (n % m) := by rw [← Nat.pow_mul, ← Nat.pow_add, Nat.div_add_mod]
    rw [h3, Nat.mul_mod, Nat.pow_mod, h1, Nat.one_pow, Nat.mod_eq_of_lt (show 1 < r by omega), Nat.one_mul, Nat.mod_mod] at h2
    exact h2
theorem dvd_pw {r x q : Nat} (hq : q ≠ 0) (h : r ∣ x) : r ∣ x ^ q := by
  cases q with
  | zero => exact absurd rfl hq
  | succ q =>
    rw [Nat.pow_succ]
    exact Nat.dvd_trans h (Nat.dvd_mul_left _ _)
theorem pock1 {N r q a : Nat} (hr : prm r) (hrN : r ∣ N) (hN : 2 ≤ N) (hq : prm q) (hd : q ∣ N - 1) (h1 : a ^ (N - 1) % N = 1) (hg : Nat.gcd (a ^ ((N - 1) / q) % N + (N - 1)) N = 1) : q ∣ r - 1 := by
  have hr2 := hr.1
  have e1 : (a ^ ((N - 1) / q)) ^ q = a ^ (N - 1) := by rw [← Nat.pow_mul, Nat.div_mul_cancel hd]
  have e2 : (a ^ ((N - 1) / q)) ^ q % r = 1 := by
    rw [e1, ← Nat.mod_mod_of_dvd _ hrN, h1]
    exact Nat.mod_eq_of_lt (by omega)
  have e3 : ¬ r ∣ a ^ ((N - 1) / q) := by
    intro h
    have hq0 : q ≠ 0 := by have := hq.1; omega
    have : r ∣ (a ^ ((N - 1) / q)) ^ q := dvd_pw hq0 h
    rw [Nat.mod_eq_zero_of_dvd this] at e2
    omega
  have e4 := pw_gcd hr2 _ _ e2 (flt hr e3)
  rcases hq.2 _ (Nat.gcd_dvd_left q (r - 1)) with g | g
  · rw [g, Nat.pow_one] at e4
    exfalso
    have e5 : r ∣ a ^ ((N - 1) / q) % N + (N - 1) := by
      obtain ⟨k, hk⟩ := hrN
      have hk0 : k ≠ 0 := by
        intro q
        subst q
        omega
      apply Nat.dvd_of_mod_eq_zero
      have e6 : a ^ ((N - 1) / q) % N % r = 1 := by rw [Nat.mod_mod_of_dvd _ ⟨k, hk⟩]; exact e4
      have e7 : a ^ ((N - 1) / q) % N = 1 + r * (a ^ ((N - 1) / q) % N / r) := by
        have := Nat.mod_add_div (a ^ ((N - 1) / q) % N) r
        omega
      rw [e7]
      have e8 : 1 + r * (a ^ ((N - 1) / q) % N / r) + (N - 1) = r * (a ^ ((N - 1) / q) % N / r + k) := by
        rw [Nat.mul_add, ← hk]
        omega
      rw [e8]
      exact Nat.mul_mod_right _ _
    have := Nat.dvd_gcd e5 hrN
    rw [hg] at this
    have := Nat.le_of_dvd (by omega) this
    omega
  · have := Nat.gcd_dvd_right q (r - 1)
    rw [g] at this
    exact this
theorem pock {N q a : Nat} (hN : 2 ≤ N) (hq : prm q) (hd : q ∣ N - 1) (hb : N < q * q) (h1 : a ^ (N - 1) % N = 1) (hg : Nat.gcd (a ^ ((N - 1) / q) % N + (N - 1)) N = 1) : prm N := by
  apply Classical.byContradiction
  intro hn
  obtain ⟨r, hr, hrN, hrr⟩ := prm_sq hN hn
  have h := pock1 hr hrN hN hq hd h1 hg
  have hr2 := hr.1
  have h3 := Nat.le_of_dvd (by omega) h
  have : q * q ≤ r * r := Nat.mul_le_mul (by omega) (by omega)
  omega
theorem pock2 {N q s a : Nat} (hN : 2 ≤ N) (hq : prm q) (hs : prm s) (hqs : ¬ q ∣ s) (hd : q ∣ N - 1) (hd2 : s ∣ N - 1) (hb : N < q * s * (q * s)) (h1 : a ^ (N - 1) % N = 1) (hg : Nat.gcd (a ^ ((N - 1) / q) % N + (N - 1)) N = 1) (hg2 : Nat.gcd (a ^ ((N - 1) / s) % N + (N - 1)) N = 1) : prm N := by
  apply Classical.byContradiction
  intro hn
  obtain ⟨r, hr, hrN, hrr⟩ := prm_sq hN hn
  have h := (prm_cop hq hqs).mul_dvd_of_dvd_of_dvd (pock1 hr hrN hN hq hd h1 hg) (pock1 hr hrN hN hs hd2 h1 hg2)
  have hr2 := hr.1
  have h3 := Nat.le_of_dvd (by omega) h
  have : q * s * (q * s) ≤ r * r := Nat.mul_le_mul (by omega) (by omega)
  omega
/-! powers that the kernel can take -/
def pwm (m : Nat) : Nat → Nat → Nat → Nat → Nat
  | 0, acc, _, _ => acc
  | k + 1, acc, a, e => pwm m k (acc * a ^ (e % 2) % m) (a * a % m) (e / 2)
theorem pwm_ok {m : Nat} : ∀ k acc a e, e < 2 ^ k → acc % m = acc → pwm m k acc a e = acc * a ^ e % m
  | 0, acc, a, e, he, ha => by
    have : e = 0 := by
      rw [Nat.pow_zero] at he
      omega
    subst this
    simp [pwm, ha]
  | k + 1, acc, a, e, he, ha => by
    show pwm m k _ _ _ = _
    rw [pwm_ok k _ _ _ (by rw [Nat.pow_succ] at he; omega) (Nat.mod_mod _ _)]
    rw [Nat.mul_mod, Nat.mod_mod, Nat.pow_mod, Nat.mod_mod, ← Nat.pow_mod, ← Nat.mul_mod, Nat.mul_assoc, ← Nat.pow_two, ← Nat.pow_mul, ← Nat.pow_add]
    rw [show e % 2 + 2 * (e / 2) = e by omega]
theorem pwm_1 {m k a e : Nat} (hm : 2 ≤ m) (he : e < 2 ^ k) : a ^ e % m = pwm m k 1 a e := by
  rw [pwm_ok k 1 a e he (Nat.mod_eq_of_lt (by omega)), Nat.one_mul]
/-- no divisor among d, d + 1 .. (k of them) -/
def tdv (n : Nat) : Nat → Nat → Bool
  | 0, _ => true
  | k + 1, d => Nat.ble 1 (n % d) && tdv n k (d + 1)
theorem tdv_ok {n : Nat} : ∀ k d, tdv n k d = true → ∀ e, d ≤ e → e < d + k → ¬ e ∣ n
  | 0, d, _, e, h1, h2 => by omega
  | k + 1, d, h, e, h1, h2 => by
    simp only [tdv, Bool.and_eq_true] at h
    by_cases q : e = d
    · subst q
      intro hd
      rw [Nat.mod_eq_zero_of_dvd hd] at h
      simp at h
    · exact tdv_ok k (d + 1) h.2 e (by omega) (by omega)
theorem tdv_prm {n k : Nat} (h2 : 2 ≤ n) (hk : n < (k + 2) * (k + 2)) (h : tdv n k 2 = true) : prm n := by
  apply Classical.byContradiction
  intro hn
  obtain ⟨r, hr, hrN, hrr⟩ := prm_sq h2 hn
  have hr2 := hr.1
  by_cases q : r < 2 + k
  · exact tdv_ok k 2 h r hr2 q hrN
  · have : (k + 2) * (k + 2) ≤ r * r := Nat.mul_le_mul (by omega) (by omega)
    omega
theorem prm_3677 : prm 3677 := tdv_prm (k := 59) (by decide) (by decide +kernel) (by decide +kernel)
theorem prm_173 : prm 173 := tdv_prm (k := 12) (by decide) (by decide +kernel) (by decide +kernel)
theorem prm_66417393611 : prm 66417393611 := pock2 (q := 3677) (s := 173) (a := 2) (by decide +kernel) prm_3677 prm_173 (by decide +kernel) (by decide +kernel) (by decide +kernel) (by decide +kernel) (by rw [pwm_1 (k := 36) (by decide +kernel) (by decide +kernel)]; decide +kernel) (by rw [pwm_1 (k := 36) (by decide +kernel) (by decide +kernel)]; decide +kernel) (by rw [pwm_1 (k := 36) (by decide +kernel) (by decide +kernel)]; decide +kernel)
theorem prm_11290956913871 : prm 11290956913871 := pock (q := 66417393611) (a := 2) (by decide +kernel) prm_66417393611 (by decide +kernel) (by decide +kernel) (by rw [pwm_1 (k := 44) (by decide +kernel) (by decide +kernel)]; decide +kernel) (by rw [pwm_1 (k := 44) (by decide +kernel) (by decide +kernel)]; decide +kernel)
theorem prm_3769 : prm 3769 := tdv_prm (k := 60) (by decide) (by decide +kernel) (by decide +kernel)
theorem prm_11 : prm 11 := tdv_prm (k := 2) (by decide) (by decide +kernel) (by decide +kernel)
theorem prm_204061199 : prm 204061199 := pock2 (q := 3769) (s := 11) (a := 3) (by decide +kernel) prm_3769 prm_11 (by decide +kernel) (by decide +kernel) (by decide +kernel) (by decide +kernel) (by rw [pwm_1 (k := 28) (by decide +kernel) (by decide +kernel)]; decide +kernel) (by rw [pwm_1 (k := 28) (by decide +kernel) (by decide +kernel)]; decide +kernel) (by rw [pwm_1 (k := 28) (by decide +kernel) (by decide +kernel)]; decide +kernel)
theorem prm_34282281433 : prm 34282281433 := pock (q := 204061199) (a := 2) (by decide +kernel) prm_204061199 (by decide +kernel) (by decide +kernel) (by rw [pwm_1 (k := 35) (by decide +kernel) (by decide +kernel)]; decide +kernel) (by rw [pwm_1 (k := 35) (by decide +kernel) (by decide +kernel)]; decide +kernel)
theorem prm_774023187263532362759620327192479577272145303 : prm 774023187263532362759620327192479577272145303 := pock2 (q := 11290956913871) (s := 34282281433) (a := 2) (by decide +kernel) prm_11290956913871 prm_34282281433 (by decide +kernel) (by decide +kernel) (by decide +kernel) (by decide +kernel) (by rw [pwm_1 (k := 150) (by decide +kernel) (by decide +kernel)]; decide +kernel) (by rw [pwm_1 (k := 150) (by decide +kernel) (by decide +kernel)]; decide +kernel) (by rw [pwm_1 (k := 150) (by decide +kernel) (by decide +kernel)]; decide +kernel)
theorem prm_835945042244614951780389953367877943453916927241 : prm 835945042244614951780389953367877943453916927241 := pock (q := 774023187263532362759620327192479577272145303) (a := 2) (by decide +kernel) prm_774023187263532362759620327192479577272145303 (by decide +kernel) (by decide +kernel) (by rw [pwm_1 (k := 160) (by decide +kernel) (by decide +kernel)]; decide +kernel) (by rw [pwm_1 (k := 160) (by decide +kernel) (by decide +kernel)]; decide +kernel)
theorem prm_115792089210356248762697446949407573530086143415290314195533631308867097853951 : prm 115792089210356248762697446949407573530086143415290314195533631308867097853951 := pock (q := 835945042244614951780389953367877943453916927241) (a := 2) (by decide +kernel) prm_835945042244614951780389953367877943453916927241 (by decide +kernel) (by decide +kernel) (by rw [pwm_1 (k := 256) (by decide +kernel) (by decide +kernel)]; decide +kernel) (by rw [pwm_1 (k := 256) (by decide +kernel) (by decide +kernel)]; decide +kernel)
theorem prm_155317 : prm 155317 := tdv_prm (k := 393) (by decide) (by decide +kernel) (by decide +kernel)
theorem prm_191039911 : prm 191039911 := pock (q := 155317) (a := 2) (by decide +kernel) prm_155317 (by decide +kernel) (by decide +kernel) (by rw [pwm_1 (k := 28) (by decide +kernel) (by decide +kernel)]; decide +kernel) (by rw [pwm_1 (k := 28) (by decide +kernel) (by decide +kernel)]; decide +kernel)
theorem prm_3 : prm 3 := tdv_prm (k := 0) (by decide) (by decide +kernel) (by decide +kernel)
theorem prm_208150935158385979 : prm 208150935158385979 := pock2 (q := 191039911) (s := 3) (a := 2) (by decide +kernel) prm_191039911 prm_3 (by decide +kernel) (by decide +kernel) (by decide +kernel) (by decide +kernel) (by rw [pwm_1 (k := 58) (by decide +kernel) (by decide +kernel)]; decide +kernel) (by rw [pwm_1 (k := 58) (by decide +kernel) (by decide +kernel)]; decide +kernel) (by rw [pwm_1 (k := 58) (by decide +kernel) (by decide +kernel)]; decide +kernel)
theorem prm_2624747550333869278416773953 : prm 2624747550333869278416773953 := pock (q := 208150935158385979) (a := 2) (by decide +kernel) prm_208150935158385979 (by decide +kernel) (by decide +kernel) (by rw [pwm_1 (k := 92) (by decide +kernel) (by decide +kernel)]; decide +kernel) (by rw [pwm_1 (k := 92) (by decide +kernel) (by decide +kernel)]; decide +kernel)
theorem prm_104471 : prm 104471 := tdv_prm (k := 322) (by decide) (by decide +kernel) (by decide +kernel)
theorem prm_3969899 : prm 3969899 := pock (q := 104471) (a := 2) (by decide +kernel) prm_104471 (by decide +kernel) (by decide +kernel) (by rw [pwm_1 (k := 22) (by decide +kernel) (by decide +kernel)]; decide +kernel) (by rw [pwm_1 (k := 22) (by decide +kernel) (by decide +kernel)]; decide +kernel)
theorem prm_1002328039319 : prm 1002328039319 := pock (q := 3969899) (a := 2) (by decide +kernel) prm_3969899 (by decide +kernel) (by decide +kernel) (by rw [pwm_1 (k := 40) (by decide +kernel) (by decide +kernel)]; decide +kernel) (by rw [pwm_1 (k := 40) (by decide +kernel) (by decide +kernel)]; decide +kernel)
theorem prm_115792089210356248762697446949407573529996955224135760342422259061068512044369 : prm 115792089210356248762697446949407573529996955224135760342422259061068512044369 := pock2 (q := 2624747550333869278416773953) (s := 1002328039319) (a := 2) (by decide +kernel) prm_2624747550333869278416773953 prm_1002328039319 (by decide +kernel) (by decide +kernel) (by decide +kernel) (by decide +kernel) (by rw [pwm_1 (k := 256) (by decide +kernel) (by decide +kernel)]; decide +kernel) (by rw [pwm_1 (k := 256) (by decide +kernel) (by decide +kernel)]; decide +kernel) (by rw [pwm_1 (k := 256) (by decide +kernel) (by decide +kernel)]; decide +kernel)
def pP : Nat := 115792089210356248762697446949407573530086143415290314195533631308867097853951
def nN : Nat := 115792089210356248762697446949407573529996955224135760342422259061068512044369
theorem pP_prm : prm pP := prm_115792089210356248762697446949407573530086143415290314195533631308867097853951
theorem nN_prm : prm nN := prm_115792089210356248762697446949407573529996955224135760342422259061068512044369
