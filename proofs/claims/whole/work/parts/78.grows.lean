/-! grows: sets of passers who are there -/
theorem sh_r : ∀ s : Fin 256, ∀ t : Fin 8, (Int32.ofInt ((s.val : Nat) : Int) >>> (Int32.ofInt ((t.val : Nat) : Int) &&& 31)).toInt = ((s.val / 2 ^ t.val : Nat) : Int) := by decide +kernel
theorem an_1 : ∀ s : Fin 256, (Int32.ofInt ((s.val : Nat) : Int) &&& Int32.ofInt 1).toInt = ((s.val % 2 : Nat) : Int) := by decide +kernel
theorem sh_1 : ∀ s : Fin 256, (Int32.ofInt ((s.val : Nat) : Int) >>> (Int32.ofInt 1 &&& 31)).toInt = ((s.val / 2 : Nat) : Int) := by decide +kernel
theorem sh_l : ∀ c : Fin 9, (Int32.ofInt 1 <<< (Int32.ofInt ((c.val : Nat) : Int) &&& 31)).toInt = ((2 ^ c.val : Nat) : Int) := by decide +kernel
/-- n minutes, the passers there by a set's bits -/
def goB (K : Kt) : Nat → Nat → Tt → Tt
  | 0, _, T => T
  | n + 1, s, T => goB K n (s / 2) (minF K T ((s % 2 : Nat) : Int))
theorem goB_s (K : Kt) (n : Nat) : ∀ (s : Nat) (T : Tt), goB K (n + 1) s T = minF K (goB K n s T) ((s / 2 ^ n % 2 : Nat) : Int) := by
  induction n with
  | zero => intro s T; show minF K T _ = minF K T _; rw [Nat.pow_zero, Nat.div_one]
  | succ n ih =>
    intro s T
    show goB K (n + 1) (s / 2) (minF K T ((s % 2 : Nat) : Int)) = minF K (goB K n (s / 2) (minF K T ((s % 2 : Nat) : Int))) _
    rw [ih, Nat.div_div_eq_div_mul, Nat.pow_succ, Nat.mul_comm 2]
theorem TOk.goB {K : Kt} {m : Int} (hK : KOk K m) (n : Nat) : ∀ {s : Nat} {T : Tt}, TOk K m T → tMi T + n ≤ 100000 → TOk K m (goB K n s T) := by
  induction n with
  | zero => intro s T h _; exact h
  | succ n ih => intro s T h hm; exact ih (h.min hK (by omega) _) (by rw [min_mi]; omega)
theorem goB_mi {K : Kt} (n : Nat) : ∀ (s : Nat) (T : Tt), tMi (goB K n s T) = tMi T + n := by
  induction n with
  | zero => intro s T; exact (Int.add_zero _).symm
  | succ n ih => intro s T; show tMi (goB K n (s / 2) _) = _; rw [ih, min_mi]; omega
theorem min_nl {K : Kt} {T : Tt} (h : ¬ tNx T < kPe K) (x y : Int) : minF K T x = minF K T y := by
  have e1 : tNx (standF K (servF (tickF (tellF K T)))) = tNx T := by
    show tNx (servF (tickF (tellF K T))) = _
    rw [(serv_s _).2.2]
    rfl
  unfold minF meetF
  rw [e1, if_neg h, if_neg h]
def bN : Nat → Nat → Nat
  | 0, _ => 0
  | f + 1, s => s % 2 + bN f (s / 2)
theorem bN_0 (f : Nat) : bN f 0 = 0 := by
  induction f with
  | zero => rfl
  | succ f ih => show 0 % 2 + bN f (0 / 2) = 0; rw [Nat.zero_div, ih]
theorem bN_b (f : Nat) : ∀ s, bN f s ≤ f := by
  induction f with
  | zero => intro s; exact Nat.le_refl _
  | succ f ih => intro s; have := ih (s / 2); show s % 2 + bN f (s / 2) ≤ f + 1; omega
def trm (K : Kt) (k : Int) (c n cm : Nat) (T : Tt) (s : Nat) : Nat := if k ≤ ((tQ (goB K n s T)).length : Int) then c ^ bN cm s * (10 - c) ^ (cm - bN cm s) else 0
def smF (f : Nat → Nat) : Nat → Nat
  | 0 => 0
  | m + 1 => smF f m + f m
theorem sm_2 (f : Nat → Nat) (m : Nat) : smF f (2 * m) = smF (fun s => f (2 * s) + f (2 * s + 1)) m := by
  induction m with
  | zero => rfl
  | succ m ih =>
    show smF f (2 * m) + f (2 * m) + f (2 * m + 1) = smF _ m + (f (2 * m) + f (2 * m + 1))
    rw [ih]
    omega
theorem sm_cg {f g : Nat → Nat} (m : Nat) (h : ∀ s < m, f s = g s) : smF f m = smF g m := by
  induction m with
  | zero => rfl
  | succ m ih =>
    show smF f m + f m = smF g m + g m
    rw [ih (fun s hs => h s (by omega)), h m (by omega)]
theorem sm_lin (f g : Nat → Nat) (a b m : Nat) : smF (fun s => a * f s + b * g s) m = a * smF f m + b * smF g m := by
  induction m with
  | zero => rfl
  | succ m ih =>
    show smF _ m + (a * f m + b * g m) = a * (smF f m + f m) + b * (smF g m + g m)
    rw [ih, Nat.mul_add, Nat.mul_add]
    omega
theorem sm_le (f : Nat → Nat) {m n : Nat} (h : m ≤ n) : smF f m ≤ smF f n := by
  induction n with
  | zero => rw [show m = 0 by omega]; exact Nat.le_refl _
  | succ n ih =>
    by_cases e : m = n + 1
    · rw [e]; exact Nat.le_refl _
    · have := ih (by omega)
      show smF f m ≤ smF f n + f n
      omega
def cmN (K : Kt) (T : Tt) (n : Nat) : Nat := min (kPe K - tNx T).toNat n
theorem fit_sm (K : Kt) (k : Int) (c : Nat) (n : Nat) : ∀ T : Tt, fitN K k c n T = 10 ^ (n - cmN K T n) * smF (trm K k c n (cmN K T n) T) (2 ^ cmN K T n) := by
  induction n with
  | zero =>
    intro T
    have e : cmN K T 0 = 0 := by unfold cmN; omega
    rw [e]
    show (if k ≤ ((tQ T).length : Int) then 1 else 0) = 10 ^ 0 * (0 + trm K k c 0 0 T 0)
    unfold trm
    show (if k ≤ ((tQ T).length : Int) then 1 else 0) = 10 ^ 0 * (0 + if k ≤ ((tQ T).length : Int) then c ^ 0 * (10 - c) ^ 0 else 0)
    split <;> simp
  | succ n ih =>
    intro T
    by_cases h : tNx T < kPe K
    · have n1 := (min_nx h 1).1
      have n0 := (min_nx h 0).1
      have e1 : cmN K (minF K T 1) n = cmN K T (n + 1) - 1 := by unfold cmN; rw [n1]; omega
      have e0 : cmN K (minF K T 0) n = cmN K T (n + 1) - 1 := by unfold cmN; rw [n0]; omega
      obtain ⟨m, hm⟩ : ∃ m, cmN K T (n + 1) = m + 1 := ⟨cmN K T (n + 1) - 1, by unfold cmN; omega⟩
      rw [hm, Nat.add_sub_cancel] at e1 e0
      have hmn : m ≤ n := by have : cmN K T (n + 1) ≤ n + 1 := by unfold cmN; omega
                             omega
      show (if tNx T < kPe K then c * fitN K k c n (minF K T 1) + (10 - c) * fitN K k c n (minF K T 0) else _) = _
      rw [if_pos h, ih, ih, e1, e0, hm, show n + 1 - (m + 1) = n - m by omega, Nat.pow_succ, Nat.mul_comm (2 ^ m) 2, sm_2]
      have q : smF (fun s => trm K k c (n + 1) (m + 1) T (2 * s) + trm K k c (n + 1) (m + 1) T (2 * s + 1)) (2 ^ m) = smF (fun s => (10 - c) * trm K k c n m (minF K T 0) s + c * trm K k c n m (minF K T 1) s) (2 ^ m) := by
        refine sm_cg _ (fun s hs => ?_)
        have g0 : goB K (n + 1) (2 * s) T = goB K n s (minF K T 0) := by
          show goB K n (2 * s / 2) (minF K T ((2 * s % 2 : Nat) : Int)) = _
          rw [show 2 * s / 2 = s by omega, show 2 * s % 2 = 0 by omega]
          rfl
        have g1 : goB K (n + 1) (2 * s + 1) T = goB K n s (minF K T 1) := by
          show goB K n ((2 * s + 1) / 2) (minF K T (((2 * s + 1) % 2 : Nat) : Int)) = _
          rw [show (2 * s + 1) / 2 = s by omega, show (2 * s + 1) % 2 = 1 by omega]
          rfl
        have b0 : bN (m + 1) (2 * s) = bN m s := by
          show 2 * s % 2 + bN m (2 * s / 2) = _
          rw [show 2 * s / 2 = s by omega, show 2 * s % 2 = 0 by omega, Nat.zero_add]
        have b1 : bN (m + 1) (2 * s + 1) = bN m s + 1 := by
          show (2 * s + 1) % 2 + bN m ((2 * s + 1) / 2) = _
          rw [show (2 * s + 1) / 2 = s by omega, show (2 * s + 1) % 2 = 1 by omega, Nat.add_comm]
        have bb := bN_b m s
        unfold trm
        rw [g0, g1, b0, b1, show m + 1 - bN m s = (m - bN m s) + 1 by omega, show m + 1 - (bN m s + 1) = m - bN m s by omega, Nat.pow_succ, Nat.pow_succ]
        congr 1
        · split
          · rw [← Nat.mul_assoc, Nat.mul_comm]
          · rfl
        · split
          · rw [Nat.mul_comm (c ^ bN m s) c, Nat.mul_assoc]
          · rfl
      rw [q, sm_lin, Nat.mul_add, Nat.mul_left_comm c, Nat.mul_left_comm (10 - c), Nat.add_comm]
    · have e1 : cmN K T (n + 1) = 0 := by unfold cmN; omega
      have nx : tNx (minF K T 1) = tNx T := by
        have e2 : tNx (standF K (servF (tickF (tellF K T)))) = tNx T := by
          show tNx (servF (tickF (tellF K T))) = _
          rw [(serv_s _).2.2]
          rfl
        unfold minF meetF
        rw [e2, if_neg h, e2]
      have e0 : cmN K (minF K T 1) n = 0 := by unfold cmN; rw [nx]; omega
      show (if tNx T < kPe K then _ else 10 * fitN K k c n (minF K T 1)) = _
      rw [if_neg h, ih, e0, e1]
      show 10 * (10 ^ (n - 0) * (0 + trm K k c n 0 (minF K T 1) 0)) = 10 ^ (n + 1 - 0) * (0 + trm K k c (n + 1) 0 T 0)
      have t1 : trm K k c (n + 1) 0 T 0 = trm K k c n 0 (minF K T 1) 0 := by
        unfold trm
        have g0 : goB K (n + 1) 0 T = goB K n 0 (minF K T 1) := by
          show goB K n (0 / 2) (minF K T ((0 % 2 : Nat) : Int)) = _
          rw [Nat.zero_div, min_nl h _ 1]
        rw [g0]
      rw [t1, Nat.sub_zero, Nat.sub_zero, Nat.pow_succ, ← Nat.mul_assoc, Nat.mul_comm 10]
theorem sm_b (K : Kt) (k : Int) {c : Nat} (hc : c ≤ 10) (n : Nat) (T : Tt) {m : Nat} (hm : m ≤ 2 ^ cmN K T n) : smF (trm K k c n (cmN K T n) T) m ≤ 10 ^ cmN K T n := by
  have h1 := fit_b K k hc n T
  rw [fit_sm] at h1
  have h2 : cmN K T n ≤ n := by unfold cmN; omega
  have h3 : 10 ^ n = 10 ^ (n - cmN K T n) * 10 ^ cmN K T n := by rw [← Nat.pow_add, Nat.sub_add_cancel h2]
  rw [h3] at h1
  exact Nat.le_trans (sm_le _ hm) (Nat.le_of_mul_le_mul_left h1 (Nat.pow_pos (by decide)))
/-- the odds, both ways -/
theorem odds_eq (K : Kt) (k : Int) (c n : Nat) (T : Tt) : 10 ^ n / Nat.gcd (10 ^ n) (fitN K k c n T) = 10 ^ cmN K T n / Nat.gcd (smF (trm K k c n (cmN K T n) T) (2 ^ cmN K T n)) (10 ^ cmN K T n) ∧ fitN K k c n T / Nat.gcd (10 ^ n) (fitN K k c n T) = smF (trm K k c n (cmN K T n) T) (2 ^ cmN K T n) / Nat.gcd (smF (trm K k c n (cmN K T n) T) (2 ^ cmN K T n)) (10 ^ cmN K T n) := by
  have h2 : cmN K T n ≤ n := by unfold cmN; omega
  have h3 : 10 ^ n = 10 ^ (n - cmN K T n) * 10 ^ cmN K T n := by rw [← Nat.pow_add, Nat.sub_add_cancel h2]
  have h4 : 0 < 10 ^ (n - cmN K T n) := Nat.pow_pos (by decide)
  rw [fit_sm, h3, Nat.gcd_mul_left, Nat.mul_div_mul_left _ _ h4, Nat.mul_div_mul_left _ _ h4, Nat.gcd_comm]
  exact ⟨rfl, rfl⟩
