set_option maxRecDepth 100000 in
theorem l_182 {d : Nat} {M : Mem} {Q : Option Vv → Mem → Prop} {s g0 : Nat} (hg0 : g0 ≤ 500) (kk : Q (some (vI ((bN g0 s : Nat) : Int))) M) : ∀ (f : Nat) (n : Nat) (l : Nat) (g : Nat), (l < 256 ∧ l < 2 ^ g) → (n + bN g l = bN g0 s ∧ n ≤ 1000) → g < f → Ok d 182 4 [some (vI ((s : Int))), some (vI ((n : Int))), some (vI ((l : Int)))] [] M Q := by
  intro f
  induction f with
  | zero => intro n l g hl hn hf; exact absurd hf (Nat.not_lt_zero _)
  | succ f ih =>
    intro n l g hl hn hf
    refine k_iload_n i_182_4 rfl ?_
    refine k_if_le (t := 21) i_182_5 rfl (fun h5 => ?_) (fun h5 => ?_)
    · refine k_iload_n i_182_21 rfl ?_
      refine k_iret i_182_22 rfl ?_
      obtain rfl : l = 0 := by omega
      have e1 := hn.1
      rw [bN_0] at e1
      rw [show n = bN g0 s from e1]
      exact kk
    · refine k_iload_n i_182_8 rfl ?_
      refine k_iload_n i_182_9 rfl ?_
      refine k_iconst i_182_10 (by decide) ?_
      refine k_iand (z := ((l % 2 : Nat) : Int)) i_182_11 (an_1 ⟨l, hl.1⟩) ?_
      refine k_iadd i_182_12 (by omega) ?_
      refine k_istore_n (ls' := [some (vI ((s : Int))), some (vI (((n : Int)) + (((l % 2 : Nat) : Int)))), some (vI ((l : Int)))]) i_182_13 rfl ?_
      refine k_iload_n i_182_14 rfl ?_
      refine k_iconst i_182_15 (by decide) ?_
      refine k_ishr (z := ((l / 2 : Nat) : Int)) i_182_16 (sh_1 ⟨l, hl.1⟩) ?_
      refine k_istore_n (ls' := [some (vI ((s : Int))), some (vI (((n : Int)) + (((l % 2 : Nat) : Int)))), some (vI (((l / 2 : Nat) : Int)))]) i_182_17 rfl ?_
      refine k_goto (t := 4) i_182_18 rfl ?_
      rw [show (n : Int) + ((l % 2 : Nat) : Int) = ((n + l % 2 : Nat) : Int) by omega]
      obtain ⟨g1, rfl⟩ : ∃ g1, g = g1 + 1 := by
        cases g with
        | zero => exact absurd hl.2 (by rw [Nat.pow_zero]; omega)
        | succ g1 => exact ⟨g1, rfl⟩
      have e1 : bN (g1 + 1) l = l % 2 + bN g1 (l / 2) := rfl
      have e2 := hl.2
      rw [Nat.pow_succ] at e2
      have e3 := bN_b g0 s
      have e4 := hn.1
      exact ih (n + l % 2) (l / 2) g1 ⟨by omega, by omega⟩ ⟨by omega, by omega⟩ (by omega)

set_option maxRecDepth 100000 in
/-- ElbowQueueModel.bits -/
theorem c_182 {d : Nat} {M : Mem} {Q : Option Vv → Mem → Prop} {s g : Nat} (hs : s < 256 ∧ s < 2 ^ g) (hg : g ≤ 500) (kk : Q (some (vI ((bN g s : Nat) : Int))) M) : Ok d 182 0 [some (vI ((s : Int))), none, none] [] M Q := by
  refine k_iconst i_182_0 (by decide) ?_
  refine k_istore_n (ls' := [some (vI ((s : Int))), some (vI 0), none]) i_182_1 rfl ?_
  refine k_iload_n i_182_2 rfl ?_
  refine k_istore_n (ls' := [some (vI ((s : Int))), some (vI 0), some (vI ((s : Int)))]) i_182_3 rfl ?_
  exact l_182 (g0 := g) (s := s) hg kk (g + 1) 0 s g hs ⟨by omega, by omega⟩ (by omega)

set_option maxRecDepth 100000 in
theorem l_181 {d : Nat} {M : Mem} {Q : Option Vv → Mem → Prop} {b n : Nat} (hb : b ≤ 10) (hn : n ≤ 8) (kk : Q (some (vI ((b ^ n : Nat) : Int))) M) : ∀ (f : Nat) (i : Nat), (i ≤ n) → (n - i) < f → Ok d 181 4 [some (vI ((b : Int))), some (vI ((n : Int))), some (vI (((b ^ i : Nat) : Int))), some (vI ((i : Int)))] [] M Q := by
  intro f
  induction f with
  | zero => intro i hi hf; exact absurd hf (Nat.not_lt_zero _)
  | succ f ih =>
    intro i hi hf
    have pb := pow_b (r := i) (by omega)
    have pb2 := Nat.pow_le_pow_left hb i
    have mb := mulb (x := (b : Int)) (y := ((b ^ i : Nat) : Int)) (by omega) (by omega)
    refine k_iload_n i_181_4 rfl ?_
    refine k_iload_n i_181_5 rfl ?_
    refine k_icmp_ge (t := 19) i_181_6 rfl (fun h6 => ?_) (fun h6 => ?_)
    · refine k_iload_n i_181_19 rfl ?_
      refine k_iret i_181_20 rfl ?_
      obtain rfl : i = n := by omega
      exact kk
    · refine k_iload_n i_181_9 rfl ?_
      refine k_iload_n i_181_10 rfl ?_
      refine k_imul i_181_11 (by rw [Int.mul_comm]; exact ⟨by omega, by omega⟩) ?_
      rw [show ((b ^ i : Nat) : Int) * (b : Int) = ((b ^ (i + 1) : Nat) : Int) by rw [Nat.pow_succ, Int.natCast_mul]]
      refine k_istore_n (ls' := [some (vI ((b : Int))), some (vI ((n : Int))), some (vI (((b ^ (i + 1) : Nat) : Int))), some (vI ((i : Int)))]) i_181_12 rfl ?_
      refine k_iinc (ls' := [some (vI ((b : Int))), some (vI ((n : Int))), some (vI (((b ^ (i + 1) : Nat) : Int))), some (vI ((i : Int) + 1))]) i_181_13 rfl (by omega) rfl ?_
      rw [show (i : Int) + 1 = ((i + 1 : Nat) : Int) by omega]
      refine k_goto (t := 4) i_181_16 rfl ?_
      exact ih (i + 1) (by omega) (by omega)

set_option maxRecDepth 100000 in
/-- ElbowQueueModel.power -/
theorem c_181 {d : Nat} {M : Mem} {Q : Option Vv → Mem → Prop} {b n : Nat} (hb : b ≤ 10) (hn : n ≤ 8) (kk : Q (some (vI ((b ^ n : Nat) : Int))) M) : Ok d 181 0 [some (vI ((b : Int))), some (vI ((n : Int))), none, none] [] M Q := by
  refine k_iconst i_181_0 (by decide) ?_
  refine k_istore_n (ls' := [some (vI ((b : Int))), some (vI ((n : Int))), some (vI 1), none]) i_181_1 rfl ?_
  refine k_iconst i_181_2 (by decide) ?_
  refine k_istore_n (ls' := [some (vI ((b : Int))), some (vI ((n : Int))), some (vI 1), some (vI 0)]) i_181_3 rfl ?_
  exact l_181 hb hn kk (n + 1) 0 (by omega) (by omega)

set_option maxRecDepth 100000 in
theorem l_180 {d : Nat} {M : Mem} {Q : Option Vv → Mem → Prop} {a b : Nat}  (kk : Q (some (vI ((Nat.gcd a b : Nat) : Int))) M) : ∀ (f : Nat) (x : Nat) (y : Nat) (x4 : Option Vv), (x ≤ 100000000 ∧ y ≤ 100000000) → (Nat.gcd x y = Nat.gcd a b) → y < f → Ok d 180 4 [some (vI ((a : Int))), some (vI ((b : Int))), some (vI ((x : Int))), some (vI ((y : Int))), x4] [] M Q := by
  intro f
  induction f with
  | zero => intro x y x4 hx hg hf; exact absurd hf (Nat.not_lt_zero _)
  | succ f ih =>
    intro x y x4 hx hg hf
    refine k_iload_n i_180_4 rfl ?_
    refine k_if_eq (t := 21) i_180_5 rfl (fun h5 => ?_) (fun h5 => ?_)
    · refine k_iload_n i_180_21 rfl ?_
      refine k_iret i_180_22 rfl ?_
      obtain rfl : y = 0 := by omega
      rw [Nat.gcd_zero_right] at hg
      rw [hg]
      exact kk
    · refine k_iload_n i_180_8 rfl ?_
      refine k_iload_n i_180_9 rfl ?_
      refine k_irem i_180_10 (by omega) (by rw [tmod_n]; have := Nat.mod_lt x (show 0 < y by omega); exact ⟨by omega, by omega⟩) ?_
      rw [tmod_n]
      refine k_istore (ls' := [some (vI ((a : Int))), some (vI ((b : Int))), some (vI ((x : Int))), some (vI ((y : Int))), some (vI (((x % y : Nat) : Int)))]) i_180_11 rfl ?_
      refine k_iload_n i_180_13 rfl ?_
      refine k_istore_n (ls' := [some (vI ((a : Int))), some (vI ((b : Int))), some (vI ((y : Int))), some (vI ((y : Int))), some (vI (((x % y : Nat) : Int)))]) i_180_14 rfl ?_
      refine k_iload i_180_15 rfl ?_
      refine k_istore_n (ls' := [some (vI ((a : Int))), some (vI ((b : Int))), some (vI ((y : Int))), some (vI (((x % y : Nat) : Int))), some (vI (((x % y : Nat) : Int)))]) i_180_17 rfl ?_
      refine k_goto (t := 4) i_180_18 rfl ?_
      refine ih y (x % y) _ ⟨hx.2, by have := Nat.mod_lt x (show 0 < y by omega); omega⟩ ?_ (by have := Nat.mod_lt x (show 0 < y by omega); omega)
      rw [← hg, Nat.gcd_comm x y, Nat.gcd_rec y x, Nat.gcd_comm]

set_option maxRecDepth 100000 in
/-- ElbowQueueModel.common -/
theorem c_180 {d : Nat} {M : Mem} {Q : Option Vv → Mem → Prop} {a b : Nat} (h : a ≤ 100000000 ∧ b ≤ 100000000) (kk : Q (some (vI ((Nat.gcd a b : Nat) : Int))) M) : Ok d 180 0 [some (vI ((a : Int))), some (vI ((b : Int))), none, none, none] [] M Q := by
  refine k_iload_n i_180_0 rfl ?_
  refine k_istore_n (ls' := [some (vI ((a : Int))), some (vI ((b : Int))), some (vI ((a : Int))), none, none]) i_180_1 rfl ?_
  refine k_iload_n i_180_2 rfl ?_
  refine k_istore_n (ls' := [some (vI ((a : Int))), some (vI ((b : Int))), some (vI ((a : Int))), some (vI ((b : Int))), none]) i_180_3 rfl ?_
  exact l_180 kk (b + 1) a b _ h rfl (by omega)
