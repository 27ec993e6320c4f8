def cpb (M : Mem) (o n : Int) : Mem := fun c j => if c = 274 ∧ 0 ≤ j ∧ j < n then M 277 (o + j) else M c j
theorem cpb_0 (M : Mem) (o : Int) : cpb M o 0 = M := by
  funext c j
  unfold cpb
  rw [if_neg (by omega)]
theorem cpb_s {M : Mem} {o n : Int} (h : 0 ≤ n) : mu (cpb M o n) 274 n (cpb M o n 277 (o + n)) = cpb M o (n + 1) := by
  have e0 : cpb M o n 277 (o + n) = M 277 (o + n) := if_neg (by omega)
  rw [e0]
  funext c j
  unfold mu cpb
  by_cases e : c = 274 ∧ j = n
  · rw [if_pos e, if_pos (by omega), e.2]
  · rw [if_neg e]
    by_cases e2 : c = 274 ∧ 0 ≤ j ∧ j < n
    · rw [if_pos e2, if_pos (by omega)]
    · rw [if_neg e2, if_neg (by omega)]

set_option maxRecDepth 100000 in
theorem l_162 {d : Nat} {M : Mem} {Q : Option Vv → Mem → Prop}  (h4 : 0 ≤ M 273 4 ∧ M 273 4 ≤ 23) (kk : Q (some (vI (M 273 4))) (cpb M (145 * M 273 4) 145)) : ∀ (f : Nat) (i : Int), (0 ≤ i ∧ i ≤ 145) → (145 - i).toNat < f → Ok d 162 22 [some (vR (some 273)), some (vI i)] [] (cpb M (145 * M 273 4) i) Q := by
  intro f
  induction f with
  | zero => intro i hi hf; exact absurd hf (Nat.not_lt_zero _)
  | succ f ih =>
    intro i hi hf
    have e4 : cpb M (145 * M 273 4) i 273 4 = M 273 4 := if_neg (by omega)
    refine k_iload_n i_162_22 rfl ?_
    refine k_sipush i_162_23 (by decide) ?_
    refine k_icmp_ge (t := 56) i_162_26 rfl (fun h26 => ?_) (fun h26 => ?_)
    · refine k_aload_n i_162_56 rfl ?_
      refine k_getI (kz := 4) i_162_57 o_162 rfl (by decide) (s_273) rfl ?_
      rw [e4]
      refine k_iret i_162_60 rfl ?_
      obtain rfl : i = 145 := by omega
      exact kk
    · refine k_aload_n i_162_29 rfl ?_
      refine k_getR (r := 274) i_162_30 o_162 rfl (by decide) (s_273) rfl ?_
      refine k_iload_n i_162_33 rfl ?_
      refine k_aload_n i_162_34 rfl ?_
      refine k_getR (r := 277) i_162_35 o_162 rfl (by decide) (s_273) rfl ?_
      refine k_sipush i_162_38 (by decide) ?_
      refine k_aload_n i_162_41 rfl ?_
      refine k_getI (kz := 4) i_162_42 o_162 rfl (by decide) (s_273) rfl ?_
      rw [e4]
      refine k_imul i_162_45 (by omega) ?_
      refine k_iload_n i_162_46 rfl ?_
      refine k_iadd i_162_47 (by omega) ?_
      refine k_iald i_162_48 (s_277) (by omega) ?_
      refine k_iast i_162_49 (s_274) (by omega) ?_
      refine k_iinc (ls' := [some (vR (some 273)), some (vI (i + 1))]) i_162_50 rfl (by omega) rfl ?_
      refine k_goto (t := 22) i_162_53 rfl ?_
      rw [cpb_s (by omega)]
      exact ih (i + 1) (by omega) (by omega)
