def Td (t : Nat) : Prop := SS[t]? = some (5, 8, [some (t + 1), some (t + 2), some (t + 3), some (t + 4), none, none, none, none]) ∧ SS[t + 1]? = some (20, 28, []) ∧ SS[t + 2]? = some (20, 28, []) ∧ SS[t + 3]? = some (20, 16, []) ∧ SS[t + 4]? = some (20, 16, [])
theorem td_15 : Td 15 := ⟨s_15, s_16, s_17, s_18, s_19⟩
theorem td_20 : Td 20 := ⟨s_20, s_21, s_22, s_23, s_24⟩
theorem td_251 : Td 251 := ⟨s_251, s_252, s_253, s_254, s_255⟩
theorem td_262 : Td 262 := ⟨s_262, s_263, s_264, s_265, s_266⟩
/-- the told at t is as that at u was: the elbows' ints aside -/
def Cp (M M' : Mem) (t u : Nat) : Prop := (∀ p : Int, 0 ≤ p → p < 16 → M' (t + 1) p = M (u + 1) p ∧ M' (t + 2) p = M (u + 2) p ∧ M' (t + 3) p = M (u + 3) p ∧ M' (t + 4) p = M (u + 4) p) ∧ M' t 4 = M u 4 ∧ M' t 5 = M u 5 ∧ M' t 6 = M u 6 ∧ M' t 7 = M u 7 ∧ (∀ p : Int, 16 ≤ p → M' (t + 1) p = M (t + 1) p ∧ M' (t + 2) p = M (t + 2) p) ∧ ∀ (b : Nat) (j : Int), (b < t ∨ t + 4 < b) → M' b j = M b j

/-- ElbowQueue$Told.become -/
theorem c_59 {d : Nat} {M : Mem} {Q : Option Vv → Mem → Prop} {t u : Nat} (ht : Td t) (hu : Td u) (htu : t + 4 < u ∨ u + 4 < t) (kk : ∀ M', Cp M M' t u → Q none M') : Ok d 59 0 [some (vR (some t)), some (vR (some u))] [] M Q := by
  refine k_aload_n i_59_0 rfl ?_
  refine k_getR (r := (u + 1)) i_59_1 o_59 rfl (by decide) (hu.1) rfl ?_
  refine k_iconst i_59_4 (by decide) ?_
  refine k_aload_n i_59_5 rfl ?_
  refine k_getR (r := (t + 1)) i_59_6 o_59 rfl (by decide) (ht.1) rfl ?_
  refine k_iconst i_59_9 (by decide) ?_
  refine k_bipush i_59_10 (by decide) ?_
  refine k_copy i_59_12 o_59 rfl (hu.2.1) (ht.2.1) (by omega) rfl ?_
  refine k_aload_n i_59_15 rfl ?_
  refine k_getR (r := (u + 2)) i_59_16 o_59 rfl (by decide) (hu.1) rfl ?_
  refine k_iconst i_59_19 (by decide) ?_
  refine k_aload_n i_59_20 rfl ?_
  refine k_getR (r := (t + 2)) i_59_21 o_59 rfl (by decide) (ht.1) rfl ?_
  refine k_iconst i_59_24 (by decide) ?_
  refine k_bipush i_59_25 (by decide) ?_
  refine k_copy i_59_27 o_59 rfl (hu.2.2.1) (ht.2.2.1) (by omega) rfl ?_
  refine k_aload_n i_59_30 rfl ?_
  refine k_getR (r := (u + 3)) i_59_31 o_59 rfl (by decide) (hu.1) rfl ?_
  refine k_iconst i_59_34 (by decide) ?_
  refine k_aload_n i_59_35 rfl ?_
  refine k_getR (r := (t + 3)) i_59_36 o_59 rfl (by decide) (ht.1) rfl ?_
  refine k_iconst i_59_39 (by decide) ?_
  refine k_bipush i_59_40 (by decide) ?_
  refine k_copy i_59_42 o_59 rfl (hu.2.2.2.1) (ht.2.2.2.1) (by omega) rfl ?_
  refine k_aload_n i_59_45 rfl ?_
  refine k_getR (r := (u + 4)) i_59_46 o_59 rfl (by decide) (hu.1) rfl ?_
  refine k_iconst i_59_49 (by decide) ?_
  refine k_aload_n i_59_50 rfl ?_
  refine k_getR (r := (t + 4)) i_59_51 o_59 rfl (by decide) (ht.1) rfl ?_
  refine k_iconst i_59_54 (by decide) ?_
  refine k_bipush i_59_55 (by decide) ?_
  refine k_copy i_59_57 o_59 rfl (hu.2.2.2.2) (ht.2.2.2.2) (by omega) rfl ?_
  obtain ⟨M1, hM1⟩ : ∃ z : Mem, z = mcp (mcp (mcp (mcp M (u + 1) (0) (t + 1) (0) (16)) (u + 2) (0) (t + 2) (0) (16)) (u + 3) (0) (t + 3) (0) (16)) (u + 4) (0) (t + 4) (0) (16) := ⟨_, rfl⟩
  rw [← hM1]
  have hA : ∀ p : Int, 0 ≤ p → p < 16 → M1 (t + 1) p = M (u + 1) p ∧ M1 (t + 2) p = M (u + 2) p ∧ M1 (t + 3) p = M (u + 3) p ∧ M1 (t + 4) p = M (u + 4) p := by
    intro p hp hp2
    rw [hM1]
    refine ⟨?_, ?_, ?_, ?_⟩ <;> (repeat (first | rw [mcp_in (by omega)] | rw [mcp_ne (by omega)])) <;> congr 1 <;> omega
  have hB : ∀ (c : Nat) (j : Int), ¬ (t < c ∧ c ≤ t + 4) → M1 c j = M c j := by
    intro c j hc
    rw [hM1, mcp_ne (by omega), mcp_ne (by omega), mcp_ne (by omega), mcp_ne (by omega)]
  have hC : ∀ p : Int, 16 ≤ p → M1 (t + 1) p = M (t + 1) p ∧ M1 (t + 2) p = M (t + 2) p := by
    intro p hp
    rw [hM1]
    refine ⟨?_, ?_⟩ <;> (unfold mcp; repeat (rw [if_neg (by omega)]))
  have hB1 := fun j => hB u j (by omega)
  refine k_aload_n i_59_60 rfl ?_
  refine k_aload_n i_59_61 rfl ?_
  refine k_getI (kz := 4) i_59_62 o_59 rfl (by decide) (hu.1) rfl ?_
  refine k_putI (kz := 4) i_59_65 o_59 rfl (by decide) (ht.1) rfl ?_
  refine k_aload_n i_59_68 rfl ?_
  refine k_aload_n i_59_69 rfl ?_
  refine k_getI (kz := 5) i_59_70 o_59 rfl (by decide) (hu.1) rfl ?_
  rw [mu_ne (M := M1) (a := t) (b := u) (i := 4) (x := M1 u 4) (by omega)]
  refine k_putI (kz := 5) i_59_73 o_59 rfl (by decide) (ht.1) rfl ?_
  refine k_aload_n i_59_76 rfl ?_
  refine k_aload_n i_59_77 rfl ?_
  refine k_getI (kz := 6) i_59_78 o_59 rfl (by decide) (hu.1) rfl ?_
  rw [mu_ne (M := mu M1 t (4) (M1 u 4)) (a := t) (b := u) (i := 5) (x := M1 u 5) (by omega)]
  rw [mu_ne (M := M1) (a := t) (b := u) (i := 4) (x := M1 u 4) (by omega)]
  refine k_putI (kz := 6) i_59_81 o_59 rfl (by decide) (ht.1) rfl ?_
  refine k_aload_n i_59_84 rfl ?_
  refine k_aload_n i_59_85 rfl ?_
  refine k_getI (kz := 7) i_59_86 o_59 rfl (by decide) (hu.1) rfl ?_
  rw [mu_ne (M := mu (mu M1 t (4) (M1 u 4)) t (5) (M1 u 5)) (a := t) (b := u) (i := 6) (x := M1 u 6) (by omega)]
  rw [mu_ne (M := mu M1 t (4) (M1 u 4)) (a := t) (b := u) (i := 5) (x := M1 u 5) (by omega)]
  rw [mu_ne (M := M1) (a := t) (b := u) (i := 4) (x := M1 u 4) (by omega)]
  refine k_putI (kz := 7) i_59_89 o_59 rfl (by decide) (ht.1) rfl ?_
  refine k_vret i_59_92 rfl ?_
  refine kk _ ⟨?_, ?_, ?_, ?_, ?_, ?_, ?_⟩
  · intro p hp hp2
    repeat rw [mu_ne (by omega)]
    exact hA p hp hp2
  · rw [mu_j (by decide), mu_j (by decide), mu_j (by decide), mu_s, hB1]
  · rw [mu_j (by decide), mu_j (by decide), mu_s, hB1]
  · rw [mu_j (by decide), mu_s, hB1]
  · rw [mu_s, hB1]
  · intro p hp
    repeat rw [mu_ne (by omega)]
    exact hC p hp
  · intro b j hb
    repeat rw [mu_ne (by omega)]
    exact hB b j (by omega)

/-- ElbowQueue$Told.clear -/
theorem c_57 {d : Nat} {M : Mem} {Q : Option Vv → Mem → Prop} {t : Nat} (ht : Td t) (k : Q none (mu (mu (mu (mu M t 4 0) t 5 0) t 6 0) t 7 0)) : Ok d 57 0 [some (vR (some t))] [] M Q := by
  refine k_aload_n i_57_0 rfl ?_
  refine k_iconst i_57_1 (by decide) ?_
  refine k_putI (kz := 4) i_57_2 o_57 rfl (by decide) (ht.1) rfl ?_
  refine k_aload_n i_57_5 rfl ?_
  refine k_iconst i_57_6 (by decide) ?_
  refine k_putI (kz := 5) i_57_7 o_57 rfl (by decide) (ht.1) rfl ?_
  refine k_aload_n i_57_10 rfl ?_
  refine k_iconst i_57_11 (by decide) ?_
  refine k_putI (kz := 6) i_57_12 o_57 rfl (by decide) (ht.1) rfl ?_
  refine k_aload_n i_57_15 rfl ?_
  refine k_iconst i_57_16 (by decide) ?_
  refine k_putI (kz := 7) i_57_17 o_57 rfl (by decide) (ht.1) rfl ?_
  refine k_vret i_57_20 rfl ?_
  exact k

/-- ElbowQueue$Told.add -/
theorem c_58 {d : Nat} {M : Mem} {Q : Option Vv → Mem → Prop} {t : Nat} {x y z w : Int} (ht : Td t) (hp : 0 ≤ M t 7 ∧ M t 7 < 16) (k : Q none (mu (mu (mu (mu (mu M (t + 1) (M t 7) x) (t + 2) (M t 7) y) (t + 3) (M t 7) z) (t + 4) (M t 7) w) t 7 (M t 7 + 1))) : Ok d 58 0 [some (vR (some t)), some (vI x), some (vI y), some (vI z), some (vI w)] [] M Q := by
  refine k_aload_n i_58_0 rfl ?_
  refine k_getI (kz := 7) i_58_1 o_58 rfl (by decide) (ht.1) rfl ?_
  refine k_bipush i_58_4 (by decide) ?_
  refine k_icmp_ge (t := 60) i_58_6 rfl (fun h6 => absurd h6 (by omega)) (fun h6 => ?_)
  refine k_aload_n i_58_9 rfl ?_
  refine k_getR (r := (t + 1)) i_58_10 o_58 rfl (by decide) (ht.1) rfl ?_
  refine k_aload_n i_58_13 rfl ?_
  refine k_getI (kz := 7) i_58_14 o_58 rfl (by decide) (ht.1) rfl ?_
  refine k_iload_n i_58_17 rfl ?_
  refine k_iast i_58_18 (ht.2.1) (by omega) ?_
  refine k_aload_n i_58_19 rfl ?_
  refine k_getR (r := (t + 2)) i_58_20 o_58 rfl (by decide) (ht.1) rfl ?_
  refine k_aload_n i_58_23 rfl ?_
  refine k_getI (kz := 7) i_58_24 o_58 rfl (by decide) (ht.1) rfl ?_
  rw [mu_ne (M := M) (a := (t + 1)) (b := t) (i := M t 7) (x := x) (by omega)]
  refine k_iload_n i_58_27 rfl ?_
  refine k_iast i_58_28 (ht.2.2.1) (by omega) ?_
  refine k_aload_n i_58_29 rfl ?_
  refine k_getR (r := (t + 3)) i_58_30 o_58 rfl (by decide) (ht.1) rfl ?_
  refine k_aload_n i_58_33 rfl ?_
  refine k_getI (kz := 7) i_58_34 o_58 rfl (by decide) (ht.1) rfl ?_
  rw [mu_ne (M := mu M (t + 1) (M t 7) (x)) (a := (t + 2)) (b := t) (i := M t 7) (x := y) (by omega)]
  rw [mu_ne (M := M) (a := (t + 1)) (b := t) (i := M t 7) (x := x) (by omega)]
  refine k_iload_n i_58_37 rfl ?_
  refine k_iast i_58_38 (ht.2.2.2.1) (by omega) ?_
  refine k_aload_n i_58_39 rfl ?_
  refine k_getR (r := (t + 4)) i_58_40 o_58 rfl (by decide) (ht.1) rfl ?_
  refine k_aload_n i_58_43 rfl ?_
  refine k_getI (kz := 7) i_58_44 o_58 rfl (by decide) (ht.1) rfl ?_
  rw [mu_ne (M := mu (mu M (t + 1) (M t 7) (x)) (t + 2) (M t 7) (y)) (a := (t + 3)) (b := t) (i := M t 7) (x := z) (by omega)]
  rw [mu_ne (M := mu M (t + 1) (M t 7) (x)) (a := (t + 2)) (b := t) (i := M t 7) (x := y) (by omega)]
  rw [mu_ne (M := M) (a := (t + 1)) (b := t) (i := M t 7) (x := x) (by omega)]
  refine k_iload i_58_47 rfl ?_
  refine k_iast i_58_49 (ht.2.2.2.2) (by omega) ?_
  refine k_aload_n i_58_50 rfl ?_
  refine k_dupR i_58_51 ?_
  refine k_getI (kz := 7) i_58_52 o_58 rfl (by decide) (ht.1) rfl ?_
  rw [mu_ne (M := mu (mu (mu M (t + 1) (M t 7) (x)) (t + 2) (M t 7) (y)) (t + 3) (M t 7) (z)) (a := (t + 4)) (b := t) (i := M t 7) (x := w) (by omega)]
  rw [mu_ne (M := mu (mu M (t + 1) (M t 7) (x)) (t + 2) (M t 7) (y)) (a := (t + 3)) (b := t) (i := M t 7) (x := z) (by omega)]
  rw [mu_ne (M := mu M (t + 1) (M t 7) (x)) (a := (t + 2)) (b := t) (i := M t 7) (x := y) (by omega)]
  rw [mu_ne (M := M) (a := (t + 1)) (b := t) (i := M t 7) (x := x) (by omega)]
  refine k_iconst i_58_55 (by decide) ?_
  refine k_iadd i_58_56 (by omega) ?_
  refine k_putI (kz := 7) i_58_57 o_58 rfl (by decide) (ht.1) rfl ?_
  refine k_vret i_58_60 rfl ?_
  exact k
