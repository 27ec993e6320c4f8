theorem Zr.mono {M : Mem} {n k : Nat} (h : Zr M n) (hk : n ≤ k) : Zr M k := fun b j hb => h b j (by omega)

theorem w_44 : iFacts 44 0 := by unfold iFacts; decide +kernel
theorem y_44 : (mY 44).name = "<init>" := by decide +kernel

theorem w_29 : iFacts 29 0 := by unfold iFacts; decide +kernel
theorem y_29 : (mY 29).name = "<init>" := by decide +kernel

theorem w_56 : iFacts 56 0 := by unfold iFacts; decide +kernel
theorem y_56 : (mY 56).name = "<init>" := by decide +kernel

theorem w_60 : iFacts 60 2 := by unfold iFacts; decide +kernel
theorem y_60 : (mY 60).name = "<init>" := by decide +kernel

theorem w_0 : iFacts 0 1 := by unfold iFacts; decide +kernel
theorem y_0 : (mY 0).name = "<init>" := by decide +kernel

theorem w_13 : iFacts 13 2 := by unfold iFacts; decide +kernel
theorem y_13 : (mY 13).name = "<init>" := by decide +kernel

theorem w_5 : iFacts 5 2 := by unfold iFacts; decide +kernel
theorem y_5 : (mY 5).name = "<init>" := by decide +kernel

theorem w_84 : iFacts 84 0 := by unfold iFacts; decide +kernel
theorem y_84 : (mY 84).name = "<init>" := by decide +kernel

theorem w_121 : iFacts 121 0 := by unfold iFacts; decide +kernel
theorem y_121 : (mY 121).name = "<init>" := by decide +kernel

def sTold (a : Nat) : List Sh := [(5, 8, [some (a + 1), some (a + 2), some (a + 3), some (a + 4), none, none, none, none]), (20, 28, []), (20, 28, []), (20, 16, []), (20, 16, [])]
def sTown (a t room : Nat) : List Sh := [(6, 11, [some t, some (a + 1), some (a + 2), some (a + 3), some (a + 4), some (a + 5), none, none, none, none, none]), (20, room, []), (20, room, []), (20, room, []), (20, room, []), (20, room, [])]
def sRows (a : Nat) : List Sh := [(4, 3, [some (a + 1), some (a + 10), some (a + 11)]), (22, 8, [some (a + 2), some (a + 3), some (a + 4), some (a + 5), some (a + 6), some (a + 7), some (a + 8), some (a + 9)]), (20, 40, []), (20, 40, []), (20, 40, []), (20, 40, []), (20, 40, []), (20, 40, []), (20, 40, []), (20, 40, []), (20, 8, []), (20, 8, [])]
def sReader (a : Nat) : List Sh := [(3, 4, [some (a + 1), none, none, none]), (20, 160, [])]
def sAsks (a t u : Nat) : List Sh := [(1, 4, [some t, some u, some (a + 1), none]), (20, 16, [])]

set_option maxRecDepth 100000 in
theorem n_60_16 {d : Nat} {P : List Sh} {a t : Nat} {M : Mem} {Q : Option Vv → List Sh → Mem → Prop} (hP : P.length = a) (hb : a < 900000) (hz : Zr M a)  (k : Q none (P ++ sTown a t 16) (M)) : OkS d 60 0 [some (vR (some a)), some (vR (some t)), some (vI 16)] [] (P ++ [(6, 11, [none, none, none, none, none, none, none, none, none, none, none])]) M Q := by
  refine j_aload_n i_60_0 rfl ?_
  refine j_obj i_60_1 o_60 rfl rfl ?_
  refine j_aload_n i_60_4 rfl ?_
  refine j_aload_n i_60_5 rfl ?_
  refine j_putR (S' := (P ++ [(6, 11, [some t, none, none, none, none, none, none, none, none, none, none])])) i_60_6 o_60 y_60 rfl (by decide) (gx hP 0) rfl (sx hP 0 _) ?_
  refine j_aload_n i_60_9 rfl ?_
  refine j_iload_n i_60_10 rfl ?_
  refine j_newI (S' := (P ++ [(6, 11, [some t, none, none, none, none, none, none, none, none, none, none]), (20, 16, [])])) (a := a + 1) (nn := 16) i_60_11 (lx hP) (by omega) (by decide) (hz.mono (by omega)) (List.append_assoc _ _ _) ?_
  refine j_putR (S' := (P ++ [(6, 11, [some t, some (a + 1), none, none, none, none, none, none, none, none, none]), (20, 16, [])])) i_60_13 o_60 y_60 rfl (by decide) (gx hP 0) rfl (sx hP 0 _) ?_
  refine j_aload_n i_60_16 rfl ?_
  refine j_iload_n i_60_17 rfl ?_
  refine j_newI (S' := (P ++ [(6, 11, [some t, some (a + 1), none, none, none, none, none, none, none, none, none]), (20, 16, []), (20, 16, [])])) (a := a + 2) (nn := 16) i_60_18 (lx hP) (by omega) (by decide) (hz.mono (by omega)) (List.append_assoc _ _ _) ?_
  refine j_putR (S' := (P ++ [(6, 11, [some t, some (a + 1), some (a + 2), none, none, none, none, none, none, none, none]), (20, 16, []), (20, 16, [])])) i_60_20 o_60 y_60 rfl (by decide) (gx hP 0) rfl (sx hP 0 _) ?_
  refine j_aload_n i_60_23 rfl ?_
  refine j_iload_n i_60_24 rfl ?_
  refine j_newI (S' := (P ++ [(6, 11, [some t, some (a + 1), some (a + 2), none, none, none, none, none, none, none, none]), (20, 16, []), (20, 16, []), (20, 16, [])])) (a := a + 3) (nn := 16) i_60_25 (lx hP) (by omega) (by decide) (hz.mono (by omega)) (List.append_assoc _ _ _) ?_
  refine j_putR (S' := (P ++ [(6, 11, [some t, some (a + 1), some (a + 2), some (a + 3), none, none, none, none, none, none, none]), (20, 16, []), (20, 16, []), (20, 16, [])])) i_60_27 o_60 y_60 rfl (by decide) (gx hP 0) rfl (sx hP 0 _) ?_
  refine j_aload_n i_60_30 rfl ?_
  refine j_iload_n i_60_31 rfl ?_
  refine j_newI (S' := (P ++ [(6, 11, [some t, some (a + 1), some (a + 2), some (a + 3), none, none, none, none, none, none, none]), (20, 16, []), (20, 16, []), (20, 16, []), (20, 16, [])])) (a := a + 4) (nn := 16) i_60_32 (lx hP) (by omega) (by decide) (hz.mono (by omega)) (List.append_assoc _ _ _) ?_
  refine j_putR (S' := (P ++ [(6, 11, [some t, some (a + 1), some (a + 2), some (a + 3), some (a + 4), none, none, none, none, none, none]), (20, 16, []), (20, 16, []), (20, 16, []), (20, 16, [])])) i_60_34 o_60 y_60 rfl (by decide) (gx hP 0) rfl (sx hP 0 _) ?_
  refine j_aload_n i_60_37 rfl ?_
  refine j_iload_n i_60_38 rfl ?_
  refine j_newI (S' := (P ++ [(6, 11, [some t, some (a + 1), some (a + 2), some (a + 3), some (a + 4), none, none, none, none, none, none]), (20, 16, []), (20, 16, []), (20, 16, []), (20, 16, []), (20, 16, [])])) (a := a + 5) (nn := 16) i_60_39 (lx hP) (by omega) (by decide) (hz.mono (by omega)) (List.append_assoc _ _ _) ?_
  refine j_putR (S' := (P ++ [(6, 11, [some t, some (a + 1), some (a + 2), some (a + 3), some (a + 4), some (a + 5), none, none, none, none, none]), (20, 16, []), (20, 16, []), (20, 16, []), (20, 16, []), (20, 16, [])])) i_60_41 o_60 y_60 rfl (by decide) (gx hP 0) rfl (sx hP 0 _) ?_
  refine j_vret i_60_44 rfl ?_
  exact k

set_option maxRecDepth 100000 in
theorem n_60_28 {d : Nat} {P : List Sh} {a t : Nat} {M : Mem} {Q : Option Vv → List Sh → Mem → Prop} (hP : P.length = a) (hb : a < 900000) (hz : Zr M a)  (k : Q none (P ++ sTown a t 28) (M)) : OkS d 60 0 [some (vR (some a)), some (vR (some t)), some (vI 28)] [] (P ++ [(6, 11, [none, none, none, none, none, none, none, none, none, none, none])]) M Q := by
  refine j_aload_n i_60_0 rfl ?_
  refine j_obj i_60_1 o_60 rfl rfl ?_
  refine j_aload_n i_60_4 rfl ?_
  refine j_aload_n i_60_5 rfl ?_
  refine j_putR (S' := (P ++ [(6, 11, [some t, none, none, none, none, none, none, none, none, none, none])])) i_60_6 o_60 y_60 rfl (by decide) (gx hP 0) rfl (sx hP 0 _) ?_
  refine j_aload_n i_60_9 rfl ?_
  refine j_iload_n i_60_10 rfl ?_
  refine j_newI (S' := (P ++ [(6, 11, [some t, none, none, none, none, none, none, none, none, none, none]), (20, 28, [])])) (a := a + 1) (nn := 28) i_60_11 (lx hP) (by omega) (by decide) (hz.mono (by omega)) (List.append_assoc _ _ _) ?_
  refine j_putR (S' := (P ++ [(6, 11, [some t, some (a + 1), none, none, none, none, none, none, none, none, none]), (20, 28, [])])) i_60_13 o_60 y_60 rfl (by decide) (gx hP 0) rfl (sx hP 0 _) ?_
  refine j_aload_n i_60_16 rfl ?_
  refine j_iload_n i_60_17 rfl ?_
  refine j_newI (S' := (P ++ [(6, 11, [some t, some (a + 1), none, none, none, none, none, none, none, none, none]), (20, 28, []), (20, 28, [])])) (a := a + 2) (nn := 28) i_60_18 (lx hP) (by omega) (by decide) (hz.mono (by omega)) (List.append_assoc _ _ _) ?_
  refine j_putR (S' := (P ++ [(6, 11, [some t, some (a + 1), some (a + 2), none, none, none, none, none, none, none, none]), (20, 28, []), (20, 28, [])])) i_60_20 o_60 y_60 rfl (by decide) (gx hP 0) rfl (sx hP 0 _) ?_
  refine j_aload_n i_60_23 rfl ?_
  refine j_iload_n i_60_24 rfl ?_
  refine j_newI (S' := (P ++ [(6, 11, [some t, some (a + 1), some (a + 2), none, none, none, none, none, none, none, none]), (20, 28, []), (20, 28, []), (20, 28, [])])) (a := a + 3) (nn := 28) i_60_25 (lx hP) (by omega) (by decide) (hz.mono (by omega)) (List.append_assoc _ _ _) ?_
  refine j_putR (S' := (P ++ [(6, 11, [some t, some (a + 1), some (a + 2), some (a + 3), none, none, none, none, none, none, none]), (20, 28, []), (20, 28, []), (20, 28, [])])) i_60_27 o_60 y_60 rfl (by decide) (gx hP 0) rfl (sx hP 0 _) ?_
  refine j_aload_n i_60_30 rfl ?_
  refine j_iload_n i_60_31 rfl ?_
  refine j_newI (S' := (P ++ [(6, 11, [some t, some (a + 1), some (a + 2), some (a + 3), none, none, none, none, none, none, none]), (20, 28, []), (20, 28, []), (20, 28, []), (20, 28, [])])) (a := a + 4) (nn := 28) i_60_32 (lx hP) (by omega) (by decide) (hz.mono (by omega)) (List.append_assoc _ _ _) ?_
  refine j_putR (S' := (P ++ [(6, 11, [some t, some (a + 1), some (a + 2), some (a + 3), some (a + 4), none, none, none, none, none, none]), (20, 28, []), (20, 28, []), (20, 28, []), (20, 28, [])])) i_60_34 o_60 y_60 rfl (by decide) (gx hP 0) rfl (sx hP 0 _) ?_
  refine j_aload_n i_60_37 rfl ?_
  refine j_iload_n i_60_38 rfl ?_
  refine j_newI (S' := (P ++ [(6, 11, [some t, some (a + 1), some (a + 2), some (a + 3), some (a + 4), none, none, none, none, none, none]), (20, 28, []), (20, 28, []), (20, 28, []), (20, 28, []), (20, 28, [])])) (a := a + 5) (nn := 28) i_60_39 (lx hP) (by omega) (by decide) (hz.mono (by omega)) (List.append_assoc _ _ _) ?_
  refine j_putR (S' := (P ++ [(6, 11, [some t, some (a + 1), some (a + 2), some (a + 3), some (a + 4), some (a + 5), none, none, none, none, none]), (20, 28, []), (20, 28, []), (20, 28, []), (20, 28, []), (20, 28, [])])) i_60_41 o_60 y_60 rfl (by decide) (gx hP 0) rfl (sx hP 0 _) ?_
  refine j_vret i_60_44 rfl ?_
  exact k

set_option maxRecDepth 100000 in
theorem n_29 {d : Nat} {P : List Sh} {a : Nat} {M : Mem} {Q : Option Vv → List Sh → Mem → Prop} (hP : P.length = a) (hb : a < 900000) (hz : Zr M a)  (k : Q none (P ++ sReader a) (M)) : OkS d 29 0 [some (vR (some a))] [] (P ++ [(3, 4, [none, none, none, none])]) M Q := by
  refine j_aload_n i_29_0 rfl ?_
  refine j_obj i_29_1 o_29 rfl rfl ?_
  refine j_aload_n i_29_4 rfl ?_
  refine j_sipush i_29_5 (by decide) ?_
  refine j_newI (S' := (P ++ [(3, 4, [none, none, none, none]), (20, 160, [])])) (a := a + 1) (nn := 160) i_29_8 (lx hP) (by omega) (by decide) (hz.mono (by omega)) (List.append_assoc _ _ _) ?_
  refine j_putR (S' := (P ++ [(3, 4, [some (a + 1), none, none, none]), (20, 160, [])])) i_29_10 o_29 y_29 rfl (by decide) (gx hP 0) rfl (sx hP 0 _) ?_
  refine j_vret i_29_13 rfl ?_
  exact k

set_option maxRecDepth 100000 in
theorem n_5 {d : Nat} {P : List Sh} {a t u : Nat} {M : Mem} {Q : Option Vv → List Sh → Mem → Prop} (hP : P.length = a) (hb : a < 900000) (hz : Zr M a)  (k : Q none (P ++ sAsks a t u) (M)) : OkS d 5 0 [some (vR (some a)), some (vR (some t)), some (vR (some u))] [] (P ++ [(1, 4, [none, none, none, none])]) M Q := by
  refine j_aload_n i_5_0 rfl ?_
  refine j_obj i_5_1 o_5 rfl rfl ?_
  refine j_aload_n i_5_4 rfl ?_
  refine j_bipush i_5_5 (by decide) ?_
  refine j_newI (S' := (P ++ [(1, 4, [none, none, none, none]), (20, 16, [])])) (a := a + 1) (nn := 16) i_5_7 (lx hP) (by omega) (by decide) (hz.mono (by omega)) (List.append_assoc _ _ _) ?_
  refine j_putR (S' := (P ++ [(1, 4, [none, none, some (a + 1), none]), (20, 16, [])])) i_5_9 o_5 y_5 rfl (by decide) (gx hP 0) rfl (sx hP 0 _) ?_
  refine j_aload_n i_5_12 rfl ?_
  refine j_aload_n i_5_13 rfl ?_
  refine j_putR (S' := (P ++ [(1, 4, [some t, none, some (a + 1), none]), (20, 16, [])])) i_5_14 o_5 y_5 rfl (by decide) (gx hP 0) rfl (sx hP 0 _) ?_
  refine j_aload_n i_5_17 rfl ?_
  refine j_aload_n i_5_18 rfl ?_
  refine j_putR (S' := (P ++ [(1, 4, [some t, some u, some (a + 1), none]), (20, 16, [])])) i_5_19 o_5 y_5 rfl (by decide) (gx hP 0) rfl (sx hP 0 _) ?_
  refine j_vret i_5_22 rfl ?_
  exact k

theorem told_s {M : Mem} {a : Nat} {i : Int} (h : 16 ≤ i) : mu (mu (mfill (mfill M (a + 1) 16 i 1) (a + 2) 16 i 99) (a + 1) i 1) (a + 2) i 99 = mfill (mfill M (a + 1) 16 (i + 1) 1) (a + 2) 16 (i + 1) 99 := by
  funext b j
  unfold mu mfill
  by_cases e : b = a + 2 ∧ j = i
  · rw [if_pos e, if_pos (by omega)]
  · rw [if_neg e]
    by_cases e2 : b = a + 1 ∧ j = i
    · rw [if_pos e2, if_neg (by omega), if_pos (by omega)]
    · rw [if_neg e2]
      by_cases e3 : b = a + 2 ∧ 16 ≤ j ∧ j < i
      · rw [if_pos e3, if_pos (by omega)]
      · rw [if_neg e3]
        by_cases e4 : b = a + 1 ∧ 16 ≤ j ∧ j < i
        · rw [if_pos e4, if_neg (by omega), if_pos (by omega)]
        · rw [if_neg e4, if_neg (by omega), if_neg (by omega)]

set_option maxRecDepth 100000 in
theorem n_56 {d : Nat} {P : List Sh} {a : Nat} {M : Mem} {Q : Option Vv → List Sh → Mem → Prop} (hP : P.length = a) (hb : a < 900000) (hz : Zr M a)  (k : Q none (P ++ sTold a) (mfill (mfill M (a + 1) 16 28 1) (a + 2) 16 28 99)) : OkS d 56 0 [some (vR (some a)), none] [] (P ++ [(5, 8, [none, none, none, none, none, none, none, none])]) M Q := by
  refine j_aload_n i_56_0 rfl ?_
  refine j_obj i_56_1 o_56 rfl rfl ?_
  refine j_aload_n i_56_4 rfl ?_
  refine j_bipush i_56_5 (by decide) ?_
  refine j_newI (S' := (P ++ [(5, 8, [none, none, none, none, none, none, none, none]), (20, 28, [])])) (a := a + 1) (nn := 28) i_56_7 (lx hP) (by omega) (by decide) (hz.mono (by omega)) (List.append_assoc _ _ _) ?_
  refine j_putR (S' := (P ++ [(5, 8, [some (a + 1), none, none, none, none, none, none, none]), (20, 28, [])])) i_56_9 o_56 y_56 rfl (by decide) (gx hP 0) rfl (sx hP 0 _) ?_
  refine j_aload_n i_56_12 rfl ?_
  refine j_bipush i_56_13 (by decide) ?_
  refine j_newI (S' := (P ++ [(5, 8, [some (a + 1), none, none, none, none, none, none, none]), (20, 28, []), (20, 28, [])])) (a := a + 2) (nn := 28) i_56_15 (lx hP) (by omega) (by decide) (hz.mono (by omega)) (List.append_assoc _ _ _) ?_
  refine j_putR (S' := (P ++ [(5, 8, [some (a + 1), some (a + 2), none, none, none, none, none, none]), (20, 28, []), (20, 28, [])])) i_56_17 o_56 y_56 rfl (by decide) (gx hP 0) rfl (sx hP 0 _) ?_
  refine j_aload_n i_56_20 rfl ?_
  refine j_bipush i_56_21 (by decide) ?_
  refine j_newI (S' := (P ++ [(5, 8, [some (a + 1), some (a + 2), none, none, none, none, none, none]), (20, 28, []), (20, 28, []), (20, 16, [])])) (a := a + 3) (nn := 16) i_56_23 (lx hP) (by omega) (by decide) (hz.mono (by omega)) (List.append_assoc _ _ _) ?_
  refine j_putR (S' := (P ++ [(5, 8, [some (a + 1), some (a + 2), some (a + 3), none, none, none, none, none]), (20, 28, []), (20, 28, []), (20, 16, [])])) i_56_25 o_56 y_56 rfl (by decide) (gx hP 0) rfl (sx hP 0 _) ?_
  refine j_aload_n i_56_28 rfl ?_
  refine j_bipush i_56_29 (by decide) ?_
  refine j_newI (S' := (P ++ [(5, 8, [some (a + 1), some (a + 2), some (a + 3), none, none, none, none, none]), (20, 28, []), (20, 28, []), (20, 16, []), (20, 16, [])])) (a := a + 4) (nn := 16) i_56_31 (lx hP) (by omega) (by decide) (hz.mono (by omega)) (List.append_assoc _ _ _) ?_
  refine j_putR (S' := (P ++ [(5, 8, [some (a + 1), some (a + 2), some (a + 3), some (a + 4), none, none, none, none]), (20, 28, []), (20, 28, []), (20, 16, []), (20, 16, [])])) i_56_33 o_56 y_56 rfl (by decide) (gx hP 0) rfl (sx hP 0 _) ?_
  refine j_bipush i_56_36 (by decide) ?_
  refine j_istore_n (ls' := [some (vR (some a)), some (vI 16)]) i_56_38 rfl ?_
  rw [show M = mfill (mfill M (a + 1) 16 16 1) (a + 2) 16 16 99 by rw [mfill_0, mfill_0]]
  refine j_iload_n i_56_39 rfl ?_
  refine j_aload_n i_56_40 rfl ?_
  refine j_getR (r := a + 1) i_56_41 o_56 rfl (by decide) (gx hP 0) rfl ?_
  refine j_alen (z := 28) i_56_44 (gx hP 1) (by decide) rfl ?_
  refine j_geF (t := 69) i_56_45 rfl (by decide) ?_
  refine j_aload_n i_56_48 rfl ?_
  refine j_getR (r := a + 1) i_56_49 o_56 rfl (by decide) (gx hP 0) rfl ?_
  refine j_iload_n i_56_52 rfl ?_
  refine j_iconst i_56_53 (by decide) ?_
  refine j_iast i_56_54 (gx hP 1) (by omega) ?_
  refine j_aload_n i_56_55 rfl ?_
  refine j_getR (r := a + 2) i_56_56 o_56 rfl (by decide) (gx hP 0) rfl ?_
  refine j_iload_n i_56_59 rfl ?_
  refine j_bipush i_56_60 (by decide) ?_
  refine j_iast i_56_62 (gx hP 2) (by omega) ?_
  refine j_iinc (ls' := [some (vR (some a)), some (vI 17)]) i_56_63 rfl (by omega) rfl ?_
  refine j_goto (t := 39) i_56_66 rfl ?_
  rw [told_s (M := M) (a := a) (i := 16) (by decide), show (16 : Int) + 1 = 17 by decide]
  refine j_iload_n i_56_39 rfl ?_
  refine j_aload_n i_56_40 rfl ?_
  refine j_getR (r := a + 1) i_56_41 o_56 rfl (by decide) (gx hP 0) rfl ?_
  refine j_alen (z := 28) i_56_44 (gx hP 1) (by decide) rfl ?_
  refine j_geF (t := 69) i_56_45 rfl (by decide) ?_
  refine j_aload_n i_56_48 rfl ?_
  refine j_getR (r := a + 1) i_56_49 o_56 rfl (by decide) (gx hP 0) rfl ?_
  refine j_iload_n i_56_52 rfl ?_
  refine j_iconst i_56_53 (by decide) ?_
  refine j_iast i_56_54 (gx hP 1) (by omega) ?_
  refine j_aload_n i_56_55 rfl ?_
  refine j_getR (r := a + 2) i_56_56 o_56 rfl (by decide) (gx hP 0) rfl ?_
  refine j_iload_n i_56_59 rfl ?_
  refine j_bipush i_56_60 (by decide) ?_
  refine j_iast i_56_62 (gx hP 2) (by omega) ?_
  refine j_iinc (ls' := [some (vR (some a)), some (vI 18)]) i_56_63 rfl (by omega) rfl ?_
  refine j_goto (t := 39) i_56_66 rfl ?_
  rw [told_s (M := M) (a := a) (i := 17) (by decide), show (17 : Int) + 1 = 18 by decide]
  refine j_iload_n i_56_39 rfl ?_
  refine j_aload_n i_56_40 rfl ?_
  refine j_getR (r := a + 1) i_56_41 o_56 rfl (by decide) (gx hP 0) rfl ?_
  refine j_alen (z := 28) i_56_44 (gx hP 1) (by decide) rfl ?_
  refine j_geF (t := 69) i_56_45 rfl (by decide) ?_
  refine j_aload_n i_56_48 rfl ?_
  refine j_getR (r := a + 1) i_56_49 o_56 rfl (by decide) (gx hP 0) rfl ?_
  refine j_iload_n i_56_52 rfl ?_
  refine j_iconst i_56_53 (by decide) ?_
  refine j_iast i_56_54 (gx hP 1) (by omega) ?_
  refine j_aload_n i_56_55 rfl ?_
  refine j_getR (r := a + 2) i_56_56 o_56 rfl (by decide) (gx hP 0) rfl ?_
  refine j_iload_n i_56_59 rfl ?_
  refine j_bipush i_56_60 (by decide) ?_
  refine j_iast i_56_62 (gx hP 2) (by omega) ?_
  refine j_iinc (ls' := [some (vR (some a)), some (vI 19)]) i_56_63 rfl (by omega) rfl ?_
  refine j_goto (t := 39) i_56_66 rfl ?_
  rw [told_s (M := M) (a := a) (i := 18) (by decide), show (18 : Int) + 1 = 19 by decide]
  refine j_iload_n i_56_39 rfl ?_
  refine j_aload_n i_56_40 rfl ?_
  refine j_getR (r := a + 1) i_56_41 o_56 rfl (by decide) (gx hP 0) rfl ?_
  refine j_alen (z := 28) i_56_44 (gx hP 1) (by decide) rfl ?_
  refine j_geF (t := 69) i_56_45 rfl (by decide) ?_
  refine j_aload_n i_56_48 rfl ?_
  refine j_getR (r := a + 1) i_56_49 o_56 rfl (by decide) (gx hP 0) rfl ?_
  refine j_iload_n i_56_52 rfl ?_
  refine j_iconst i_56_53 (by decide) ?_
  refine j_iast i_56_54 (gx hP 1) (by omega) ?_
  refine j_aload_n i_56_55 rfl ?_
  refine j_getR (r := a + 2) i_56_56 o_56 rfl (by decide) (gx hP 0) rfl ?_
  refine j_iload_n i_56_59 rfl ?_
  refine j_bipush i_56_60 (by decide) ?_
  refine j_iast i_56_62 (gx hP 2) (by omega) ?_
  refine j_iinc (ls' := [some (vR (some a)), some (vI 20)]) i_56_63 rfl (by omega) rfl ?_
  refine j_goto (t := 39) i_56_66 rfl ?_
  rw [told_s (M := M) (a := a) (i := 19) (by decide), show (19 : Int) + 1 = 20 by decide]
  refine j_iload_n i_56_39 rfl ?_
  refine j_aload_n i_56_40 rfl ?_
  refine j_getR (r := a + 1) i_56_41 o_56 rfl (by decide) (gx hP 0) rfl ?_
  refine j_alen (z := 28) i_56_44 (gx hP 1) (by decide) rfl ?_
  refine j_geF (t := 69) i_56_45 rfl (by decide) ?_
  refine j_aload_n i_56_48 rfl ?_
  refine j_getR (r := a + 1) i_56_49 o_56 rfl (by decide) (gx hP 0) rfl ?_
  refine j_iload_n i_56_52 rfl ?_
  refine j_iconst i_56_53 (by decide) ?_
  refine j_iast i_56_54 (gx hP 1) (by omega) ?_
  refine j_aload_n i_56_55 rfl ?_
  refine j_getR (r := a + 2) i_56_56 o_56 rfl (by decide) (gx hP 0) rfl ?_
  refine j_iload_n i_56_59 rfl ?_
  refine j_bipush i_56_60 (by decide) ?_
  refine j_iast i_56_62 (gx hP 2) (by omega) ?_
  refine j_iinc (ls' := [some (vR (some a)), some (vI 21)]) i_56_63 rfl (by omega) rfl ?_
  refine j_goto (t := 39) i_56_66 rfl ?_
  rw [told_s (M := M) (a := a) (i := 20) (by decide), show (20 : Int) + 1 = 21 by decide]
  refine j_iload_n i_56_39 rfl ?_
  refine j_aload_n i_56_40 rfl ?_
  refine j_getR (r := a + 1) i_56_41 o_56 rfl (by decide) (gx hP 0) rfl ?_
  refine j_alen (z := 28) i_56_44 (gx hP 1) (by decide) rfl ?_
  refine j_geF (t := 69) i_56_45 rfl (by decide) ?_
  refine j_aload_n i_56_48 rfl ?_
  refine j_getR (r := a + 1) i_56_49 o_56 rfl (by decide) (gx hP 0) rfl ?_
  refine j_iload_n i_56_52 rfl ?_
  refine j_iconst i_56_53 (by decide) ?_
  refine j_iast i_56_54 (gx hP 1) (by omega) ?_
  refine j_aload_n i_56_55 rfl ?_
  refine j_getR (r := a + 2) i_56_56 o_56 rfl (by decide) (gx hP 0) rfl ?_
  refine j_iload_n i_56_59 rfl ?_
  refine j_bipush i_56_60 (by decide) ?_
  refine j_iast i_56_62 (gx hP 2) (by omega) ?_
  refine j_iinc (ls' := [some (vR (some a)), some (vI 22)]) i_56_63 rfl (by omega) rfl ?_
  refine j_goto (t := 39) i_56_66 rfl ?_
  rw [told_s (M := M) (a := a) (i := 21) (by decide), show (21 : Int) + 1 = 22 by decide]
  refine j_iload_n i_56_39 rfl ?_
  refine j_aload_n i_56_40 rfl ?_
  refine j_getR (r := a + 1) i_56_41 o_56 rfl (by decide) (gx hP 0) rfl ?_
  refine j_alen (z := 28) i_56_44 (gx hP 1) (by decide) rfl ?_
  refine j_geF (t := 69) i_56_45 rfl (by decide) ?_
  refine j_aload_n i_56_48 rfl ?_
  refine j_getR (r := a + 1) i_56_49 o_56 rfl (by decide) (gx hP 0) rfl ?_
  refine j_iload_n i_56_52 rfl ?_
  refine j_iconst i_56_53 (by decide) ?_
  refine j_iast i_56_54 (gx hP 1) (by omega) ?_
  refine j_aload_n i_56_55 rfl ?_
  refine j_getR (r := a + 2) i_56_56 o_56 rfl (by decide) (gx hP 0) rfl ?_
  refine j_iload_n i_56_59 rfl ?_
  refine j_bipush i_56_60 (by decide) ?_
  refine j_iast i_56_62 (gx hP 2) (by omega) ?_
  refine j_iinc (ls' := [some (vR (some a)), some (vI 23)]) i_56_63 rfl (by omega) rfl ?_
  refine j_goto (t := 39) i_56_66 rfl ?_
  rw [told_s (M := M) (a := a) (i := 22) (by decide), show (22 : Int) + 1 = 23 by decide]
  refine j_iload_n i_56_39 rfl ?_
  refine j_aload_n i_56_40 rfl ?_
  refine j_getR (r := a + 1) i_56_41 o_56 rfl (by decide) (gx hP 0) rfl ?_
  refine j_alen (z := 28) i_56_44 (gx hP 1) (by decide) rfl ?_
  refine j_geF (t := 69) i_56_45 rfl (by decide) ?_
  refine j_aload_n i_56_48 rfl ?_
  refine j_getR (r := a + 1) i_56_49 o_56 rfl (by decide) (gx hP 0) rfl ?_
  refine j_iload_n i_56_52 rfl ?_
  refine j_iconst i_56_53 (by decide) ?_
  refine j_iast i_56_54 (gx hP 1) (by omega) ?_
  refine j_aload_n i_56_55 rfl ?_
  refine j_getR (r := a + 2) i_56_56 o_56 rfl (by decide) (gx hP 0) rfl ?_
  refine j_iload_n i_56_59 rfl ?_
  refine j_bipush i_56_60 (by decide) ?_
  refine j_iast i_56_62 (gx hP 2) (by omega) ?_
  refine j_iinc (ls' := [some (vR (some a)), some (vI 24)]) i_56_63 rfl (by omega) rfl ?_
  refine j_goto (t := 39) i_56_66 rfl ?_
  rw [told_s (M := M) (a := a) (i := 23) (by decide), show (23 : Int) + 1 = 24 by decide]
  refine j_iload_n i_56_39 rfl ?_
  refine j_aload_n i_56_40 rfl ?_
  refine j_getR (r := a + 1) i_56_41 o_56 rfl (by decide) (gx hP 0) rfl ?_
  refine j_alen (z := 28) i_56_44 (gx hP 1) (by decide) rfl ?_
  refine j_geF (t := 69) i_56_45 rfl (by decide) ?_
  refine j_aload_n i_56_48 rfl ?_
  refine j_getR (r := a + 1) i_56_49 o_56 rfl (by decide) (gx hP 0) rfl ?_
  refine j_iload_n i_56_52 rfl ?_
  refine j_iconst i_56_53 (by decide) ?_
  refine j_iast i_56_54 (gx hP 1) (by omega) ?_
  refine j_aload_n i_56_55 rfl ?_
  refine j_getR (r := a + 2) i_56_56 o_56 rfl (by decide) (gx hP 0) rfl ?_
  refine j_iload_n i_56_59 rfl ?_
  refine j_bipush i_56_60 (by decide) ?_
  refine j_iast i_56_62 (gx hP 2) (by omega) ?_
  refine j_iinc (ls' := [some (vR (some a)), some (vI 25)]) i_56_63 rfl (by omega) rfl ?_
  refine j_goto (t := 39) i_56_66 rfl ?_
  rw [told_s (M := M) (a := a) (i := 24) (by decide), show (24 : Int) + 1 = 25 by decide]
  refine j_iload_n i_56_39 rfl ?_
  refine j_aload_n i_56_40 rfl ?_
  refine j_getR (r := a + 1) i_56_41 o_56 rfl (by decide) (gx hP 0) rfl ?_
  refine j_alen (z := 28) i_56_44 (gx hP 1) (by decide) rfl ?_
  refine j_geF (t := 69) i_56_45 rfl (by decide) ?_
  refine j_aload_n i_56_48 rfl ?_
  refine j_getR (r := a + 1) i_56_49 o_56 rfl (by decide) (gx hP 0) rfl ?_
  refine j_iload_n i_56_52 rfl ?_
  refine j_iconst i_56_53 (by decide) ?_
  refine j_iast i_56_54 (gx hP 1) (by omega) ?_
  refine j_aload_n i_56_55 rfl ?_
  refine j_getR (r := a + 2) i_56_56 o_56 rfl (by decide) (gx hP 0) rfl ?_
  refine j_iload_n i_56_59 rfl ?_
  refine j_bipush i_56_60 (by decide) ?_
  refine j_iast i_56_62 (gx hP 2) (by omega) ?_
  refine j_iinc (ls' := [some (vR (some a)), some (vI 26)]) i_56_63 rfl (by omega) rfl ?_
  refine j_goto (t := 39) i_56_66 rfl ?_
  rw [told_s (M := M) (a := a) (i := 25) (by decide), show (25 : Int) + 1 = 26 by decide]
  refine j_iload_n i_56_39 rfl ?_
  refine j_aload_n i_56_40 rfl ?_
  refine j_getR (r := a + 1) i_56_41 o_56 rfl (by decide) (gx hP 0) rfl ?_
  refine j_alen (z := 28) i_56_44 (gx hP 1) (by decide) rfl ?_
  refine j_geF (t := 69) i_56_45 rfl (by decide) ?_
  refine j_aload_n i_56_48 rfl ?_
  refine j_getR (r := a + 1) i_56_49 o_56 rfl (by decide) (gx hP 0) rfl ?_
  refine j_iload_n i_56_52 rfl ?_
  refine j_iconst i_56_53 (by decide) ?_
  refine j_iast i_56_54 (gx hP 1) (by omega) ?_
  refine j_aload_n i_56_55 rfl ?_
  refine j_getR (r := a + 2) i_56_56 o_56 rfl (by decide) (gx hP 0) rfl ?_
  refine j_iload_n i_56_59 rfl ?_
  refine j_bipush i_56_60 (by decide) ?_
  refine j_iast i_56_62 (gx hP 2) (by omega) ?_
  refine j_iinc (ls' := [some (vR (some a)), some (vI 27)]) i_56_63 rfl (by omega) rfl ?_
  refine j_goto (t := 39) i_56_66 rfl ?_
  rw [told_s (M := M) (a := a) (i := 26) (by decide), show (26 : Int) + 1 = 27 by decide]
  refine j_iload_n i_56_39 rfl ?_
  refine j_aload_n i_56_40 rfl ?_
  refine j_getR (r := a + 1) i_56_41 o_56 rfl (by decide) (gx hP 0) rfl ?_
  refine j_alen (z := 28) i_56_44 (gx hP 1) (by decide) rfl ?_
  refine j_geF (t := 69) i_56_45 rfl (by decide) ?_
  refine j_aload_n i_56_48 rfl ?_
  refine j_getR (r := a + 1) i_56_49 o_56 rfl (by decide) (gx hP 0) rfl ?_
  refine j_iload_n i_56_52 rfl ?_
  refine j_iconst i_56_53 (by decide) ?_
  refine j_iast i_56_54 (gx hP 1) (by omega) ?_
  refine j_aload_n i_56_55 rfl ?_
  refine j_getR (r := a + 2) i_56_56 o_56 rfl (by decide) (gx hP 0) rfl ?_
  refine j_iload_n i_56_59 rfl ?_
  refine j_bipush i_56_60 (by decide) ?_
  refine j_iast i_56_62 (gx hP 2) (by omega) ?_
  refine j_iinc (ls' := [some (vR (some a)), some (vI 28)]) i_56_63 rfl (by omega) rfl ?_
  refine j_goto (t := 39) i_56_66 rfl ?_
  rw [told_s (M := M) (a := a) (i := 27) (by decide), show (27 : Int) + 1 = 28 by decide]
  refine j_iload_n i_56_39 rfl ?_
  refine j_aload_n i_56_40 rfl ?_
  refine j_getR (r := a + 1) i_56_41 o_56 rfl (by decide) (gx hP 0) rfl ?_
  refine j_alen (z := 28) i_56_44 (gx hP 1) (by decide) rfl ?_
  refine j_geT (t := 69) i_56_45 rfl (by decide) ?_
  refine j_vret i_56_69 rfl ?_
  exact k

set_option maxRecDepth 100000 in
theorem n_44 {d : Nat} {P : List Sh} {a : Nat} {M : Mem} {Q : Option Vv → List Sh → Mem → Prop} (hP : P.length = a) (hb : a < 900000) (hz : Zr M a)  (k : Q none (P ++ sRows a) (mfill M (a + 11) 0 8 (-1))) : OkS d 44 0 [some (vR (some a)), none] [] (P ++ [(4, 3, [none, none, none])]) M Q := by
  refine j_aload_n i_44_0 rfl ?_
  refine j_obj i_44_1 o_44 rfl rfl ?_
  refine j_aload_n i_44_4 rfl ?_
  refine j_bipush i_44_5 (by decide) ?_
  refine j_bipush i_44_7 (by decide) ?_
  refine j_newm (S' := (P ++ [(4, 3, [none, none, none]), (22, 8, [some (a + 2), some (a + 3), some (a + 4), some (a + 5), some (a + 6), some (a + 7), some (a + 8), some (a + 9)]), (20, 40, []), (20, 40, []), (20, 40, []), (20, 40, []), (20, 40, []), (20, 40, []), (20, 40, []), (20, 40, [])])) (a := a + 1) (nn := 8) (kk := 40) i_44_9 o_44 rfl (lx hP) (by omega) (by decide) (by decide) (hz.mono (by omega)) (List.append_assoc _ _ _) ?_
  refine j_putR (S' := (P ++ [(4, 3, [some (a + 1), none, none]), (22, 8, [some (a + 2), some (a + 3), some (a + 4), some (a + 5), some (a + 6), some (a + 7), some (a + 8), some (a + 9)]), (20, 40, []), (20, 40, []), (20, 40, []), (20, 40, []), (20, 40, []), (20, 40, []), (20, 40, []), (20, 40, [])])) i_44_13 o_44 y_44 rfl (by decide) (gx hP 0) rfl (sx hP 0 _) ?_
  refine j_aload_n i_44_16 rfl ?_
  refine j_bipush i_44_17 (by decide) ?_
  refine j_newI (S' := (P ++ [(4, 3, [some (a + 1), none, none]), (22, 8, [some (a + 2), some (a + 3), some (a + 4), some (a + 5), some (a + 6), some (a + 7), some (a + 8), some (a + 9)]), (20, 40, []), (20, 40, []), (20, 40, []), (20, 40, []), (20, 40, []), (20, 40, []), (20, 40, []), (20, 40, []), (20, 8, [])])) (a := a + 10) (nn := 8) i_44_19 (lx hP) (by omega) (by decide) (hz.mono (by omega)) (List.append_assoc _ _ _) ?_
  refine j_putR (S' := (P ++ [(4, 3, [some (a + 1), some (a + 10), none]), (22, 8, [some (a + 2), some (a + 3), some (a + 4), some (a + 5), some (a + 6), some (a + 7), some (a + 8), some (a + 9)]), (20, 40, []), (20, 40, []), (20, 40, []), (20, 40, []), (20, 40, []), (20, 40, []), (20, 40, []), (20, 40, []), (20, 8, [])])) i_44_21 o_44 y_44 rfl (by decide) (gx hP 0) rfl (sx hP 0 _) ?_
  refine j_aload_n i_44_24 rfl ?_
  refine j_bipush i_44_25 (by decide) ?_
  refine j_newI (S' := (P ++ [(4, 3, [some (a + 1), some (a + 10), none]), (22, 8, [some (a + 2), some (a + 3), some (a + 4), some (a + 5), some (a + 6), some (a + 7), some (a + 8), some (a + 9)]), (20, 40, []), (20, 40, []), (20, 40, []), (20, 40, []), (20, 40, []), (20, 40, []), (20, 40, []), (20, 40, []), (20, 8, []), (20, 8, [])])) (a := a + 11) (nn := 8) i_44_27 (lx hP) (by omega) (by decide) (hz.mono (by omega)) (List.append_assoc _ _ _) ?_
  refine j_putR (S' := (P ++ [(4, 3, [some (a + 1), some (a + 10), some (a + 11)]), (22, 8, [some (a + 2), some (a + 3), some (a + 4), some (a + 5), some (a + 6), some (a + 7), some (a + 8), some (a + 9)]), (20, 40, []), (20, 40, []), (20, 40, []), (20, 40, []), (20, 40, []), (20, 40, []), (20, 40, []), (20, 40, []), (20, 8, []), (20, 8, [])])) i_44_29 o_44 y_44 rfl (by decide) (gx hP 0) rfl (sx hP 0 _) ?_
  refine j_iconst i_44_32 (by decide) ?_
  refine j_istore_n (ls' := [some (vR (some a)), some (vI 0)]) i_44_33 rfl ?_
  rw [show M = mfill M (a + 11) 0 0 (-1) by rw [mfill_0]]
  refine j_iload_n i_44_34 rfl ?_
  refine j_bipush i_44_35 (by decide) ?_
  refine j_geF (t := 53) i_44_37 rfl (by decide) ?_
  refine j_aload_n i_44_40 rfl ?_
  refine j_getR (r := a + 11) i_44_41 o_44 rfl (by decide) (gx hP 0) rfl ?_
  refine j_iload_n i_44_44 rfl ?_
  refine j_iconst i_44_45 (by decide) ?_
  refine j_iast i_44_46 (gx hP 11) (by omega) ?_
  refine j_iinc (ls' := [some (vR (some a)), some (vI 1)]) i_44_47 rfl (by omega) rfl ?_
  refine j_goto (t := 34) i_44_50 rfl ?_
  rw [mfill_s (M := M) (a := a + 11) (lo := 0) (hi := 0) (v := -1) (by decide), show (0 : Int) + 1 = 1 by decide]
  refine j_iload_n i_44_34 rfl ?_
  refine j_bipush i_44_35 (by decide) ?_
  refine j_geF (t := 53) i_44_37 rfl (by decide) ?_
  refine j_aload_n i_44_40 rfl ?_
  refine j_getR (r := a + 11) i_44_41 o_44 rfl (by decide) (gx hP 0) rfl ?_
  refine j_iload_n i_44_44 rfl ?_
  refine j_iconst i_44_45 (by decide) ?_
  refine j_iast i_44_46 (gx hP 11) (by omega) ?_
  refine j_iinc (ls' := [some (vR (some a)), some (vI 2)]) i_44_47 rfl (by omega) rfl ?_
  refine j_goto (t := 34) i_44_50 rfl ?_
  rw [mfill_s (M := M) (a := a + 11) (lo := 0) (hi := 1) (v := -1) (by decide), show (1 : Int) + 1 = 2 by decide]
  refine j_iload_n i_44_34 rfl ?_
  refine j_bipush i_44_35 (by decide) ?_
  refine j_geF (t := 53) i_44_37 rfl (by decide) ?_
  refine j_aload_n i_44_40 rfl ?_
  refine j_getR (r := a + 11) i_44_41 o_44 rfl (by decide) (gx hP 0) rfl ?_
  refine j_iload_n i_44_44 rfl ?_
  refine j_iconst i_44_45 (by decide) ?_
  refine j_iast i_44_46 (gx hP 11) (by omega) ?_
  refine j_iinc (ls' := [some (vR (some a)), some (vI 3)]) i_44_47 rfl (by omega) rfl ?_
  refine j_goto (t := 34) i_44_50 rfl ?_
  rw [mfill_s (M := M) (a := a + 11) (lo := 0) (hi := 2) (v := -1) (by decide), show (2 : Int) + 1 = 3 by decide]
  refine j_iload_n i_44_34 rfl ?_
  refine j_bipush i_44_35 (by decide) ?_
  refine j_geF (t := 53) i_44_37 rfl (by decide) ?_
  refine j_aload_n i_44_40 rfl ?_
  refine j_getR (r := a + 11) i_44_41 o_44 rfl (by decide) (gx hP 0) rfl ?_
  refine j_iload_n i_44_44 rfl ?_
  refine j_iconst i_44_45 (by decide) ?_
  refine j_iast i_44_46 (gx hP 11) (by omega) ?_
  refine j_iinc (ls' := [some (vR (some a)), some (vI 4)]) i_44_47 rfl (by omega) rfl ?_
  refine j_goto (t := 34) i_44_50 rfl ?_
  rw [mfill_s (M := M) (a := a + 11) (lo := 0) (hi := 3) (v := -1) (by decide), show (3 : Int) + 1 = 4 by decide]
  refine j_iload_n i_44_34 rfl ?_
  refine j_bipush i_44_35 (by decide) ?_
  refine j_geF (t := 53) i_44_37 rfl (by decide) ?_
  refine j_aload_n i_44_40 rfl ?_
  refine j_getR (r := a + 11) i_44_41 o_44 rfl (by decide) (gx hP 0) rfl ?_
  refine j_iload_n i_44_44 rfl ?_
  refine j_iconst i_44_45 (by decide) ?_
  refine j_iast i_44_46 (gx hP 11) (by omega) ?_
  refine j_iinc (ls' := [some (vR (some a)), some (vI 5)]) i_44_47 rfl (by omega) rfl ?_
  refine j_goto (t := 34) i_44_50 rfl ?_
  rw [mfill_s (M := M) (a := a + 11) (lo := 0) (hi := 4) (v := -1) (by decide), show (4 : Int) + 1 = 5 by decide]
  refine j_iload_n i_44_34 rfl ?_
  refine j_bipush i_44_35 (by decide) ?_
  refine j_geF (t := 53) i_44_37 rfl (by decide) ?_
  refine j_aload_n i_44_40 rfl ?_
  refine j_getR (r := a + 11) i_44_41 o_44 rfl (by decide) (gx hP 0) rfl ?_
  refine j_iload_n i_44_44 rfl ?_
  refine j_iconst i_44_45 (by decide) ?_
  refine j_iast i_44_46 (gx hP 11) (by omega) ?_
  refine j_iinc (ls' := [some (vR (some a)), some (vI 6)]) i_44_47 rfl (by omega) rfl ?_
  refine j_goto (t := 34) i_44_50 rfl ?_
  rw [mfill_s (M := M) (a := a + 11) (lo := 0) (hi := 5) (v := -1) (by decide), show (5 : Int) + 1 = 6 by decide]
  refine j_iload_n i_44_34 rfl ?_
  refine j_bipush i_44_35 (by decide) ?_
  refine j_geF (t := 53) i_44_37 rfl (by decide) ?_
  refine j_aload_n i_44_40 rfl ?_
  refine j_getR (r := a + 11) i_44_41 o_44 rfl (by decide) (gx hP 0) rfl ?_
  refine j_iload_n i_44_44 rfl ?_
  refine j_iconst i_44_45 (by decide) ?_
  refine j_iast i_44_46 (gx hP 11) (by omega) ?_
  refine j_iinc (ls' := [some (vR (some a)), some (vI 7)]) i_44_47 rfl (by omega) rfl ?_
  refine j_goto (t := 34) i_44_50 rfl ?_
  rw [mfill_s (M := M) (a := a + 11) (lo := 0) (hi := 6) (v := -1) (by decide), show (6 : Int) + 1 = 7 by decide]
  refine j_iload_n i_44_34 rfl ?_
  refine j_bipush i_44_35 (by decide) ?_
  refine j_geF (t := 53) i_44_37 rfl (by decide) ?_
  refine j_aload_n i_44_40 rfl ?_
  refine j_getR (r := a + 11) i_44_41 o_44 rfl (by decide) (gx hP 0) rfl ?_
  refine j_iload_n i_44_44 rfl ?_
  refine j_iconst i_44_45 (by decide) ?_
  refine j_iast i_44_46 (gx hP 11) (by omega) ?_
  refine j_iinc (ls' := [some (vR (some a)), some (vI 8)]) i_44_47 rfl (by omega) rfl ?_
  refine j_goto (t := 34) i_44_50 rfl ?_
  rw [mfill_s (M := M) (a := a + 11) (lo := 0) (hi := 7) (v := -1) (by decide), show (7 : Int) + 1 = 8 by decide]
  refine j_iload_n i_44_34 rfl ?_
  refine j_bipush i_44_35 (by decide) ?_
  refine j_geT (t := 53) i_44_37 rfl (by decide) ?_
  refine j_vret i_44_53 rfl ?_
  exact k
