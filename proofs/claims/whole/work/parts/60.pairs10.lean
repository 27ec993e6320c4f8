def cntR (f : Int → Int) (z : Int) : Nat → Int
  | 0 => 0
  | n + 1 => cntR f z n + (if f n = z then 0 else 1)
theorem cntR_b (f : Int → Int) (z : Int) (n : Nat) : 0 ≤ cntR f z n ∧ cntR f z n ≤ n := by
  induction n with
  | zero => exact ⟨Int.le_refl _, Int.le_refl _⟩
  | succ n ih =>
    show 0 ≤ cntR f z n + (if f n = z then 0 else 1) ∧ cntR f z n + (if f n = z then 0 else 1) ≤ _
    split <;> omega
theorem cntR_eq {M : Mem} (h : RRow M) (n : Nat) (hn : n ≤ 8) : cntR (M 12) (-1) n = cntR (M 281) 0 n := by
  induction n with
  | zero => rfl
  | succ n ih =>
    have p := (h n (by omega) (by omega)).2.2.2.2
    show cntR (M 12) (-1) n + (if M 12 n = -1 then 0 else 1) = cntR (M 281) 0 n + (if M 281 n = 0 then 0 else 1)
    rw [ih (by omega)]
    rcases p with p | p
    · rw [if_pos p.1, if_pos p.2]
    · rw [if_neg (by omega), if_neg (by omega)]

set_option maxRecDepth 100000 in
theorem l_55n {d : Nat} {M : Mem} {Q : Option Vv → Mem → Prop}   (kk : Q (some (vI (cntR (M 12) (-1) 8))) M) : ∀ (f : Nat) (n : Int) (i : Int), (0 ≤ i ∧ i ≤ 8) → (n = cntR (M 12) (-1) i.toNat) → (8 - i).toNat < f → Ok d 55 4 [some (vR (some 1)), some (vI n), some (vI i)] [] M Q := by
  intro f
  induction f with
  | zero => intro n i hi hn hf; exact absurd hf (Nat.not_lt_zero _)
  | succ f ih =>
    intro n i hi hn hf
    have mb := cntR_b (M 12) (-1) i.toNat
    refine k_iload_n i_55_4 rfl ?_
    refine k_bipush i_55_5 (by decide) ?_
    refine k_icmp_ge (t := 29) i_55_7 rfl (fun h7 => ?_) (fun h7 => ?_)
    · refine k_iload_n i_55_29 rfl ?_
      refine k_iret i_55_30 rfl ?_
      obtain rfl : i = 8 := by omega
      rw [hn]
      exact kk
    · refine k_aload_n i_55_10 rfl ?_
      refine k_getR (r := 12) i_55_11 o_55 rfl (by decide) (s_1) rfl ?_
      refine k_iload_n i_55_14 rfl ?_
      refine k_iald i_55_15 (s_12) (by omega) ?_
      refine k_iconst i_55_16 (by decide) ?_
      refine k_icmp_eq (t := 23) i_55_17 rfl (fun h17 => ?_) (fun h17 => ?_)
      · refine k_iinc (ls' := [some (vR (some 1)), some (vI n), some (vI (i + 1))]) i_55_23 rfl (by omega) rfl ?_
        refine k_goto (t := 4) i_55_26 rfl ?_
        refine ih _ (i + 1) (by omega) ?_ (by omega)
        rw [show (i + 1).toNat = i.toNat + 1 by omega]
        show _ = cntR (M 12) (-1) i.toNat + (if M 12 ((i.toNat : Nat) : Int) = (-1) then 0 else 1)
        rw [show ((i.toNat : Nat) : Int) = i by omega, ← hn]
        split <;> omega
      · refine k_iinc (ls' := [some (vR (some 1)), some (vI (n + 1)), some (vI i)]) i_55_20 rfl (by omega) rfl ?_
        refine k_iinc (ls' := [some (vR (some 1)), some (vI (n + 1)), some (vI (i + 1))]) i_55_23 rfl (by omega) rfl ?_
        refine k_goto (t := 4) i_55_26 rfl ?_
        refine ih _ (i + 1) (by omega) ?_ (by omega)
        rw [show (i + 1).toNat = i.toNat + 1 by omega]
        show _ = cntR (M 12) (-1) i.toNat + (if M 12 ((i.toNat : Nat) : Int) = (-1) then 0 else 1)
        rw [show ((i.toNat : Nat) : Int) = i by omega, ← hn]
        split <;> omega

set_option maxRecDepth 100000 in
/-- ElbowQueue$Rows.present -/
theorem c_55n {d : Nat} {M : Mem} {Q : Option Vv → Mem → Prop}   (kk : Q (some (vI (cntR (M 12) (-1) 8))) M) : Ok d 55 0 [some (vR (some 1)), none, none] [] M Q := by
  refine k_iconst i_55_0 (by decide) ?_
  refine k_istore_n (ls' := [some (vR (some 1)), some (vI 0), none]) i_55_1 rfl ?_
  refine k_iconst i_55_2 (by decide) ?_
  refine k_istore_n (ls' := [some (vR (some 1)), some (vI 0), some (vI 0)]) i_55_3 rfl ?_
  exact l_55n kk 9 0 0 (by omega) rfl (by omega)

set_option maxRecDepth 100000 in
theorem l_203 {d : Nat} {M : Mem} {Q : Option Vv → Mem → Prop}   (kk : Q (some (vI (cntR (M 281) 0 8))) M) : ∀ (f : Nat) (n : Int) (i : Int), (0 ≤ i ∧ i ≤ 8) → (n = cntR (M 281) 0 i.toNat) → (8 - i).toNat < f → Ok d 203 4 [some (vR (some 273)), some (vI n), some (vI i)] [] M Q := by
  intro f
  induction f with
  | zero => intro n i hi hn hf; exact absurd hf (Nat.not_lt_zero _)
  | succ f ih =>
    intro n i hi hn hf
    have mb := cntR_b (M 281) 0 i.toNat
    refine k_iload_n i_203_4 rfl ?_
    refine k_bipush i_203_5 (by decide) ?_
    refine k_icmp_ge (t := 33) i_203_7 rfl (fun h7 => ?_) (fun h7 => ?_)
    · refine k_iload_n i_203_33 rfl ?_
      refine k_iret i_203_34 rfl ?_
      obtain rfl : i = 8 := by omega
      rw [hn]
      exact kk
    · refine k_iload_n i_203_10 rfl ?_
      refine k_aload_n i_203_11 rfl ?_
      refine k_getR (r := 281) i_203_12 o_203 rfl (by decide) (s_273) rfl ?_
      refine k_iload_n i_203_15 rfl ?_
      refine k_bald i_203_16 (s_281) (by omega) ?_
      refine k_if_eq (t := 24) i_203_17 rfl (fun h17 => ?_) (fun h17 => ?_)
      · refine k_iconst i_203_24 (by decide) ?_
        refine k_iadd i_203_25 (by omega) ?_
        refine k_istore_n (ls' := [some (vR (some 273)), some (vI (n + 0)), some (vI i)]) i_203_26 rfl ?_
        refine k_iinc (ls' := [some (vR (some 273)), some (vI (n + 0)), some (vI (i + 1))]) i_203_27 rfl (by omega) rfl ?_
        refine k_goto (t := 4) i_203_30 rfl ?_
        refine ih _ (i + 1) (by omega) ?_ (by omega)
        rw [show (i + 1).toNat = i.toNat + 1 by omega]
        show _ = cntR (M 281) 0 i.toNat + (if M 281 ((i.toNat : Nat) : Int) = 0 then 0 else 1)
        rw [show ((i.toNat : Nat) : Int) = i by omega, ← hn]
        split <;> omega
      · refine k_iconst i_203_20 (by decide) ?_
        refine k_goto (t := 25) i_203_21 rfl ?_
        refine k_iadd i_203_25 (by omega) ?_
        refine k_istore_n (ls' := [some (vR (some 273)), some (vI (n + 1)), some (vI i)]) i_203_26 rfl ?_
        refine k_iinc (ls' := [some (vR (some 273)), some (vI (n + 1)), some (vI (i + 1))]) i_203_27 rfl (by omega) rfl ?_
        refine k_goto (t := 4) i_203_30 rfl ?_
        refine ih _ (i + 1) (by omega) ?_ (by omega)
        rw [show (i + 1).toNat = i.toNat + 1 by omega]
        show _ = cntR (M 281) 0 i.toNat + (if M 281 ((i.toNat : Nat) : Int) = 0 then 0 else 1)
        rw [show ((i.toNat : Nat) : Int) = i by omega, ← hn]
        split <;> omega

set_option maxRecDepth 100000 in
/-- ElbowQueueModel.rows -/
theorem c_203 {d : Nat} {M : Mem} {Q : Option Vv → Mem → Prop}   (kk : Q (some (vI (cntR (M 281) 0 8))) M) : Ok d 203 0 [some (vR (some 273)), none, none] [] M Q := by
  refine k_iconst i_203_0 (by decide) ?_
  refine k_istore_n (ls' := [some (vR (some 273)), some (vI 0), none]) i_203_1 rfl ?_
  refine k_iconst i_203_2 (by decide) ?_
  refine k_istore_n (ls' := [some (vR (some 273)), some (vI 0), some (vI 0)]) i_203_3 rfl ?_
  exact l_203 kk 9 0 0 (by omega) rfl (by omega)

set_option maxRecDepth 100000 in
/-- ElbowQueue$Reader.length -/
theorem c_32 {d : Nat} {M : Mem} {Q : Option Vv → Mem → Prop}   (k : Q (some (vI (M 13 1))) M) : Ok d 32 0 [some (vR (some 13))] [] M Q := by
  refine k_aload_n i_32_0 rfl ?_
  refine k_getI (kz := 1) i_32_1 o_32 rfl (by decide) (s_13) rfl ?_
  refine k_iret i_32_4 rfl ?_
  exact k

set_option maxRecDepth 100000 in
theorem tp_count {d : Nat} {M : Mem} {w : Int} (h : Rel M)  : Two (d + 24) 115 204 [some (vR (some 0)), some (vI w)] [some (vR (some 273)), some (vI w)] M := by
  obtain ⟨K, T, L, hW⟩ := h.2.2.2.2.1
  obtain ⟨hE, hKo, hS, hK12, hR, hKR, hRR, hA, hAR, hL, hti⟩ := id hW
  have hT := hS.1
  have hK : RepK M 20 K 0 := hK12.mono (by decide)
  have g0 := hKo.1
  have u3 := hT.2.2.1
  have mi9 := hS.2.2
  have k1 : M 20 7 = kPe K := hK.1
  have k2 : M 20 6 = kWt K := hK.2.1
  have q1 : M 274 229 = kPe K := hKR.1
  have q2 : M 274 230 = kPe K - kWt K := hKR.2.1
  obtain ⟨x6, x7, x8, x9, x10, xq, xp⟩ := id hR
  obtain ⟨y6, y7, y8, y9, y10, yq, yp⟩ := id hRR
  have hl28 := q28 hKo hT
  have hl16 : ((tQ T).length : Int) ≤ 16 := by omega
  have hc := cntR_eq h.1 8 (by decide)
  have ht := h.2.2.2.1.1
  have ha1 : M 31 2 = L.length := hA.2.2.1
  have ha2 : M 273 4 = L.length := hAR.1
  show Ok (d + 24) 115 0 [some (vR (some 0)), some (vI w)] [] M _
  refine k_iload_n i_115_0 rfl ?_
  rcases (show w = 0 ∨ w = 1 ∨ w = 2 ∨ w = 3 ∨ w = 4 ∨ w = 5 ∨ w = 6 ∨ w = 7 ∨ w = 8 ∨ (w < 0 ∨ 8 < w) by omega) with hx1 | hx1 | hx1 | hx1 | hx1 | hx1 | hx1 | hx1 | hx1 | hx1
  · refine k_tab (off := 51) (t := 52) i_115_1 (by rw [hx1]; rfl) rfl ?_
    refine k_aload_n i_115_52 rfl ?_
    refine k_getR (r := 1) i_115_53 o_115 rfl (by decide) (s_0) rfl ?_
    refine k_invV (n := 0) (o' := 4) (av := [vR (some 1)]) (rest := []) (el := [some (vR (some 1)), none, none]) i_115_56 o_115 rfl v_55 rfl (s_1) rfl rfl rfl rfl rfl ?_
    refine c_55n ?_
    show Ok _ 115 59 [some (vR (some 0)), some (vI w)] [vI (cntR (M 12) (-1) 8)] (M) _
    refine k_iret i_115_59 rfl ?_
    show Ok (d + 24) 204 0 [some (vR (some 273)), some (vI w)] [] M _
    refine k_iload_n i_204_0 rfl ?_
    rcases (show w = 0 ∨ w = 1 ∨ w = 2 ∨ w = 3 ∨ w = 4 ∨ w = 5 ∨ w = 6 ∨ w = 7 ∨ w = 8 ∨ (w < 0 ∨ 8 < w) by omega) with hx1 | hx1 | hx1 | hx1 | hx1 | hx1 | hx1 | hx1 | hx1 | hx1
    · refine k_tab (off := 51) (t := 52) i_204_1 (by rw [hx1]; rfl) rfl ?_
      refine k_aload_n i_204_52 rfl ?_
      refine k_invV (n := 0) (o' := 8) (av := [vR (some 273)]) (rest := []) (el := [some (vR (some 273)), none, none]) i_204_53 o_204 rfl v_203 rfl (s_273) rfl rfl rfl rfl rfl ?_
      refine c_203 ?_
      show Ok _ 204 56 [some (vR (some 273)), some (vI w)] [vI (cntR (M 281) 0 8)] (M) _
      refine k_iret i_204_56 rfl ?_
      refine ⟨_, rfl, ?_, h⟩
      first
        | exact congrArg (fun z => some (vI z)) (by omega)
        | (exfalso; omega)
    · refine k_tab (off := 56) (t := 57) i_204_1 (by rw [hx1]; rfl) rfl ?_
      refine k_aload_n i_204_57 rfl ?_
      refine k_invV (n := 0) (o' := 8) (av := [vR (some 273)]) (rest := []) (el := [some (vR (some 273))]) i_204_58 o_204 rfl v_142 rfl (s_273) rfl rfl rfl rfl rfl ?_
      refine c_142 ?_
      show Ok _ 204 61 [some (vR (some 273)), some (vI w)] [vI (M 274 229)] (M) _
      refine k_iret i_204_61 rfl ?_
      refine ⟨_, rfl, ?_, h⟩
      first
        | exact congrArg (fun z => some (vI z)) (by omega)
        | (exfalso; omega)
    · refine k_tab (off := 61) (t := 62) i_204_1 (by rw [hx1]; rfl) rfl ?_
      refine k_aload_n i_204_62 rfl ?_
      refine k_getR (r := 274) i_204_63 o_204 rfl (by decide) (s_273) rfl ?_
      refine k_sipush i_204_66 (by decide) ?_
      refine k_iald i_204_69 (s_274) (by omega) ?_
      refine k_iret i_204_70 rfl ?_
      refine ⟨_, rfl, ?_, h⟩
      first
        | exact congrArg (fun z => some (vI z)) (by omega)
        | (exfalso; omega)
    · refine k_tab (off := 70) (t := 71) i_204_1 (by rw [hx1]; rfl) rfl ?_
      refine k_aload_n i_204_71 rfl ?_
      refine k_getR (r := 274) i_204_72 o_204 rfl (by decide) (s_273) rfl ?_
      refine k_sipush i_204_75 (by decide) ?_
      refine k_iald i_204_78 (s_274) (by omega) ?_
      refine k_iret i_204_79 rfl ?_
      refine ⟨_, rfl, ?_, h⟩
      first
        | exact congrArg (fun z => some (vI z)) (by omega)
        | (exfalso; omega)
    · refine k_tab (off := 79) (t := 80) i_204_1 (by rw [hx1]; rfl) rfl ?_
      refine k_aload_n i_204_80 rfl ?_
      refine k_getR (r := 274) i_204_81 o_204 rfl (by decide) (s_273) rfl ?_
      refine k_sipush i_204_84 (by decide) ?_
      refine k_iald i_204_87 (s_274) (by omega) ?_
      refine k_iret i_204_88 rfl ?_
      refine ⟨_, rfl, ?_, h⟩
      first
        | exact congrArg (fun z => some (vI z)) (by omega)
        | (exfalso; omega)
    · refine k_tab (off := 88) (t := 89) i_204_1 (by rw [hx1]; rfl) rfl ?_
      refine k_aload_n i_204_89 rfl ?_
      refine k_getR (r := 274) i_204_90 o_204 rfl (by decide) (s_273) rfl ?_
      refine k_sipush i_204_93 (by decide) ?_
      refine k_iald i_204_96 (s_274) (by omega) ?_
      refine k_iret i_204_97 rfl ?_
      refine ⟨_, rfl, ?_, h⟩
      first
        | exact congrArg (fun z => some (vI z)) (by omega)
        | (exfalso; omega)
    · refine k_tab (off := 97) (t := 98) i_204_1 (by rw [hx1]; rfl) rfl ?_
      refine k_aload_n i_204_98 rfl ?_
      refine k_getR (r := 274) i_204_99 o_204 rfl (by decide) (s_273) rfl ?_
      refine k_sipush i_204_102 (by decide) ?_
      refine k_iald i_204_105 (s_274) (by omega) ?_
      refine k_iret i_204_106 rfl ?_
      refine ⟨_, rfl, ?_, h⟩
      first
        | exact congrArg (fun z => some (vI z)) (by omega)
        | (exfalso; omega)
    · refine k_tab (off := 106) (t := 107) i_204_1 (by rw [hx1]; rfl) rfl ?_
      refine k_aload_n i_204_107 rfl ?_
      refine k_getI (kz := 4) i_204_108 o_204 rfl (by decide) (s_273) rfl ?_
      refine k_iret i_204_111 rfl ?_
      refine ⟨_, rfl, ?_, h⟩
      first
        | exact congrArg (fun z => some (vI z)) (by omega)
        | (exfalso; omega)
    · refine k_tab (off := 111) (t := 112) i_204_1 (by rw [hx1]; rfl) rfl ?_
      refine k_aload_n i_204_112 rfl ?_
      refine k_getI (kz := 13) i_204_113 o_204 rfl (by decide) (s_273) rfl ?_
      refine k_iret i_204_116 rfl ?_
      refine ⟨_, rfl, ?_, h⟩
      first
        | exact congrArg (fun z => some (vI z)) (by omega)
        | (exfalso; omega)
    · refine k_tab (off := 116) (t := 117) i_204_1 (if_pos hx1) rfl ?_
      refine k_ldc (z := -1000001) i_204_117 o_204 rfl (by decide) ?_
      refine k_iret i_204_119 rfl ?_
      refine ⟨_, rfl, ?_, h⟩
      first
        | exact congrArg (fun z => some (vI z)) (by omega)
        | (exfalso; omega)
  · refine k_tab (off := 59) (t := 60) i_115_1 (by rw [hx1]; rfl) rfl ?_
    refine k_aload_n i_115_60 rfl ?_
    refine k_getR (r := 20) i_115_61 o_115 rfl (by decide) (s_0) rfl ?_
    refine k_getI (kz := 7) i_115_64 o_115 rfl (by decide) (s_20) rfl ?_
    refine k_iret i_115_67 rfl ?_
    show Ok (d + 24) 204 0 [some (vR (some 273)), some (vI w)] [] M _
    refine k_iload_n i_204_0 rfl ?_
    rcases (show w = 0 ∨ w = 1 ∨ w = 2 ∨ w = 3 ∨ w = 4 ∨ w = 5 ∨ w = 6 ∨ w = 7 ∨ w = 8 ∨ (w < 0 ∨ 8 < w) by omega) with hx1 | hx1 | hx1 | hx1 | hx1 | hx1 | hx1 | hx1 | hx1 | hx1
    · refine k_tab (off := 51) (t := 52) i_204_1 (by rw [hx1]; rfl) rfl ?_
      refine k_aload_n i_204_52 rfl ?_
      refine k_invV (n := 0) (o' := 8) (av := [vR (some 273)]) (rest := []) (el := [some (vR (some 273)), none, none]) i_204_53 o_204 rfl v_203 rfl (s_273) rfl rfl rfl rfl rfl ?_
      refine c_203 ?_
      show Ok _ 204 56 [some (vR (some 273)), some (vI w)] [vI (cntR (M 281) 0 8)] (M) _
      refine k_iret i_204_56 rfl ?_
      refine ⟨_, rfl, ?_, h⟩
      first
        | exact congrArg (fun z => some (vI z)) (by omega)
        | (exfalso; omega)
    · refine k_tab (off := 56) (t := 57) i_204_1 (by rw [hx1]; rfl) rfl ?_
      refine k_aload_n i_204_57 rfl ?_
      refine k_invV (n := 0) (o' := 8) (av := [vR (some 273)]) (rest := []) (el := [some (vR (some 273))]) i_204_58 o_204 rfl v_142 rfl (s_273) rfl rfl rfl rfl rfl ?_
      refine c_142 ?_
      show Ok _ 204 61 [some (vR (some 273)), some (vI w)] [vI (M 274 229)] (M) _
      refine k_iret i_204_61 rfl ?_
      refine ⟨_, rfl, ?_, h⟩
      first
        | exact congrArg (fun z => some (vI z)) (by omega)
        | (exfalso; omega)
    · refine k_tab (off := 61) (t := 62) i_204_1 (by rw [hx1]; rfl) rfl ?_
      refine k_aload_n i_204_62 rfl ?_
      refine k_getR (r := 274) i_204_63 o_204 rfl (by decide) (s_273) rfl ?_
      refine k_sipush i_204_66 (by decide) ?_
      refine k_iald i_204_69 (s_274) (by omega) ?_
      refine k_iret i_204_70 rfl ?_
      refine ⟨_, rfl, ?_, h⟩
      first
        | exact congrArg (fun z => some (vI z)) (by omega)
        | (exfalso; omega)
    · refine k_tab (off := 70) (t := 71) i_204_1 (by rw [hx1]; rfl) rfl ?_
      refine k_aload_n i_204_71 rfl ?_
      refine k_getR (r := 274) i_204_72 o_204 rfl (by decide) (s_273) rfl ?_
      refine k_sipush i_204_75 (by decide) ?_
      refine k_iald i_204_78 (s_274) (by omega) ?_
      refine k_iret i_204_79 rfl ?_
      refine ⟨_, rfl, ?_, h⟩
      first
        | exact congrArg (fun z => some (vI z)) (by omega)
        | (exfalso; omega)
    · refine k_tab (off := 79) (t := 80) i_204_1 (by rw [hx1]; rfl) rfl ?_
      refine k_aload_n i_204_80 rfl ?_
      refine k_getR (r := 274) i_204_81 o_204 rfl (by decide) (s_273) rfl ?_
      refine k_sipush i_204_84 (by decide) ?_
      refine k_iald i_204_87 (s_274) (by omega) ?_
      refine k_iret i_204_88 rfl ?_
      refine ⟨_, rfl, ?_, h⟩
      first
        | exact congrArg (fun z => some (vI z)) (by omega)
        | (exfalso; omega)
    · refine k_tab (off := 88) (t := 89) i_204_1 (by rw [hx1]; rfl) rfl ?_
      refine k_aload_n i_204_89 rfl ?_
      refine k_getR (r := 274) i_204_90 o_204 rfl (by decide) (s_273) rfl ?_
      refine k_sipush i_204_93 (by decide) ?_
      refine k_iald i_204_96 (s_274) (by omega) ?_
      refine k_iret i_204_97 rfl ?_
      refine ⟨_, rfl, ?_, h⟩
      first
        | exact congrArg (fun z => some (vI z)) (by omega)
        | (exfalso; omega)
    · refine k_tab (off := 97) (t := 98) i_204_1 (by rw [hx1]; rfl) rfl ?_
      refine k_aload_n i_204_98 rfl ?_
      refine k_getR (r := 274) i_204_99 o_204 rfl (by decide) (s_273) rfl ?_
      refine k_sipush i_204_102 (by decide) ?_
      refine k_iald i_204_105 (s_274) (by omega) ?_
      refine k_iret i_204_106 rfl ?_
      refine ⟨_, rfl, ?_, h⟩
      first
        | exact congrArg (fun z => some (vI z)) (by omega)
        | (exfalso; omega)
    · refine k_tab (off := 106) (t := 107) i_204_1 (by rw [hx1]; rfl) rfl ?_
      refine k_aload_n i_204_107 rfl ?_
      refine k_getI (kz := 4) i_204_108 o_204 rfl (by decide) (s_273) rfl ?_
      refine k_iret i_204_111 rfl ?_
      refine ⟨_, rfl, ?_, h⟩
      first
        | exact congrArg (fun z => some (vI z)) (by omega)
        | (exfalso; omega)
    · refine k_tab (off := 111) (t := 112) i_204_1 (by rw [hx1]; rfl) rfl ?_
      refine k_aload_n i_204_112 rfl ?_
      refine k_getI (kz := 13) i_204_113 o_204 rfl (by decide) (s_273) rfl ?_
      refine k_iret i_204_116 rfl ?_
      refine ⟨_, rfl, ?_, h⟩
      first
        | exact congrArg (fun z => some (vI z)) (by omega)
        | (exfalso; omega)
    · refine k_tab (off := 116) (t := 117) i_204_1 (if_pos hx1) rfl ?_
      refine k_ldc (z := -1000001) i_204_117 o_204 rfl (by decide) ?_
      refine k_iret i_204_119 rfl ?_
      refine ⟨_, rfl, ?_, h⟩
      first
        | exact congrArg (fun z => some (vI z)) (by omega)
        | (exfalso; omega)
  · refine k_tab (off := 67) (t := 68) i_115_1 (by rw [hx1]; rfl) rfl ?_
    refine k_aload_n i_115_68 rfl ?_
    refine k_getR (r := 20) i_115_69 o_115 rfl (by decide) (s_0) rfl ?_
    refine k_getI (kz := 7) i_115_72 o_115 rfl (by decide) (s_20) rfl ?_
    refine k_aload_n i_115_75 rfl ?_
    refine k_getR (r := 20) i_115_76 o_115 rfl (by decide) (s_0) rfl ?_
    refine k_getI (kz := 6) i_115_79 o_115 rfl (by decide) (s_20) rfl ?_
    refine k_isub i_115_82 (by omega) ?_
    refine k_iret i_115_83 rfl ?_
    show Ok (d + 24) 204 0 [some (vR (some 273)), some (vI w)] [] M _
    refine k_iload_n i_204_0 rfl ?_
    rcases (show w = 0 ∨ w = 1 ∨ w = 2 ∨ w = 3 ∨ w = 4 ∨ w = 5 ∨ w = 6 ∨ w = 7 ∨ w = 8 ∨ (w < 0 ∨ 8 < w) by omega) with hx1 | hx1 | hx1 | hx1 | hx1 | hx1 | hx1 | hx1 | hx1 | hx1
    · refine k_tab (off := 51) (t := 52) i_204_1 (by rw [hx1]; rfl) rfl ?_
      refine k_aload_n i_204_52 rfl ?_
      refine k_invV (n := 0) (o' := 8) (av := [vR (some 273)]) (rest := []) (el := [some (vR (some 273)), none, none]) i_204_53 o_204 rfl v_203 rfl (s_273) rfl rfl rfl rfl rfl ?_
      refine c_203 ?_
      show Ok _ 204 56 [some (vR (some 273)), some (vI w)] [vI (cntR (M 281) 0 8)] (M) _
      refine k_iret i_204_56 rfl ?_
      refine ⟨_, rfl, ?_, h⟩
      first
        | exact congrArg (fun z => some (vI z)) (by omega)
        | (exfalso; omega)
    · refine k_tab (off := 56) (t := 57) i_204_1 (by rw [hx1]; rfl) rfl ?_
      refine k_aload_n i_204_57 rfl ?_
      refine k_invV (n := 0) (o' := 8) (av := [vR (some 273)]) (rest := []) (el := [some (vR (some 273))]) i_204_58 o_204 rfl v_142 rfl (s_273) rfl rfl rfl rfl rfl ?_
      refine c_142 ?_
      show Ok _ 204 61 [some (vR (some 273)), some (vI w)] [vI (M 274 229)] (M) _
      refine k_iret i_204_61 rfl ?_
      refine ⟨_, rfl, ?_, h⟩
      first
        | exact congrArg (fun z => some (vI z)) (by omega)
        | (exfalso; omega)
    · refine k_tab (off := 61) (t := 62) i_204_1 (by rw [hx1]; rfl) rfl ?_
      refine k_aload_n i_204_62 rfl ?_
      refine k_getR (r := 274) i_204_63 o_204 rfl (by decide) (s_273) rfl ?_
      refine k_sipush i_204_66 (by decide) ?_
      refine k_iald i_204_69 (s_274) (by omega) ?_
      refine k_iret i_204_70 rfl ?_
      refine ⟨_, rfl, ?_, h⟩
      first
        | exact congrArg (fun z => some (vI z)) (by omega)
        | (exfalso; omega)
    · refine k_tab (off := 70) (t := 71) i_204_1 (by rw [hx1]; rfl) rfl ?_
      refine k_aload_n i_204_71 rfl ?_
      refine k_getR (r := 274) i_204_72 o_204 rfl (by decide) (s_273) rfl ?_
      refine k_sipush i_204_75 (by decide) ?_
      refine k_iald i_204_78 (s_274) (by omega) ?_
      refine k_iret i_204_79 rfl ?_
      refine ⟨_, rfl, ?_, h⟩
      first
        | exact congrArg (fun z => some (vI z)) (by omega)
        | (exfalso; omega)
    · refine k_tab (off := 79) (t := 80) i_204_1 (by rw [hx1]; rfl) rfl ?_
      refine k_aload_n i_204_80 rfl ?_
      refine k_getR (r := 274) i_204_81 o_204 rfl (by decide) (s_273) rfl ?_
      refine k_sipush i_204_84 (by decide) ?_
      refine k_iald i_204_87 (s_274) (by omega) ?_
      refine k_iret i_204_88 rfl ?_
      refine ⟨_, rfl, ?_, h⟩
      first
        | exact congrArg (fun z => some (vI z)) (by omega)
        | (exfalso; omega)
    · refine k_tab (off := 88) (t := 89) i_204_1 (by rw [hx1]; rfl) rfl ?_
      refine k_aload_n i_204_89 rfl ?_
      refine k_getR (r := 274) i_204_90 o_204 rfl (by decide) (s_273) rfl ?_
      refine k_sipush i_204_93 (by decide) ?_
      refine k_iald i_204_96 (s_274) (by omega) ?_
      refine k_iret i_204_97 rfl ?_
      refine ⟨_, rfl, ?_, h⟩
      first
        | exact congrArg (fun z => some (vI z)) (by omega)
        | (exfalso; omega)
    · refine k_tab (off := 97) (t := 98) i_204_1 (by rw [hx1]; rfl) rfl ?_
      refine k_aload_n i_204_98 rfl ?_
      refine k_getR (r := 274) i_204_99 o_204 rfl (by decide) (s_273) rfl ?_
      refine k_sipush i_204_102 (by decide) ?_
      refine k_iald i_204_105 (s_274) (by omega) ?_
      refine k_iret i_204_106 rfl ?_
      refine ⟨_, rfl, ?_, h⟩
      first
        | exact congrArg (fun z => some (vI z)) (by omega)
        | (exfalso; omega)
    · refine k_tab (off := 106) (t := 107) i_204_1 (by rw [hx1]; rfl) rfl ?_
      refine k_aload_n i_204_107 rfl ?_
      refine k_getI (kz := 4) i_204_108 o_204 rfl (by decide) (s_273) rfl ?_
      refine k_iret i_204_111 rfl ?_
      refine ⟨_, rfl, ?_, h⟩
      first
        | exact congrArg (fun z => some (vI z)) (by omega)
        | (exfalso; omega)
    · refine k_tab (off := 111) (t := 112) i_204_1 (by rw [hx1]; rfl) rfl ?_
      refine k_aload_n i_204_112 rfl ?_
      refine k_getI (kz := 13) i_204_113 o_204 rfl (by decide) (s_273) rfl ?_
      refine k_iret i_204_116 rfl ?_
      refine ⟨_, rfl, ?_, h⟩
      first
        | exact congrArg (fun z => some (vI z)) (by omega)
        | (exfalso; omega)
    · refine k_tab (off := 116) (t := 117) i_204_1 (if_pos hx1) rfl ?_
      refine k_ldc (z := -1000001) i_204_117 o_204 rfl (by decide) ?_
      refine k_iret i_204_119 rfl ?_
      refine ⟨_, rfl, ?_, h⟩
      first
        | exact congrArg (fun z => some (vI z)) (by omega)
        | (exfalso; omega)
  · refine k_tab (off := 83) (t := 84) i_115_1 (by rw [hx1]; rfl) rfl ?_
    refine k_aload_n i_115_84 rfl ?_
    refine k_getR (r := 25) i_115_85 o_115 rfl (by decide) (s_0) rfl ?_
    refine k_getI (kz := 6) i_115_88 o_115 rfl (by decide) (s_25) rfl ?_
    refine k_iret i_115_91 rfl ?_
    show Ok (d + 24) 204 0 [some (vR (some 273)), some (vI w)] [] M _
    refine k_iload_n i_204_0 rfl ?_
    rcases (show w = 0 ∨ w = 1 ∨ w = 2 ∨ w = 3 ∨ w = 4 ∨ w = 5 ∨ w = 6 ∨ w = 7 ∨ w = 8 ∨ (w < 0 ∨ 8 < w) by omega) with hx1 | hx1 | hx1 | hx1 | hx1 | hx1 | hx1 | hx1 | hx1 | hx1
    · refine k_tab (off := 51) (t := 52) i_204_1 (by rw [hx1]; rfl) rfl ?_
      refine k_aload_n i_204_52 rfl ?_
      refine k_invV (n := 0) (o' := 8) (av := [vR (some 273)]) (rest := []) (el := [some (vR (some 273)), none, none]) i_204_53 o_204 rfl v_203 rfl (s_273) rfl rfl rfl rfl rfl ?_
      refine c_203 ?_
      show Ok _ 204 56 [some (vR (some 273)), some (vI w)] [vI (cntR (M 281) 0 8)] (M) _
      refine k_iret i_204_56 rfl ?_
      refine ⟨_, rfl, ?_, h⟩
      first
        | exact congrArg (fun z => some (vI z)) (by omega)
        | (exfalso; omega)
    · refine k_tab (off := 56) (t := 57) i_204_1 (by rw [hx1]; rfl) rfl ?_
      refine k_aload_n i_204_57 rfl ?_
      refine k_invV (n := 0) (o' := 8) (av := [vR (some 273)]) (rest := []) (el := [some (vR (some 273))]) i_204_58 o_204 rfl v_142 rfl (s_273) rfl rfl rfl rfl rfl ?_
      refine c_142 ?_
      show Ok _ 204 61 [some (vR (some 273)), some (vI w)] [vI (M 274 229)] (M) _
      refine k_iret i_204_61 rfl ?_
      refine ⟨_, rfl, ?_, h⟩
      first
        | exact congrArg (fun z => some (vI z)) (by omega)
        | (exfalso; omega)
    · refine k_tab (off := 61) (t := 62) i_204_1 (by rw [hx1]; rfl) rfl ?_
      refine k_aload_n i_204_62 rfl ?_
      refine k_getR (r := 274) i_204_63 o_204 rfl (by decide) (s_273) rfl ?_
      refine k_sipush i_204_66 (by decide) ?_
      refine k_iald i_204_69 (s_274) (by omega) ?_
      refine k_iret i_204_70 rfl ?_
      refine ⟨_, rfl, ?_, h⟩
      first
        | exact congrArg (fun z => some (vI z)) (by omega)
        | (exfalso; omega)
    · refine k_tab (off := 70) (t := 71) i_204_1 (by rw [hx1]; rfl) rfl ?_
      refine k_aload_n i_204_71 rfl ?_
      refine k_getR (r := 274) i_204_72 o_204 rfl (by decide) (s_273) rfl ?_
      refine k_sipush i_204_75 (by decide) ?_
      refine k_iald i_204_78 (s_274) (by omega) ?_
      refine k_iret i_204_79 rfl ?_
      refine ⟨_, rfl, ?_, h⟩
      first
        | exact congrArg (fun z => some (vI z)) (by omega)
        | (exfalso; omega)
    · refine k_tab (off := 79) (t := 80) i_204_1 (by rw [hx1]; rfl) rfl ?_
      refine k_aload_n i_204_80 rfl ?_
      refine k_getR (r := 274) i_204_81 o_204 rfl (by decide) (s_273) rfl ?_
      refine k_sipush i_204_84 (by decide) ?_
      refine k_iald i_204_87 (s_274) (by omega) ?_
      refine k_iret i_204_88 rfl ?_
      refine ⟨_, rfl, ?_, h⟩
      first
        | exact congrArg (fun z => some (vI z)) (by omega)
        | (exfalso; omega)
    · refine k_tab (off := 88) (t := 89) i_204_1 (by rw [hx1]; rfl) rfl ?_
      refine k_aload_n i_204_89 rfl ?_
      refine k_getR (r := 274) i_204_90 o_204 rfl (by decide) (s_273) rfl ?_
      refine k_sipush i_204_93 (by decide) ?_
      refine k_iald i_204_96 (s_274) (by omega) ?_
      refine k_iret i_204_97 rfl ?_
      refine ⟨_, rfl, ?_, h⟩
      first
        | exact congrArg (fun z => some (vI z)) (by omega)
        | (exfalso; omega)
    · refine k_tab (off := 97) (t := 98) i_204_1 (by rw [hx1]; rfl) rfl ?_
      refine k_aload_n i_204_98 rfl ?_
      refine k_getR (r := 274) i_204_99 o_204 rfl (by decide) (s_273) rfl ?_
      refine k_sipush i_204_102 (by decide) ?_
      refine k_iald i_204_105 (s_274) (by omega) ?_
      refine k_iret i_204_106 rfl ?_
      refine ⟨_, rfl, ?_, h⟩
      first
        | exact congrArg (fun z => some (vI z)) (by omega)
        | (exfalso; omega)
    · refine k_tab (off := 106) (t := 107) i_204_1 (by rw [hx1]; rfl) rfl ?_
      refine k_aload_n i_204_107 rfl ?_
      refine k_getI (kz := 4) i_204_108 o_204 rfl (by decide) (s_273) rfl ?_
      refine k_iret i_204_111 rfl ?_
      refine ⟨_, rfl, ?_, h⟩
      first
        | exact congrArg (fun z => some (vI z)) (by omega)
        | (exfalso; omega)
    · refine k_tab (off := 111) (t := 112) i_204_1 (by rw [hx1]; rfl) rfl ?_
      refine k_aload_n i_204_112 rfl ?_
      refine k_getI (kz := 13) i_204_113 o_204 rfl (by decide) (s_273) rfl ?_
      refine k_iret i_204_116 rfl ?_
      refine ⟨_, rfl, ?_, h⟩
      first
        | exact congrArg (fun z => some (vI z)) (by omega)
        | (exfalso; omega)
    · refine k_tab (off := 116) (t := 117) i_204_1 (if_pos hx1) rfl ?_
      refine k_ldc (z := -1000001) i_204_117 o_204 rfl (by decide) ?_
      refine k_iret i_204_119 rfl ?_
      refine ⟨_, rfl, ?_, h⟩
      first
        | exact congrArg (fun z => some (vI z)) (by omega)
        | (exfalso; omega)
  · refine k_tab (off := 91) (t := 92) i_115_1 (by rw [hx1]; rfl) rfl ?_
    refine k_aload_n i_115_92 rfl ?_
    refine k_getR (r := 25) i_115_93 o_115 rfl (by decide) (s_0) rfl ?_
    refine k_getI (kz := 9) i_115_96 o_115 rfl (by decide) (s_25) rfl ?_
    refine k_iret i_115_99 rfl ?_
    show Ok (d + 24) 204 0 [some (vR (some 273)), some (vI w)] [] M _
    refine k_iload_n i_204_0 rfl ?_
    rcases (show w = 0 ∨ w = 1 ∨ w = 2 ∨ w = 3 ∨ w = 4 ∨ w = 5 ∨ w = 6 ∨ w = 7 ∨ w = 8 ∨ (w < 0 ∨ 8 < w) by omega) with hx1 | hx1 | hx1 | hx1 | hx1 | hx1 | hx1 | hx1 | hx1 | hx1
    · refine k_tab (off := 51) (t := 52) i_204_1 (by rw [hx1]; rfl) rfl ?_
      refine k_aload_n i_204_52 rfl ?_
      refine k_invV (n := 0) (o' := 8) (av := [vR (some 273)]) (rest := []) (el := [some (vR (some 273)), none, none]) i_204_53 o_204 rfl v_203 rfl (s_273) rfl rfl rfl rfl rfl ?_
      refine c_203 ?_
      show Ok _ 204 56 [some (vR (some 273)), some (vI w)] [vI (cntR (M 281) 0 8)] (M) _
      refine k_iret i_204_56 rfl ?_
      refine ⟨_, rfl, ?_, h⟩
      first
        | exact congrArg (fun z => some (vI z)) (by omega)
        | (exfalso; omega)
    · refine k_tab (off := 56) (t := 57) i_204_1 (by rw [hx1]; rfl) rfl ?_
      refine k_aload_n i_204_57 rfl ?_
      refine k_invV (n := 0) (o' := 8) (av := [vR (some 273)]) (rest := []) (el := [some (vR (some 273))]) i_204_58 o_204 rfl v_142 rfl (s_273) rfl rfl rfl rfl rfl ?_
      refine c_142 ?_
      show Ok _ 204 61 [some (vR (some 273)), some (vI w)] [vI (M 274 229)] (M) _
      refine k_iret i_204_61 rfl ?_
      refine ⟨_, rfl, ?_, h⟩
      first
        | exact congrArg (fun z => some (vI z)) (by omega)
        | (exfalso; omega)
    · refine k_tab (off := 61) (t := 62) i_204_1 (by rw [hx1]; rfl) rfl ?_
      refine k_aload_n i_204_62 rfl ?_
      refine k_getR (r := 274) i_204_63 o_204 rfl (by decide) (s_273) rfl ?_
      refine k_sipush i_204_66 (by decide) ?_
      refine k_iald i_204_69 (s_274) (by omega) ?_
      refine k_iret i_204_70 rfl ?_
      refine ⟨_, rfl, ?_, h⟩
      first
        | exact congrArg (fun z => some (vI z)) (by omega)
        | (exfalso; omega)
    · refine k_tab (off := 70) (t := 71) i_204_1 (by rw [hx1]; rfl) rfl ?_
      refine k_aload_n i_204_71 rfl ?_
      refine k_getR (r := 274) i_204_72 o_204 rfl (by decide) (s_273) rfl ?_
      refine k_sipush i_204_75 (by decide) ?_
      refine k_iald i_204_78 (s_274) (by omega) ?_
      refine k_iret i_204_79 rfl ?_
      refine ⟨_, rfl, ?_, h⟩
      first
        | exact congrArg (fun z => some (vI z)) (by omega)
        | (exfalso; omega)
    · refine k_tab (off := 79) (t := 80) i_204_1 (by rw [hx1]; rfl) rfl ?_
      refine k_aload_n i_204_80 rfl ?_
      refine k_getR (r := 274) i_204_81 o_204 rfl (by decide) (s_273) rfl ?_
      refine k_sipush i_204_84 (by decide) ?_
      refine k_iald i_204_87 (s_274) (by omega) ?_
      refine k_iret i_204_88 rfl ?_
      refine ⟨_, rfl, ?_, h⟩
      first
        | exact congrArg (fun z => some (vI z)) (by omega)
        | (exfalso; omega)
    · refine k_tab (off := 88) (t := 89) i_204_1 (by rw [hx1]; rfl) rfl ?_
      refine k_aload_n i_204_89 rfl ?_
      refine k_getR (r := 274) i_204_90 o_204 rfl (by decide) (s_273) rfl ?_
      refine k_sipush i_204_93 (by decide) ?_
      refine k_iald i_204_96 (s_274) (by omega) ?_
      refine k_iret i_204_97 rfl ?_
      refine ⟨_, rfl, ?_, h⟩
      first
        | exact congrArg (fun z => some (vI z)) (by omega)
        | (exfalso; omega)
    · refine k_tab (off := 97) (t := 98) i_204_1 (by rw [hx1]; rfl) rfl ?_
      refine k_aload_n i_204_98 rfl ?_
      refine k_getR (r := 274) i_204_99 o_204 rfl (by decide) (s_273) rfl ?_
      refine k_sipush i_204_102 (by decide) ?_
      refine k_iald i_204_105 (s_274) (by omega) ?_
      refine k_iret i_204_106 rfl ?_
      refine ⟨_, rfl, ?_, h⟩
      first
        | exact congrArg (fun z => some (vI z)) (by omega)
        | (exfalso; omega)
    · refine k_tab (off := 106) (t := 107) i_204_1 (by rw [hx1]; rfl) rfl ?_
      refine k_aload_n i_204_107 rfl ?_
      refine k_getI (kz := 4) i_204_108 o_204 rfl (by decide) (s_273) rfl ?_
      refine k_iret i_204_111 rfl ?_
      refine ⟨_, rfl, ?_, h⟩
      first
        | exact congrArg (fun z => some (vI z)) (by omega)
        | (exfalso; omega)
    · refine k_tab (off := 111) (t := 112) i_204_1 (by rw [hx1]; rfl) rfl ?_
      refine k_aload_n i_204_112 rfl ?_
      refine k_getI (kz := 13) i_204_113 o_204 rfl (by decide) (s_273) rfl ?_
      refine k_iret i_204_116 rfl ?_
      refine ⟨_, rfl, ?_, h⟩
      first
        | exact congrArg (fun z => some (vI z)) (by omega)
        | (exfalso; omega)
    · refine k_tab (off := 116) (t := 117) i_204_1 (if_pos hx1) rfl ?_
      refine k_ldc (z := -1000001) i_204_117 o_204 rfl (by decide) ?_
      refine k_iret i_204_119 rfl ?_
      refine ⟨_, rfl, ?_, h⟩
      first
        | exact congrArg (fun z => some (vI z)) (by omega)
        | (exfalso; omega)
  · refine k_tab (off := 99) (t := 100) i_115_1 (by rw [hx1]; rfl) rfl ?_
    refine k_aload_n i_115_100 rfl ?_
    refine k_getR (r := 25) i_115_101 o_115 rfl (by decide) (s_0) rfl ?_
    refine k_getI (kz := 7) i_115_104 o_115 rfl (by decide) (s_25) rfl ?_
    refine k_iret i_115_107 rfl ?_
    show Ok (d + 24) 204 0 [some (vR (some 273)), some (vI w)] [] M _
    refine k_iload_n i_204_0 rfl ?_
    rcases (show w = 0 ∨ w = 1 ∨ w = 2 ∨ w = 3 ∨ w = 4 ∨ w = 5 ∨ w = 6 ∨ w = 7 ∨ w = 8 ∨ (w < 0 ∨ 8 < w) by omega) with hx1 | hx1 | hx1 | hx1 | hx1 | hx1 | hx1 | hx1 | hx1 | hx1
    · refine k_tab (off := 51) (t := 52) i_204_1 (by rw [hx1]; rfl) rfl ?_
      refine k_aload_n i_204_52 rfl ?_
      refine k_invV (n := 0) (o' := 8) (av := [vR (some 273)]) (rest := []) (el := [some (vR (some 273)), none, none]) i_204_53 o_204 rfl v_203 rfl (s_273) rfl rfl rfl rfl rfl ?_
      refine c_203 ?_
      show Ok _ 204 56 [some (vR (some 273)), some (vI w)] [vI (cntR (M 281) 0 8)] (M) _
      refine k_iret i_204_56 rfl ?_
      refine ⟨_, rfl, ?_, h⟩
      first
        | exact congrArg (fun z => some (vI z)) (by omega)
        | (exfalso; omega)
    · refine k_tab (off := 56) (t := 57) i_204_1 (by rw [hx1]; rfl) rfl ?_
      refine k_aload_n i_204_57 rfl ?_
      refine k_invV (n := 0) (o' := 8) (av := [vR (some 273)]) (rest := []) (el := [some (vR (some 273))]) i_204_58 o_204 rfl v_142 rfl (s_273) rfl rfl rfl rfl rfl ?_
      refine c_142 ?_
      show Ok _ 204 61 [some (vR (some 273)), some (vI w)] [vI (M 274 229)] (M) _
      refine k_iret i_204_61 rfl ?_
      refine ⟨_, rfl, ?_, h⟩
      first
        | exact congrArg (fun z => some (vI z)) (by omega)
        | (exfalso; omega)
    · refine k_tab (off := 61) (t := 62) i_204_1 (by rw [hx1]; rfl) rfl ?_
      refine k_aload_n i_204_62 rfl ?_
      refine k_getR (r := 274) i_204_63 o_204 rfl (by decide) (s_273) rfl ?_
      refine k_sipush i_204_66 (by decide) ?_
      refine k_iald i_204_69 (s_274) (by omega) ?_
      refine k_iret i_204_70 rfl ?_
      refine ⟨_, rfl, ?_, h⟩
      first
        | exact congrArg (fun z => some (vI z)) (by omega)
        | (exfalso; omega)
    · refine k_tab (off := 70) (t := 71) i_204_1 (by rw [hx1]; rfl) rfl ?_
      refine k_aload_n i_204_71 rfl ?_
      refine k_getR (r := 274) i_204_72 o_204 rfl (by decide) (s_273) rfl ?_
      refine k_sipush i_204_75 (by decide) ?_
      refine k_iald i_204_78 (s_274) (by omega) ?_
      refine k_iret i_204_79 rfl ?_
      refine ⟨_, rfl, ?_, h⟩
      first
        | exact congrArg (fun z => some (vI z)) (by omega)
        | (exfalso; omega)
    · refine k_tab (off := 79) (t := 80) i_204_1 (by rw [hx1]; rfl) rfl ?_
      refine k_aload_n i_204_80 rfl ?_
      refine k_getR (r := 274) i_204_81 o_204 rfl (by decide) (s_273) rfl ?_
      refine k_sipush i_204_84 (by decide) ?_
      refine k_iald i_204_87 (s_274) (by omega) ?_
      refine k_iret i_204_88 rfl ?_
      refine ⟨_, rfl, ?_, h⟩
      first
        | exact congrArg (fun z => some (vI z)) (by omega)
        | (exfalso; omega)
    · refine k_tab (off := 88) (t := 89) i_204_1 (by rw [hx1]; rfl) rfl ?_
      refine k_aload_n i_204_89 rfl ?_
      refine k_getR (r := 274) i_204_90 o_204 rfl (by decide) (s_273) rfl ?_
      refine k_sipush i_204_93 (by decide) ?_
      refine k_iald i_204_96 (s_274) (by omega) ?_
      refine k_iret i_204_97 rfl ?_
      refine ⟨_, rfl, ?_, h⟩
      first
        | exact congrArg (fun z => some (vI z)) (by omega)
        | (exfalso; omega)
    · refine k_tab (off := 97) (t := 98) i_204_1 (by rw [hx1]; rfl) rfl ?_
      refine k_aload_n i_204_98 rfl ?_
      refine k_getR (r := 274) i_204_99 o_204 rfl (by decide) (s_273) rfl ?_
      refine k_sipush i_204_102 (by decide) ?_
      refine k_iald i_204_105 (s_274) (by omega) ?_
      refine k_iret i_204_106 rfl ?_
      refine ⟨_, rfl, ?_, h⟩
      first
        | exact congrArg (fun z => some (vI z)) (by omega)
        | (exfalso; omega)
    · refine k_tab (off := 106) (t := 107) i_204_1 (by rw [hx1]; rfl) rfl ?_
      refine k_aload_n i_204_107 rfl ?_
      refine k_getI (kz := 4) i_204_108 o_204 rfl (by decide) (s_273) rfl ?_
      refine k_iret i_204_111 rfl ?_
      refine ⟨_, rfl, ?_, h⟩
      first
        | exact congrArg (fun z => some (vI z)) (by omega)
        | (exfalso; omega)
    · refine k_tab (off := 111) (t := 112) i_204_1 (by rw [hx1]; rfl) rfl ?_
      refine k_aload_n i_204_112 rfl ?_
      refine k_getI (kz := 13) i_204_113 o_204 rfl (by decide) (s_273) rfl ?_
      refine k_iret i_204_116 rfl ?_
      refine ⟨_, rfl, ?_, h⟩
      first
        | exact congrArg (fun z => some (vI z)) (by omega)
        | (exfalso; omega)
    · refine k_tab (off := 116) (t := 117) i_204_1 (if_pos hx1) rfl ?_
      refine k_ldc (z := -1000001) i_204_117 o_204 rfl (by decide) ?_
      refine k_iret i_204_119 rfl ?_
      refine ⟨_, rfl, ?_, h⟩
      first
        | exact congrArg (fun z => some (vI z)) (by omega)
        | (exfalso; omega)
  · refine k_tab (off := 107) (t := 108) i_115_1 (by rw [hx1]; rfl) rfl ?_
    refine k_aload_n i_115_108 rfl ?_
    refine k_getR (r := 25) i_115_109 o_115 rfl (by decide) (s_0) rfl ?_
    refine k_getI (kz := 8) i_115_112 o_115 rfl (by decide) (s_25) rfl ?_
    refine k_iret i_115_115 rfl ?_
    show Ok (d + 24) 204 0 [some (vR (some 273)), some (vI w)] [] M _
    refine k_iload_n i_204_0 rfl ?_
    rcases (show w = 0 ∨ w = 1 ∨ w = 2 ∨ w = 3 ∨ w = 4 ∨ w = 5 ∨ w = 6 ∨ w = 7 ∨ w = 8 ∨ (w < 0 ∨ 8 < w) by omega) with hx1 | hx1 | hx1 | hx1 | hx1 | hx1 | hx1 | hx1 | hx1 | hx1
    · refine k_tab (off := 51) (t := 52) i_204_1 (by rw [hx1]; rfl) rfl ?_
      refine k_aload_n i_204_52 rfl ?_
      refine k_invV (n := 0) (o' := 8) (av := [vR (some 273)]) (rest := []) (el := [some (vR (some 273)), none, none]) i_204_53 o_204 rfl v_203 rfl (s_273) rfl rfl rfl rfl rfl ?_
      refine c_203 ?_
      show Ok _ 204 56 [some (vR (some 273)), some (vI w)] [vI (cntR (M 281) 0 8)] (M) _
      refine k_iret i_204_56 rfl ?_
      refine ⟨_, rfl, ?_, h⟩
      first
        | exact congrArg (fun z => some (vI z)) (by omega)
        | (exfalso; omega)
    · refine k_tab (off := 56) (t := 57) i_204_1 (by rw [hx1]; rfl) rfl ?_
      refine k_aload_n i_204_57 rfl ?_
      refine k_invV (n := 0) (o' := 8) (av := [vR (some 273)]) (rest := []) (el := [some (vR (some 273))]) i_204_58 o_204 rfl v_142 rfl (s_273) rfl rfl rfl rfl rfl ?_
      refine c_142 ?_
      show Ok _ 204 61 [some (vR (some 273)), some (vI w)] [vI (M 274 229)] (M) _
      refine k_iret i_204_61 rfl ?_
      refine ⟨_, rfl, ?_, h⟩
      first
        | exact congrArg (fun z => some (vI z)) (by omega)
        | (exfalso; omega)
    · refine k_tab (off := 61) (t := 62) i_204_1 (by rw [hx1]; rfl) rfl ?_
      refine k_aload_n i_204_62 rfl ?_
      refine k_getR (r := 274) i_204_63 o_204 rfl (by decide) (s_273) rfl ?_
      refine k_sipush i_204_66 (by decide) ?_
      refine k_iald i_204_69 (s_274) (by omega) ?_
      refine k_iret i_204_70 rfl ?_
      refine ⟨_, rfl, ?_, h⟩
      first
        | exact congrArg (fun z => some (vI z)) (by omega)
        | (exfalso; omega)
    · refine k_tab (off := 70) (t := 71) i_204_1 (by rw [hx1]; rfl) rfl ?_
      refine k_aload_n i_204_71 rfl ?_
      refine k_getR (r := 274) i_204_72 o_204 rfl (by decide) (s_273) rfl ?_
      refine k_sipush i_204_75 (by decide) ?_
      refine k_iald i_204_78 (s_274) (by omega) ?_
      refine k_iret i_204_79 rfl ?_
      refine ⟨_, rfl, ?_, h⟩
      first
        | exact congrArg (fun z => some (vI z)) (by omega)
        | (exfalso; omega)
    · refine k_tab (off := 79) (t := 80) i_204_1 (by rw [hx1]; rfl) rfl ?_
      refine k_aload_n i_204_80 rfl ?_
      refine k_getR (r := 274) i_204_81 o_204 rfl (by decide) (s_273) rfl ?_
      refine k_sipush i_204_84 (by decide) ?_
      refine k_iald i_204_87 (s_274) (by omega) ?_
      refine k_iret i_204_88 rfl ?_
      refine ⟨_, rfl, ?_, h⟩
      first
        | exact congrArg (fun z => some (vI z)) (by omega)
        | (exfalso; omega)
    · refine k_tab (off := 88) (t := 89) i_204_1 (by rw [hx1]; rfl) rfl ?_
      refine k_aload_n i_204_89 rfl ?_
      refine k_getR (r := 274) i_204_90 o_204 rfl (by decide) (s_273) rfl ?_
      refine k_sipush i_204_93 (by decide) ?_
      refine k_iald i_204_96 (s_274) (by omega) ?_
      refine k_iret i_204_97 rfl ?_
      refine ⟨_, rfl, ?_, h⟩
      first
        | exact congrArg (fun z => some (vI z)) (by omega)
        | (exfalso; omega)
    · refine k_tab (off := 97) (t := 98) i_204_1 (by rw [hx1]; rfl) rfl ?_
      refine k_aload_n i_204_98 rfl ?_
      refine k_getR (r := 274) i_204_99 o_204 rfl (by decide) (s_273) rfl ?_
      refine k_sipush i_204_102 (by decide) ?_
      refine k_iald i_204_105 (s_274) (by omega) ?_
      refine k_iret i_204_106 rfl ?_
      refine ⟨_, rfl, ?_, h⟩
      first
        | exact congrArg (fun z => some (vI z)) (by omega)
        | (exfalso; omega)
    · refine k_tab (off := 106) (t := 107) i_204_1 (by rw [hx1]; rfl) rfl ?_
      refine k_aload_n i_204_107 rfl ?_
      refine k_getI (kz := 4) i_204_108 o_204 rfl (by decide) (s_273) rfl ?_
      refine k_iret i_204_111 rfl ?_
      refine ⟨_, rfl, ?_, h⟩
      first
        | exact congrArg (fun z => some (vI z)) (by omega)
        | (exfalso; omega)
    · refine k_tab (off := 111) (t := 112) i_204_1 (by rw [hx1]; rfl) rfl ?_
      refine k_aload_n i_204_112 rfl ?_
      refine k_getI (kz := 13) i_204_113 o_204 rfl (by decide) (s_273) rfl ?_
      refine k_iret i_204_116 rfl ?_
      refine ⟨_, rfl, ?_, h⟩
      first
        | exact congrArg (fun z => some (vI z)) (by omega)
        | (exfalso; omega)
    · refine k_tab (off := 116) (t := 117) i_204_1 (if_pos hx1) rfl ?_
      refine k_ldc (z := -1000001) i_204_117 o_204 rfl (by decide) ?_
      refine k_iret i_204_119 rfl ?_
      refine ⟨_, rfl, ?_, h⟩
      first
        | exact congrArg (fun z => some (vI z)) (by omega)
        | (exfalso; omega)
  · refine k_tab (off := 115) (t := 116) i_115_1 (by rw [hx1]; rfl) rfl ?_
    refine k_aload_n i_115_116 rfl ?_
    refine k_getR (r := 31) i_115_117 o_115 rfl (by decide) (s_0) rfl ?_
    refine k_invV (n := 0) (o' := 0) (av := [vR (some 31)]) (rest := []) (el := [some (vR (some 31))]) i_115_120 o_115 rfl v_1 rfl (s_31) rfl rfl rfl rfl rfl ?_
    refine c_1 ?_
    show Ok _ 115 123 [some (vR (some 0)), some (vI w)] [vI (M 31 2)] (M) _
    refine k_iret i_115_123 rfl ?_
    show Ok (d + 24) 204 0 [some (vR (some 273)), some (vI w)] [] M _
    refine k_iload_n i_204_0 rfl ?_
    rcases (show w = 0 ∨ w = 1 ∨ w = 2 ∨ w = 3 ∨ w = 4 ∨ w = 5 ∨ w = 6 ∨ w = 7 ∨ w = 8 ∨ (w < 0 ∨ 8 < w) by omega) with hx1 | hx1 | hx1 | hx1 | hx1 | hx1 | hx1 | hx1 | hx1 | hx1
    · refine k_tab (off := 51) (t := 52) i_204_1 (by rw [hx1]; rfl) rfl ?_
      refine k_aload_n i_204_52 rfl ?_
      refine k_invV (n := 0) (o' := 8) (av := [vR (some 273)]) (rest := []) (el := [some (vR (some 273)), none, none]) i_204_53 o_204 rfl v_203 rfl (s_273) rfl rfl rfl rfl rfl ?_
      refine c_203 ?_
      show Ok _ 204 56 [some (vR (some 273)), some (vI w)] [vI (cntR (M 281) 0 8)] (M) _
      refine k_iret i_204_56 rfl ?_
      refine ⟨_, rfl, ?_, h⟩
      first
        | exact congrArg (fun z => some (vI z)) (by omega)
        | (exfalso; omega)
    · refine k_tab (off := 56) (t := 57) i_204_1 (by rw [hx1]; rfl) rfl ?_
      refine k_aload_n i_204_57 rfl ?_
      refine k_invV (n := 0) (o' := 8) (av := [vR (some 273)]) (rest := []) (el := [some (vR (some 273))]) i_204_58 o_204 rfl v_142 rfl (s_273) rfl rfl rfl rfl rfl ?_
      refine c_142 ?_
      show Ok _ 204 61 [some (vR (some 273)), some (vI w)] [vI (M 274 229)] (M) _
      refine k_iret i_204_61 rfl ?_
      refine ⟨_, rfl, ?_, h⟩
      first
        | exact congrArg (fun z => some (vI z)) (by omega)
        | (exfalso; omega)
    · refine k_tab (off := 61) (t := 62) i_204_1 (by rw [hx1]; rfl) rfl ?_
      refine k_aload_n i_204_62 rfl ?_
      refine k_getR (r := 274) i_204_63 o_204 rfl (by decide) (s_273) rfl ?_
      refine k_sipush i_204_66 (by decide) ?_
      refine k_iald i_204_69 (s_274) (by omega) ?_
      refine k_iret i_204_70 rfl ?_
      refine ⟨_, rfl, ?_, h⟩
      first
        | exact congrArg (fun z => some (vI z)) (by omega)
        | (exfalso; omega)
    · refine k_tab (off := 70) (t := 71) i_204_1 (by rw [hx1]; rfl) rfl ?_
      refine k_aload_n i_204_71 rfl ?_
      refine k_getR (r := 274) i_204_72 o_204 rfl (by decide) (s_273) rfl ?_
      refine k_sipush i_204_75 (by decide) ?_
      refine k_iald i_204_78 (s_274) (by omega) ?_
      refine k_iret i_204_79 rfl ?_
      refine ⟨_, rfl, ?_, h⟩
      first
        | exact congrArg (fun z => some (vI z)) (by omega)
        | (exfalso; omega)
    · refine k_tab (off := 79) (t := 80) i_204_1 (by rw [hx1]; rfl) rfl ?_
      refine k_aload_n i_204_80 rfl ?_
      refine k_getR (r := 274) i_204_81 o_204 rfl (by decide) (s_273) rfl ?_
      refine k_sipush i_204_84 (by decide) ?_
      refine k_iald i_204_87 (s_274) (by omega) ?_
      refine k_iret i_204_88 rfl ?_
      refine ⟨_, rfl, ?_, h⟩
      first
        | exact congrArg (fun z => some (vI z)) (by omega)
        | (exfalso; omega)
    · refine k_tab (off := 88) (t := 89) i_204_1 (by rw [hx1]; rfl) rfl ?_
      refine k_aload_n i_204_89 rfl ?_
      refine k_getR (r := 274) i_204_90 o_204 rfl (by decide) (s_273) rfl ?_
      refine k_sipush i_204_93 (by decide) ?_
      refine k_iald i_204_96 (s_274) (by omega) ?_
      refine k_iret i_204_97 rfl ?_
      refine ⟨_, rfl, ?_, h⟩
      first
        | exact congrArg (fun z => some (vI z)) (by omega)
        | (exfalso; omega)
    · refine k_tab (off := 97) (t := 98) i_204_1 (by rw [hx1]; rfl) rfl ?_
      refine k_aload_n i_204_98 rfl ?_
      refine k_getR (r := 274) i_204_99 o_204 rfl (by decide) (s_273) rfl ?_
      refine k_sipush i_204_102 (by decide) ?_
      refine k_iald i_204_105 (s_274) (by omega) ?_
      refine k_iret i_204_106 rfl ?_
      refine ⟨_, rfl, ?_, h⟩
      first
        | exact congrArg (fun z => some (vI z)) (by omega)
        | (exfalso; omega)
    · refine k_tab (off := 106) (t := 107) i_204_1 (by rw [hx1]; rfl) rfl ?_
      refine k_aload_n i_204_107 rfl ?_
      refine k_getI (kz := 4) i_204_108 o_204 rfl (by decide) (s_273) rfl ?_
      refine k_iret i_204_111 rfl ?_
      refine ⟨_, rfl, ?_, h⟩
      first
        | exact congrArg (fun z => some (vI z)) (by omega)
        | (exfalso; omega)
    · refine k_tab (off := 111) (t := 112) i_204_1 (by rw [hx1]; rfl) rfl ?_
      refine k_aload_n i_204_112 rfl ?_
      refine k_getI (kz := 13) i_204_113 o_204 rfl (by decide) (s_273) rfl ?_
      refine k_iret i_204_116 rfl ?_
      refine ⟨_, rfl, ?_, h⟩
      first
        | exact congrArg (fun z => some (vI z)) (by omega)
        | (exfalso; omega)
    · refine k_tab (off := 116) (t := 117) i_204_1 (if_pos hx1) rfl ?_
      refine k_ldc (z := -1000001) i_204_117 o_204 rfl (by decide) ?_
      refine k_iret i_204_119 rfl ?_
      refine ⟨_, rfl, ?_, h⟩
      first
        | exact congrArg (fun z => some (vI z)) (by omega)
        | (exfalso; omega)
  · refine k_tab (off := 123) (t := 124) i_115_1 (by rw [hx1]; rfl) rfl ?_
    refine k_aload_n i_115_124 rfl ?_
    refine k_getR (r := 13) i_115_125 o_115 rfl (by decide) (s_0) rfl ?_
    refine k_invV (n := 0) (o' := 3) (av := [vR (some 13)]) (rest := []) (el := [some (vR (some 13))]) i_115_128 o_115 rfl v_32 rfl (s_13) rfl rfl rfl rfl rfl ?_
    refine c_32 ?_
    show Ok _ 115 131 [some (vR (some 0)), some (vI w)] [vI (M 13 1)] (M) _
    refine k_iret i_115_131 rfl ?_
    show Ok (d + 24) 204 0 [some (vR (some 273)), some (vI w)] [] M _
    refine k_iload_n i_204_0 rfl ?_
    rcases (show w = 0 ∨ w = 1 ∨ w = 2 ∨ w = 3 ∨ w = 4 ∨ w = 5 ∨ w = 6 ∨ w = 7 ∨ w = 8 ∨ (w < 0 ∨ 8 < w) by omega) with hx1 | hx1 | hx1 | hx1 | hx1 | hx1 | hx1 | hx1 | hx1 | hx1
    · refine k_tab (off := 51) (t := 52) i_204_1 (by rw [hx1]; rfl) rfl ?_
      refine k_aload_n i_204_52 rfl ?_
      refine k_invV (n := 0) (o' := 8) (av := [vR (some 273)]) (rest := []) (el := [some (vR (some 273)), none, none]) i_204_53 o_204 rfl v_203 rfl (s_273) rfl rfl rfl rfl rfl ?_
      refine c_203 ?_
      show Ok _ 204 56 [some (vR (some 273)), some (vI w)] [vI (cntR (M 281) 0 8)] (M) _
      refine k_iret i_204_56 rfl ?_
      refine ⟨_, rfl, ?_, h⟩
      first
        | exact congrArg (fun z => some (vI z)) (by omega)
        | (exfalso; omega)
    · refine k_tab (off := 56) (t := 57) i_204_1 (by rw [hx1]; rfl) rfl ?_
      refine k_aload_n i_204_57 rfl ?_
      refine k_invV (n := 0) (o' := 8) (av := [vR (some 273)]) (rest := []) (el := [some (vR (some 273))]) i_204_58 o_204 rfl v_142 rfl (s_273) rfl rfl rfl rfl rfl ?_
      refine c_142 ?_
      show Ok _ 204 61 [some (vR (some 273)), some (vI w)] [vI (M 274 229)] (M) _
      refine k_iret i_204_61 rfl ?_
      refine ⟨_, rfl, ?_, h⟩
      first
        | exact congrArg (fun z => some (vI z)) (by omega)
        | (exfalso; omega)
    · refine k_tab (off := 61) (t := 62) i_204_1 (by rw [hx1]; rfl) rfl ?_
      refine k_aload_n i_204_62 rfl ?_
      refine k_getR (r := 274) i_204_63 o_204 rfl (by decide) (s_273) rfl ?_
      refine k_sipush i_204_66 (by decide) ?_
      refine k_iald i_204_69 (s_274) (by omega) ?_
      refine k_iret i_204_70 rfl ?_
      refine ⟨_, rfl, ?_, h⟩
      first
        | exact congrArg (fun z => some (vI z)) (by omega)
        | (exfalso; omega)
    · refine k_tab (off := 70) (t := 71) i_204_1 (by rw [hx1]; rfl) rfl ?_
      refine k_aload_n i_204_71 rfl ?_
      refine k_getR (r := 274) i_204_72 o_204 rfl (by decide) (s_273) rfl ?_
      refine k_sipush i_204_75 (by decide) ?_
      refine k_iald i_204_78 (s_274) (by omega) ?_
      refine k_iret i_204_79 rfl ?_
      refine ⟨_, rfl, ?_, h⟩
      first
        | exact congrArg (fun z => some (vI z)) (by omega)
        | (exfalso; omega)
    · refine k_tab (off := 79) (t := 80) i_204_1 (by rw [hx1]; rfl) rfl ?_
      refine k_aload_n i_204_80 rfl ?_
      refine k_getR (r := 274) i_204_81 o_204 rfl (by decide) (s_273) rfl ?_
      refine k_sipush i_204_84 (by decide) ?_
      refine k_iald i_204_87 (s_274) (by omega) ?_
      refine k_iret i_204_88 rfl ?_
      refine ⟨_, rfl, ?_, h⟩
      first
        | exact congrArg (fun z => some (vI z)) (by omega)
        | (exfalso; omega)
    · refine k_tab (off := 88) (t := 89) i_204_1 (by rw [hx1]; rfl) rfl ?_
      refine k_aload_n i_204_89 rfl ?_
      refine k_getR (r := 274) i_204_90 o_204 rfl (by decide) (s_273) rfl ?_
      refine k_sipush i_204_93 (by decide) ?_
      refine k_iald i_204_96 (s_274) (by omega) ?_
      refine k_iret i_204_97 rfl ?_
      refine ⟨_, rfl, ?_, h⟩
      first
        | exact congrArg (fun z => some (vI z)) (by omega)
        | (exfalso; omega)
    · refine k_tab (off := 97) (t := 98) i_204_1 (by rw [hx1]; rfl) rfl ?_
      refine k_aload_n i_204_98 rfl ?_
      refine k_getR (r := 274) i_204_99 o_204 rfl (by decide) (s_273) rfl ?_
      refine k_sipush i_204_102 (by decide) ?_
      refine k_iald i_204_105 (s_274) (by omega) ?_
      refine k_iret i_204_106 rfl ?_
      refine ⟨_, rfl, ?_, h⟩
      first
        | exact congrArg (fun z => some (vI z)) (by omega)
        | (exfalso; omega)
    · refine k_tab (off := 106) (t := 107) i_204_1 (by rw [hx1]; rfl) rfl ?_
      refine k_aload_n i_204_107 rfl ?_
      refine k_getI (kz := 4) i_204_108 o_204 rfl (by decide) (s_273) rfl ?_
      refine k_iret i_204_111 rfl ?_
      refine ⟨_, rfl, ?_, h⟩
      first
        | exact congrArg (fun z => some (vI z)) (by omega)
        | (exfalso; omega)
    · refine k_tab (off := 111) (t := 112) i_204_1 (by rw [hx1]; rfl) rfl ?_
      refine k_aload_n i_204_112 rfl ?_
      refine k_getI (kz := 13) i_204_113 o_204 rfl (by decide) (s_273) rfl ?_
      refine k_iret i_204_116 rfl ?_
      refine ⟨_, rfl, ?_, h⟩
      first
        | exact congrArg (fun z => some (vI z)) (by omega)
        | (exfalso; omega)
    · refine k_tab (off := 116) (t := 117) i_204_1 (if_pos hx1) rfl ?_
      refine k_ldc (z := -1000001) i_204_117 o_204 rfl (by decide) ?_
      refine k_iret i_204_119 rfl ?_
      refine ⟨_, rfl, ?_, h⟩
      first
        | exact congrArg (fun z => some (vI z)) (by omega)
        | (exfalso; omega)
  · refine k_tab (off := 131) (t := 132) i_115_1 (if_pos hx1) rfl ?_
    refine k_ldc (z := -1000001) i_115_132 o_115 rfl (by decide) ?_
    refine k_iret i_115_134 rfl ?_
    show Ok (d + 24) 204 0 [some (vR (some 273)), some (vI w)] [] M _
    refine k_iload_n i_204_0 rfl ?_
    rcases (show w = 0 ∨ w = 1 ∨ w = 2 ∨ w = 3 ∨ w = 4 ∨ w = 5 ∨ w = 6 ∨ w = 7 ∨ w = 8 ∨ (w < 0 ∨ 8 < w) by omega) with hx1 | hx1 | hx1 | hx1 | hx1 | hx1 | hx1 | hx1 | hx1 | hx1
    · refine k_tab (off := 51) (t := 52) i_204_1 (by rw [hx1]; rfl) rfl ?_
      refine k_aload_n i_204_52 rfl ?_
      refine k_invV (n := 0) (o' := 8) (av := [vR (some 273)]) (rest := []) (el := [some (vR (some 273)), none, none]) i_204_53 o_204 rfl v_203 rfl (s_273) rfl rfl rfl rfl rfl ?_
      refine c_203 ?_
      show Ok _ 204 56 [some (vR (some 273)), some (vI w)] [vI (cntR (M 281) 0 8)] (M) _
      refine k_iret i_204_56 rfl ?_
      refine ⟨_, rfl, ?_, h⟩
      first
        | exact congrArg (fun z => some (vI z)) (by omega)
        | (exfalso; omega)
    · refine k_tab (off := 56) (t := 57) i_204_1 (by rw [hx1]; rfl) rfl ?_
      refine k_aload_n i_204_57 rfl ?_
      refine k_invV (n := 0) (o' := 8) (av := [vR (some 273)]) (rest := []) (el := [some (vR (some 273))]) i_204_58 o_204 rfl v_142 rfl (s_273) rfl rfl rfl rfl rfl ?_
      refine c_142 ?_
      show Ok _ 204 61 [some (vR (some 273)), some (vI w)] [vI (M 274 229)] (M) _
      refine k_iret i_204_61 rfl ?_
      refine ⟨_, rfl, ?_, h⟩
      first
        | exact congrArg (fun z => some (vI z)) (by omega)
        | (exfalso; omega)
    · refine k_tab (off := 61) (t := 62) i_204_1 (by rw [hx1]; rfl) rfl ?_
      refine k_aload_n i_204_62 rfl ?_
      refine k_getR (r := 274) i_204_63 o_204 rfl (by decide) (s_273) rfl ?_
      refine k_sipush i_204_66 (by decide) ?_
      refine k_iald i_204_69 (s_274) (by omega) ?_
      refine k_iret i_204_70 rfl ?_
      refine ⟨_, rfl, ?_, h⟩
      first
        | exact congrArg (fun z => some (vI z)) (by omega)
        | (exfalso; omega)
    · refine k_tab (off := 70) (t := 71) i_204_1 (by rw [hx1]; rfl) rfl ?_
      refine k_aload_n i_204_71 rfl ?_
      refine k_getR (r := 274) i_204_72 o_204 rfl (by decide) (s_273) rfl ?_
      refine k_sipush i_204_75 (by decide) ?_
      refine k_iald i_204_78 (s_274) (by omega) ?_
      refine k_iret i_204_79 rfl ?_
      refine ⟨_, rfl, ?_, h⟩
      first
        | exact congrArg (fun z => some (vI z)) (by omega)
        | (exfalso; omega)
    · refine k_tab (off := 79) (t := 80) i_204_1 (by rw [hx1]; rfl) rfl ?_
      refine k_aload_n i_204_80 rfl ?_
      refine k_getR (r := 274) i_204_81 o_204 rfl (by decide) (s_273) rfl ?_
      refine k_sipush i_204_84 (by decide) ?_
      refine k_iald i_204_87 (s_274) (by omega) ?_
      refine k_iret i_204_88 rfl ?_
      refine ⟨_, rfl, ?_, h⟩
      first
        | exact congrArg (fun z => some (vI z)) (by omega)
        | (exfalso; omega)
    · refine k_tab (off := 88) (t := 89) i_204_1 (by rw [hx1]; rfl) rfl ?_
      refine k_aload_n i_204_89 rfl ?_
      refine k_getR (r := 274) i_204_90 o_204 rfl (by decide) (s_273) rfl ?_
      refine k_sipush i_204_93 (by decide) ?_
      refine k_iald i_204_96 (s_274) (by omega) ?_
      refine k_iret i_204_97 rfl ?_
      refine ⟨_, rfl, ?_, h⟩
      first
        | exact congrArg (fun z => some (vI z)) (by omega)
        | (exfalso; omega)
    · refine k_tab (off := 97) (t := 98) i_204_1 (by rw [hx1]; rfl) rfl ?_
      refine k_aload_n i_204_98 rfl ?_
      refine k_getR (r := 274) i_204_99 o_204 rfl (by decide) (s_273) rfl ?_
      refine k_sipush i_204_102 (by decide) ?_
      refine k_iald i_204_105 (s_274) (by omega) ?_
      refine k_iret i_204_106 rfl ?_
      refine ⟨_, rfl, ?_, h⟩
      first
        | exact congrArg (fun z => some (vI z)) (by omega)
        | (exfalso; omega)
    · refine k_tab (off := 106) (t := 107) i_204_1 (by rw [hx1]; rfl) rfl ?_
      refine k_aload_n i_204_107 rfl ?_
      refine k_getI (kz := 4) i_204_108 o_204 rfl (by decide) (s_273) rfl ?_
      refine k_iret i_204_111 rfl ?_
      refine ⟨_, rfl, ?_, h⟩
      first
        | exact congrArg (fun z => some (vI z)) (by omega)
        | (exfalso; omega)
    · refine k_tab (off := 111) (t := 112) i_204_1 (by rw [hx1]; rfl) rfl ?_
      refine k_aload_n i_204_112 rfl ?_
      refine k_getI (kz := 13) i_204_113 o_204 rfl (by decide) (s_273) rfl ?_
      refine k_iret i_204_116 rfl ?_
      refine ⟨_, rfl, ?_, h⟩
      first
        | exact congrArg (fun z => some (vI z)) (by omega)
        | (exfalso; omega)
    · refine k_tab (off := 116) (t := 117) i_204_1 (if_pos hx1) rfl ?_
      refine k_ldc (z := -1000001) i_204_117 o_204 rfl (by decide) ?_
      refine k_iret i_204_119 rfl ?_
      refine ⟨_, rfl, ?_, h⟩
      first
        | exact congrArg (fun z => some (vI z)) (by omega)
        | (exfalso; omega)
