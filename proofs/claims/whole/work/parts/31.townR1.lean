/-- ElbowQueueModel.believes -/
theorem c_146 {d : Nat} {M : Mem} {Q : Option Vv → Mem → Prop} {K : Kt} {m : Int} {T : Tt} {i : Int} (hKo : KOk K m) (hK : RepKR M K m) (hR : RepR M K m T) (hv : Va K m i) (k : ∀ v : Int, v = (bel K T i) → Q (some (vI v)) M) : Ok d 146 0 [some (vR (some 273)), some (vI i)] [] M Q := by
  obtain ⟨⟨g1, g2, g3, g4, g5, g6, g7, g8⟩, hKp⟩ := id hKo
  obtain ⟨r1, r2, r3, r4, r5, rq, rp⟩ := id hR
  have k1 : M 274 229 = kPe K := hK.1
  have k2 : M 274 230 = kPe K - kWt K := hK.2.1
  have hvb := va_b hKo hv
  obtain ⟨e2, e3, e4, e5⟩ := rp i hv
  have e1 : M 274 (145 + i) = kKd K i := (hK.2.2 i hv).1
  have e6 : M 274 (173 + i) = kPa K i := (hK.2.2 i hv).2.1
  have e7 := hKp i hv
  refine k_aload_n i_146_0 rfl ?_
  refine k_getR (r := 274) i_146_1 o_146 rfl (by decide) (s_273) rfl ?_
  refine k_sipush i_146_4 (by decide) ?_
  refine k_iload_n i_146_7 rfl ?_
  refine k_iadd i_146_8 (by omega) ?_
  refine k_iald i_146_9 (s_274) (by omega) ?_
  refine k_iconst i_146_10 (by decide) ?_
  refine k_icmp_ne (t := 25) i_146_11 rfl (fun h11 => ?_) (fun h11 => ?_)
  · refine k_aload_n i_146_25 rfl ?_
    refine k_getR (r := 274) i_146_26 o_146 rfl (by decide) (s_273) rfl ?_
    refine k_bipush i_146_29 (by decide) ?_
    refine k_iload_n i_146_31 rfl ?_
    refine k_iadd i_146_32 (by omega) ?_
    refine k_iald i_146_33 (s_274) (by omega) ?_
    refine k_iret i_146_34 rfl ?_
    exact k _ (by unfold bel; split <;> omega)
  · refine k_aload_n i_146_14 rfl ?_
    refine k_getR (r := 274) i_146_15 o_146 rfl (by decide) (s_273) rfl ?_
    refine k_sipush i_146_18 (by decide) ?_
    refine k_iald i_146_21 (s_274) (by omega) ?_
    refine k_goto (t := 34) i_146_22 rfl ?_
    refine k_iret i_146_34 rfl ?_
    exact k _ (by unfold bel; split <;> omega)

/-- ElbowQueueModel.takesOn -/
theorem c_147 {d : Nat} {M : Mem} {Q : Option Vv → Mem → Prop} {K : Kt} {m : Int} {T : Tt} {i : Int} (hKo : KOk K m) (hK : RepKR M K m) (hR : RepR M K m T) (hv : Va K m i) (k : ∀ v : Int, (v = 1 ∧ (takes K T i)) ∨ (v = 0 ∧ ¬ (takes K T i)) → Q (some (vI v)) M) : Ok d 147 0 [some (vR (some 273)), some (vI i), none] [] M Q := by
  obtain ⟨⟨g1, g2, g3, g4, g5, g6, g7, g8⟩, hKp⟩ := id hKo
  obtain ⟨r1, r2, r3, r4, r5, rq, rp⟩ := id hR
  have k1 : M 274 229 = kPe K := hK.1
  have k2 : M 274 230 = kPe K - kWt K := hK.2.1
  have hvb := va_b hKo hv
  obtain ⟨e2, e3, e4, e5⟩ := rp i hv
  have e1 : M 274 (145 + i) = kKd K i := (hK.2.2 i hv).1
  have e6 : M 274 (173 + i) = kPa K i := (hK.2.2 i hv).2.1
  have e7 := hKp i hv
  refine k_aload_n i_147_0 rfl ?_
  refine k_getR (r := 274) i_147_1 o_147 rfl (by decide) (s_273) rfl ?_
  refine k_sipush i_147_4 (by decide) ?_
  refine k_iload_n i_147_7 rfl ?_
  refine k_iadd i_147_8 (by omega) ?_
  refine k_iald i_147_9 (s_274) (by omega) ?_
  refine k_istore_n (ls' := [some (vR (some 273)), some (vI i), some (vI (M 274 (145 + i)))]) i_147_10 rfl ?_
  refine k_iload_n i_147_11 rfl ?_
  refine k_iconst i_147_12 (by decide) ?_
  refine k_icmp_eq (t := 38) i_147_13 rfl (fun h13 => ?_) (fun h13 => ?_)
  · refine k_iconst i_147_38 (by decide) ?_
    refine k_goto (t := 43) i_147_39 rfl ?_
    refine k_zret i_147_43 rfl (by omega) ?_
    exact k _ (by unfold takes; omega)
  · refine k_iload_n i_147_16 rfl ?_
    refine k_iconst i_147_17 (by decide) ?_
    refine k_icmp_eq (t := 26) i_147_18 rfl (fun h18 => ?_) (fun h18 => ?_)
    · refine k_aload_n i_147_26 rfl ?_
      refine k_getR (r := 274) i_147_27 o_147 rfl (by decide) (s_273) rfl ?_
      refine k_bipush i_147_30 (by decide) ?_
      refine k_iload_n i_147_32 rfl ?_
      refine k_iadd i_147_33 (by omega) ?_
      refine k_iald i_147_34 (s_274) (by omega) ?_
      refine k_if_ne (t := 42) i_147_35 rfl (fun h35 => ?_) (fun h35 => ?_)
      · refine k_iconst i_147_42 (by decide) ?_
        refine k_zret i_147_43 rfl (by omega) ?_
        exact k _ (by unfold takes; omega)
      · refine k_iconst i_147_38 (by decide) ?_
        refine k_goto (t := 43) i_147_39 rfl ?_
        refine k_zret i_147_43 rfl (by omega) ?_
        exact k _ (by unfold takes; omega)
    · refine k_iload_n i_147_21 rfl ?_
      refine k_iconst i_147_22 (by decide) ?_
      refine k_icmp_ne (t := 42) i_147_23 rfl (fun h23 => ?_) (fun h23 => ?_)
      · refine k_iconst i_147_42 (by decide) ?_
        refine k_zret i_147_43 rfl (by omega) ?_
        exact k _ (by unfold takes; omega)
      · refine k_aload_n i_147_26 rfl ?_
        refine k_getR (r := 274) i_147_27 o_147 rfl (by decide) (s_273) rfl ?_
        refine k_bipush i_147_30 (by decide) ?_
        refine k_iload_n i_147_32 rfl ?_
        refine k_iadd i_147_33 (by omega) ?_
        refine k_iald i_147_34 (s_274) (by omega) ?_
        refine k_if_ne (t := 42) i_147_35 rfl (fun h35 => ?_) (fun h35 => ?_)
        · refine k_iconst i_147_42 (by decide) ?_
          refine k_zret i_147_43 rfl (by omega) ?_
          exact k _ (by unfold takes; omega)
        · refine k_iconst i_147_38 (by decide) ?_
          refine k_goto (t := 43) i_147_39 rfl ?_
          refine k_zret i_147_43 rfl (by omega) ?_
          exact k _ (by unfold takes; omega)

/-- ElbowQueueModel.bears -/
theorem c_150 {d : Nat} {M : Mem} {Q : Option Vv → Mem → Prop} {K : Kt} {m : Int} {T : Tt} {i : Int} (hKo : KOk K m) (hK : RepKR M K m) (hR : RepR M K m T) (hv : Va K m i) (hsi : 0 ≤ tS T i ∧ tS T i ≤ 1000000) (k : ∀ v : Int, v = (bears K T i) → Q (some (vI v)) M) : Ok (d + 1) 150 0 [some (vR (some 273)), some (vI i), none, none, none] [] M Q := by
  obtain ⟨⟨g1, g2, g3, g4, g5, g6, g7, g8⟩, hKp⟩ := id hKo
  obtain ⟨r1, r2, r3, r4, r5, rq, rp⟩ := id hR
  have k1 : M 274 229 = kPe K := hK.1
  have k2 : M 274 230 = kPe K - kWt K := hK.2.1
  have hvb := va_b hKo hv
  obtain ⟨e2, e3, e4, e5⟩ := rp i hv
  have e1 : M 274 (145 + i) = kKd K i := (hK.2.2 i hv).1
  have e6 : M 274 (173 + i) = kPa K i := (hK.2.2 i hv).2.1
  have e7 := hKp i hv
  have q1 := tdv (x := M 274 (28 + i)) (by omega)
  have q2 := tdv (x := M 274 (173 + i)) (by omega)
  refine k_aload_n i_150_0 rfl ?_
  refine k_getR (r := 274) i_150_1 o_150 rfl (by decide) (s_273) rfl ?_
  refine k_sipush i_150_4 (by decide) ?_
  refine k_iload_n i_150_7 rfl ?_
  refine k_iadd i_150_8 (by omega) ?_
  refine k_iald i_150_9 (s_274) (by omega) ?_
  refine k_istore_n (ls' := [some (vR (some 273)), some (vI i), some (vI (M 274 (145 + i))), none, none]) i_150_10 rfl ?_
  refine k_aload_n i_150_11 rfl ?_
  refine k_getR (r := 274) i_150_12 o_150 rfl (by decide) (s_273) rfl ?_
  refine k_sipush i_150_15 (by decide) ?_
  refine k_iload_n i_150_18 rfl ?_
  refine k_iadd i_150_19 (by omega) ?_
  refine k_iald i_150_20 (s_274) (by omega) ?_
  refine k_istore_n (ls' := [some (vR (some 273)), some (vI i), some (vI (M 274 (145 + i))), some (vI (M 274 (173 + i))), none]) i_150_21 rfl ?_
  refine k_iload_n i_150_22 rfl ?_
  refine k_iconst i_150_23 (by decide) ?_
  refine k_icmp_ne (t := 31) i_150_24 rfl (fun h24 => ?_) (fun h24 => ?_)
  · refine k_iload_n i_150_31 rfl ?_
    refine k_iconst i_150_32 (by decide) ?_
    refine k_icmp_eq (t := 48) i_150_33 rfl (fun h33 => ?_) (fun h33 => ?_)
    · refine k_iconst i_150_48 (by decide) ?_
      refine k_istore (ls' := [some (vR (some 273)), some (vI i), some (vI (M 274 (145 + i))), some (vI (M 274 (173 + i))), some (vI 0)]) i_150_49 rfl ?_
      refine k_iload i_150_51 rfl ?_
      refine k_if_eq (t := 62) i_150_53 rfl (fun h53 => ?_) (fun h53 => absurd h53 (by decide))
      refine k_iload_n i_150_62 rfl ?_
      refine k_iload_n i_150_63 rfl ?_
      refine k_iconst i_150_64 (by decide) ?_
      refine k_icmp_ne (t := 82) i_150_65 rfl (fun h65 => ?_) (fun h65 => ?_)
      · refine k_iconst i_150_82 (by decide) ?_
        refine k_iadd i_150_83 (by omega) ?_
        refine k_iret i_150_84 rfl ?_
        refine k _ ?_
        have hbl : kKd K i = 4 ∨ bel K T i = tB T i := by
          by_cases q : kKd K i = 4
          · exact Or.inl q
          · exact Or.inr (if_neg q)
        unfold bears hopes
        simp only [← e1, ← e6, ← e4]
        repeat (first | omega | split)
      · refine k_aload_n i_150_68 rfl ?_
        refine k_getR (r := 274) i_150_69 o_150 rfl (by decide) (s_273) rfl ?_
        refine k_bipush i_150_72 (by decide) ?_
        refine k_iload_n i_150_74 rfl ?_
        refine k_iadd i_150_75 (by omega) ?_
        refine k_iald i_150_76 (s_274) (by omega) ?_
        refine k_iconst i_150_77 (by decide) ?_
        refine k_idiv i_150_78 (by decide) ⟨by omega, by omega⟩ ?_
        refine k_goto (t := 83) i_150_79 rfl ?_
        refine k_iadd i_150_83 (by omega) ?_
        refine k_iret i_150_84 rfl ?_
        refine k _ ?_
        have hbl : kKd K i = 4 ∨ bel K T i = tB T i := by
          by_cases q : kKd K i = 4
          · exact Or.inl q
          · exact Or.inr (if_neg q)
        unfold bears hopes
        simp only [← e1, ← e6, ← e4]
        repeat (first | omega | split)
    · refine k_aload_n i_150_36 rfl ?_
      refine k_iload_n i_150_37 rfl ?_
      refine k_invV (n := 1) (o' := 8) (av := [vR (some 273), vI i]) (rest := []) (el := [some (vR (some 273)), some (vI i)]) i_150_38 o_150 rfl v_146 rfl (s_273) rfl rfl rfl rfl rfl ?_
      refine c_146 hKo hK hR hv (fun v38 hv38 => ?_)
      show Ok _ 150 41 [some (vR (some 273)), some (vI i), some (vI (M 274 (145 + i))), some (vI (M 274 (173 + i))), none] [vI v38] (M) _
      refine k_if_eq (t := 48) i_150_41 rfl (fun h41 => ?_) (fun h41 => ?_)
      · refine k_iconst i_150_48 (by decide) ?_
        refine k_istore (ls' := [some (vR (some 273)), some (vI i), some (vI (M 274 (145 + i))), some (vI (M 274 (173 + i))), some (vI 0)]) i_150_49 rfl ?_
        refine k_iload i_150_51 rfl ?_
        refine k_if_eq (t := 62) i_150_53 rfl (fun h53 => ?_) (fun h53 => absurd h53 (by decide))
        refine k_iload_n i_150_62 rfl ?_
        refine k_iload_n i_150_63 rfl ?_
        refine k_iconst i_150_64 (by decide) ?_
        refine k_icmp_ne (t := 82) i_150_65 rfl (fun h65 => ?_) (fun h65 => ?_)
        · refine k_iconst i_150_82 (by decide) ?_
          refine k_iadd i_150_83 (by omega) ?_
          refine k_iret i_150_84 rfl ?_
          refine k _ ?_
          have hbl : kKd K i = 4 ∨ bel K T i = tB T i := by
            by_cases q : kKd K i = 4
            · exact Or.inl q
            · exact Or.inr (if_neg q)
          unfold bears hopes
          simp only [← e1, ← e6, ← e4]
          repeat (first | omega | split)
        · refine k_aload_n i_150_68 rfl ?_
          refine k_getR (r := 274) i_150_69 o_150 rfl (by decide) (s_273) rfl ?_
          refine k_bipush i_150_72 (by decide) ?_
          refine k_iload_n i_150_74 rfl ?_
          refine k_iadd i_150_75 (by omega) ?_
          refine k_iald i_150_76 (s_274) (by omega) ?_
          refine k_iconst i_150_77 (by decide) ?_
          refine k_idiv i_150_78 (by decide) ⟨by omega, by omega⟩ ?_
          refine k_goto (t := 83) i_150_79 rfl ?_
          refine k_iadd i_150_83 (by omega) ?_
          refine k_iret i_150_84 rfl ?_
          refine k _ ?_
          have hbl : kKd K i = 4 ∨ bel K T i = tB T i := by
            by_cases q : kKd K i = 4
            · exact Or.inl q
            · exact Or.inr (if_neg q)
          unfold bears hopes
          simp only [← e1, ← e6, ← e4]
          repeat (first | omega | split)
      · refine k_iconst i_150_44 (by decide) ?_
        refine k_goto (t := 49) i_150_45 rfl ?_
        refine k_istore (ls' := [some (vR (some 273)), some (vI i), some (vI (M 274 (145 + i))), some (vI (M 274 (173 + i))), some (vI 1)]) i_150_49 rfl ?_
        refine k_iload i_150_51 rfl ?_
        refine k_if_eq (t := 62) i_150_53 rfl (fun h53 => absurd h53 (by decide)) (fun h53 => ?_)
        refine k_iconst i_150_56 (by decide) ?_
        refine k_iload_n i_150_57 rfl ?_
        refine k_imul i_150_58 (by omega) ?_
        refine k_goto (t := 63) i_150_59 rfl ?_
        refine k_iload_n i_150_63 rfl ?_
        refine k_iconst i_150_64 (by decide) ?_
        refine k_icmp_ne (t := 82) i_150_65 rfl (fun h65 => ?_) (fun h65 => ?_)
        · refine k_iconst i_150_82 (by decide) ?_
          refine k_iadd i_150_83 (by omega) ?_
          refine k_iret i_150_84 rfl ?_
          refine k _ ?_
          have hbl : kKd K i = 4 ∨ bel K T i = tB T i := by
            by_cases q : kKd K i = 4
            · exact Or.inl q
            · exact Or.inr (if_neg q)
          unfold bears hopes
          simp only [← e1, ← e6, ← e4]
          repeat (first | omega | split)
        · refine k_aload_n i_150_68 rfl ?_
          refine k_getR (r := 274) i_150_69 o_150 rfl (by decide) (s_273) rfl ?_
          refine k_bipush i_150_72 (by decide) ?_
          refine k_iload_n i_150_74 rfl ?_
          refine k_iadd i_150_75 (by omega) ?_
          refine k_iald i_150_76 (s_274) (by omega) ?_
          refine k_iconst i_150_77 (by decide) ?_
          refine k_idiv i_150_78 (by decide) ⟨by omega, by omega⟩ ?_
          refine k_goto (t := 83) i_150_79 rfl ?_
          refine k_iadd i_150_83 (by omega) ?_
          refine k_iret i_150_84 rfl ?_
          refine k _ ?_
          have hbl : kKd K i = 4 ∨ bel K T i = tB T i := by
            by_cases q : kKd K i = 4
            · exact Or.inl q
            · exact Or.inr (if_neg q)
          unfold bears hopes
          simp only [← e1, ← e6, ← e4]
          repeat (first | omega | split)
  · refine k_iload_n i_150_27 rfl ?_
    refine k_iconst i_150_28 (by decide) ?_
    refine k_idiv i_150_29 (by decide) ⟨by omega, by omega⟩ ?_
    refine k_iret i_150_30 rfl ?_
    refine k _ ?_
    have hbl : kKd K i = 4 ∨ bel K T i = tB T i := by
      by_cases q : kKd K i = 4
      · exact Or.inl q
      · exact Or.inr (if_neg q)
    unfold bears hopes
    simp only [← e1, ← e6, ← e4]
    repeat (first | omega | split)

/-- ElbowQueueModel.people -/
theorem c_142 {d : Nat} {M : Mem} {Q : Option Vv → Mem → Prop}   (k : Q (some (vI (M 274 229))) M) : Ok d 142 0 [some (vR (some 273))] [] M Q := by
  refine k_aload_n i_142_0 rfl ?_
  refine k_getR (r := 274) i_142_1 o_142 rfl (by decide) (s_273) rfl ?_
  refine k_sipush i_142_4 (by decide) ?_
  refine k_iald i_142_7 (s_274) (by omega) ?_
  refine k_iret i_142_8 rfl ?_
  exact k

/-- ElbowQueueModel.isPerson -/
theorem c_143 {d : Nat} {M : Mem} {Q : Option Vv → Mem → Prop} {x : Int} (hp : 0 ≤ M 274 229 ∧ M 274 229 ≤ 16) (k : ∀ v : Int, (v = 1 ∧ (0 ≤ x ∧ x < M 274 229)) ∨ (v = 0 ∧ ¬ (0 ≤ x ∧ x < M 274 229)) → Q (some (vI v)) M) : Ok (d + 1) 143 0 [some (vR (some 273)), some (vI x)] [] M Q := by
  refine k_iload_n i_143_0 rfl ?_
  refine k_i2l i_143_1 ?_
  refine k_lconst (z := 0) i_143_2 rfl ?_
  refine k_aload_n i_143_3 rfl ?_
  refine k_invV (n := 0) (o' := 8) (av := [vR (some 273)]) (rest := [vL 0, vL x]) (el := [some (vR (some 273))]) i_143_4 o_143 rfl v_142 rfl (s_273) rfl rfl rfl rfl rfl ?_
  refine c_142 ?_
  show Ok _ 143 7 [some (vR (some 273)), some (vI x)] [vI (M 274 229), vL 0, vL x] (M) _
  refine k_iconst i_143_7 (by decide) ?_
  refine k_isub i_143_8 (by omega) ?_
  refine k_i2l i_143_9 ?_
  refine k_invS (n := 3) (av := [vL x, vL 0, vL ((M 274 229) - 1)]) (rest := []) (el := [some (vL x), none, some (vL 0), none, some (vL ((M 274 229) - 1)), none]) i_143_10 o_143 rfl v_122 rfl rfl rfl rfl rfl rfl ?_
  refine c_122 (fun v10 hv10 => ?_)
  show Ok _ 143 13 [some (vR (some 273)), some (vI x)] [vI v10] (M) _
  refine k_zret i_143_13 rfl (by omega) ?_
  exact k _ (by omega)

/-- ElbowQueueModel.isTown -/
theorem c_144 {d : Nat} {M : Mem} {Q : Option Vv → Mem → Prop}   (k : ∀ v : Int, (v = 1 ∧ (M 274 231 = 1)) ∨ (v = 0 ∧ ¬ (M 274 231 = 1)) → Q (some (vI v)) M) : Ok d 144 0 [some (vR (some 273))] [] M Q := by
  refine k_aload_n i_144_0 rfl ?_
  refine k_getR (r := 274) i_144_1 o_144 rfl (by decide) (s_273) rfl ?_
  refine k_sipush i_144_4 (by decide) ?_
  refine k_iald i_144_7 (s_274) (by omega) ?_
  refine k_iconst i_144_8 (by decide) ?_
  refine k_icmp_ne (t := 16) i_144_9 rfl (fun h9 => ?_) (fun h9 => ?_)
  · refine k_iconst i_144_16 (by decide) ?_
    refine k_zret i_144_17 rfl (by omega) ?_
    exact k _ (by omega)
  · refine k_iconst i_144_12 (by decide) ?_
    refine k_goto (t := 17) i_144_13 rfl ?_
    refine k_zret i_144_17 rfl (by omega) ?_
    exact k _ (by omega)

/-- what the first k told, and from whom -/
def TW (M : Mem) (K : Kt) (T : Tt) (k : Nat) : Prop := ∀ j : Nat, j < k → M 286 j = bel K T ((tQ T).getD j 0) ∧ M 287 j = tO T ((tQ T).getD j 0)
theorem TW.mu {M : Mem} {K : Kt} {T : Tt} {k : Nat} (h : TW M K T k) (i v : Int) : TW (mu M 274 i v) K T k := fun j hj => by
  rw [mu_ne (by decide), mu_ne (by decide)]
  exact h j hj

theorem l_148b {d : Nat} {M0 : Mem} {Q : Option Vv → Mem → Prop} {K : Kt} {m : Int} {T : Tt} (hKo : KOk K m) (hK : RepKR M0 K m) (hT : TOk K m T) (kk : ∀ M', RepR M' K m (tellF K T) → OutR M0 M' → Q none M') : ∀ (f : Nat) (k : Int) (M : Mem) (x2 : Option Vv), (1 ≤ k ∧ (k ≤ (tQ T).length ∨ k = 1)) → (RepR M K m (tellP K T 1 k.toNat)) → (TW M K T (tQ T).length) → (OutR M0 M) → ((tQ T).length + 1 - k).toNat < f → Ok (d + 1) 148 64 [some (vR (some 273)), some (vI k), x2] [] M Q := by
  intro f
  induction f with
  | zero => intro k M x2 hk hR1 hW ho hf; exact absurd hf (Nat.not_lt_zero _)
  | succ f ih =>
    intro k M x2 hk hR1 hW ho hf
    have hK1 := hK.out hKo ho
    obtain ⟨⟨g1, g2, g3, g4, g5, g6, g7, g8⟩, hKp⟩ := id hKo
    obtain ⟨r1, r2, r3, r4, r5, rq, rp⟩ := id hR1
    obtain ⟨u1, u2, u3, u4, u5, u6, u7⟩ := id hT
    have hl28 := q28 hKo hT
    have hl9 : ((tQ (tellP K T 1 k.toNat)).length : Int) = (tQ T).length := rfl
    refine k_iload_n i_148_64 rfl ?_
    refine k_aload_n i_148_65 rfl ?_
    refine k_getR (r := 274) i_148_66 o_148 rfl (by decide) (s_273) rfl ?_
    refine k_sipush i_148_69 (by decide) ?_
    refine k_iald i_148_72 (s_274) (by omega) ?_
    refine k_icmp_ge (t := 145) i_148_73 rfl (fun h73 => ?_) (fun h73 => ?_)
    · refine k_vret i_148_145 rfl ?_
      refine kk M ?_ ho
      by_cases hl : (tQ T).length = 0
      · rw [tellP_none (by omega)] at hR1
        unfold tellF
        rw [tellP_none (by omega)]
        exact hR1
      · have e : k.toNat = (tQ T).length := by omega
        rw [e] at hR1
        exact hR1
    · refine k_aload_n i_148_76 rfl ?_
      refine k_getR (r := 274) i_148_77 o_148 rfl (by decide) (s_273) rfl ?_
      refine k_bipush i_148_80 (by decide) ?_
      refine k_iload_n i_148_82 rfl ?_
      refine k_iadd i_148_83 (by omega) ?_
      refine k_iald i_148_84 (s_274) (by omega) ?_
      obtain ⟨x, hx0⟩ : ∃ z : Int, z = M 274 (112 + k) := ⟨_, rfl⟩
      rw [← hx0]
      have hx : x = (tQ T).getD k.toNat 0 := hx0.trans (hR1.q (by omega) (by show k < ((tQ T).length : Int); omega))
      have hmx : x ∈ tQ T := by rw [hx]; exact q_mem (by omega)
      have hvx : Va K m x := hT.va hmx
      have hvb := va_b hKo hvx
      have hbx : tB (tellP K T 1 k.toNat) x = tB T x := by rw [hx]; exact if_neg (hrs_hi hT.1 (by omega))
      have hwb : M 286 (k - 1) = bel K T ((tQ T).getD (k.toNat - 1) 0) := by
        have q := (hW (k.toNat - 1) (by omega)).1
        rw [show ((k.toNat - 1 : Nat) : Int) = k - 1 by omega] at q
        exact q
      have hwo : M 287 (k - 1) = tO T ((tQ T).getD (k.toNat - 1) 0) := by
        have q := (hW (k.toNat - 1) (by omega)).2
        rw [show ((k.toNat - 1 : Nat) : Int) = k - 1 by omega] at q
        exact q
      refine k_istore_n (ls' := [some (vR (some 273)), some (vI k), some (vI x)]) i_148_85 rfl ?_
      refine k_aload_n i_148_86 rfl ?_
      refine k_getR (r := 286) i_148_87 o_148 rfl (by decide) (s_273) rfl ?_
      refine k_iload_n i_148_90 rfl ?_
      refine k_iconst i_148_91 (by decide) ?_
      refine k_isub i_148_92 (by omega) ?_
      refine k_iald i_148_93 (s_286) (by omega) ?_
      refine k_if_eq (t := 139) i_148_94 rfl (fun h94 => ?_) (fun h94 => ?_)
      · refine k_iinc (ls' := [some (vR (some 273)), some (vI (k + 1)), some (vI x)]) i_148_139 rfl (by omega) rfl ?_
        refine k_goto (t := 64) i_148_142 rfl ?_
        have e9 : tellP K T 1 (k.toNat + 1) = tellP K T 1 k.toNat := by
          refine tellP_skip2 hT.1 (by omega) (by omega) (fun q => ?_)
          rw [← hx] at q
          have q2 := q.2
          unfold takes at q2
          first | omega | (have q1 := q.1; rw [← hwb] at q1; omega)
        refine ih (k + 1) _ _ (by omega) ?_ hW ho (by omega)
        rw [show (k + 1).toNat = k.toNat + 1 by omega, e9]
        exact hR1
      · refine k_aload_n i_148_97 rfl ?_
        refine k_iload_n i_148_98 rfl ?_
        refine k_invV (n := 1) (o' := 8) (av := [vR (some 273), vI x]) (rest := []) (el := [some (vR (some 273)), some (vI x), none]) i_148_99 o_148 rfl v_147 rfl (s_273) rfl rfl rfl rfl rfl ?_
        refine c_147 hKo hK1 hR1 hvx (fun tk htk => ?_)
        show Ok _ 148 102 [some (vR (some 273)), some (vI k), some (vI x)] [vI tk] (M) _
        unfold takes at htk
        rw [hbx] at htk
        refine k_if_eq (t := 139) i_148_102 rfl (fun h102 => ?_) (fun h102 => ?_)
        · refine k_iinc (ls' := [some (vR (some 273)), some (vI (k + 1)), some (vI x)]) i_148_139 rfl (by omega) rfl ?_
          refine k_goto (t := 64) i_148_142 rfl ?_
          have e9 : tellP K T 1 (k.toNat + 1) = tellP K T 1 k.toNat := by
            refine tellP_skip2 hT.1 (by omega) (by omega) (fun q => ?_)
            rw [← hx] at q
            have q2 := q.2
            unfold takes at q2
            first | omega | (have q1 := q.1; rw [← hwb] at q1; omega)
          refine ih (k + 1) _ _ (by omega) ?_ hW ho (by omega)
          rw [show (k + 1).toNat = k.toNat + 1 by omega, e9]
          exact hR1
        · refine k_aload_n i_148_105 rfl ?_
          refine k_getR (r := 274) i_148_106 o_148 rfl (by decide) (s_273) rfl ?_
          refine k_bipush i_148_109 (by decide) ?_
          refine k_iload_n i_148_111 rfl ?_
          refine k_iadd i_148_112 (by omega) ?_
          refine k_aload_n i_148_113 rfl ?_
          refine k_getR (r := 286) i_148_114 o_148 rfl (by decide) (s_273) rfl ?_
          refine k_iload_n i_148_117 rfl ?_
          refine k_iconst i_148_118 (by decide) ?_
          refine k_isub i_148_119 (by omega) ?_
          refine k_iald i_148_120 (s_286) (by omega) ?_
          refine k_iast i_148_121 (s_274) (by omega) ?_
          refine k_aload_n i_148_122 rfl ?_
          refine k_getR (r := 274) i_148_123 o_148 rfl (by decide) (s_273) rfl ?_
          refine k_bipush i_148_126 (by decide) ?_
          refine k_iload_n i_148_128 rfl ?_
          refine k_iadd i_148_129 (by omega) ?_
          refine k_aload_n i_148_130 rfl ?_
          refine k_getR (r := 287) i_148_131 o_148 rfl (by decide) (s_273) rfl ?_
          refine k_iload_n i_148_134 rfl ?_
          refine k_iconst i_148_135 (by decide) ?_
          refine k_isub i_148_136 (by omega) ?_
          refine k_iald i_148_137 (s_287) (by omega) ?_
          rw [mu_ne (M := M) (a := 274) (b := 287) (i := 56 + x) (x := M 286 (k - 1)) (by omega)]
          refine k_iast i_148_138 (s_274) (by omega) ?_
          refine k_iinc (ls' := [some (vR (some 273)), some (vI (k + 1)), some (vI x)]) i_148_139 rfl (by omega) rfl ?_
          refine k_goto (t := 64) i_148_142 rfl ?_
          refine ih (k + 1) _ _ (by omega) ?_ ((hW.mu _ _).mu _ _) ((ho.mu (by omega)).mu (by omega)) (by omega)
          have hhr : ¬ bel K T ((tQ T).getD (k.toNat - 1) 0) = 0 ∧ takes K T ((tQ T).getD k.toNat 0) := by
            rw [← hx, ← hwb]
            refine ⟨h94, ?_⟩
            unfold takes
            omega
          rw [show (k + 1).toNat = k.toNat + 1 by omega, tellP_hear hT.1 (by omega) (by omega) hhr, ← hx, ← hwb, ← hwo]
          have q1 := RepR.setB (T := tellP K T 1 k.toNat) hKo hl28 hR1 (M 286 (k - 1)) hvx
          have q2 := RepR.setO hKo (by exact hl28) q1 (M 287 (k - 1)) hvx
          exact q2

theorem l_148a {d : Nat} {M0 : Mem} {Q : Option Vv → Mem → Prop} {K : Kt} {m : Int} {T : Tt} (hKo : KOk K m) (hK : RepKR M0 K m) (hT : TOk K m T) (hR : RepR M0 K m T) (kk : ∀ M', RepR M' K m (tellF K T) → OutR M0 M' → Q none M') : ∀ (f : Nat) (k : Int) (M : Mem), (0 ≤ k ∧ k ≤ (tQ T).length) → (TW M K T k.toNat) → (OutR M0 M) → (∀ j, M 274 j = M0 274 j) → ((tQ T).length - k).toNat < f → Ok (d + 1) 148 2 [some (vR (some 273)), some (vI k), none] [] M Q := by
  intro f
  induction f with
  | zero => intro k M hk hW ho he hf; exact absurd hf (Nat.not_lt_zero _)
  | succ f ih =>
    intro k M hk hW ho he hf
    have hR1 := hR.off he
    have hK1 := hK.out hKo ho
    obtain ⟨⟨g1, g2, g3, g4, g5, g6, g7, g8⟩, hKp⟩ := id hKo
    obtain ⟨r1, r2, r3, r4, r5, rq, rp⟩ := id hR1
    obtain ⟨u1, u2, u3, u4, u5, u6, u7⟩ := id hT
    have hl28 := q28 hKo hT
    refine k_iload_n i_148_2 rfl ?_
    refine k_aload_n i_148_3 rfl ?_
    refine k_getR (r := 274) i_148_4 o_148 rfl (by decide) (s_273) rfl ?_
    refine k_sipush i_148_7 (by decide) ?_
    refine k_iald i_148_10 (s_274) (by omega) ?_
    refine k_icmp_ge (t := 62) i_148_11 rfl (fun h11 => ?_) (fun h11 => ?_)
    · refine k_iconst i_148_62 (by decide) ?_
      refine k_istore_n (ls' := [some (vR (some 273)), some (vI 1), none]) i_148_63 rfl ?_
      refine l_148b hKo hK hT kk ((tQ T).length + 1) 1 M _ (by omega) ?_ (by rw [show (tQ T).length = k.toNat by omega]; exact hW) ho (by omega)
      rw [tellP_none (by decide)]
      exact hR1
    · refine k_aload_n i_148_14 rfl ?_
      refine k_getR (r := 286) i_148_15 o_148 rfl (by decide) (s_273) rfl ?_
      refine k_iload_n i_148_18 rfl ?_
      refine k_aload_n i_148_19 rfl ?_
      refine k_aload_n i_148_20 rfl ?_
      refine k_getR (r := 274) i_148_21 o_148 rfl (by decide) (s_273) rfl ?_
      refine k_bipush i_148_24 (by decide) ?_
      refine k_iload_n i_148_26 rfl ?_
      refine k_iadd i_148_27 (by omega) ?_
      refine k_iald i_148_28 (s_274) (by omega) ?_
      obtain ⟨x, hx0⟩ : ∃ z : Int, z = M 274 (112 + k) := ⟨_, rfl⟩
      rw [← hx0]
      have hx : x = (tQ T).getD k.toNat 0 := hx0.trans (hR1.q (by omega) (by omega))
      have hmx : x ∈ tQ T := by rw [hx]; exact q_mem (by omega)
      have hvx : Va K m x := hT.va hmx
      have hvb := va_b hKo hvx
      refine k_invV (n := 1) (o' := 8) (av := [vR (some 273), vI x]) (rest := [vI k, vR (some 286)]) (el := [some (vR (some 273)), some (vI x)]) i_148_29 o_148 rfl v_146 rfl (s_273) rfl rfl rfl rfl rfl ?_
      refine c_146 hKo hK1 hR1 hvx (fun wd hwd => ?_)
      show Ok _ 148 32 [some (vR (some 273)), some (vI k), none] [vI wd, vI k, vR (some 286)] (M) _
      refine k_iast i_148_32 (s_286) (by omega) ?_
      refine k_aload_n i_148_33 rfl ?_
      refine k_getR (r := 287) i_148_34 o_148 rfl (by decide) (s_273) rfl ?_
      refine k_iload_n i_148_37 rfl ?_
      refine k_aload_n i_148_38 rfl ?_
      refine k_getR (r := 274) i_148_39 o_148 rfl (by decide) (s_273) rfl ?_
      refine k_bipush i_148_42 (by decide) ?_
      refine k_aload_n i_148_44 rfl ?_
      refine k_getR (r := 274) i_148_45 o_148 rfl (by decide) (s_273) rfl ?_
      refine k_bipush i_148_48 (by decide) ?_
      refine k_iload_n i_148_50 rfl ?_
      refine k_iadd i_148_51 (by omega) ?_
      refine k_iald i_148_52 (s_274) (by omega) ?_
      rw [mu_ne (M := M) (a := 286) (b := 274) (i := k) (x := wd) (by omega)]
      rw [← hx0]
      refine k_iadd i_148_53 (by omega) ?_
      refine k_iald i_148_54 (s_274) (by omega) ?_
      rw [mu_ne (M := M) (a := 286) (b := 274) (i := k) (x := wd) (by omega)]
      refine k_iast i_148_55 (s_287) (by omega) ?_
      refine k_iinc (ls' := [some (vR (some 273)), some (vI (k + 1)), none]) i_148_56 rfl (by omega) rfl ?_
      refine k_goto (t := 2) i_148_59 rfl ?_
      refine ih (k + 1) _ (by omega) (fun j hj => ?_) ((ho.mu (by omega)).mu (by omega)) (fun j => by rw [mu_ne (by decide), mu_ne (by decide)]; exact he j) (by omega)
      by_cases e : j = k.toNat
      · subst e
        rw [Int.toNat_of_nonneg hk.1, mu_ne (by decide), mu_s, mu_s, hwd, ← hx]
        refine ⟨rfl, ?_⟩
        exact (rp x hvx).2.2.2
      · rw [mu_ne (by decide), mu_j (by omega), mu_j (by omega), mu_ne (by decide)]
        exact hW j (by omega)

/-- ElbowQueueModel.tellOn -/
theorem c_148 {d : Nat} {M : Mem} {Q : Option Vv → Mem → Prop} {K : Kt} {m : Int} {T : Tt} (hKo : KOk K m) (hK : RepKR M K m) (hR : RepR M K m T) (hT : TOk K m T) (kk : ∀ M', RepR M' K m (tellF K T) → OutR M M' → Q none M') : Ok (d + 1) 148 0 [some (vR (some 273)), none, none] [] M Q := by
  refine k_iconst i_148_0 (by decide) ?_
  refine k_istore_n (ls' := [some (vR (some 273)), some (vI 0), none]) i_148_1 rfl ?_
  exact l_148a hKo hK hT hR kk ((tQ T).length + 1) 0 M (by omega) (fun j hj => absurd hj (Nat.not_lt_zero _)) (OutR.rf M) (fun _ => rfl) (by omega)

theorem l_149 {d : Nat} {M : Mem} {Q : Option Vv → Mem → Prop} {K : Kt} {m : Int} {T : Tt} {k : Int} (hk : 0 ≤ k ∧ k < M 274 140 ∧ M 274 140 ≤ 28) (kk : Q none (mu (shl M 274 (112 + k) (112 + (M 274 140 - 1))) 274 140 (M 274 140 - 1))) : ∀ (f : Nat) (i : Int), (k ≤ i ∧ i ≤ M 274 140 - 1) → (M 274 140 - 1 - i).toNat < f → Ok d 149 2 [some (vR (some 273)), some (vI k), some (vI i)] [] (shl M 274 (112 + k) (112 + i)) Q := by
  intro f
  induction f with
  | zero => intro i hi hf; exact absurd hf (Nat.not_lt_zero _)
  | succ f ih =>
    intro i hi hf
    have e9 : shl M 274 (112 + k) (112 + i) 274 140 = M 274 140 := if_neg (by omega)
    refine k_iload_n i_149_2 rfl ?_
    refine k_iconst i_149_3 (by decide) ?_
    refine k_iadd i_149_4 (by omega) ?_
    refine k_aload_n i_149_5 rfl ?_
    refine k_getR (r := 274) i_149_6 o_149 rfl (by decide) (s_273) rfl ?_
    refine k_sipush i_149_9 (by decide) ?_
    refine k_iald i_149_12 (s_274) (by omega) ?_
    rw [e9]
    refine k_icmp_ge (t := 42) i_149_13 rfl (fun h13 => ?_) (fun h13 => ?_)
    · refine k_aload_n i_149_42 rfl ?_
      refine k_getR (r := 274) i_149_43 o_149 rfl (by decide) (s_273) rfl ?_
      refine k_sipush i_149_46 (by decide) ?_
      refine k_dup2 i_149_49 ?_
      refine k_iald i_149_50 (s_274) (by omega) ?_
      rw [e9]
      refine k_iconst i_149_51 (by decide) ?_
      refine k_isub i_149_52 (by omega) ?_
      refine k_iast i_149_53 (s_274) (by omega) ?_
      refine k_vret i_149_54 rfl ?_
      obtain rfl : i = M 274 140 - 1 := by omega
      exact kk
    · refine k_aload_n i_149_16 rfl ?_
      refine k_getR (r := 274) i_149_17 o_149 rfl (by decide) (s_273) rfl ?_
      refine k_bipush i_149_20 (by decide) ?_
      refine k_iload_n i_149_22 rfl ?_
      refine k_iadd i_149_23 (by omega) ?_
      refine k_aload_n i_149_24 rfl ?_
      refine k_getR (r := 274) i_149_25 o_149 rfl (by decide) (s_273) rfl ?_
      refine k_bipush i_149_28 (by decide) ?_
      refine k_iload_n i_149_30 rfl ?_
      refine k_iadd i_149_31 (by omega) ?_
      refine k_iconst i_149_32 (by decide) ?_
      refine k_iadd i_149_33 (by omega) ?_
      refine k_iald i_149_34 (s_274) (by omega) ?_
      refine k_iast i_149_35 (s_274) (by omega) ?_
      refine k_iinc (ls' := [some (vR (some 273)), some (vI k), some (vI (i + 1))]) i_149_36 rfl (by omega) rfl ?_
      refine k_goto (t := 2) i_149_39 rfl ?_
      rw [show 112 + i + 1 = 112 + i + 1 from rfl, shl_s (by omega), show 112 + i + 1 = 112 + (i + 1) by omega]
      exact ih (i + 1) (by omega) (by omega)

/-- ElbowQueueModel.outOf -/
theorem c_149 {d : Nat} {M : Mem} {Q : Option Vv → Mem → Prop} {K : Kt} {m : Int} {T : Tt} {k : Int} (hKo : KOk K m) (hR : RepR M K m T) (hl : ((tQ T).length : Int) ≤ 28) (hk : 0 ≤ k ∧ k < (tQ T).length) (kk : ∀ M', RepR M' K m (eraF T k.toNat) → OutR M M' → Q none M') : Ok d 149 0 [some (vR (some 273)), some (vI k), none] [] M Q := by
  obtain ⟨r1, r2, r3, r4, r5, rq, rp⟩ := id hR
  have hn : 0 ≤ k ∧ k < M 274 140 ∧ M 274 140 ≤ 28 := by omega
  refine k_iload_n i_149_0 rfl ?_
  refine k_istore_n (ls' := [some (vR (some 273)), some (vI k), some (vI k)]) i_149_1 rfl ?_
  rw [← shl_0 M 274 (112 + k)]
  refine l_149 (K := K) (m := m) (T := T) hn (kk _ ⟨?_, ?_, ?_, ?_, ?_, ?_, ?_⟩ ?_) ((M 274 140 - 1 - k).toNat + 1) k (by omega) (by omega)
  · rw [mu_j (by decide)]; exact (if_neg (by omega)).trans r1
  · rw [mu_j (by decide)]; exact (if_neg (by omega)).trans r2
  · rw [mu_j (by decide)]; exact (if_neg (by omega)).trans r3
  · rw [mu_s]
    simp only [eraF, mk_q, List.length_eraseIdx]
    rw [if_pos (by omega)]
    omega
  · rw [mu_j (by decide)]; exact (if_neg (by omega)).trans r5
  · intro j p hj
    simp only [eraF, mk_q, List.getElem?_eraseIdx] at hj
    by_cases c1 : j < k.toNat
    · rw [if_pos c1] at hj
      have hj2 := (List.getElem?_eq_some_iff.mp hj).1
      rw [mu_j (by omega)]
      unfold shl
      rw [if_neg (by omega)]
      exact rq j p hj
    · rw [if_neg c1] at hj
      have hj2 := (List.getElem?_eq_some_iff.mp hj).1
      rw [mu_j (by omega)]
      unfold shl
      rw [if_pos (by omega)]
      have q := rq (j + 1) p hj
      rw [← q]
      congr 1 <;> omega
  · intro p hp
    have hpb := va_b hKo hp
    obtain ⟨f1, f2, f3, f4⟩ := rp p hp
    refine ⟨?_, ?_, ?_, ?_⟩
    · rw [mu_j (by omega)]; exact (if_neg (by omega)).trans f1
    · rw [mu_j (by omega)]; exact (if_neg (by omega)).trans f2
    · rw [mu_j (by omega)]; exact (if_neg (by omega)).trans f3
    · rw [mu_j (by omega)]; exact (if_neg (by omega)).trans f4
  · refine OutR.mu (fun b j h0 h1 h2 => ?_) (by omega)
    exact if_neg (by omega)
