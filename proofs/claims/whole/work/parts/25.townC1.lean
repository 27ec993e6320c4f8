set_option maxRecDepth 100000 in
/-- ElbowQueue$Town.believes -/
theorem c_63 {d : Nat} {M : Mem} {Q : Option Vv → Mem → Prop} {a rm : Nat} {K : Kt} {m : Int} {T : Tt} {i : Int} (ht : Tw a 20 rm) (hrm : 16 + m ≤ (rm : Int) ∧ (rm : Int) ≤ 28) (hKo : KOk K m) (hK : RepK M 20 K m) (hP : RepP M a K m T) (hv : Va K m i) (k : ∀ v : Int, v = (bel K T i) → Q (some (vI v)) M) : Ok d 63 0 [some (vR (some a)), some (vI i)] [] M Q := by
  obtain ⟨⟨g1, g2, g3, g4, g5, g6, g7, g8⟩, hKp⟩ := id hKo
  obtain ⟨r7, rp⟩ := id hP
  have k1 : M 20 7 = kPe K := hK.1
  have k2 : M 20 6 = kWt K := hK.2.1
  have hv2 : (0 ≤ i ∧ i < kPe K) ∨ (16 ≤ i ∧ i < 16 + m) := hv
  obtain ⟨e2, e3, e4, e5⟩ := rp i hv
  have e1 : M 21 i = kKd K i := (hK.2.2 i hv).1
  have e6 : M 22 i = kPa K i := (hK.2.2 i hv).2.1
  have e7 := hKp i hv
  refine k_aload_n i_63_0 rfl ?_
  refine k_getR (r := 20) i_63_1 o_63 rfl (by decide) (ht.1) rfl ?_
  refine k_getR (r := 21) i_63_4 o_63 rfl (by decide) (s_20) rfl ?_
  refine k_iload_n i_63_7 rfl ?_
  refine k_iald i_63_8 (s_21) (by omega) ?_
  refine k_iconst i_63_9 (by decide) ?_
  refine k_icmp_ne (t := 20) i_63_10 rfl (fun h10 => ?_) (fun h10 => ?_)
  · refine k_aload_n i_63_20 rfl ?_
    refine k_getR (r := (a + 2)) i_63_21 o_63 rfl (by decide) (ht.1) rfl ?_
    refine k_iload_n i_63_24 rfl ?_
    refine k_iald i_63_25 (ht.2.2.1) (by omega) ?_
    refine k_iret i_63_26 rfl ?_
    exact k _ (by unfold bel; split <;> omega)
  · refine k_aload_n i_63_13 rfl ?_
    refine k_getI (kz := 7) i_63_14 o_63 rfl (by decide) (ht.1) rfl ?_
    refine k_goto (t := 26) i_63_17 rfl ?_
    refine k_iret i_63_26 rfl ?_
    exact k _ (by unfold bel; split <;> omega)

/-- ElbowQueue$Town.takesOn -/
theorem c_74 {d : Nat} {M : Mem} {Q : Option Vv → Mem → Prop} {a rm : Nat} {K : Kt} {m : Int} {T : Tt} {i : Int} (ht : Tw a 20 rm) (hrm : 16 + m ≤ (rm : Int) ∧ (rm : Int) ≤ 28) (hKo : KOk K m) (hK : RepK M 20 K m) (hP : RepP M a K m T) (hv : Va K m i) (k : ∀ v : Int, (v = 1 ∧ (takes K T i)) ∨ (v = 0 ∧ ¬ (takes K T i)) → Q (some (vI v)) M) : Ok d 74 0 [some (vR (some a)), some (vI i), none] [] M Q := by
  obtain ⟨⟨g1, g2, g3, g4, g5, g6, g7, g8⟩, hKp⟩ := id hKo
  obtain ⟨r7, rp⟩ := id hP
  have k1 : M 20 7 = kPe K := hK.1
  have k2 : M 20 6 = kWt K := hK.2.1
  have hv2 : (0 ≤ i ∧ i < kPe K) ∨ (16 ≤ i ∧ i < 16 + m) := hv
  obtain ⟨e2, e3, e4, e5⟩ := rp i hv
  have e1 : M 21 i = kKd K i := (hK.2.2 i hv).1
  have e6 : M 22 i = kPa K i := (hK.2.2 i hv).2.1
  have e7 := hKp i hv
  refine k_aload_n i_74_0 rfl ?_
  refine k_getR (r := 20) i_74_1 o_74 rfl (by decide) (ht.1) rfl ?_
  refine k_getR (r := 21) i_74_4 o_74 rfl (by decide) (s_20) rfl ?_
  refine k_iload_n i_74_7 rfl ?_
  refine k_iald i_74_8 (s_21) (by omega) ?_
  refine k_istore_n (ls' := [some (vR (some a)), some (vI i), some (vI (M 21 i))]) i_74_9 rfl ?_
  refine k_iload_n i_74_10 rfl ?_
  refine k_iconst i_74_11 (by decide) ?_
  refine k_icmp_eq (t := 34) i_74_12 rfl (fun h12 => ?_) (fun h12 => ?_)
  · refine k_iconst i_74_34 (by decide) ?_
    refine k_goto (t := 39) i_74_35 rfl ?_
    refine k_zret i_74_39 rfl (by omega) ?_
    exact k _ (by unfold takes; omega)
  · refine k_iload_n i_74_15 rfl ?_
    refine k_iconst i_74_16 (by decide) ?_
    refine k_icmp_eq (t := 25) i_74_17 rfl (fun h17 => ?_) (fun h17 => ?_)
    · refine k_aload_n i_74_25 rfl ?_
      refine k_getR (r := (a + 2)) i_74_26 o_74 rfl (by decide) (ht.1) rfl ?_
      refine k_iload_n i_74_29 rfl ?_
      refine k_iald i_74_30 (ht.2.2.1) (by omega) ?_
      refine k_if_ne (t := 38) i_74_31 rfl (fun h31 => ?_) (fun h31 => ?_)
      · refine k_iconst i_74_38 (by decide) ?_
        refine k_zret i_74_39 rfl (by omega) ?_
        exact k _ (by unfold takes; omega)
      · refine k_iconst i_74_34 (by decide) ?_
        refine k_goto (t := 39) i_74_35 rfl ?_
        refine k_zret i_74_39 rfl (by omega) ?_
        exact k _ (by unfold takes; omega)
    · refine k_iload_n i_74_20 rfl ?_
      refine k_iconst i_74_21 (by decide) ?_
      refine k_icmp_ne (t := 38) i_74_22 rfl (fun h22 => ?_) (fun h22 => ?_)
      · refine k_iconst i_74_38 (by decide) ?_
        refine k_zret i_74_39 rfl (by omega) ?_
        exact k _ (by unfold takes; omega)
      · refine k_aload_n i_74_25 rfl ?_
        refine k_getR (r := (a + 2)) i_74_26 o_74 rfl (by decide) (ht.1) rfl ?_
        refine k_iload_n i_74_29 rfl ?_
        refine k_iald i_74_30 (ht.2.2.1) (by omega) ?_
        refine k_if_ne (t := 38) i_74_31 rfl (fun h31 => ?_) (fun h31 => ?_)
        · refine k_iconst i_74_38 (by decide) ?_
          refine k_zret i_74_39 rfl (by omega) ?_
          exact k _ (by unfold takes; omega)
        · refine k_iconst i_74_34 (by decide) ?_
          refine k_goto (t := 39) i_74_35 rfl ?_
          refine k_zret i_74_39 rfl (by omega) ?_
          exact k _ (by unfold takes; omega)

/-- ElbowQueue$Town.bears -/
theorem c_77 {d : Nat} {M : Mem} {Q : Option Vv → Mem → Prop} {a rm : Nat} {K : Kt} {m : Int} {T : Tt} {i : Int} (ht : Tw a 20 rm) (hrm : 16 + m ≤ (rm : Int) ∧ (rm : Int) ≤ 28) (hKo : KOk K m) (hK : RepK M 20 K m) (hP : RepP M a K m T) (hv : Va K m i) (hsi : 0 ≤ tS T i ∧ tS T i ≤ 1000000) (k : ∀ v : Int, v = (bears K T i) → Q (some (vI v)) M) : Ok d 77 0 [some (vR (some a)), some (vI i), none, none, none] [] M Q := by
  obtain ⟨⟨g1, g2, g3, g4, g5, g6, g7, g8⟩, hKp⟩ := id hKo
  obtain ⟨r7, rp⟩ := id hP
  have k1 : M 20 7 = kPe K := hK.1
  have k2 : M 20 6 = kWt K := hK.2.1
  have hv2 : (0 ≤ i ∧ i < kPe K) ∨ (16 ≤ i ∧ i < 16 + m) := hv
  obtain ⟨e2, e3, e4, e5⟩ := rp i hv
  have e1 : M 21 i = kKd K i := (hK.2.2 i hv).1
  have e6 : M 22 i = kPa K i := (hK.2.2 i hv).2.1
  have e7 := hKp i hv
  have q1 := tdv (x := M (a + 4) i) (by omega)
  have q2 := tdv (x := M 22 i) (by omega)
  refine k_aload_n i_77_0 rfl ?_
  refine k_getR (r := 20) i_77_1 o_77 rfl (by decide) (ht.1) rfl ?_
  refine k_getR (r := 21) i_77_4 o_77 rfl (by decide) (s_20) rfl ?_
  refine k_iload_n i_77_7 rfl ?_
  refine k_iald i_77_8 (s_21) (by omega) ?_
  refine k_istore_n (ls' := [some (vR (some a)), some (vI i), some (vI (M 21 i)), none, none]) i_77_9 rfl ?_
  refine k_aload_n i_77_10 rfl ?_
  refine k_getR (r := 20) i_77_11 o_77 rfl (by decide) (ht.1) rfl ?_
  refine k_getR (r := 22) i_77_14 o_77 rfl (by decide) (s_20) rfl ?_
  refine k_iload_n i_77_17 rfl ?_
  refine k_iald i_77_18 (s_22) (by omega) ?_
  refine k_istore_n (ls' := [some (vR (some a)), some (vI i), some (vI (M 21 i)), some (vI (M 22 i)), none]) i_77_19 rfl ?_
  refine k_iload_n i_77_20 rfl ?_
  refine k_iconst i_77_21 (by decide) ?_
  refine k_icmp_ne (t := 27) i_77_22 rfl (fun h22 => ?_) (fun h22 => ?_)
  · refine k_iload_n i_77_27 rfl ?_
    refine k_iconst i_77_28 (by decide) ?_
    refine k_icmp_ne (t := 36) i_77_29 rfl (fun h29 => ?_) (fun h29 => ?_)
    · refine k_aload_n i_77_36 rfl ?_
      refine k_getR (r := (a + 2)) i_77_37 o_77 rfl (by decide) (ht.1) rfl ?_
      refine k_iload_n i_77_40 rfl ?_
      refine k_iald i_77_41 (ht.2.2.1) (by omega) ?_
      refine k_if_ne (t := 49) i_77_42 rfl (fun h42 => ?_) (fun h42 => ?_)
      · refine k_iconst i_77_49 (by decide) ?_
        refine k_iload_n i_77_50 rfl ?_
        refine k_imul i_77_51 (by omega) ?_
        refine k_istore (ls' := [some (vR (some a)), some (vI i), some (vI (M 21 i)), some (vI (M 22 i)), some (vI (2 * (M 22 i)))]) i_77_52 rfl ?_
        refine k_iload_n i_77_54 rfl ?_
        refine k_iconst i_77_55 (by decide) ?_
        refine k_icmp_ne (t := 73) i_77_56 rfl (fun h56 => ?_) (fun h56 => ?_)
        · refine k_iload i_77_73 rfl ?_
          refine k_iret i_77_75 rfl ?_
          refine k _ ?_
          unfold bears hopes
          simp only [← e1, ← e6, ← e4]
          repeat (first | omega | split)
        · refine k_iload i_77_59 rfl ?_
          refine k_aload_n i_77_61 rfl ?_
          refine k_getR (r := (a + 4)) i_77_62 o_77 rfl (by decide) (ht.1) rfl ?_
          refine k_iload_n i_77_65 rfl ?_
          refine k_iald i_77_66 (ht.2.2.2.2.1) (by omega) ?_
          refine k_iconst i_77_67 (by decide) ?_
          refine k_idiv i_77_68 (by decide) ⟨by omega, by omega⟩ ?_
          refine k_iadd i_77_69 (by omega) ?_
          refine k_goto (t := 75) i_77_70 rfl ?_
          refine k_iret i_77_75 rfl ?_
          refine k _ ?_
          unfold bears hopes
          simp only [← e1, ← e6, ← e4]
          repeat (first | omega | split)
      · refine k_iload_n i_77_45 rfl ?_
        refine k_goto (t := 52) i_77_46 rfl ?_
        refine k_istore (ls' := [some (vR (some a)), some (vI i), some (vI (M 21 i)), some (vI (M 22 i)), some (vI (M 22 i))]) i_77_52 rfl ?_
        refine k_iload_n i_77_54 rfl ?_
        refine k_iconst i_77_55 (by decide) ?_
        refine k_icmp_ne (t := 73) i_77_56 rfl (fun h56 => ?_) (fun h56 => ?_)
        · refine k_iload i_77_73 rfl ?_
          refine k_iret i_77_75 rfl ?_
          refine k _ ?_
          unfold bears hopes
          simp only [← e1, ← e6, ← e4]
          repeat (first | omega | split)
        · refine k_iload i_77_59 rfl ?_
          refine k_aload_n i_77_61 rfl ?_
          refine k_getR (r := (a + 4)) i_77_62 o_77 rfl (by decide) (ht.1) rfl ?_
          refine k_iload_n i_77_65 rfl ?_
          refine k_iald i_77_66 (ht.2.2.2.2.1) (by omega) ?_
          refine k_iconst i_77_67 (by decide) ?_
          refine k_idiv i_77_68 (by decide) ⟨by omega, by omega⟩ ?_
          refine k_iadd i_77_69 (by omega) ?_
          refine k_goto (t := 75) i_77_70 rfl ?_
          refine k_iret i_77_75 rfl ?_
          refine k _ ?_
          unfold bears hopes
          simp only [← e1, ← e6, ← e4]
          repeat (first | omega | split)
    · refine k_iload_n i_77_32 rfl ?_
      refine k_iconst i_77_33 (by decide) ?_
      refine k_idiv i_77_34 (by decide) ⟨by omega, by omega⟩ ?_
      refine k_iret i_77_35 rfl ?_
      refine k _ ?_
      unfold bears hopes
      simp only [← e1, ← e6, ← e4]
      repeat (first | omega | split)
  · refine k_iload_n i_77_25 rfl ?_
    refine k_iret i_77_26 rfl ?_
    refine k _ ?_
    unfold bears hopes
    simp only [← e1, ← e6, ← e4]
    repeat (first | omega | split)

/-- ElbowQueue$Town.whoIsAt -/
theorem c_65 {d : Nat} {M : Mem} {Q : Option Vv → Mem → Prop} {a rm : Nat} {K : Kt} {m : Int} {T : Tt} {i : Int} (ht : Tw a 20 rm) (hR : RepC M a K m T) (hl : ((tQ T).length : Int) ≤ rm) (k : ∀ v : Int, v = (whoF T i) → Q (some (vI v)) M) : Ok d 65 0 [some (vR (some a)), some (vI i)] [] M Q := by
  obtain ⟨r6, r7, r8, r9, r10, rq, rp⟩ := id hR
  refine k_iload_n i_65_0 rfl ?_
  refine k_if_lt (t := 21) i_65_1 rfl (fun h1 => ?_) (fun h1 => ?_)
  · refine k_ldc (z := -1000000) i_65_21 o_65 rfl (by decide) ?_
    refine k_iret i_65_23 rfl ?_
    exact k _ (by unfold whoF; rw [if_neg (by omega)])
  · refine k_iload_n i_65_4 rfl ?_
    refine k_aload_n i_65_5 rfl ?_
    refine k_getI (kz := 9) i_65_6 o_65 rfl (by decide) (ht.1) rfl ?_
    refine k_icmp_ge (t := 21) i_65_9 rfl (fun h9 => ?_) (fun h9 => ?_)
    · refine k_ldc (z := -1000000) i_65_21 o_65 rfl (by decide) ?_
      refine k_iret i_65_23 rfl ?_
      exact k _ (by unfold whoF; rw [if_neg (by omega)])
    · refine k_aload_n i_65_12 rfl ?_
      refine k_getR (r := (a + 1)) i_65_13 o_65 rfl (by decide) (ht.1) rfl ?_
      refine k_iload_n i_65_16 rfl ?_
      refine k_iald i_65_17 (ht.2.1) (by omega) ?_
      refine k_goto (t := 23) i_65_18 rfl ?_
      refine k_iret i_65_23 rfl ?_
      exact k _ (by unfold whoF; rw [if_pos (by omega)]; exact hR.q (by omega) (by omega))

/-- ElbowQueue$Town.hasPasserToCome -/
theorem c_68 {d : Nat} {M : Mem} {Q : Option Vv → Mem → Prop} {a rm : Nat} {K : Kt} {m : Int} {T : Tt} (ht : Tw a 20 rm) (hrm : 16 + m ≤ (rm : Int) ∧ (rm : Int) ≤ 28) (hKo : KOk K m) (hK : RepK M 20 K m) (hR : RepC M a K m T) (k : ∀ v : Int, (v = 1 ∧ (tNx T < kPe K)) ∨ (v = 0 ∧ ¬ (tNx T < kPe K)) → Q (some (vI v)) M) : Ok d 68 0 [some (vR (some a))] [] M Q := by
  obtain ⟨⟨g1, g2, g3, g4, g5, g6, g7, g8⟩, hKp⟩ := id hKo
  obtain ⟨r6, r7, r8, r9, r10, rq, rp⟩ := id hR
  have k1 : M 20 7 = kPe K := hK.1
  have k2 : M 20 6 = kWt K := hK.2.1
  refine k_aload_n i_68_0 rfl ?_
  refine k_getI (kz := 10) i_68_1 o_68 rfl (by decide) (ht.1) rfl ?_
  refine k_aload_n i_68_4 rfl ?_
  refine k_getR (r := 20) i_68_5 o_68 rfl (by decide) (ht.1) rfl ?_
  refine k_getI (kz := 7) i_68_8 o_68 rfl (by decide) (s_20) rfl ?_
  refine k_icmp_ge (t := 18) i_68_11 rfl (fun h11 => ?_) (fun h11 => ?_)
  · refine k_iconst i_68_18 (by decide) ?_
    refine k_zret i_68_19 rfl (by omega) ?_
    exact k _ (by omega)
  · refine k_iconst i_68_14 (by decide) ?_
    refine k_goto (t := 19) i_68_15 rfl ?_
    refine k_zret i_68_19 rfl (by omega) ?_
    exact k _ (by omega)

/-- ElbowQueue$Town.isOver -/
theorem c_69 {d : Nat} {M : Mem} {Q : Option Vv → Mem → Prop} {a rm : Nat} {K : Kt} {m : Int} {T : Tt} (ht : Tw a 20 rm) (hrm : 16 + m ≤ (rm : Int) ∧ (rm : Int) ≤ 28) (hKo : KOk K m) (hK : RepK M 20 K m) (hR : RepC M a K m T) (k : ∀ v : Int, (v = 1 ∧ ((tQ T).length = 0 ∧ ¬ tNx T < kPe K)) ∨ (v = 0 ∧ ¬ ((tQ T).length = 0 ∧ ¬ tNx T < kPe K)) → Q (some (vI v)) M) : Ok (d + 1) 69 0 [some (vR (some a))] [] M Q := by
  obtain ⟨⟨g1, g2, g3, g4, g5, g6, g7, g8⟩, hKp⟩ := id hKo
  obtain ⟨r6, r7, r8, r9, r10, rq, rp⟩ := id hR
  have k1 : M 20 7 = kPe K := hK.1
  have k2 : M 20 6 = kWt K := hK.2.1
  refine k_aload_n i_69_0 rfl ?_
  refine k_getI (kz := 9) i_69_1 o_69 rfl (by decide) (ht.1) rfl ?_
  refine k_if_ne (t := 18) i_69_4 rfl (fun h4 => ?_) (fun h4 => ?_)
  · refine k_iconst i_69_18 (by decide) ?_
    refine k_zret i_69_19 rfl (by omega) ?_
    exact k _ (by omega)
  · refine k_aload_n i_69_7 rfl ?_
    refine k_invV (n := 0) (o' := 6) (av := [vR (some a)]) (rest := []) (el := [some (vR (some a))]) i_69_8 o_69 rfl v_68 rfl (ht.1) rfl rfl rfl rfl rfl ?_
    refine c_68 ht hrm hKo hK hR (fun v8 hv8 => ?_)
    show Ok _ 69 11 [some (vR (some a))] [vI v8] (M) _
    refine k_if_ne (t := 18) i_69_11 rfl (fun h11 => ?_) (fun h11 => ?_)
    · refine k_iconst i_69_18 (by decide) ?_
      refine k_zret i_69_19 rfl (by omega) ?_
      exact k _ (by omega)
    · refine k_iconst i_69_14 (by decide) ?_
      refine k_goto (t := 19) i_69_15 rfl ?_
      refine k_zret i_69_19 rfl (by omega) ?_
      exact k _ (by omega)

/-- ElbowQueue$Town.hears -/
theorem c_64 {d : Nat} {M : Mem} {Q : Option Vv → Mem → Prop} {a rm : Nat} {K : Kt} {m : Int} {T : Tt} {i x : Int} (ht : Tw a 20 rm) (hrm : 16 + m ≤ (rm : Int) ∧ (rm : Int) ≤ 28) (hKo : KOk K m) (hK : RepK M 20 K m) (hR : RepC M a K m T) (hv : Va K m i) (k : ∀ M', RepC M' a K m (mkT (tQ T) (tW T) (tS T) (up (tB T) i x) (up (tO T) i i) (tMi T) (tCa T) (tSe T) (tNx T)) → OutT M M' a → Q none M') : Ok d 64 0 [some (vR (some a)), some (vI i), some (vI x)] [] M Q := by
  obtain ⟨⟨g1, g2, g3, g4, g5, g6, g7, g8⟩, hKp⟩ := id hKo
  obtain ⟨r6, r7, r8, r9, r10, rq, rp⟩ := id hR
  have k1 : M 20 7 = kPe K := hK.1
  have k2 : M 20 6 = kWt K := hK.2.1
  have hv2 : (0 ≤ i ∧ i < kPe K) ∨ (16 ≤ i ∧ i < 16 + m) := hv
  obtain ⟨e2, e3, e4, e5⟩ := rp i hv
  have e1 : M 21 i = kKd K i := (hK.2.2 i hv).1
  have e6 : M 22 i = kPa K i := (hK.2.2 i hv).2.1
  have e7 := hKp i hv
  refine k_aload_n i_64_0 rfl ?_
  refine k_getR (r := (a + 2)) i_64_1 o_64 rfl (by decide) (ht.1) rfl ?_
  refine k_iload_n i_64_4 rfl ?_
  refine k_iload_n i_64_5 rfl ?_
  refine k_iast i_64_6 (ht.2.2.1) (by omega) ?_
  refine k_aload_n i_64_7 rfl ?_
  refine k_getR (r := (a + 5)) i_64_8 o_64 rfl (by decide) (ht.1) rfl ?_
  refine k_iload_n i_64_11 rfl ?_
  refine k_iload_n i_64_12 rfl ?_
  refine k_iast i_64_13 (ht.2.2.2.2.2) (by omega) ?_
  refine k_vret i_64_14 rfl ?_
  refine k _ ⟨?_, ?_, ?_, ?_, ?_, ?_, ?_⟩ (((OutT.rf M a).mu (by omega)).mu (by omega))
  · rw [mu_ne (by omega), mu_ne (by omega)]; exact r6
  · rw [mu_ne (by omega), mu_ne (by omega)]; exact r7
  · rw [mu_ne (by omega), mu_ne (by omega)]; exact r8
  · rw [mu_ne (by omega), mu_ne (by omega)]; exact r9
  · rw [mu_ne (by omega), mu_ne (by omega)]; exact r10
  · intro j p hj; rw [mu_ne (by omega), mu_ne (by omega)]; exact rq j p hj
  · intro p hp
    obtain ⟨f2, f3, f4, f5⟩ := rp p hp
    simp only [mk_b, mk_w, mk_s, mk_o]
    refine ⟨?_, by rw [mu_ne (by omega), mu_ne (by omega)]; exact f3, by rw [mu_ne (by omega), mu_ne (by omega)]; exact f4, ?_⟩
    · rw [mu_ne (by omega)]
      by_cases e : p = i
      · subst e; rw [mu_s, up_s]
      · rw [mu_j e, up_n _ _ e]; exact f2
    · by_cases e : p = i
      · subst e; rw [mu_s, up_s]
      · rw [mu_j e, up_n _ _ e, mu_ne (by omega)]; exact f5
