/-! of all ways, those that end with at least k -/
def fitN (K : Kt) (k : Int) (c : Nat) : Nat → Tt → Nat
  | 0, T => if k ≤ ((tQ T).length : Int) then 1 else 0
  | r + 1, T => if tNx T < kPe K then c * fitN K k c r (minF K T 1) + (10 - c) * fitN K k c r (minF K T 0) else 10 * fitN K k c r (minF K T 1)
theorem fit_b (K : Kt) (k : Int) {c : Nat} (hc : c ≤ 10) (r : Nat) : ∀ T : Tt, fitN K k c r T ≤ 10 ^ r := by
  induction r with
  | zero => intro T; show (if _ then 1 else 0) ≤ 1; split <;> omega
  | succ r ih =>
    intro T
    have h1 := ih (minF K T 1)
    have h2 := ih (minF K T 0)
    have e0 : fitN K k c (r + 1) T = if tNx T < kPe K then c * fitN K k c r (minF K T 1) + (10 - c) * fitN K k c r (minF K T 0) else 10 * fitN K k c r (minF K T 1) := rfl
    rw [e0, Nat.pow_succ]
    split
    · have e1 := Nat.mul_le_mul_left c h1
      have e2 := Nat.mul_le_mul_left (10 - c) h2
      have e3 : c * 10 ^ r + (10 - c) * 10 ^ r = 10 ^ r * 10 := by rw [← Nat.add_mul, show c + (10 - c) = 10 by omega, Nat.mul_comm]
      omega
    · omega
theorem pow_b {r : Nat} (h : r ≤ 8) : 10 ^ r ≤ 100000000 := by
  rcases (show r = 0 ∨ r = 1 ∨ r = 2 ∨ r = 3 ∨ r = 4 ∨ r = 5 ∨ r = 6 ∨ r = 7 ∨ r = 8 by omega) with rfl | rfl | rfl | rfl | rfl | rfl | rfl | rfl | rfl <;> decide
theorem mulb {x y : Int} (h : 0 ≤ x ∧ x ≤ 10) (h2 : 0 ≤ y ∧ y ≤ 100000000) : 0 ≤ x * y ∧ x * y ≤ 1000000000 := by
  refine ⟨Int.mul_nonneg h.1 h2.1, ?_⟩
  have e1 := Int.mul_le_mul_of_nonneg_right h.2 h2.1
  omega
def OutP (M M' : Mem) (dp : Int) : Prop := ∀ (b : Nat) (j : Int), ¬ (192 + 6 * (dp + 1).toNat ≤ b ∧ b ≤ 245) → M' b j = M b j

/-- ElbowQueue$Foretold.goOn -/
theorem c_26 {d : Nat} {M : Mem} {Q : Option Vv → Mem → Prop} {K : Kt} {T : Tt} {dp th : Int} (hKo : KOk K 0) (hK : RepK M 20 K 0) (hT : TOk K 0 T) (hmi : tMi T ≤ 2000) (hdp : 0 ≤ dp ∧ dp < 8) (hR : RepC M (192 + 6 * dp.toNat) K 0 T) (kk : ∀ M', RepC M' (192 + 6 * (dp + 1).toNat) K 0 (minF K T th) → OutT M M' (192 + 6 * (dp + 1).toNat) → Q none M') : Ok (d + 3) 26 0 [some (vR (some 177)), some (vI dp), some (vI th), none] [] M Q := by
  have hp0 := tw_pa dp.toNat (by omega)
  have hp1 := tw_pa (dp + 1).toNat (by omega)
  refine k_aload_n i_26_0 rfl ?_
  refine k_getR (r := 191) i_26_1 o_26 rfl (by decide) (s_177) rfl ?_
  refine k_iload_n i_26_4 rfl ?_
  refine k_iconst i_26_5 (by decide) ?_
  refine k_iadd i_26_6 (by omega) ?_
  refine k_aald (r := (192 + 6 * (dp + 1).toNat)) i_26_7 (s_191) (by decide) (by omega) (tw_pa_rf _ (by omega)) ?_
  refine k_astore_n (ls' := [some (vR (some 177)), some (vI dp), some (vI th), some (vR (some ((192 + 6 * (dp + 1).toNat))))]) i_26_8 rfl ?_
  refine k_aload_n i_26_9 rfl ?_
  refine k_aload_n i_26_10 rfl ?_
  refine k_getR (r := 191) i_26_11 o_26 rfl (by decide) (s_177) rfl ?_
  refine k_iload_n i_26_14 rfl ?_
  refine k_aald (r := (192 + 6 * (dp).toNat)) i_26_15 (s_191) (by decide) (by omega) (tw_pa_rf _ (by omega)) ?_
  refine k_invV (n := 1) (o' := 6) (av := [vR (some ((192 + 6 * (dp + 1).toNat))), vR (some ((192 + 6 * (dp).toNat)))]) (rest := []) (el := [some (vR (some ((192 + 6 * (dp + 1).toNat)))), some (vR (some ((192 + 6 * (dp).toNat)))), none]) i_26_16 o_26 rfl v_62 rfl (hp1.1) rfl rfl rfl rfl rfl ?_
  refine c_62 hp1 hp0 (Or.inl ⟨rfl, rfl⟩) (by omega) hKo hR (show ((tQ T).length : Int) ≤ 16 by have := hT.2.2.1; have := hKo.1; omega) (fun M1 hR1 ho1 => ?_)
  show Ok _ 26 19 [some (vR (some 177)), some (vI dp), some (vI th), some (vR (some ((192 + 6 * (dp + 1).toNat))))] [] (M1) _
  refine k_aload_n i_26_19 rfl ?_
  refine k_iload_n i_26_20 rfl ?_
  refine k_invV (n := 1) (o' := 6) (av := [vR (some ((192 + 6 * (dp + 1).toNat))), vI th]) (rest := []) (el := [some (vR (some ((192 + 6 * (dp + 1).toNat)))), some (vI th)]) i_26_21 o_26 rfl v_72 rfl (hp1.1) rfl rfl rfl rfl rfl ?_
  refine c_72 hp1 (by omega) hKo (hK.out ho1 (by omega)) hR1 hT (by omega) (by omega) (fun M2 hR2 ho2 => ?_)
  show Ok _ 26 24 [some (vR (some 177)), some (vI dp), some (vI th), some (vR (some ((192 + 6 * (dp + 1).toNat))))] [] (M2) _
  refine k_vret i_26_24 rfl ?_
  exact kk M2 hR2 (ho1.tr ho2)

theorem c_25 {K : Kt} {k n c : Int} (hKo : KOk K 0) (hc : 0 ≤ c ∧ c ≤ 10) (hn : n ≤ 8) : ∀ (r : Nat) {d : Nat} {M : Mem} {Q : Option Vv → Mem → Prop} {T : Tt} {dp : Int} (hdp : 0 ≤ dp) (hr : dp + r = n) (hK : RepK M 20 K 0) (hR : RepC M (192 + 6 * dp.toNat) K 0 T) (hT : TOk K 0 T) (hmi : tMi T + r ≤ 2000) (kk : ∀ M', OutP M M' dp → Q (some (vL (fitN K k c.toNat r T : Int))) M'), Ok (d + r + 4) 25 0 [some (vR (some 177)), some (vI dp), some (vI k), some (vI n), some (vI c), none, none, none, none] [] M Q := by
  intro r
  induction r with
  | zero =>
    intro d M Q T dp hdp hr hK hR hT hmi kk
    have hp0 := tw_pa dp.toNat (by omega)
    have hl9 : M (192 + 6 * dp.toNat) 9 = (tQ T).length := hR.2.2.2.1
    refine k_aload_n i_25_0 rfl ?_
    refine k_getR (r := 191) i_25_1 o_25 rfl (by decide) (s_177) rfl ?_
    refine k_iload_n i_25_4 rfl ?_
    refine k_aald (r := (192 + 6 * (dp).toNat)) i_25_5 (s_191) (by decide) (by omega) (tw_pa_rf _ (by omega)) ?_
    refine k_astore (ls' := [some (vR (some 177)), some (vI dp), some (vI k), some (vI n), some (vI c), some (vR (some ((192 + 6 * (dp).toNat)))), none, none, none]) i_25_6 rfl ?_
    refine k_iload_n i_25_8 rfl ?_
    refine k_iload_n i_25_9 rfl ?_
    refine k_icmp_ge (t := 24) i_25_10 rfl (fun h10 => ?_) (fun h10 => absurd (by omega) h10)
    refine k_aload i_25_24 rfl ?_
    refine k_getI (kz := 9) i_25_26 o_25 rfl (by decide) (hp0.1) rfl ?_
    refine k_iload_n i_25_29 rfl ?_
    refine k_icmp_lt (t := 37) i_25_30 rfl (fun h30 => ?_) (fun h30 => ?_)
    · refine k_lconst (z := 0) i_25_37 rfl ?_
      refine k_lret i_25_38 rfl ?_
      have e : fitN K k c.toNat 0 T = 0 := by show (if _ then _ else _) = _; rw [if_neg (by omega)]
      rw [e] at kk
      exact kk M (fun b j _ => rfl)
    · refine k_lconst (z := 1) i_25_33 rfl ?_
      refine k_goto (t := 38) i_25_34 rfl ?_
      refine k_lret i_25_38 rfl ?_
      have e : fitN K k c.toNat 0 T = 1 := by show (if _ then _ else _) = _; rw [if_pos (by omega)]
      rw [e] at kk
      exact kk M (fun b j _ => rfl)
  | succ r ih =>
    intro d M Q T dp hdp hr hK hR hT hmi kk
    have hp0 := tw_pa dp.toNat (by omega)
    have pb := pow_b (r := r) (by omega)
    show Ok (d + r + 4 + 1) 25 0 [some (vR (some 177)), some (vI dp), some (vI k), some (vI n), some (vI c), none, none, none, none] [] M Q
    refine k_aload_n i_25_0 rfl ?_
    refine k_getR (r := 191) i_25_1 o_25 rfl (by decide) (s_177) rfl ?_
    refine k_iload_n i_25_4 rfl ?_
    refine k_aald (r := (192 + 6 * (dp).toNat)) i_25_5 (s_191) (by decide) (by omega) (tw_pa_rf _ (by omega)) ?_
    refine k_astore (ls' := [some (vR (some 177)), some (vI dp), some (vI k), some (vI n), some (vI c), some (vR (some ((192 + 6 * (dp).toNat)))), none, none, none]) i_25_6 rfl ?_
    refine k_iload_n i_25_8 rfl ?_
    refine k_iload_n i_25_9 rfl ?_
    refine k_icmp_ge (t := 24) i_25_10 rfl (fun h10 => absurd h10 (by omega)) (fun h10 => ?_)
    refine k_iload_n i_25_13 rfl ?_
    refine k_iconst i_25_14 (by decide) ?_
    refine k_iadd i_25_15 (by omega) ?_
    refine k_aload_n i_25_16 rfl ?_
    refine k_getR (r := 191) i_25_17 o_25 rfl (by decide) (s_177) rfl ?_
    refine k_alen (z := 9) i_25_20 (s_191) (by omega) rfl ?_
    refine k_icmp_lt (t := 39) i_25_21 rfl (fun h21 => ?_) (fun h21 => absurd (by omega) h21)
    refine k_aload i_25_39 rfl ?_
    refine k_invV (n := 0) (o' := 6) (av := [vR (some ((192 + 6 * (dp).toNat)))]) (rest := []) (el := [some (vR (some ((192 + 6 * (dp).toNat))))]) i_25_41 o_25 rfl v_68 rfl (hp0.1) rfl rfl rfl rfl rfl ?_
    refine c_68 hp0 (by omega) hKo hK hR (fun v1 hv1 => ?_)
    show Ok _ 25 44 [some (vR (some 177)), some (vI dp), some (vI k), some (vI n), some (vI c), some (vR (some ((192 + 6 * (dp).toNat)))), none, none, none] [vI v1] (M) _
    refine k_if_eq (t := 52) i_25_44 rfl (fun h44 => ?_) (fun h44 => ?_)
    · refine k_bipush i_25_52 (by decide) ?_
      refine k_istore (ls' := [some (vR (some 177)), some (vI dp), some (vI k), some (vI n), some (vI c), some (vR (some ((192 + 6 * (dp).toNat)))), some (vI 10), none, none]) i_25_54 rfl ?_
      refine k_lconst (z := 0) i_25_56 rfl ?_
      refine k_lstore (ls' := [some (vR (some 177)), some (vI dp), some (vI k), some (vI n), some (vI c), some (vR (some ((192 + 6 * (dp).toNat)))), some (vI 10), some (vL 0), none]) i_25_57 rfl ?_
      refine k_iload i_25_59 rfl ?_
      refine k_if_le (t := 90) i_25_61 rfl (fun h61 => absurd h61 (by decide)) (fun h61 => ?_)
      refine k_aload_n i_25_64 rfl ?_
      refine k_iload_n i_25_65 rfl ?_
      refine k_iconst i_25_66 (by decide) ?_
      refine k_invV (n := 2) (o' := 2) (av := [vR (some 177), vI dp, vI 1]) (rest := []) (el := [some (vR (some 177)), some (vI dp), some (vI 1), none]) i_25_67 o_25 rfl v_26 rfl (s_177) rfl rfl rfl rfl rfl ?_
      refine c_26 hKo hK hT (by omega) (by omega) hR (fun M1 hR1 ho1 => ?_)
      show Ok _ 25 70 [some (vR (some 177)), some (vI dp), some (vI k), some (vI n), some (vI c), some (vR (some ((192 + 6 * (dp).toNat)))), some (vI 10), some (vL 0), none] [] (M1) _
      refine k_lload i_25_70 rfl ?_
      refine k_iload i_25_72 rfl ?_
      refine k_i2l i_25_74 ?_
      refine k_aload_n i_25_75 rfl ?_
      refine k_iload_n i_25_76 rfl ?_
      refine k_iconst i_25_77 (by decide) ?_
      refine k_iadd i_25_78 (by omega) ?_
      refine k_iload_n i_25_79 rfl ?_
      refine k_iload_n i_25_80 rfl ?_
      refine k_iload i_25_81 rfl ?_
      refine k_invV (n := 4) (o' := 2) (av := [vR (some 177), vI (dp + 1), vI k, vI n, vI c]) (rest := [vL 10, vL 0]) (el := [some (vR (some 177)), some (vI (dp + 1)), some (vI k), some (vI n), some (vI c), none, none, none, none]) i_25_83 o_25 rfl v_25 rfl (s_177) rfl rfl rfl rfl rfl ?_
      refine ih (dp := dp + 1) (T := minF K T 1) (by omega) (by omega) (hK.out ho1 (by omega)) hR1 (hT.min hKo (by omega) 1) (by rw [min_mi]; omega) (fun M2 ho2 => ?_)
      show Ok _ 25 86 [some (vR (some 177)), some (vI dp), some (vI k), some (vI n), some (vI c), some (vR (some ((192 + 6 * (dp).toNat)))), some (vI 10), some (vL 0), none] [vL ((fitN K k c.toNat r (minF K T 1) : Int)), vL 10, vL 0] (M2) _
      have fb86 := fit_b K k (c := c.toNat) (by omega) r (minF K T 1)
      have mb86 := mulb (x := 10) (y := (fitN K k c.toNat r (minF K T 1) : Int)) (by omega) (by omega)
      refine k_lmul i_25_86 ⟨by omega, by omega⟩ ?_
      refine k_ladd i_25_87 ⟨by omega, by omega⟩ ?_
      refine k_lstore (ls' := [some (vR (some 177)), some (vI dp), some (vI k), some (vI n), some (vI c), some (vR (some ((192 + 6 * (dp).toNat)))), some (vI 10), some (vL ((0) + ((10) * ((fitN K k c.toNat r (minF K T 1) : Int))))), none]) i_25_88 rfl ?_
      refine k_iload i_25_90 rfl ?_
      refine k_bipush i_25_92 (by decide) ?_
      refine k_icmp_ge (t := 126) i_25_94 rfl (fun h94 => ?_) (fun h94 => absurd h94 (by decide))
      refine k_lload i_25_126 rfl ?_
      refine k_lret i_25_128 rfl ?_
      have e : ((fitN K k c.toNat (r + 1) T : Nat) : Int) = (0) + ((10) * ((fitN K k c.toNat r (minF K T 1) : Int))) := by
        have e0 : fitN K k c.toNat (r + 1) T = if tNx T < kPe K then c.toNat * fitN K k c.toNat r (minF K T 1) + (10 - c.toNat) * fitN K k c.toNat r (minF K T 0) else 10 * fitN K k c.toNat r (minF K T 1) := rfl
        rw [e0]
        first
          | (rw [if_neg (by omega)]; omega)
          | (rw [if_pos (by omega), Int.natCast_add, Int.natCast_mul, Int.natCast_mul, show ((10 - c.toNat : Nat) : Int) = 10 - c by omega, show ((c.toNat : Nat) : Int) = c by omega]
             first
               | omega
               | (have h0 : (10 - c) * ((fitN K k c.toNat r (minF K T 0) : Nat) : Int) = 0 := by rw [show 10 - c = 0 by omega, Int.zero_mul]
                  omega)
               | (have h0 : c * ((fitN K k c.toNat r (minF K T 1) : Nat) : Int) = 0 := by rw [show c = 0 by omega, Int.zero_mul]
                  omega))
      rw [e] at kk
      refine kk _ (fun b j hb => ?_)
      rw [ho2 b j (by omega), ho1 b j (by omega)]
    · refine k_iload i_25_47 rfl ?_
      refine k_goto (t := 54) i_25_49 rfl ?_
      refine k_istore (ls' := [some (vR (some 177)), some (vI dp), some (vI k), some (vI n), some (vI c), some (vR (some ((192 + 6 * (dp).toNat)))), some (vI c), none, none]) i_25_54 rfl ?_
      refine k_lconst (z := 0) i_25_56 rfl ?_
      refine k_lstore (ls' := [some (vR (some 177)), some (vI dp), some (vI k), some (vI n), some (vI c), some (vR (some ((192 + 6 * (dp).toNat)))), some (vI c), some (vL 0), none]) i_25_57 rfl ?_
      refine k_iload i_25_59 rfl ?_
      refine k_if_le (t := 90) i_25_61 rfl (fun h61 => ?_) (fun h61 => ?_)
      · refine k_iload i_25_90 rfl ?_
        refine k_bipush i_25_92 (by decide) ?_
        refine k_icmp_ge (t := 126) i_25_94 rfl (fun h94 => ?_) (fun h94 => ?_)
        · refine k_lload i_25_126 rfl ?_
          refine k_lret i_25_128 rfl ?_
          exact absurd h94 (by omega)
        · refine k_aload_n i_25_97 rfl ?_
          refine k_iload_n i_25_98 rfl ?_
          refine k_iconst i_25_99 (by decide) ?_
          refine k_invV (n := 2) (o' := 2) (av := [vR (some 177), vI dp, vI 0]) (rest := []) (el := [some (vR (some 177)), some (vI dp), some (vI 0), none]) i_25_100 o_25 rfl v_26 rfl (s_177) rfl rfl rfl rfl rfl ?_
          refine c_26 hKo hK hT (by omega) (by omega) hR (fun M3 hR3 ho3 => ?_)
          show Ok _ 25 103 [some (vR (some 177)), some (vI dp), some (vI k), some (vI n), some (vI c), some (vR (some ((192 + 6 * (dp).toNat)))), some (vI c), some (vL 0), none] [] (M3) _
          refine k_lload i_25_103 rfl ?_
          refine k_bipush i_25_105 (by decide) ?_
          refine k_iload i_25_107 rfl ?_
          refine k_isub i_25_109 (by omega) ?_
          refine k_i2l i_25_110 ?_
          refine k_aload_n i_25_111 rfl ?_
          refine k_iload_n i_25_112 rfl ?_
          refine k_iconst i_25_113 (by decide) ?_
          refine k_iadd i_25_114 (by omega) ?_
          refine k_iload_n i_25_115 rfl ?_
          refine k_iload_n i_25_116 rfl ?_
          refine k_iload i_25_117 rfl ?_
          refine k_invV (n := 4) (o' := 2) (av := [vR (some 177), vI (dp + 1), vI k, vI n, vI c]) (rest := [vL (10 - c), vL 0]) (el := [some (vR (some 177)), some (vI (dp + 1)), some (vI k), some (vI n), some (vI c), none, none, none, none]) i_25_119 o_25 rfl v_25 rfl (s_177) rfl rfl rfl rfl rfl ?_
          refine ih (dp := dp + 1) (T := minF K T 0) (by omega) (by omega) (hK.out ho3 (by omega)) hR3 (hT.min hKo (by omega) 0) (by rw [min_mi]; omega) (fun M4 ho4 => ?_)
          show Ok _ 25 122 [some (vR (some 177)), some (vI dp), some (vI k), some (vI n), some (vI c), some (vR (some ((192 + 6 * (dp).toNat)))), some (vI c), some (vL 0), none] [vL ((fitN K k c.toNat r (minF K T 0) : Int)), vL (10 - c), vL 0] (M4) _
          have fb122 := fit_b K k (c := c.toNat) (by omega) r (minF K T 0)
          have mb122 := mulb (x := 10 - c) (y := (fitN K k c.toNat r (minF K T 0) : Int)) (by omega) (by omega)
          refine k_lmul i_25_122 ⟨by omega, by omega⟩ ?_
          refine k_ladd i_25_123 ⟨by omega, by omega⟩ ?_
          refine k_lstore (ls' := [some (vR (some 177)), some (vI dp), some (vI k), some (vI n), some (vI c), some (vR (some ((192 + 6 * (dp).toNat)))), some (vI c), some (vL ((0) + ((10 - c) * ((fitN K k c.toNat r (minF K T 0) : Int))))), none]) i_25_124 rfl ?_
          refine k_lload i_25_126 rfl ?_
          refine k_lret i_25_128 rfl ?_
          have e : ((fitN K k c.toNat (r + 1) T : Nat) : Int) = (0) + ((10 - c) * ((fitN K k c.toNat r (minF K T 0) : Int))) := by
            have e0 : fitN K k c.toNat (r + 1) T = if tNx T < kPe K then c.toNat * fitN K k c.toNat r (minF K T 1) + (10 - c.toNat) * fitN K k c.toNat r (minF K T 0) else 10 * fitN K k c.toNat r (minF K T 1) := rfl
            rw [e0]
            first
              | (rw [if_neg (by omega)]; omega)
              | (rw [if_pos (by omega), Int.natCast_add, Int.natCast_mul, Int.natCast_mul, show ((10 - c.toNat : Nat) : Int) = 10 - c by omega, show ((c.toNat : Nat) : Int) = c by omega]
                 first
                   | omega
                   | (have h0 : (10 - c) * ((fitN K k c.toNat r (minF K T 0) : Nat) : Int) = 0 := by rw [show 10 - c = 0 by omega, Int.zero_mul]
                      omega)
                   | (have h0 : c * ((fitN K k c.toNat r (minF K T 1) : Nat) : Int) = 0 := by rw [show c = 0 by omega, Int.zero_mul]
                      omega))
          rw [e] at kk
          refine kk _ (fun b j hb => ?_)
          rw [ho4 b j (by omega), ho3 b j (by omega)]
      · refine k_aload_n i_25_64 rfl ?_
        refine k_iload_n i_25_65 rfl ?_
        refine k_iconst i_25_66 (by decide) ?_
        refine k_invV (n := 2) (o' := 2) (av := [vR (some 177), vI dp, vI 1]) (rest := []) (el := [some (vR (some 177)), some (vI dp), some (vI 1), none]) i_25_67 o_25 rfl v_26 rfl (s_177) rfl rfl rfl rfl rfl ?_
        refine c_26 hKo hK hT (by omega) (by omega) hR (fun M1 hR1 ho1 => ?_)
        show Ok _ 25 70 [some (vR (some 177)), some (vI dp), some (vI k), some (vI n), some (vI c), some (vR (some ((192 + 6 * (dp).toNat)))), some (vI c), some (vL 0), none] [] (M1) _
        refine k_lload i_25_70 rfl ?_
        refine k_iload i_25_72 rfl ?_
        refine k_i2l i_25_74 ?_
        refine k_aload_n i_25_75 rfl ?_
        refine k_iload_n i_25_76 rfl ?_
        refine k_iconst i_25_77 (by decide) ?_
        refine k_iadd i_25_78 (by omega) ?_
        refine k_iload_n i_25_79 rfl ?_
        refine k_iload_n i_25_80 rfl ?_
        refine k_iload i_25_81 rfl ?_
        refine k_invV (n := 4) (o' := 2) (av := [vR (some 177), vI (dp + 1), vI k, vI n, vI c]) (rest := [vL c, vL 0]) (el := [some (vR (some 177)), some (vI (dp + 1)), some (vI k), some (vI n), some (vI c), none, none, none, none]) i_25_83 o_25 rfl v_25 rfl (s_177) rfl rfl rfl rfl rfl ?_
        refine ih (dp := dp + 1) (T := minF K T 1) (by omega) (by omega) (hK.out ho1 (by omega)) hR1 (hT.min hKo (by omega) 1) (by rw [min_mi]; omega) (fun M2 ho2 => ?_)
        show Ok _ 25 86 [some (vR (some 177)), some (vI dp), some (vI k), some (vI n), some (vI c), some (vR (some ((192 + 6 * (dp).toNat)))), some (vI c), some (vL 0), none] [vL ((fitN K k c.toNat r (minF K T 1) : Int)), vL c, vL 0] (M2) _
        have fb86 := fit_b K k (c := c.toNat) (by omega) r (minF K T 1)
        have mb86 := mulb (x := c) (y := (fitN K k c.toNat r (minF K T 1) : Int)) (by omega) (by omega)
        refine k_lmul i_25_86 ⟨by omega, by omega⟩ ?_
        refine k_ladd i_25_87 ⟨by omega, by omega⟩ ?_
        refine k_lstore (ls' := [some (vR (some 177)), some (vI dp), some (vI k), some (vI n), some (vI c), some (vR (some ((192 + 6 * (dp).toNat)))), some (vI c), some (vL ((0) + ((c) * ((fitN K k c.toNat r (minF K T 1) : Int))))), none]) i_25_88 rfl ?_
        refine k_iload i_25_90 rfl ?_
        refine k_bipush i_25_92 (by decide) ?_
        refine k_icmp_ge (t := 126) i_25_94 rfl (fun h94 => ?_) (fun h94 => ?_)
        · refine k_lload i_25_126 rfl ?_
          refine k_lret i_25_128 rfl ?_
          have e : ((fitN K k c.toNat (r + 1) T : Nat) : Int) = (0) + ((c) * ((fitN K k c.toNat r (minF K T 1) : Int))) := by
            have e0 : fitN K k c.toNat (r + 1) T = if tNx T < kPe K then c.toNat * fitN K k c.toNat r (minF K T 1) + (10 - c.toNat) * fitN K k c.toNat r (minF K T 0) else 10 * fitN K k c.toNat r (minF K T 1) := rfl
            rw [e0]
            first
              | (rw [if_neg (by omega)]; omega)
              | (rw [if_pos (by omega), Int.natCast_add, Int.natCast_mul, Int.natCast_mul, show ((10 - c.toNat : Nat) : Int) = 10 - c by omega, show ((c.toNat : Nat) : Int) = c by omega]
                 first
                   | omega
                   | (have h0 : (10 - c) * ((fitN K k c.toNat r (minF K T 0) : Nat) : Int) = 0 := by rw [show 10 - c = 0 by omega, Int.zero_mul]
                      omega)
                   | (have h0 : c * ((fitN K k c.toNat r (minF K T 1) : Nat) : Int) = 0 := by rw [show c = 0 by omega, Int.zero_mul]
                      omega))
          rw [e] at kk
          refine kk _ (fun b j hb => ?_)
          rw [ho2 b j (by omega), ho1 b j (by omega)]
        · refine k_aload_n i_25_97 rfl ?_
          refine k_iload_n i_25_98 rfl ?_
          refine k_iconst i_25_99 (by decide) ?_
          refine k_invV (n := 2) (o' := 2) (av := [vR (some 177), vI dp, vI 0]) (rest := []) (el := [some (vR (some 177)), some (vI dp), some (vI 0), none]) i_25_100 o_25 rfl v_26 rfl (s_177) rfl rfl rfl rfl rfl ?_
          refine c_26 hKo (hK.fr (fun b j h0 h1 => by rw [ho2 b j (by omega), ho1 b j (by omega)])) hT (by omega) (by omega) (hR.fr (fun b j h0 h1 => by rw [ho2 b j (by omega), ho1 b j (by omega)])) (fun M3 hR3 ho3 => ?_)
          show Ok _ 25 103 [some (vR (some 177)), some (vI dp), some (vI k), some (vI n), some (vI c), some (vR (some ((192 + 6 * (dp).toNat)))), some (vI c), some (vL ((0) + ((c) * ((fitN K k c.toNat r (minF K T 1) : Int))))), none] [] (M3) _
          refine k_lload i_25_103 rfl ?_
          refine k_bipush i_25_105 (by decide) ?_
          refine k_iload i_25_107 rfl ?_
          refine k_isub i_25_109 (by omega) ?_
          refine k_i2l i_25_110 ?_
          refine k_aload_n i_25_111 rfl ?_
          refine k_iload_n i_25_112 rfl ?_
          refine k_iconst i_25_113 (by decide) ?_
          refine k_iadd i_25_114 (by omega) ?_
          refine k_iload_n i_25_115 rfl ?_
          refine k_iload_n i_25_116 rfl ?_
          refine k_iload i_25_117 rfl ?_
          refine k_invV (n := 4) (o' := 2) (av := [vR (some 177), vI (dp + 1), vI k, vI n, vI c]) (rest := [vL (10 - c), vL ((0) + ((c) * ((fitN K k c.toNat r (minF K T 1) : Int))))]) (el := [some (vR (some 177)), some (vI (dp + 1)), some (vI k), some (vI n), some (vI c), none, none, none, none]) i_25_119 o_25 rfl v_25 rfl (s_177) rfl rfl rfl rfl rfl ?_
          refine ih (dp := dp + 1) (T := minF K T 0) (by omega) (by omega) ((hK.fr (fun b j h0 h1 => by rw [ho2 b j (by omega), ho1 b j (by omega)])).out ho3 (by omega)) hR3 (hT.min hKo (by omega) 0) (by rw [min_mi]; omega) (fun M4 ho4 => ?_)
          show Ok _ 25 122 [some (vR (some 177)), some (vI dp), some (vI k), some (vI n), some (vI c), some (vR (some ((192 + 6 * (dp).toNat)))), some (vI c), some (vL ((0) + ((c) * ((fitN K k c.toNat r (minF K T 1) : Int))))), none] [vL ((fitN K k c.toNat r (minF K T 0) : Int)), vL (10 - c), vL ((0) + ((c) * ((fitN K k c.toNat r (minF K T 1) : Int))))] (M4) _
          have fb122 := fit_b K k (c := c.toNat) (by omega) r (minF K T 0)
          have mb122 := mulb (x := 10 - c) (y := (fitN K k c.toNat r (minF K T 0) : Int)) (by omega) (by omega)
          refine k_lmul i_25_122 ⟨by omega, by omega⟩ ?_
          refine k_ladd i_25_123 ⟨by omega, by omega⟩ ?_
          refine k_lstore (ls' := [some (vR (some 177)), some (vI dp), some (vI k), some (vI n), some (vI c), some (vR (some ((192 + 6 * (dp).toNat)))), some (vI c), some (vL (((0) + ((c) * ((fitN K k c.toNat r (minF K T 1) : Int)))) + ((10 - c) * ((fitN K k c.toNat r (minF K T 0) : Int))))), none]) i_25_124 rfl ?_
          refine k_lload i_25_126 rfl ?_
          refine k_lret i_25_128 rfl ?_
          have e : ((fitN K k c.toNat (r + 1) T : Nat) : Int) = ((0) + ((c) * ((fitN K k c.toNat r (minF K T 1) : Int)))) + ((10 - c) * ((fitN K k c.toNat r (minF K T 0) : Int))) := by
            have e0 : fitN K k c.toNat (r + 1) T = if tNx T < kPe K then c.toNat * fitN K k c.toNat r (minF K T 1) + (10 - c.toNat) * fitN K k c.toNat r (minF K T 0) else 10 * fitN K k c.toNat r (minF K T 1) := rfl
            rw [e0]
            first
              | (rw [if_neg (by omega)]; omega)
              | (rw [if_pos (by omega), Int.natCast_add, Int.natCast_mul, Int.natCast_mul, show ((10 - c.toNat : Nat) : Int) = 10 - c by omega, show ((c.toNat : Nat) : Int) = c by omega]
                 first
                   | omega
                   | (have h0 : (10 - c) * ((fitN K k c.toNat r (minF K T 0) : Nat) : Int) = 0 := by rw [show 10 - c = 0 by omega, Int.zero_mul]
                      omega)
                   | (have h0 : c * ((fitN K k c.toNat r (minF K T 1) : Nat) : Int) = 0 := by rw [show c = 0 by omega, Int.zero_mul]
                      omega))
          rw [e] at kk
          refine kk _ (fun b j hb => ?_)
          rw [ho4 b j (by omega), ho3 b j (by omega), ho2 b j (by omega), ho1 b j (by omega)]
