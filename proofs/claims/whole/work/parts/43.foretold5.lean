theorem tmod_n (L S : Nat) : (L : Int).tmod (S : Int) = ((L % S : Nat) : Int) := by
  rw [Int.tmod_eq_emod_of_nonneg (by omega)]
  exact (Int.natCast_emod L S).symm
theorem tdiv_n (L S : Nat) : (L : Int).tdiv (S : Int) = ((L / S : Nat) : Int) := by
  rw [Int.tdiv_eq_ediv_of_nonneg (by omega)]
  exact (Int.natCast_ediv L S).symm
theorem gcd_st {L S : Nat} : Nat.gcd S (L % S) = Nat.gcd L S := by
  rw [Nat.gcd_comm S (L % S), ← Nat.gcd_rec, Nat.gcd_comm]
theorem half_m {L S : Nat} (h0 : 0 < S) (h : S ≤ L) : 2 * (L % S) ≤ L := by
  have h1 := Nat.mod_lt L h0
  have h2 := Nat.div_add_mod L S
  have h3 : 1 ≤ L / S := (Nat.one_le_div_iff h0).mpr h
  have h4 := Nat.mul_le_mul_left S h3
  omega
theorem pot_s {L S i : Nat} (h0 : 0 < S) (h : S ≤ L) (hp : 2 ^ i * (L * S) ≤ 10000000000000000) : 2 ^ (i + 1) * (S * (L % S)) ≤ 10000000000000000 := by
  have h1 := Nat.mul_le_mul_left S (half_m h0 h)
  have h2 : 2 * (S * (L % S)) ≤ L * S := by
    rw [Nat.mul_comm L S, Nat.mul_left_comm]
    exact h1
  have h3 := Nat.mul_le_mul_left (2 ^ i) h2
  rw [Nat.pow_succ, Nat.mul_assoc]
  omega
theorem pot_e {L S : Nat} (h0 : 0 < S) (h : S ≤ L) (hp : 2 ^ 100 * (L * S) ≤ 10000000000000000) : False := by
  have h1 : 1 ≤ L * S := Nat.mul_pos (by omega) h0
  have h2 := Nat.mul_le_mul_left (2 ^ 100) h1
  have h3 : (2 ^ 100 : Nat) * 1 ≤ 10000000000000000 := Nat.le_trans h2 hp
  exact absurd h3 (by decide)

theorem l_27 {d : Nat} {M : Mem} {Q : Option Vv → Mem → Prop} {a b : Nat}  (kk : Q (some (vL (Nat.gcd b a : Int))) M) : ∀ (f : Nat) (i : Int) (L : Nat) (S : Nat) (x9 : Option Vv), (0 ≤ i ∧ i ≤ 100) → (S ≤ L ∧ L ≤ 100000000) → (Nat.gcd L S = Nat.gcd b a) → (2 ^ i.toNat * (L * S) ≤ 10000000000000000) → (100 - i).toNat < f → Ok d 27 9 [some (vL ((a : Int))), none, some (vL ((b : Int))), none, some (vL ((L : Int))), none, some (vL ((S : Int))), none, some (vI i), x9, none] [] M Q := by
  intro f
  induction f with
  | zero => intro i L S x9 hi hS hg hp hf; exact absurd hf (Nat.not_lt_zero _)
  | succ f ih =>
    intro i L S x9 hi hS hg hp hf
    refine k_iload i_27_9 rfl ?_
    refine k_bipush i_27_11 (by decide) ?_
    refine k_icmp_ge (t := 44) i_27_13 rfl (fun h13 => ?_) (fun h13 => ?_)
    · refine k_lload i_27_44 rfl ?_
      refine k_lret i_27_46 rfl ?_
      have hz : S = 0 := by
        by_cases q : S = 0
        · exact q
        · first
            | omega
            | (exfalso
               rw [show i.toNat = 100 by omega] at hp
               exact pot_e (by omega) hS.1 hp)
      rw [hz, Nat.gcd_zero_right] at hg
      rw [hg]
      exact kk
    · refine k_lload i_27_16 rfl ?_
      refine k_lconst (z := 0) i_27_18 rfl ?_
      refine k_lcmp i_27_19 ?_
      obtain ⟨z19, hz19⟩ : ∃ z : Int, z = (if ((S : Int)) < (0) then (-1 : Int) else if ((S : Int)) = (0) then 0 else 1) := ⟨_, rfl⟩
      rw [← hz19]
      have gz19 : (z19 = -1 ∧ ((S : Int)) < (0)) ∨ (z19 = 0 ∧ ((S : Int)) = (0)) ∨ (z19 = 1 ∧ (0) < ((S : Int))) := by rw [hz19]; split <;> first | omega | (split <;> omega)
      refine k_if_eq (t := 44) i_27_20 rfl (fun h20 => ?_) (fun h20 => ?_)
      · refine k_lload i_27_44 rfl ?_
        refine k_lret i_27_46 rfl ?_
        have hz : S = 0 := by
          by_cases q : S = 0
          · exact q
          · first
              | omega
              | (exfalso
                 rw [show i.toNat = 100 by omega] at hp
                 exact pot_e (by omega) hS.1 hp)
        rw [hz, Nat.gcd_zero_right] at hg
        rw [hg]
        exact kk
      · refine k_lload i_27_23 rfl ?_
        refine k_lload i_27_25 rfl ?_
        refine k_lrem i_27_27 (by omega) (by rw [tmod_n]; have := Nat.mod_lt L (show 0 < S by omega); exact ⟨by omega, by omega⟩) ?_
        rw [tmod_n]
        refine k_lstore (ls' := [some (vL ((a : Int))), none, some (vL ((b : Int))), none, some (vL ((L : Int))), none, some (vL ((S : Int))), none, some (vI i), some (vL (((L % S : Nat) : Int))), none]) i_27_28 rfl ?_
        refine k_lload i_27_30 rfl ?_
        refine k_lstore (ls' := [some (vL ((a : Int))), none, some (vL ((b : Int))), none, some (vL ((S : Int))), none, some (vL ((S : Int))), none, some (vI i), some (vL (((L % S : Nat) : Int))), none]) i_27_32 rfl ?_
        refine k_lload i_27_34 rfl ?_
        refine k_lstore (ls' := [some (vL ((a : Int))), none, some (vL ((b : Int))), none, some (vL ((S : Int))), none, some (vL (((L % S : Nat) : Int))), none, some (vI i), some (vL (((L % S : Nat) : Int))), none]) i_27_36 rfl ?_
        refine k_iinc (ls' := [some (vL ((a : Int))), none, some (vL ((b : Int))), none, some (vL ((S : Int))), none, some (vL (((L % S : Nat) : Int))), none, some (vI (i + 1)), some (vL (((L % S : Nat) : Int))), none]) i_27_38 rfl (by omega) rfl ?_
        refine k_goto (t := 9) i_27_41 rfl ?_
        refine ih (i + 1) S (L % S) _ (by omega) ⟨Nat.le_of_lt (Nat.mod_lt _ (by omega)), by omega⟩ (gcd_st.trans hg) ?_ (by omega)
        rw [show (i + 1).toNat = i.toNat + 1 by omega]
        exact pot_s (by omega) hS.1 hp

/-- ElbowQueue$Foretold.greatestDivisor -/
theorem c_27 {d : Nat} {M : Mem} {Q : Option Vv → Mem → Prop} {a b : Nat} (h : a ≤ b ∧ b ≤ 100000000) (kk : Q (some (vL (Nat.gcd b a : Int))) M) : Ok d 27 0 [some (vL ((a : Int))), none, some (vL ((b : Int))), none, none, none, none, none, none, none, none] [] M Q := by
  refine k_lload_n i_27_0 rfl ?_
  refine k_lstore (ls' := [some (vL ((a : Int))), none, some (vL ((b : Int))), none, some (vL ((b : Int))), none, none, none, none, none, none]) i_27_1 rfl ?_
  refine k_lload_n i_27_3 rfl ?_
  refine k_lstore (ls' := [some (vL ((a : Int))), none, some (vL ((b : Int))), none, some (vL ((b : Int))), none, some (vL ((a : Int))), none, none, none, none]) i_27_4 rfl ?_
  refine k_iconst i_27_6 (by decide) ?_
  refine k_istore (ls' := [some (vL ((a : Int))), none, some (vL ((b : Int))), none, some (vL ((b : Int))), none, some (vL ((a : Int))), none, some (vI 0), none, none]) i_27_7 rfl ?_
  refine l_27 kk 101 0 b a _ (by omega) h rfl ?_ (by omega)
  have h1 := Nat.mul_le_mul h.2 (Nat.le_trans h.1 h.2)
  show 2 ^ 0 * (b * a) ≤ _
  omega

theorem l_24 {d : Nat} {M : Mem} {Q : Option Vv → Mem → Prop} {K : Kt} {T : Tt} {k n c ab : Int} (hc : 0 ≤ c ∧ c ≤ 10) (hn : 0 ≤ n ∧ n ≤ 8) (kk : Q (some (vI (if ab = 0 then ((10 ^ n.toNat / (Nat.gcd (10 ^ n.toNat) (fitN K k c.toNat n.toNat T)) : Nat) : Int) else ((fitN K k c.toNat n.toNat T / (Nat.gcd (10 ^ n.toNat) (fitN K k c.toNat n.toNat T)) : Nat) : Int)))) M) : ∀ (f : Nat) (i : Nat), ((i : Int) ≤ n) → (n - i).toNat < f → Ok (d + 5) 24 29 [some (vR (some 177)), some (vI k), some (vI n), some (vI c), some (vI ab), some (vL (((fitN K k c.toNat n.toNat T : Nat) : Int))), none, some (vL (((10 ^ i : Nat) : Int))), none, some (vI ((i : Int))), none] [] M Q := by
  intro f
  induction f with
  | zero => intro i hi hf; exact absurd hf (Nat.not_lt_zero _)
  | succ f ih =>
    intro i hi hf
    have pb := pow_b (r := i) (by omega)
    have pbn := pow_b (r := n.toNat) (by omega)
    have fb := fit_b K k (c := c.toNat) (by omega) n.toNat T
    have hg0 : 0 < (Nat.gcd (10 ^ n.toNat) (fitN K k c.toNat n.toNat T)) := Nat.gcd_pos_of_pos_left _ (Nat.pow_pos (by decide))
    have hq1 := Nat.div_le_self (10 ^ n.toNat) (Nat.gcd (10 ^ n.toNat) (fitN K k c.toNat n.toNat T))
    have hq2 := Nat.div_le_self (fitN K k c.toNat n.toNat T) (Nat.gcd (10 ^ n.toNat) (fitN K k c.toNat n.toNat T))
    have hz1 : (0 : Int) ≤ ((10 ^ n.toNat / (Nat.gcd (10 ^ n.toNat) (fitN K k c.toNat n.toNat T)) : Nat) : Int) := Int.natCast_nonneg _
    have hz2 : (0 : Int) ≤ ((fitN K k c.toNat n.toNat T / (Nat.gcd (10 ^ n.toNat) (fitN K k c.toNat n.toNat T)) : Nat) : Int) := Int.natCast_nonneg _
    have hz3 : (0 : Int) ≤ ((10 ^ i : Nat) : Int) := Int.natCast_nonneg _
    refine k_iload i_24_29 rfl ?_
    refine k_iload_n i_24_31 rfl ?_
    refine k_icmp_ge (t := 49) i_24_32 rfl (fun h32 => ?_) (fun h32 => ?_)
    · obtain rfl : i = n.toNat := by omega
      refine k_lload i_24_49 rfl ?_
      refine k_lload i_24_51 rfl ?_
      refine k_invS (n := 2) (av := [vL (((fitN K k c.toNat n.toNat T : Nat) : Int)), vL (((10 ^ n.toNat : Nat) : Int))]) (rest := []) (el := [some (vL (((fitN K k c.toNat n.toNat T : Nat) : Int))), none, some (vL (((10 ^ n.toNat : Nat) : Int))), none, none, none, none, none, none, none, none]) i_24_53 o_24 rfl v_27 rfl rfl rfl rfl rfl rfl ?_
      refine c_27 (by have := fit_b K k (c := c.toNat) (by omega) n.toNat T; have := pow_b (r := n.toNat) (by omega); omega) ?_
      show Ok _ 24 56 [some (vR (some 177)), some (vI k), some (vI n), some (vI c), some (vI ab), some (vL (((fitN K k c.toNat n.toNat T : Nat) : Int))), none, some (vL (((10 ^ n.toNat : Nat) : Int))), none, some (vI (((n.toNat : Nat) : Int))), none] [vL (((Nat.gcd (10 ^ n.toNat) (fitN K k c.toNat n.toNat T) : Nat) : Int))] (M) _
      refine k_lstore (ls' := [some (vR (some 177)), some (vI k), some (vI n), some (vI c), some (vI ab), some (vL (((fitN K k c.toNat n.toNat T : Nat) : Int))), none, some (vL (((10 ^ n.toNat : Nat) : Int))), none, some (vL (((Nat.gcd (10 ^ n.toNat) (fitN K k c.toNat n.toNat T) : Nat) : Int))), none]) i_24_56 rfl ?_
      refine k_lload i_24_58 rfl ?_
      refine k_lconst (z := 0) i_24_60 rfl ?_
      refine k_lcmp i_24_61 ?_
      obtain ⟨z61, hz61⟩ : ∃ z : Int, z = (if (((Nat.gcd (10 ^ n.toNat) (fitN K k c.toNat n.toNat T) : Nat) : Int)) < (0) then (-1 : Int) else if (((Nat.gcd (10 ^ n.toNat) (fitN K k c.toNat n.toNat T) : Nat) : Int)) = (0) then 0 else 1) := ⟨_, rfl⟩
      rw [← hz61]
      have gz61 : (z61 = -1 ∧ (((Nat.gcd (10 ^ n.toNat) (fitN K k c.toNat n.toNat T) : Nat) : Int)) < (0)) ∨ (z61 = 0 ∧ (((Nat.gcd (10 ^ n.toNat) (fitN K k c.toNat n.toNat T) : Nat) : Int)) = (0)) ∨ (z61 = 1 ∧ (0) < (((Nat.gcd (10 ^ n.toNat) (fitN K k c.toNat n.toNat T) : Nat) : Int))) := by rw [hz61]; split <;> first | omega | (split <;> omega)
      refine k_if_ne (t := 68) i_24_62 rfl (fun h62 => ?_) (fun h62 => absurd h62 (by omega))
      refine k_iload i_24_68 rfl ?_
      refine k_if_eq (t := 78) i_24_70 rfl (fun h70 => ?_) (fun h70 => ?_)
      · refine k_lload i_24_78 rfl ?_
        refine k_lload i_24_80 rfl ?_
        refine k_ldiv i_24_82 (by omega) (by rw [tdiv_n]; exact ⟨by omega, by omega⟩) ?_
        rw [tdiv_n]
        refine k_l2i i_24_83 ⟨by omega, by omega⟩ ?_
        refine k_iret i_24_84 rfl ?_
        first
          | (rw [if_pos (by omega)] at kk; exact kk)
          | (rw [if_neg (by omega)] at kk; exact kk)
      · refine k_lload i_24_73 rfl ?_
        refine k_goto (t := 80) i_24_75 rfl ?_
        refine k_lload i_24_80 rfl ?_
        refine k_ldiv i_24_82 (by omega) (by rw [tdiv_n]; exact ⟨by omega, by omega⟩) ?_
        rw [tdiv_n]
        refine k_l2i i_24_83 ⟨by omega, by omega⟩ ?_
        refine k_iret i_24_84 rfl ?_
        first
          | (rw [if_pos (by omega)] at kk; exact kk)
          | (rw [if_neg (by omega)] at kk; exact kk)
    · refine k_lload i_24_35 rfl ?_
      refine k_ldc2 (z := 10) i_24_37 o_24 rfl (by decide) ?_
      refine k_lmul i_24_40 ⟨by omega, by omega⟩ ?_
      rw [show (((10 ^ i : Nat) : Int)) * (10) = ((10 ^ (i + 1) : Nat) : Int) by rw [Nat.pow_succ]; omega]
      refine k_lstore (ls' := [some (vR (some 177)), some (vI k), some (vI n), some (vI c), some (vI ab), some (vL (((fitN K k c.toNat n.toNat T : Nat) : Int))), none, some (vL (((10 ^ (i + 1) : Nat) : Int))), none, some (vI ((i : Int))), none]) i_24_41 rfl ?_
      refine k_iinc (ls' := [some (vR (some 177)), some (vI k), some (vI n), some (vI c), some (vI ab), some (vL (((fitN K k c.toNat n.toNat T : Nat) : Int))), none, some (vL (((10 ^ (i + 1) : Nat) : Int))), none, some (vI ((i : Int) + 1)), none]) i_24_43 rfl (by omega) rfl ?_
      rw [show (i : Int) + 1 = ((i + 1 : Nat) : Int) by omega]
      refine k_goto (t := 29) i_24_46 rfl ?_
      exact ih (i + 1) (by omega) (by omega)

/-- ElbowQueue$Foretold.odds -/
theorem c_24 {d : Nat} {M : Mem} {Q : Option Vv → Mem → Prop} {K : Kt} {T : Tt} {k n c ab : Int} (hKo : KOk K 0) (hK : RepK M 20 K 0) (hT : TOk K 0 T) (hmi : tMi T ≤ 1900) (hR : RepC M 25 K 0 T) (hc : 0 ≤ c ∧ c ≤ 10) (hn : 0 ≤ n ∧ n ≤ 8) (kk : ∀ M', (∀ (b : Nat) (j : Int), ¬ (192 ≤ b ∧ b ≤ 245) → M' b j = M b j) → Q (some (vI (if ab = 0 then ((10 ^ n.toNat / (Nat.gcd (10 ^ n.toNat) (fitN K k c.toNat n.toNat T)) : Nat) : Int) else ((fitN K k c.toNat n.toNat T / (Nat.gcd (10 ^ n.toNat) (fitN K k c.toNat n.toNat T)) : Nat) : Int)))) M') : Ok (d + 13) 24 0 [some (vR (some 177)), some (vI k), some (vI n), some (vI c), some (vI ab), none, none, none, none, none, none] [] M Q := by
  refine k_aload_n i_24_0 rfl ?_
  refine k_getR (r := 191) i_24_1 o_24 rfl (by decide) (s_177) rfl ?_
  refine k_iconst i_24_4 (by decide) ?_
  refine k_aald (r := 192) i_24_5 (s_191) (by decide) (by omega) rfl ?_
  refine k_aload_n i_24_6 rfl ?_
  refine k_getR (r := 25) i_24_7 o_24 rfl (by decide) (s_177) rfl ?_
  refine k_invV (n := 1) (o' := 6) (av := [vR (some 192), vR (some 25)]) (rest := []) (el := [some (vR (some 192)), some (vR (some 25)), none]) i_24_10 o_24 rfl v_62 rfl (s_192) rfl rfl rfl rfl rfl ?_
  refine c_62 (tw_pa 0 (by decide)) tw_25 (Or.inl ⟨rfl, rfl⟩) (by omega) hKo hR (show ((tQ T).length : Int) ≤ 16 by have := hT.2.2.1; have := hKo.1; omega) (fun M1 hR1 ho1 => ?_)
  show Ok _ 24 13 [some (vR (some 177)), some (vI k), some (vI n), some (vI c), some (vI ab), none, none, none, none, none, none] [] (M1) _
  refine k_aload_n i_24_13 rfl ?_
  refine k_iconst i_24_14 (by decide) ?_
  refine k_iload_n i_24_15 rfl ?_
  refine k_iload_n i_24_16 rfl ?_
  refine k_iload_n i_24_17 rfl ?_
  rw [show d + 12 = (d + (8 - n.toNat)) + n.toNat + 4 by omega]
  refine k_invV (n := 4) (o' := 2) (av := [vR (some 177), vI 0, vI k, vI n, vI c]) (rest := []) (el := [some (vR (some 177)), some (vI 0), some (vI k), some (vI n), some (vI c), none, none, none, none]) i_24_18 o_24 rfl v_25 rfl (s_177) rfl rfl rfl rfl rfl ?_
  refine c_25 (d := d + (8 - n.toNat)) hKo hc hn.2 n.toNat (by omega) (by omega) (hK.out ho1 (by omega)) hR1 hT (by omega) (fun M2 ho2 => ?_)
  show Ok _ 24 21 [some (vR (some 177)), some (vI k), some (vI n), some (vI c), some (vI ab), none, none, none, none, none, none] [vL (((fitN K k c.toNat n.toNat T : Nat) : Int))] (M2) _
  refine k_lstore (ls' := [some (vR (some 177)), some (vI k), some (vI n), some (vI c), some (vI ab), some (vL (((fitN K k c.toNat n.toNat T : Nat) : Int))), none, none, none, none, none]) i_24_21 rfl ?_
  refine k_lconst (z := 1) i_24_23 rfl ?_
  refine k_lstore (ls' := [some (vR (some 177)), some (vI k), some (vI n), some (vI c), some (vI ab), some (vL (((fitN K k c.toNat n.toNat T : Nat) : Int))), none, some (vL 1), none, none, none]) i_24_24 rfl ?_
  refine k_iconst i_24_26 (by decide) ?_
  refine k_istore (ls' := [some (vR (some 177)), some (vI k), some (vI n), some (vI c), some (vI ab), some (vL (((fitN K k c.toNat n.toNat T : Nat) : Int))), none, some (vL 1), none, some (vI 0), none]) i_24_27 rfl ?_
  exact l_24 (T := T) (K := K) hc hn (kk M2 (fun b j hb => by rw [ho2 b j (by omega), ho1 b j (by omega)])) 9 0 (by omega) (by omega)
