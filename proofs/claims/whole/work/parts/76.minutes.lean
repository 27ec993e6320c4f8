/-- the acts behind n minutes -/
def acL (K : Kt) (T : Tt) (L : List Tt) : Nat → List Tt
  | 0 => L
  | n + 1 => keepL (acL K T L n) (itF K n T)
theorem min_nxle {K : Kt} {T : Tt} (th : Int) : tNx T ≤ tNx (minF K T th) := by
  by_cases e : tNx T < kPe K
  · have := (min_nx e th).1
    omega
  · have e1 : tNx (standF K (servF (tickF (tellF K T)))) = tNx T := by
      show tNx (servF (tickF (tellF K T))) = _
      rw [(serv_s _).2.2]
      rfl
    unfold minF meetF
    rw [e1, if_neg e, e1]
    exact Int.le_refl _
theorem it_nxle {K : Kt} (n : Nat) : ∀ T : Tt, tNx T ≤ tNx (itF K n T) := by
  induction n with
  | zero => intro T; exact Int.le_refl _
  | succ n ih => intro T; exact Int.le_trans (min_nxle 1) (ih _)
theorem Sane.it {K : Kt} {T : Tt} (hK : KOk K 0) (h : Sane K T) (n : Nat) (hn : tMi T + n ≤ 999) : Sane K (itF K n T) := by
  have q := it_mi (K := K) n T
  have q2 := it_nxle (K := K) n T
  have q3 := h.2.1
  exact ⟨h.1.it hK n (by omega), by omega, by omega⟩
theorem sane_ac {K : Kt} {T : Tt} {L : List Tt} (hK : KOk K 0) (h : Sane K T) (hL : ∀ U ∈ L, Sane K U) (n : Nat) (hn : tMi T + n ≤ 999) : ∀ U ∈ acL K T L n, Sane K U := by
  induction n with
  | zero => exact hL
  | succ n ih => exact sane_keep (h.it hK n (by omega)) (ih (by omega))
def FrC (M M' : Mem) : Prop := ∀ (b : Nat) (j : Int), ¬ (25 ≤ b ∧ b ≤ 176) → M' b j = M b j
def FrR (M M' : Mem) : Prop := ∀ (b : Nat) (j : Int), ¬ (b = 274 ∧ 0 ≤ j ∧ j < 145) → b ≠ 286 → b ≠ 287 → b ≠ 277 → ¬ (b = 273 ∧ j = 4) → M' b j = M b j

set_option maxRecDepth 100000 in
theorem l_92 {d : Nat} {M0 : Mem} {Q : Option Vv → Mem → Prop} {K : Kt} {T : Tt} {L : List Tt} {n : Int} (hKo : KOk K 0) (hK : RepK M0 20 K 0) (hS : Sane K T) (hn : 0 ≤ n ∧ tMi T + n ≤ 999) (kk : ∀ M', RepC M' 25 K 0 (itF K n.toNat T) → ActsC M' K (acL K T L n.toNat) → FrC M0 M' → Q (some (vI (M' 25 9))) M') : ∀ (f : Nat) (i : Int) (M : Mem), (0 ≤ i ∧ i ≤ n) → (RepC M 25 K 0 (itF K i.toNat T)) → (ActsC M K (acL K T L i.toNat)) → (FrC M0 M) → (n - i).toNat < f → Ok (d + 3) 92 44 [some (vR (some 0)), some (vI n), some (vI i)] [] M Q := by
  intro f
  induction f with
  | zero => intro i M hi hR hA hfr hf; exact absurd hf (Nat.not_lt_zero _)
  | succ f ih =>
    intro i M hi hR hA hfr hf
    have hm0 := hS.1.2.2.1
    have hSi := hS.it hKo i.toNat (by omega)
    have hTi := hSi.1
    have hli := sane_len hKo hSi
    have hmi2 := it_mi (K := K) i.toNat T
    refine k_iload_n i_92_44 rfl ?_
    refine k_iload_n i_92_45 rfl ?_
    refine k_icmp_ge (t := 74) i_92_46 rfl (fun h46 => ?_) (fun h46 => ?_)
    · refine k_aload_n i_92_74 rfl ?_
      refine k_getR (r := 25) i_92_75 o_92 rfl (by decide) (s_0) rfl ?_
      refine k_getI (kz := 9) i_92_78 o_92 rfl (by decide) (s_25) rfl ?_
      refine k_iret i_92_81 rfl ?_
      obtain rfl : i = n := by omega
      exact kk M hR hA hfr
    · refine k_aload_n i_92_49 rfl ?_
      refine k_getR (r := 31) i_92_50 o_92 rfl (by decide) (s_0) rfl ?_
      refine k_aload_n i_92_53 rfl ?_
      refine k_getR (r := 25) i_92_54 o_92 rfl (by decide) (s_0) rfl ?_
      refine k_invV (n := 1) (o' := 0) (av := [vR (some 31), vR (some 25)]) (rest := []) (el := [some (vR (some 31)), some (vR (some 25))]) i_92_57 o_92 rfl v_3 rfl (s_31) rfl rfl rfl rfl rfl ?_
      refine c_3 hKo hR hli hA (fun M1 hA1 ho1 => ?_)
      show Ok _ 92 60 [some (vR (some 0)), some (vI n), some (vI i)] [] (M1) _
      refine k_aload_n i_92_60 rfl ?_
      refine k_getR (r := 25) i_92_61 o_92 rfl (by decide) (s_0) rfl ?_
      refine k_iconst i_92_64 (by decide) ?_
      refine k_invV (n := 1) (o' := 6) (av := [vR (some 25), vI 1]) (rest := []) (el := [some (vR (some 25)), some (vI 1)]) i_92_65 o_92 rfl v_72 rfl (s_25) rfl rfl rfl rfl rfl ?_
      refine c_72 tw_25 (by omega) hKo ((hK.fr (fun b j h0 h1 => hfr b j (by omega))).fr (fun b j h0 h1 => ho1 b j (by omega))) (hR.fr (fun b j h0 h1 => ho1 b j (by omega))) hTi (by omega) (by omega) (fun M2 hR2 ho2 => ?_)
      show Ok _ 92 68 [some (vR (some 0)), some (vI n), some (vI i)] [] (M2) _
      refine k_iinc (ls' := [some (vR (some 0)), some (vI n), some (vI (i + 1))]) i_92_68 rfl (by omega) rfl ?_
      refine k_goto (t := 44) i_92_71 rfl ?_
      refine ih (i + 1) M2 (by omega) ?_ ?_ (fun b j hb => ?_) (by omega)
      · rw [show (i + 1).toNat = i.toNat + 1 by omega, it_s]
        exact hR2
      · rw [show (i + 1).toNat = i.toNat + 1 by omega]
        exact hA1.fr (fun b j h0 h1 => ho2 b j (by omega))
      · rw [ho2 b j (by omega), ho1 b j (by omega)]
        exact hfr b j hb

set_option maxRecDepth 100000 in
theorem l_155 {d : Nat} {M0 : Mem} {Q : Option Vv → Mem → Prop} {K : Kt} {T : Tt} {L : List Tt} {n : Int} (hKo : KOk K 0) (hK : RepKR M0 K 0) (hS : Sane K T) (hL : ∀ U ∈ L, Sane K U) (hn : 0 ≤ n ∧ tMi T + n ≤ 999) (kk : ∀ M', RepR M' K 0 (itF K n.toNat T) → RepKR M' K 0 → ActsR M' K (acL K T L n.toNat) → FrR M0 M' → Q (some (vI (M' 274 140))) M') : ∀ (f : Nat) (i : Int) (M : Mem), (0 ≤ i ∧ i ≤ n) → (RepR M K 0 (itF K i.toNat T)) → (RepKR M K 0) → (ActsR M K (acL K T L i.toNat)) → (FrR M0 M) → (n - i).toNat < f → Ok (d + 4) 155 46 [some (vR (some 273)), some (vI n), some (vI i)] [] M Q := by
  intro f
  induction f with
  | zero => intro i M hi hR hKi hA hfr hf; exact absurd hf (Nat.not_lt_zero _)
  | succ f ih =>
    intro i M hi hR hKi hA hfr hf
    have hm0 := hS.1.2.2.1
    have hSi := hS.it hKo i.toNat (by omega)
    have hTi := hSi.1
    have hli := sane_len hKo hSi
    have hmi2 := it_mi (K := K) i.toNat T
    refine k_iload_n i_155_46 rfl ?_
    refine k_iload_n i_155_47 rfl ?_
    refine k_icmp_ge (t := 66) i_155_48 rfl (fun h48 => ?_) (fun h48 => ?_)
    · refine k_aload_n i_155_66 rfl ?_
      refine k_getR (r := 274) i_155_67 o_155 rfl (by decide) (s_273) rfl ?_
      refine k_sipush i_155_70 (by decide) ?_
      refine k_iald i_155_73 (s_274) (by omega) ?_
      refine k_iret i_155_74 rfl ?_
      obtain rfl : i = n := by omega
      exact kk M hR hKi hA hfr
    · refine k_aload_n i_155_51 rfl ?_
      refine k_invV (n := 0) (o' := 8) (av := [vR (some 273)]) (rest := []) (el := [some (vR (some 273)), none]) i_155_52 o_155 rfl v_154 rfl (s_273) rfl rfl rfl rfl rfl ?_
      refine c_154 hKo hR hli (fun U hU => sane_len hKo (sane_ac hKo hS hL i.toNat (by omega) U hU)) hA (fun M1 hA1 ho1 => ?_)
      show Ok _ 155 55 [some (vR (some 273)), some (vI n), some (vI i)] [] (M1) _
      have hK1 : RepKR M1 K 0 := hKi.fr (fun j => ho1 274 j (by decide) (by omega))
      refine k_aload_n i_155_55 rfl ?_
      refine k_iconst i_155_56 (by decide) ?_
      refine k_invV (n := 1) (o' := 8) (av := [vR (some 273), vI 1]) (rest := []) (el := [some (vR (some 273)), some (vI 1), none]) i_155_57 o_155 rfl v_153 rfl (s_273) rfl rfl rfl rfl rfl ?_
      refine c_153 hKo hK1 (hR.off (fun j => ho1 274 j (by decide) (by omega))) hTi (by omega) (fun M2 hR2 ho2 => ?_)
      show Ok _ 155 60 [some (vR (some 273)), some (vI n), some (vI i)] [] (M2) _
      refine k_iinc (ls' := [some (vR (some 273)), some (vI n), some (vI (i + 1))]) i_155_60 rfl (by omega) rfl ?_
      refine k_goto (t := 46) i_155_63 rfl ?_
      refine ih (i + 1) M2 (by omega) ?_ (hK1.out hKo ho2) ?_ (fun b j h0 h1 h2 h3 h4 => ?_) (by omega)
      · rw [show (i + 1).toNat = i.toNat + 1 by omega, it_s]
        exact hR2
      · rw [show (i + 1).toNat = i.toNat + 1 by omega]
        exact hA1.fr (ho2 _ _ (by omega) (by decide) (by decide)) (fun j => ho2 _ _ (by omega) (by decide) (by decide))
      · rw [ho2 b j h0 h1 h2, ho1 b j h3 h4]
        exact hfr b j h0 h1 h2 h3 h4
