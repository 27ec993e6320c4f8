/-! minutes to come -/
def itF (K : Kt) : Nat → Tt → Tt
  | 0, T => T
  | n + 1, T => itF K n (minF K T 1)
def miF (U : Tt) (x : Int) : Tt := mkT (tQ U) (tW U) (tS U) (tB U) (tO U) x (tCa U) (tSe U) (tNx U)
abbrev overF (K : Kt) (T : Tt) : Prop := (tQ T).length = 0 ∧ ¬ tNx T < kPe K
theorem it_s (K : Kt) (n : Nat) (T : Tt) : itF K (n + 1) T = minF K (itF K n T) 1 := by
  induction n generalizing T with
  | zero => rfl
  | succ n ih => exact ih (minF K T 1)
theorem it_add (K : Kt) (n k : Nat) (T : Tt) : itF K (n + k) T = itF K k (itF K n T) := by
  induction k with
  | zero => rfl
  | succ k ih => rw [it_s, ← ih, ← it_s]; rfl
theorem mi_self (U : Tt) : miF U (tMi U) = U := rfl
theorem over_min {K : Kt} {T : Tt} (h : overF K T) (th : Int) : minF K T th = miF T (tMi T + 1) := by
  have e0 : tQ T = [] := List.length_eq_zero_iff.mp h.1
  have e1 : tellF K T = T := by
    unfold tellF
    exact tellP_none (by omega)
  have e2 : servF (tickF T) = tickF T := by
    unfold servF
    exact if_neg (fun q => by have q2 : 0 < (tQ T).length := q.2.2; omega)
  have e3 : standF K (tickF T) = tickF T := by
    have e4 : olderF (tickF T) = tickF T := by
      have e5 : (fun p => if p ∈ tQ (tickF T) then tS (tickF T) p + 1 else tS (tickF T) p) = tS (tickF T) := by
        funext p
        exact if_neg (by show ¬ p ∈ tQ T; rw [e0]; simp)
      unfold olderF
      rw [e5]
      rfl
    unfold standF
    rw [e4]
    have := leaveP_n (K := K) (U := tickF T) (c := decide (6 ≤ (tQ (tickF T)).length))
    rw [show (tQ (tickF T)).length = 0 from h.1, leaveP_0] at this
    rw [show (tQ (tickF T)).length = 0 from h.1]
    exact this
  unfold minF
  rw [e1, e2, e3]
  unfold meetF
  rw [if_neg (by exact h.2)]
  rfl
theorem over_it {K : Kt} (n : Nat) : ∀ {T : Tt}, overF K T → itF K n T = miF T (tMi T + n) := by
  induction n with
  | zero => intro T _; show T = miF T (tMi T + 0); rw [Int.add_zero]; rfl
  | succ n ih =>
    intro T h
    show itF K n (minF K T 1) = _
    rw [over_min h, ih (T := miF T (tMi T + 1)) h]
    show mkT _ _ _ _ _ (tMi T + 1 + n) _ _ _ = mkT _ _ _ _ _ (tMi T + ((n + 1 : Nat) : Int)) _ _ _
    congr 1
    omega
theorem TOk.it {K : Kt} {m : Int} (hK : KOk K m) (n : Nat) : ∀ {T : Tt}, TOk K m T → tMi T + n ≤ 100000 → TOk K m (itF K n T) := by
  induction n with
  | zero => intro T h _; exact h
  | succ n ih => intro T h hm; exact ih (h.min hK (by omega) 1) (by rw [min_mi]; omega)
theorem it_mi {K : Kt} (n : Nat) : ∀ T : Tt, tMi (itF K n T) = tMi T + n := by
  induction n with
  | zero => intro T; exact (Int.add_zero _).symm
  | succ n ih => intro T; show tMi (itF K n (minF K T 1)) = _; rw [ih, min_mi]; omega
def sgn (K : Kt) (s x y : Int) (W : Nat → Int) (T : Tt) : Prop := if s = 1 then tW T x = y else if s = 2 then allB K T x else if s = 3 then justF T W x else overF K T
theorem sgn_mi {K : Kt} {s x y z : Int} {W : Nat → Int} {T : Tt} : sgn K s x y W (miF T z) ↔ sgn K s x y W T := Iff.rfl
def Fst (P : Nat → Prop) (most v : Int) : Prop := (∃ n : Nat, (n : Int) ≤ most ∧ v = n ∧ P n ∧ ∀ j < n, ¬ P j) ∨ (v = -1000000 ∧ ∀ j : Nat, (j : Int) ≤ most → ¬ P j)
theorem Fst.uq {P P' : Nat → Prop} {most v v' : Int} (h : Fst P most v) (h' : Fst P' most v') (e : ∀ n : Nat, (n : Int) ≤ most → (P n ↔ P' n)) : v = v' := by
  rcases h with ⟨n, h1, h2, h3, h4⟩ | ⟨h1, h2⟩ <;> rcases h' with ⟨k, g1, g2, g3, g4⟩ | ⟨g1, g2⟩
  · rcases Nat.lt_trichotomy n k with q | q | q
    · exact absurd ((e n h1).mp h3) (g4 n q)
    · omega
    · exact absurd ((e k g1).mpr g3) (h4 k q)
  · exact absurd ((e n h1).mp h3) (g2 n h1)
  · exact absurd ((e k g1).mpr g3) (h2 k g1)
  · omega

theorem l_14 {d : Nat} {M0 : Mem} {Q : Option Vv → Mem → Prop} {K : Kt} {T : Tt} {n : Int} (hKo : KOk K 0) (hK : RepK M0 20 K 0) (hT : TOk K 0 T) (hn : n ≤ 60) (hmi : tMi T ≤ 2000) (kk : ∀ (M' : Mem) (x : Int), RepC M' 179 K 0 (miF (itF K n.toNat T) x) → OutT M0 M' 179 → Q none M') : ∀ (f : Nat) (i : Int) (M : Mem), (0 ≤ i ∧ (i ≤ n ∨ i = 0)) → (RepC M 179 K 0 (itF K i.toNat T)) → (OutT M0 M 179) → (n - i).toNat < f → Ok (d + 3) 14 2 [some (vR (some 179)), some (vI n), some (vI i)] [] M Q := by
  intro f
  induction f with
  | zero => intro i M hi hR1 ho hf; exact absurd hf (Nat.not_lt_zero _)
  | succ f ih =>
    intro i M hi hR1 ho hf
    have hK1 := hK.out ho (by omega)
    have hU := hT.it hKo i.toNat (by omega)
    have hmi2 := it_mi (K := K) i.toNat T
    refine k_iload_n i_14_2 rfl ?_
    refine k_iload_n i_14_3 rfl ?_
    refine k_icmp_ge (t := 25) i_14_4 rfl (fun h4 => ?_) (fun h4 => ?_)
    · refine k_vret i_14_25 rfl ?_
      refine kk M (tMi (itF K i.toNat T)) ?_ ho
      first
        | (rw [show n.toNat = i.toNat by omega]; exact hR1)
        | (have hov : overF K (itF K i.toNat T) := by
             rcases hv1 with q | q
             · exact q.2
             · omega
           have e : itF K n.toNat T = miF (itF K i.toNat T) (tMi (itF K i.toNat T) + ((n.toNat - i.toNat : Nat) : Int)) := by
             rw [show n.toNat = i.toNat + (n.toNat - i.toNat) by omega, it_add, over_it _ hov]
             rw [show i.toNat + (n.toNat - i.toNat) - i.toNat = n.toNat - i.toNat by omega]
           rw [e]
           exact hR1)
    · refine k_aload_n i_14_7 rfl ?_
      refine k_invV (n := 0) (o' := 6) (av := [vR (some 179)]) (rest := []) (el := [some (vR (some 179))]) i_14_8 o_14 rfl v_69 rfl (s_179) rfl rfl rfl rfl rfl ?_
      refine c_69 tw_179 (by omega) hKo hK1 hR1 (fun v1 hv1 => ?_)
      show Ok _ 14 11 [some (vR (some 179)), some (vI n), some (vI i)] [vI v1] (M) _
      refine k_if_ne (t := 25) i_14_11 rfl (fun h11 => ?_) (fun h11 => ?_)
      · refine k_vret i_14_25 rfl ?_
        refine kk M (tMi (itF K i.toNat T)) ?_ ho
        first
          | (rw [show n.toNat = i.toNat by omega]; exact hR1)
          | (have hov : overF K (itF K i.toNat T) := by
               rcases hv1 with q | q
               · exact q.2
               · omega
             have e : itF K n.toNat T = miF (itF K i.toNat T) (tMi (itF K i.toNat T) + ((n.toNat - i.toNat : Nat) : Int)) := by
               rw [show n.toNat = i.toNat + (n.toNat - i.toNat) by omega, it_add, over_it _ hov]
               rw [show i.toNat + (n.toNat - i.toNat) - i.toNat = n.toNat - i.toNat by omega]
             rw [e]
             exact hR1)
      · refine k_aload_n i_14_14 rfl ?_
        refine k_iconst i_14_15 (by decide) ?_
        refine k_invV (n := 1) (o' := 6) (av := [vR (some 179), vI 1]) (rest := []) (el := [some (vR (some 179)), some (vI 1)]) i_14_16 o_14 rfl v_72 rfl (s_179) rfl rfl rfl rfl rfl ?_
        refine c_72 tw_179 (by omega) hKo hK1 hR1 hU (by omega) (by omega) (fun M2 hR2 ho2 => ?_)
        show Ok _ 14 19 [some (vR (some 179)), some (vI n), some (vI i)] [] (M2) _
        refine k_iinc (ls' := [some (vR (some 179)), some (vI n), some (vI (i + 1))]) i_14_19 rfl (by omega) rfl ?_
        refine k_goto (t := 2) i_14_22 rfl ?_
        refine ih (i + 1) M2 (by omega) ?_ (ho.tr ho2) (by omega)
        rw [show (i + 1).toNat = i.toNat + 1 by omega, it_s]
        exact hR2

/-- ElbowQueue$Foretold.letGoBy -/
theorem c_14 {d : Nat} {M : Mem} {Q : Option Vv → Mem → Prop} {K : Kt} {T : Tt} {n : Int} (hKo : KOk K 0) (hK : RepK M 20 K 0) (hT : TOk K 0 T) (hn : n ≤ 60) (hmi : tMi T ≤ 2000) (hR : RepC M 179 K 0 T) (kk : ∀ (M' : Mem) (x : Int), RepC M' 179 K 0 (miF (itF K n.toNat T) x) → OutT M M' 179 → Q none M') : Ok (d + 3) 14 0 [some (vR (some 179)), some (vI n), none] [] M Q := by
  refine k_iconst i_14_0 (by decide) ?_
  refine k_istore_n (ls' := [some (vR (some 179)), some (vI n), some (vI 0)]) i_14_1 rfl ?_
  exact l_14 hKo hK hT hn hmi kk (n.toNat + 1) 0 M (by omega) hR (OutT.rf M 179) (by omega)

/-- ElbowQueue$Foretold.behind -/
theorem c_15 {d : Nat} {M : Mem} {Q : Option Vv → Mem → Prop} {K : Kt} {T : Tt} {n : Int} (hKo : KOk K 0) (hK : RepK M 20 K 0) (hT : TOk K 0 T) (hR : RepC M 25 K 0 T) (hn : n ≤ 60) (hmi : tMi T ≤ 2000) (kk : ∀ (M' : Mem) (x : Int), RepC M' 179 K 0 (miF (itF K n.toNat T) x) → OutT M M' 179 → Q (some (vR (some 179))) M') : Ok (d + 4) 15 0 [some (vR (some 177)), some (vI n)] [] M Q := by
  refine k_aload_n i_15_0 rfl ?_
  refine k_getR (r := 179) i_15_1 o_15 rfl (by decide) (s_177) rfl ?_
  refine k_aload_n i_15_4 rfl ?_
  refine k_getR (r := 25) i_15_5 o_15 rfl (by decide) (s_177) rfl ?_
  refine k_invV (n := 1) (o' := 6) (av := [vR (some 179), vR (some 25)]) (rest := []) (el := [some (vR (some 179)), some (vR (some 25)), none]) i_15_8 o_15 rfl v_62 rfl (s_179) rfl rfl rfl rfl rfl ?_
  refine c_62 tw_179 tw_25 (Or.inr (Or.inl ⟨rfl, rfl⟩)) (by omega) hKo hR (show ((tQ T).length : Int) ≤ 16 by have := hT.2.2.1; have := hKo.1; omega) (fun M1 hR1 ho1 => ?_)
  show Ok _ 15 11 [some (vR (some 177)), some (vI n)] [] (M1) _
  refine k_aload_n i_15_11 rfl ?_
  refine k_getR (r := 179) i_15_12 o_15 rfl (by decide) (s_177) rfl ?_
  refine k_iload_n i_15_15 rfl ?_
  refine k_invS (n := 2) (av := [vR (some 179), vI n]) (rest := []) (el := [some (vR (some 179)), some (vI n), none]) i_15_16 o_15 rfl v_14 rfl rfl rfl rfl rfl rfl ?_
  refine c_14 hKo (hK.out ho1 (by omega)) hT (by omega) (by omega) hR1 (fun M2 x hR2 ho2 => ?_)
  show Ok _ 15 19 [some (vR (some 177)), some (vI n)] [] (M2) _
  refine k_aload_n i_15_19 rfl ?_
  refine k_getR (r := 179) i_15_20 o_15 rfl (by decide) (s_177) rfl ?_
  refine k_aret i_15_23 rfl ?_
  exact kk M2 x hR2 (ho1.tr ho2)

/-- ElbowQueue$Foretold.shows -/
theorem c_17 {d : Nat} {M : Mem} {Q : Option Vv → Mem → Prop} {K : Kt} {T : Tt} {s x y : Int} (hKo : KOk K 0) (hK : RepK M 20 K 0) (hT : TOk K 0 T) (hR : RepC M 179 K 0 T) (h1 : s = 1 → Va K 0 x) (h3 : s = 3 → 0 ≤ x ∧ x ≤ 16) (kk : ∀ v : Int, (v = 1 ∧ (sgn K s x y (fun j => M 178 j) T)) ∨ (v = 0 ∧ ¬ (sgn K s x y (fun j => M 178 j) T)) → Q (some (vI v)) M) : Ok (d + 2) 17 0 [some (vR (some 177)), some (vI s), some (vI x), some (vI y)] [] M Q := by
  obtain ⟨⟨g1, g2, g3, g4, g5, g6, g7, g8⟩, hKp⟩ := id hKo
  obtain ⟨r6, r7, r8, r9, r10, rq, rp⟩ := id hR
  have hu3 := hT.2.2.1
  refine k_iload_n i_17_0 rfl ?_
  rcases (show s = 1 ∨ s = 2 ∨ s = 3 ∨ (s < 1 ∨ 3 < s) by omega) with hx1 | hx1 | hx1 | hx1
  · refine k_tab (off := 27) (t := 28) i_17_1 (by rw [hx1]; rfl) rfl ?_
    refine k_aload_n i_17_28 rfl ?_
    refine k_getR (r := 179) i_17_29 o_17 rfl (by decide) (s_177) rfl ?_
    refine k_getR (r := 182) i_17_32 o_17 rfl (by decide) (s_179) rfl ?_
    refine k_iload_n i_17_35 rfl ?_
    refine k_iald i_17_36 (s_182) (by have h1a : (0 ≤ x ∧ x < kPe K) ∨ (16 ≤ x ∧ x < 16 + 0) := h1 hx1; omega) ?_
    refine k_iload_n i_17_37 rfl ?_
    refine k_icmp_ne (t := 45) i_17_38 rfl (fun h38 => ?_) (fun h38 => ?_)
    · refine k_iconst i_17_45 (by decide) ?_
      refine k_zret i_17_46 rfl (by omega) ?_
      exact kk _ (by have e : M 182 x = tW T x := (rp x (h1 hx1)).2.1; unfold sgn; rw [if_pos hx1]; omega)
    · refine k_iconst i_17_41 (by decide) ?_
      refine k_goto (t := 46) i_17_42 rfl ?_
      refine k_zret i_17_46 rfl (by omega) ?_
      exact kk _ (by have e : M 182 x = tW T x := (rp x (h1 hx1)).2.1; unfold sgn; rw [if_pos hx1]; omega)
  · refine k_tab (off := 46) (t := 47) i_17_1 (by rw [hx1]; rfl) rfl ?_
    refine k_aload_n i_17_47 rfl ?_
    refine k_getR (r := 179) i_17_48 o_17 rfl (by decide) (s_177) rfl ?_
    refine k_iload_n i_17_51 rfl ?_
    refine k_invV (n := 1) (o' := 6) (av := [vR (some 179), vI x]) (rest := []) (el := [some (vR (some 179)), some (vI x), none]) i_17_52 o_17 rfl v_70 rfl (s_179) rfl rfl rfl rfl rfl ?_
    refine c_70 tw_179 (by omega) hKo hK hR hT (fun v1 hv1 => ?_)
    show Ok _ 17 55 [some (vR (some 177)), some (vI s), some (vI x), some (vI y)] [vI v1] (M) _
    refine k_zret i_17_55 rfl (by omega) ?_
    exact kk _ (by unfold sgn; rw [if_neg (by omega), if_pos hx1]; exact hv1)
  · refine k_tab (off := 55) (t := 56) i_17_1 (by rw [hx1]; rfl) rfl ?_
    refine k_aload_n i_17_56 rfl ?_
    refine k_getR (r := 179) i_17_57 o_17 rfl (by decide) (s_177) rfl ?_
    refine k_aload_n i_17_60 rfl ?_
    refine k_getR (r := 178) i_17_61 o_17 rfl (by decide) (s_177) rfl ?_
    refine k_iload_n i_17_64 rfl ?_
    refine k_invV (n := 2) (o' := 6) (av := [vR (some 179), vR (some 178), vI x]) (rest := []) (el := [some (vR (some 179)), some (vR (some 178)), some (vI x), none]) i_17_65 o_17 rfl v_71 rfl (s_179) rfl rfl rfl rfl rfl ?_
    refine c_71 (K := K) (m := 0) tw_179 hR (by omega) hT.1 (by omega) (h3 hx1) (fun v1 hv1 => ?_)
    show Ok _ 17 68 [some (vR (some 177)), some (vI s), some (vI x), some (vI y)] [vI v1] (M) _
    refine k_zret i_17_68 rfl (by omega) ?_
    exact kk _ (by unfold sgn; rw [if_neg (by omega), if_neg (by omega), if_pos hx1]; exact hv1)
  · refine k_tab (off := 68) (t := 69) i_17_1 (if_pos hx1) rfl ?_
    refine k_aload_n i_17_69 rfl ?_
    refine k_getR (r := 179) i_17_70 o_17 rfl (by decide) (s_177) rfl ?_
    refine k_invV (n := 0) (o' := 6) (av := [vR (some 179)]) (rest := []) (el := [some (vR (some 179))]) i_17_73 o_17 rfl v_69 rfl (s_179) rfl rfl rfl rfl rfl ?_
    refine c_69 tw_179 (by omega) hKo hK hR (fun v1 hv1 => ?_)
    show Ok _ 17 76 [some (vR (some 177)), some (vI s), some (vI x), some (vI y)] [vI v1] (M) _
    refine k_zret i_17_76 rfl (by omega) ?_
    exact kk _ (by unfold sgn; rw [if_neg (by omega), if_neg (by omega), if_neg (by omega)]; exact hv1)

theorem l_16 {d : Nat} {M0 : Mem} {Q : Option Vv → Mem → Prop} {K : Kt} {T : Tt} {s x y most : Int} (hKo : KOk K 0) (hK : RepK M0 20 K 0) (hT : TOk K 0 T) (h1 : s = 1 → Va K 0 x) (h3 : s = 3 → 0 ≤ x ∧ x ≤ 16) (hm : 0 ≤ most ∧ most ≤ 200) (hmi : tMi T ≤ 2000) (kk : ∀ v M', Fst (fun n : Nat => sgn K s x y (fun j => M0 178 j) (itF K n T)) most v → OutT M0 M' 179 → Q (some (vI v)) M') : ∀ (f : Nat) (i : Int) (M : Mem), (0 ≤ i ∧ i ≤ most + 1) → (∀ j : Nat, (j : Int) < i → ¬ (fun n : Nat => sgn K s x y (fun j => M0 178 j) (itF K n T)) j) → (RepC M 179 K 0 (itF K i.toNat T)) → (OutT M0 M 179) → (most + 1 - i).toNat < f → Ok (d + 3) 16 3 [some (vR (some 177)), some (vI most), some (vI s), some (vI x), some (vI y), some (vI i)] [] M Q := by
  intro f
  induction f with
  | zero => intro i M hi hj hR1 ho hf; exact absurd hf (Nat.not_lt_zero _)
  | succ f ih =>
    intro i M hi hj hR1 ho hf
    have hK1 := hK.out ho (by omega)
    have hU := hT.it hKo i.toNat (by omega)
    have hmi2 := it_mi (K := K) i.toNat T
    have eW : (fun j : Nat => M 178 j) = (fun j : Nat => M0 178 j) := by funext j; exact ho _ _ (by omega)
    refine k_iload i_16_3 rfl ?_
    refine k_iload_n i_16_5 rfl ?_
    refine k_icmp_gt (t := 50) i_16_6 rfl (fun h6 => ?_) (fun h6 => ?_)
    · refine k_ldc (z := -1000000) i_16_50 o_16 rfl (by decide) ?_
      refine k_iret i_16_52 rfl ?_
      exact kk _ _ (Or.inr ⟨rfl, fun j hj2 => hj j (by omega)⟩) ho
    · refine k_aload_n i_16_9 rfl ?_
      refine k_iload_n i_16_10 rfl ?_
      refine k_iload_n i_16_11 rfl ?_
      refine k_iload i_16_12 rfl ?_
      refine k_invV (n := 3) (o' := 2) (av := [vR (some 177), vI s, vI x, vI y]) (rest := []) (el := [some (vR (some 177)), some (vI s), some (vI x), some (vI y)]) i_16_14 o_16 rfl v_17 rfl (s_177) rfl rfl rfl rfl rfl ?_
      refine c_17 hKo hK1 hU hR1 h1 h3 (fun v0 hv0 => ?_)
      show Ok _ 16 17 [some (vR (some 177)), some (vI most), some (vI s), some (vI x), some (vI y), some (vI i)] [vI v0] (M) _
      rw [eW] at hv0
      refine k_if_eq (t := 23) i_16_17 rfl (fun h17 => ?_) (fun h17 => ?_)
      · have hns : ¬ (fun n : Nat => sgn K s x y (fun j => M0 178 j) (itF K n T)) i.toNat := by
          rcases hv0 with q | q
          · omega
          · exact q.2
        refine k_aload_n i_16_23 rfl ?_
        refine k_getR (r := 179) i_16_24 o_16 rfl (by decide) (s_177) rfl ?_
        refine k_invV (n := 0) (o' := 6) (av := [vR (some 179)]) (rest := []) (el := [some (vR (some 179))]) i_16_27 o_16 rfl v_69 rfl (s_179) rfl rfl rfl rfl rfl ?_
        refine c_69 tw_179 (by omega) hKo hK1 hR1 (fun v1 hv1 => ?_)
        show Ok _ 16 30 [some (vR (some 177)), some (vI most), some (vI s), some (vI x), some (vI y), some (vI i)] [vI v1] (M) _
        refine k_if_eq (t := 36) i_16_30 rfl (fun h30 => ?_) (fun h30 => ?_)
        · refine k_aload_n i_16_36 rfl ?_
          refine k_getR (r := 179) i_16_37 o_16 rfl (by decide) (s_177) rfl ?_
          refine k_iconst i_16_40 (by decide) ?_
          refine k_invV (n := 1) (o' := 6) (av := [vR (some 179), vI 1]) (rest := []) (el := [some (vR (some 179)), some (vI 1)]) i_16_41 o_16 rfl v_72 rfl (s_179) rfl rfl rfl rfl rfl ?_
          refine c_72 tw_179 (by omega) hKo hK1 hR1 hU (by omega) (by omega) (fun M2 hR2 ho2 => ?_)
          show Ok _ 16 44 [some (vR (some 177)), some (vI most), some (vI s), some (vI x), some (vI y), some (vI i)] [] (M2) _
          refine k_iinc (ls' := [some (vR (some 177)), some (vI most), some (vI s), some (vI x), some (vI y), some (vI (i + 1))]) i_16_44 rfl (by omega) rfl ?_
          refine k_goto (t := 3) i_16_47 rfl ?_
          refine ih (i + 1) M2 (by omega) (fun j hj2 => ?_) ?_ (ho.tr ho2) (by omega)
          · by_cases e : (j : Int) < i
            · exact hj j e
            · rw [show j = i.toNat by omega]
              exact hns
          · rw [show (i + 1).toNat = i.toNat + 1 by omega, it_s]
            exact hR2
        · refine k_ldc (z := -1000000) i_16_33 o_16 rfl (by decide) ?_
          refine k_iret i_16_35 rfl ?_
          refine kk _ _ (Or.inr ⟨rfl, fun j hj2 => ?_⟩) ho
          by_cases e : (j : Int) < i
          · exact hj j e
          · have hov : overF K (itF K i.toNat T) := by
              rcases hv1 with q | q
              · exact q.2
              · omega
            show ¬ sgn K s x y (fun j => M0 178 j) (itF K j T)
            rw [show j = i.toNat + (j - i.toNat) by omega, it_add, over_it _ hov]
            exact hns
      · refine k_iload i_16_20 rfl ?_
        refine k_iret i_16_22 rfl ?_
        refine kk _ _ (Or.inl ⟨i.toNat, by omega, by omega, ?_, fun j hj2 => hj j (by omega)⟩) ho
        rcases hv0 with q | q
        · exact q.2
        · omega

/-- ElbowQueue$Foretold.firstMinute -/
theorem c_16 {d : Nat} {M : Mem} {Q : Option Vv → Mem → Prop} {K : Kt} {T : Tt} {s x y most : Int} (hKo : KOk K 0) (hK : RepK M 20 K 0) (hT : TOk K 0 T) (h1 : s = 1 → Va K 0 x) (h3 : s = 3 → 0 ≤ x ∧ x ≤ 16) (hm : 0 ≤ most ∧ most ≤ 200) (hmi : tMi T ≤ 2000) (hR : RepC M 179 K 0 T) (kk : ∀ v M', Fst (fun n : Nat => sgn K s x y (fun j => M 178 j) (itF K n T)) most v → OutT M M' 179 → Q (some (vI v)) M') : Ok (d + 3) 16 0 [some (vR (some 177)), some (vI most), some (vI s), some (vI x), some (vI y), none] [] M Q := by
  refine k_iconst i_16_0 (by decide) ?_
  refine k_istore (ls' := [some (vR (some 177)), some (vI most), some (vI s), some (vI x), some (vI y), some (vI 0)]) i_16_1 rfl ?_
  exact l_16 hKo hK hT h1 h3 hm hmi kk (most.toNat + 2) 0 M (by omega) (fun j hj => by omega) hR (OutT.rf M 179) (by omega)

/-- ElbowQueue$Foretold.life -/
theorem c_18 {d : Nat} {M : Mem} {Q : Option Vv → Mem → Prop} {K : Kt} {T : Tt} (hKo : KOk K 0) (hK : RepK M 20 K 0) (hT : TOk K 0 T) (hR : RepC M 25 K 0 T) (hmi : tMi T ≤ 2000) (kk : ∀ v M', Fst (fun n : Nat => sgn K 0 0 0 (fun j => M 178 j) (itF K n T)) 200 v → OutT M M' 179 → Q (some (vI v)) M') : Ok (d + 4) 18 0 [some (vR (some 177))] [] M Q := by
  refine k_aload_n i_18_0 rfl ?_
  refine k_getR (r := 179) i_18_1 o_18 rfl (by decide) (s_177) rfl ?_
  refine k_aload_n i_18_4 rfl ?_
  refine k_getR (r := 25) i_18_5 o_18 rfl (by decide) (s_177) rfl ?_
  refine k_invV (n := 1) (o' := 6) (av := [vR (some 179), vR (some 25)]) (rest := []) (el := [some (vR (some 179)), some (vR (some 25)), none]) i_18_8 o_18 rfl v_62 rfl (s_179) rfl rfl rfl rfl rfl ?_
  refine c_62 tw_179 tw_25 (Or.inr (Or.inl ⟨rfl, rfl⟩)) (by omega) hKo hR (show ((tQ T).length : Int) ≤ 16 by have := hT.2.2.1; have := hKo.1; omega) (fun M1 hR1 ho1 => ?_)
  show Ok _ 18 11 [some (vR (some 177))] [] (M1) _
  refine k_aload_n i_18_11 rfl ?_
  refine k_sipush i_18_12 (by decide) ?_
  refine k_iconst i_18_15 (by decide) ?_
  refine k_iconst i_18_16 (by decide) ?_
  refine k_iconst i_18_17 (by decide) ?_
  refine k_invV (n := 4) (o' := 2) (av := [vR (some 177), vI 200, vI 0, vI 0, vI 0]) (rest := []) (el := [some (vR (some 177)), some (vI 200), some (vI 0), some (vI 0), some (vI 0), none]) i_18_18 o_18 rfl v_16 rfl (s_177) rfl rfl rfl rfl rfl ?_
  refine c_16 (T := T) hKo (hK.out ho1 (by omega)) hT (fun q => absurd q (by decide)) (fun q => absurd q (by decide)) (by omega) hmi hR1 (fun v M2 hv ho2 => ?_)
  show Ok _ 18 21 [some (vR (some 177))] [vI v] (M2) _
  refine k_iret i_18_21 rfl ?_
  refine kk v M2 ?_ (ho1.tr ho2)
  have eW : (fun j : Nat => M1 178 j) = (fun j : Nat => M 178 j) := by funext j; exact ho1 _ _ (by omega)
  rw [eW] at hv
  exact hv

/-- ElbowQueue$Foretold.whenIs -/
theorem c_19 {d : Nat} {M : Mem} {Q : Option Vv → Mem → Prop} {K : Kt} {T : Tt} {x y : Int} (hKo : KOk K 0) (hK : RepK M 20 K 0) (hT : TOk K 0 T) (hR : RepC M 25 K 0 T) (hmi : tMi T ≤ 2000) (hv1 : Va K 0 x) (kk : ∀ v M', Fst (fun n : Nat => sgn K 1 x y (fun j => M 178 j) (itF K n T)) 200 v → OutT M M' 179 → Q (some (vI v)) M') : Ok (d + 4) 19 0 [some (vR (some 177)), some (vI x), some (vI y)] [] M Q := by
  refine k_aload_n i_19_0 rfl ?_
  refine k_getR (r := 179) i_19_1 o_19 rfl (by decide) (s_177) rfl ?_
  refine k_aload_n i_19_4 rfl ?_
  refine k_getR (r := 25) i_19_5 o_19 rfl (by decide) (s_177) rfl ?_
  refine k_invV (n := 1) (o' := 6) (av := [vR (some 179), vR (some 25)]) (rest := []) (el := [some (vR (some 179)), some (vR (some 25)), none]) i_19_8 o_19 rfl v_62 rfl (s_179) rfl rfl rfl rfl rfl ?_
  refine c_62 tw_179 tw_25 (Or.inr (Or.inl ⟨rfl, rfl⟩)) (by omega) hKo hR (show ((tQ T).length : Int) ≤ 16 by have := hT.2.2.1; have := hKo.1; omega) (fun M1 hR1 ho1 => ?_)
  show Ok _ 19 11 [some (vR (some 177)), some (vI x), some (vI y)] [] (M1) _
  refine k_aload_n i_19_11 rfl ?_
  refine k_sipush i_19_12 (by decide) ?_
  refine k_iconst i_19_15 (by decide) ?_
  refine k_iload_n i_19_16 rfl ?_
  refine k_iload_n i_19_17 rfl ?_
  refine k_invV (n := 4) (o' := 2) (av := [vR (some 177), vI 200, vI 1, vI x, vI y]) (rest := []) (el := [some (vR (some 177)), some (vI 200), some (vI 1), some (vI x), some (vI y), none]) i_19_18 o_19 rfl v_16 rfl (s_177) rfl rfl rfl rfl rfl ?_
  refine c_16 (T := T) hKo (hK.out ho1 (by omega)) hT (fun _ => hv1) (fun q => absurd q (by decide)) (by omega) hmi hR1 (fun v M2 hv ho2 => ?_)
  show Ok _ 19 21 [some (vR (some 177)), some (vI x), some (vI y)] [vI v] (M2) _
  refine k_iret i_19_21 rfl ?_
  refine kk v M2 ?_ (ho1.tr ho2)
  have eW : (fun j : Nat => M1 178 j) = (fun j : Nat => M 178 j) := by funext j; exact ho1 _ _ (by omega)
  rw [eW] at hv
  exact hv

/-- ElbowQueue$Foretold.whenAllBelieve -/
theorem c_20 {d : Nat} {M : Mem} {Q : Option Vv → Mem → Prop} {K : Kt} {T : Tt} {x : Int} (hKo : KOk K 0) (hK : RepK M 20 K 0) (hT : TOk K 0 T) (hR : RepC M 25 K 0 T) (hmi : tMi T ≤ 2000) (kk : ∀ v M', Fst (fun n : Nat => sgn K 2 x 0 (fun j => M 178 j) (itF K n T)) 60 v → OutT M M' 179 → Q (some (vI v)) M') : Ok (d + 4) 20 0 [some (vR (some 177)), some (vI x)] [] M Q := by
  refine k_aload_n i_20_0 rfl ?_
  refine k_getR (r := 179) i_20_1 o_20 rfl (by decide) (s_177) rfl ?_
  refine k_aload_n i_20_4 rfl ?_
  refine k_getR (r := 25) i_20_5 o_20 rfl (by decide) (s_177) rfl ?_
  refine k_invV (n := 1) (o' := 6) (av := [vR (some 179), vR (some 25)]) (rest := []) (el := [some (vR (some 179)), some (vR (some 25)), none]) i_20_8 o_20 rfl v_62 rfl (s_179) rfl rfl rfl rfl rfl ?_
  refine c_62 tw_179 tw_25 (Or.inr (Or.inl ⟨rfl, rfl⟩)) (by omega) hKo hR (show ((tQ T).length : Int) ≤ 16 by have := hT.2.2.1; have := hKo.1; omega) (fun M1 hR1 ho1 => ?_)
  show Ok _ 20 11 [some (vR (some 177)), some (vI x)] [] (M1) _
  refine k_aload_n i_20_11 rfl ?_
  refine k_bipush i_20_12 (by decide) ?_
  refine k_iconst i_20_14 (by decide) ?_
  refine k_iload_n i_20_15 rfl ?_
  refine k_iconst i_20_16 (by decide) ?_
  refine k_invV (n := 4) (o' := 2) (av := [vR (some 177), vI 60, vI 2, vI x, vI 0]) (rest := []) (el := [some (vR (some 177)), some (vI 60), some (vI 2), some (vI x), some (vI 0), none]) i_20_17 o_20 rfl v_16 rfl (s_177) rfl rfl rfl rfl rfl ?_
  refine c_16 (T := T) hKo (hK.out ho1 (by omega)) hT (fun q => absurd q (by decide)) (fun q => absurd q (by decide)) (by omega) hmi hR1 (fun v M2 hv ho2 => ?_)
  show Ok _ 20 20 [some (vR (some 177)), some (vI x)] [vI v] (M2) _
  refine k_iret i_20_20 rfl ?_
  refine kk v M2 ?_ (ho1.tr ho2)
  have eW : (fun j : Nat => M1 178 j) = (fun j : Nat => M 178 j) := by funext j; exact ho1 _ _ (by omega)
  rw [eW] at hv
  exact hv

/-- ElbowQueue$Foretold.whenAreJust -/
theorem c_21 {d : Nat} {M : Mem} {Q : Option Vv → Mem → Prop} {K : Kt} {T : Tt} {x : Int} (hKo : KOk K 0) (hK : RepK M 20 K 0) (hT : TOk K 0 T) (hR : RepC M 25 K 0 T) (hmi : tMi T ≤ 2000) (hx : 0 ≤ x ∧ x ≤ 16) (kk : ∀ v M', Fst (fun n : Nat => sgn K 3 x 0 (fun j => M 178 j) (itF K n T)) 200 v → OutT M M' 179 → Q (some (vI v)) M') : Ok (d + 4) 21 0 [some (vR (some 177)), some (vI x)] [] M Q := by
  refine k_aload_n i_21_0 rfl ?_
  refine k_getR (r := 179) i_21_1 o_21 rfl (by decide) (s_177) rfl ?_
  refine k_aload_n i_21_4 rfl ?_
  refine k_getR (r := 25) i_21_5 o_21 rfl (by decide) (s_177) rfl ?_
  refine k_invV (n := 1) (o' := 6) (av := [vR (some 179), vR (some 25)]) (rest := []) (el := [some (vR (some 179)), some (vR (some 25)), none]) i_21_8 o_21 rfl v_62 rfl (s_179) rfl rfl rfl rfl rfl ?_
  refine c_62 tw_179 tw_25 (Or.inr (Or.inl ⟨rfl, rfl⟩)) (by omega) hKo hR (show ((tQ T).length : Int) ≤ 16 by have := hT.2.2.1; have := hKo.1; omega) (fun M1 hR1 ho1 => ?_)
  show Ok _ 21 11 [some (vR (some 177)), some (vI x)] [] (M1) _
  refine k_aload_n i_21_11 rfl ?_
  refine k_sipush i_21_12 (by decide) ?_
  refine k_iconst i_21_15 (by decide) ?_
  refine k_iload_n i_21_16 rfl ?_
  refine k_iconst i_21_17 (by decide) ?_
  refine k_invV (n := 4) (o' := 2) (av := [vR (some 177), vI 200, vI 3, vI x, vI 0]) (rest := []) (el := [some (vR (some 177)), some (vI 200), some (vI 3), some (vI x), some (vI 0), none]) i_21_18 o_21 rfl v_16 rfl (s_177) rfl rfl rfl rfl rfl ?_
  refine c_16 (T := T) hKo (hK.out ho1 (by omega)) hT (fun q => absurd q (by decide)) (fun _ => hx) (by omega) hmi hR1 (fun v M2 hv ho2 => ?_)
  show Ok _ 21 21 [some (vR (some 177)), some (vI x)] [vI v] (M2) _
  refine k_iret i_21_21 rfl ?_
  refine kk v M2 ?_ (ho1.tr ho2)
  have eW : (fun j : Nat => M1 178 j) = (fun j : Nat => M 178 j) := by funext j; exact ho1 _ _ (by omega)
  rw [eW] at hv
  exact hv
