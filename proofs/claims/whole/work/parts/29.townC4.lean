/-- one int field of a town anew -/
theorem RepC.fld {M : Mem} {a : Nat} {K : Kt} {m : Int} {T : Tt} (h : RepC M a K m T) (x : Int) : RepC (mu M a 10 x) a K m (mkT (tQ T) (tW T) (tS T) (tB T) (tO T) (tMi T) (tCa T) (tSe T) x) ∧ RepC (mu M a 6 x) a K m (mkT (tQ T) (tW T) (tS T) (tB T) (tO T) x (tCa T) (tSe T) (tNx T)) ∧ RepC (mu M a 7 x) a K m (mkT (tQ T) (tW T) (tS T) (tB T) (tO T) (tMi T) x (tSe T) (tNx T)) ∧ RepC (mu M a 8 x) a K m (mkT (tQ T) (tW T) (tS T) (tB T) (tO T) (tMi T) (tCa T) x (tNx T)) := by
  obtain ⟨r6, r7, r8, r9, r10, rq, rp⟩ := id h
  refine ⟨⟨?_, ?_, ?_, ?_, ?_, ?_, ?_⟩, ⟨?_, ?_, ?_, ?_, ?_, ?_, ?_⟩, ⟨?_, ?_, ?_, ?_, ?_, ?_, ?_⟩, ⟨?_, ?_, ?_, ?_, ?_, ?_, ?_⟩⟩
  all_goals first
    | (rw [mu_s]; rfl)
    | (rw [mu_j (by decide)]; assumption)
    | (intro j p hj; rw [mu_ne (by omega)]; exact rq j p hj)
    | (intro p hp
       obtain ⟨f2, f3, f4, f5⟩ := rp p hp
       exact ⟨by rw [mu_ne (by omega)]; exact f2, by rw [mu_ne (by omega)]; exact f3, by rw [mu_ne (by omega)]; exact f4, by rw [mu_ne (by omega)]; exact f5⟩)

/-- ElbowQueue$Town.meetPasser -/
theorem c_79 {d : Nat} {M : Mem} {Q : Option Vv → Mem → Prop} {a rm : Nat} {K : Kt} {m : Int} {T : Tt} {th : Int} (ht : Tw a 20 rm) (hrm : 16 + m ≤ (rm : Int) ∧ (rm : Int) ≤ 28) (hKo : KOk K m) (hK : RepK M 20 K m) (hR : RepC M a K m T) (hT : TOk K m T) (ha : 24 < a) (k : ∀ M', RepC M' a K m (meetF K T th) → OutT M M' a → Q none M') : Ok (d + 1) 79 0 [some (vR (some a)), some (vI th), none] [] M Q := by
  obtain ⟨⟨g1, g2, g3, g4, g5, g6, g7, g8⟩, hKp⟩ := id hKo
  obtain ⟨r6, r7, r8, r9, r10, rq, rp⟩ := id hR
  obtain ⟨u1, u2, u3, u4, u5, u6, u7⟩ := id hT
  have k1 : M 20 7 = kPe K := hK.1
  refine k_aload_n i_79_0 rfl ?_
  refine k_invV (n := 0) (o' := 6) (av := [vR (some a)]) (rest := []) (el := [some (vR (some a))]) i_79_1 o_79 rfl v_68 rfl (ht.1) rfl rfl rfl rfl rfl ?_
  refine c_68 ht hrm hKo hK hR (fun v1 hv1 => ?_)
  show Ok _ 79 4 [some (vR (some a)), some (vI th), none] [vI v1] (M) _
  refine k_if_ne (t := 8) i_79_4 rfl (fun h4 => ?_) (fun h4 => ?_)
  · refine k_aload_n i_79_8 rfl ?_
    refine k_getI (kz := 10) i_79_9 o_79 rfl (by decide) (ht.1) rfl ?_
    refine k_istore_n (ls' := [some (vR (some a)), some (vI th), some (vI (M a 10))]) i_79_12 rfl ?_
    refine k_aload_n i_79_13 rfl ?_
    refine k_dupR i_79_14 ?_
    refine k_getI (kz := 10) i_79_15 o_79 rfl (by decide) (ht.1) rfl ?_
    refine k_iconst i_79_18 (by decide) ?_
    refine k_iadd i_79_19 (by omega) ?_
    refine k_putI (kz := 10) i_79_20 o_79 rfl (by decide) (ht.1) rfl ?_
    have hR1 := (hR.fld (M a 10 + 1)).1
    have hvn : Va K m (M a 10) := by unfold Va; omega
    have e24 : M 24 (M a 10) = kNe K (M a 10) := (hK.2.2 _ hvn).2.2 (by omega)
    rw [r10] at e24
    refine k_iload_n i_79_23 rfl ?_
    refine k_if_eq (t := 51) i_79_24 rfl (fun h24 => ?_) (fun h24 => ?_)
    · refine k_aload_n i_79_51 rfl ?_
      refine k_getR (r := (a + 3)) i_79_52 o_79 rfl (by decide) (ht.1) rfl ?_
      refine k_iload_n i_79_55 rfl ?_
      refine k_iconst i_79_56 (by decide) ?_
      refine k_iast i_79_57 (ht.2.2.2.1) (by omega) ?_
      refine k_vret i_79_58 rfl ?_
      refine k _ ?_ (((OutT.rf M a).mu (by omega)).mu (by omega))
      unfold meetF
      rw [if_pos (by omega), if_neg (by omega)]
      rw [r10] at hR1 ⊢
      obtain ⟨s6, s7, s8, s9, s10, sq, sp⟩ := id hR1
      refine ⟨by rw [mu_ne (by omega)]; exact s6, by rw [mu_ne (by omega)]; exact s7, by rw [mu_ne (by omega)]; exact s8, by rw [mu_ne (by omega)]; exact s9, by rw [mu_ne (by omega)]; exact s10, fun j p hj => by rw [mu_ne (by omega)]; exact sq j p hj, fun p hp => ?_⟩
      obtain ⟨f2, f3, f4, f5⟩ := sp p hp
      refine ⟨by rw [mu_ne (by omega)]; exact f2, ?_, by rw [mu_ne (by omega)]; exact f4, by rw [mu_ne (by omega)]; exact f5⟩
      show _ = up (tW T) (tNx T) 4 p
      by_cases e : p = tNx T
      · rw [e, mu_s, up_s]
      · rw [mu_j e, up_n _ _ e]; exact f3
    · refine k_aload_n i_79_27 rfl ?_
      refine k_getI (kz := 9) i_79_28 o_79 rfl (by decide) (ht.1) rfl ?_
      rw [mu_j (M := M) (a := a) (b := a) (i := 10) (j := 9) (v := (M a 10) + 1) (by decide)]
      refine k_aload_n i_79_31 rfl ?_
      refine k_getR (r := 20) i_79_32 o_79 rfl (by decide) (ht.1) rfl ?_
      refine k_getR (r := 24) i_79_35 o_79 rfl (by decide) (s_20) rfl ?_
      refine k_iload_n i_79_38 rfl ?_
      refine k_iald i_79_39 (s_24) (by omega) ?_
      rw [mu_ne (M := M) (a := a) (b := 24) (i := 10) (x := (M a 10) + 1) (by omega)]
      have e24b : M 24 (M a 10) = kNe K (tNx T) := by rw [r10]; exact e24
      refine k_icmp_lt (t := 51) i_79_40 rfl (fun h40 => ?_) (fun h40 => ?_)
      · refine k_aload_n i_79_51 rfl ?_
        refine k_getR (r := (a + 3)) i_79_52 o_79 rfl (by decide) (ht.1) rfl ?_
        refine k_iload_n i_79_55 rfl ?_
        refine k_iconst i_79_56 (by decide) ?_
        refine k_iast i_79_57 (ht.2.2.2.1) (by omega) ?_
        refine k_vret i_79_58 rfl ?_
        refine k _ ?_ (((OutT.rf M a).mu (by omega)).mu (by omega))
        unfold meetF
        rw [if_pos (by omega), if_neg (by omega)]
        rw [r10] at hR1 ⊢
        obtain ⟨s6, s7, s8, s9, s10, sq, sp⟩ := id hR1
        refine ⟨by rw [mu_ne (by omega)]; exact s6, by rw [mu_ne (by omega)]; exact s7, by rw [mu_ne (by omega)]; exact s8, by rw [mu_ne (by omega)]; exact s9, by rw [mu_ne (by omega)]; exact s10, fun j p hj => by rw [mu_ne (by omega)]; exact sq j p hj, fun p hp => ?_⟩
        obtain ⟨f2, f3, f4, f5⟩ := sp p hp
        refine ⟨by rw [mu_ne (by omega)]; exact f2, ?_, by rw [mu_ne (by omega)]; exact f4, by rw [mu_ne (by omega)]; exact f5⟩
        show _ = up (tW T) (tNx T) 4 p
        by_cases e : p = tNx T
        · rw [e, mu_s, up_s]
        · rw [mu_j e, up_n _ _ e]; exact f3
      · refine k_aload_n i_79_43 rfl ?_
        refine k_iload_n i_79_44 rfl ?_
        refine k_invV (n := 1) (o' := 6) (av := [vR (some a), vI (M a 10)]) (rest := []) (el := [some (vR (some a)), some (vI (M a 10))]) i_79_45 o_79 rfl v_81 rfl (ht.1) rfl rfl rfl rfl rfl ?_
        refine c_81 ht hrm hKo hR1 hvn (by show ((tQ T).length : Int) < _; omega) (fun M2 hR2 ho2 => ?_)
        show Ok _ 79 48 [some (vR (some a)), some (vI th), some (vI (M a 10))] [] (M2) _
        refine k_goto (t := 58) i_79_48 rfl ?_
        refine k_vret i_79_58 rfl ?_
        refine k M2 ?_ (OutT.tr ((OutT.rf M a).mu (by omega)) ho2)
        unfold meetF
        rw [if_pos (by omega), if_pos (by omega)]
        rw [r10] at hR2
        exact hR2
  · refine k_vret i_79_7 rfl ?_
    refine k M ?_ (OutT.rf M a)
    unfold meetF
    rw [if_neg (by omega)]
    exact hR

/-- ElbowQueue$Town.minuteGoesBy -/
theorem c_72 {d : Nat} {M : Mem} {Q : Option Vv → Mem → Prop} {a rm : Nat} {K : Kt} {m : Int} {T : Tt} {th : Int} (ht : Tw a 20 rm) (hrm : 16 + m ≤ (rm : Int) ∧ (rm : Int) ≤ 28) (hKo : KOk K m) (hK : RepK M 20 K m) (hR : RepC M a K m T) (hT : TOk K m T) (ha : 24 < a) (hmi : tMi T < 100000) (k : ∀ M', RepC M' a K m (minF K T th) → OutT M M' a → Q none M') : Ok (d + 2) 72 0 [some (vR (some a)), some (vI th)] [] M Q := by
  obtain ⟨⟨g1, g2, g3, g4, g5, g6, g7, g8⟩, hKp⟩ := id hKo
  obtain ⟨r6, r7, r8, r9, r10, rq, rp⟩ := id hR
  obtain ⟨u1, u2, u3, u4, u5, u6, u7⟩ := id hT
  have k1 : M 20 7 = kPe K := hK.1
  have hT1 := hT.tell hKo
  have hT2 := hT1.tick (show tMi T < 100000 from hmi)
  have hT3 := hT2.serv hKo
  have hT4 : TOk K m (standF K (servF (tickF (tellF K T)))) := TOk.stand hKo hT3 (fun p hp => by rw [(serv_s _).1, (serv_s _).2.1]; show tS T p + 1 ≤ tMi T + 1; have := u4 p hp; omega)
  have fin : ∀ M3, RepC M3 a K m (servF (tickF (tellF K T))) → OutT M M3 a → Ok (d + 2) 72 46 [some (vR (some a)), some (vI th)] [] M3 Q := by
    intro M3 hR3 ho3
    refine k_aload_n i_72_46 rfl ?_
    refine k_invV (n := 0) (o' := 6) (av := [vR (some a)]) (rest := []) (el := [some (vR (some a)), none, none, none, none, none]) i_72_47 o_72 rfl v_76 rfl (ht.1) rfl rfl rfl rfl rfl ?_
    refine c_76 ht hrm hKo (hK.out ho3 (by omega)) hR3 hT3 ha (fun M4 hR4 ho4 => ?_)
    show Ok _ 72 50 [some (vR (some a)), some (vI th)] [] (M4) _
    refine k_aload_n i_72_50 rfl ?_
    refine k_iload_n i_72_51 rfl ?_
    refine k_invV (n := 1) (o' := 6) (av := [vR (some a), vI th]) (rest := []) (el := [some (vR (some a)), some (vI th), none]) i_72_52 o_72 rfl v_79 rfl (ht.1) rfl rfl rfl rfl rfl ?_
    refine c_79 ht hrm hKo (hK.out (ho3.tr ho4) (by omega)) hR4 hT4 ha (fun M5 hR5 ho5 => ?_)
    show Ok _ 72 55 [some (vR (some a)), some (vI th)] [] (M5) _
    refine k_vret i_72_55 rfl ?_
    exact k M5 hR5 ((ho3.tr ho4).tr ho5)
  refine k_aload_n i_72_0 rfl ?_
  refine k_invV (n := 0) (o' := 6) (av := [vR (some a)]) (rest := []) (el := [some (vR (some a)), none, none, none]) i_72_1 o_72 rfl v_73 rfl (ht.1) rfl rfl rfl rfl rfl ?_
  refine c_73 ht hrm hKo hK hR hT ha (fun M1 hR1 ho1 => ?_)
  show Ok _ 72 4 [some (vR (some a)), some (vI th)] [] (M1) _
  refine k_aload_n i_72_4 rfl ?_
  refine k_dupR i_72_5 ?_
  refine k_getI (kz := 6) i_72_6 o_72 rfl (by decide) (ht.1) rfl ?_
  refine k_iconst i_72_9 (by decide) ?_
  refine k_iadd i_72_10 (by have := hR1.1; have e6a : M1 a 6 = tMi T := hR1.1; omega) ?_
  refine k_putI (kz := 6) i_72_11 o_72 rfl (by decide) (ht.1) rfl ?_
  have e6a : M1 a 6 = tMi T := hR1.1
  have e8 : M1 a 8 = tSe T := hR1.2.2.1
  have e9 : M1 a 9 = (tQ T).length := hR1.2.2.2.1
  have e6 : M1 a 6 + 1 = tMi T + 1 := by omega
  have hR2 : RepC (mu M1 a (6) ((M1 a 6) + 1)) a K m (tickF (tellF K T)) := by
    have q := (hR1.fld (M1 a 6 + 1)).2.1
    rw [e6] at q
    rw [e6]
    exact q
  have ho2 : OutT M (mu M1 a (6) ((M1 a 6) + 1)) a := ho1.mu (by omega)
  have hl2 : ((tQ (tickF (tellF K T))).length : Int) = (tQ T).length := rfl
  refine k_aload_n i_72_14 rfl ?_
  refine k_getI (kz := 8) i_72_15 o_72 rfl (by decide) (ht.1) rfl ?_
  rw [mu_j (M := M1) (a := a) (b := a) (i := 6) (j := 8) (v := (M1 a 6) + 1) (by decide)]
  refine k_if_eq (t := 46) i_72_18 rfl (fun h18 => ?_) (fun h18 => ?_)
  · refine fin _ ?_ ho2
    unfold servF
    rw [if_neg (by intro q; have q1 : ¬ tSe T = 0 := q.1; have q2 : (tMi T + 1).tmod (tSe T) = 0 := q.2.1; have q3 : 0 < (tQ T).length := q.2.2; rw [← e6, ← e8] at q2; first | omega | exact absurd q2 h30)]
    exact hR2
  · refine k_aload_n i_72_21 rfl ?_
    refine k_getI (kz := 6) i_72_22 o_72 rfl (by decide) (ht.1) rfl ?_
    rw [mu_s M1 a (6) ((M1 a 6) + 1)]
    refine k_aload_n i_72_25 rfl ?_
    refine k_getI (kz := 8) i_72_26 o_72 rfl (by decide) (ht.1) rfl ?_
    rw [mu_j (M := M1) (a := a) (b := a) (i := 6) (j := 8) (v := (M1 a 6) + 1) (by decide)]
    refine k_irem i_72_29 (by omega) ⟨by have q := Int.tmod_lt_of_pos (M1 a 6 + 1) (b := M1 a 8) (by omega); have q2 := Int.tmod_nonneg (M1 a 8) (a := M1 a 6 + 1) (by omega); omega, by have q := Int.tmod_lt_of_pos (M1 a 6 + 1) (b := M1 a 8) (by omega); omega⟩ ?_
    refine k_if_ne (t := 46) i_72_30 rfl (fun h30 => ?_) (fun h30 => ?_)
    · refine fin _ ?_ ho2
      unfold servF
      rw [if_neg (by intro q; have q1 : ¬ tSe T = 0 := q.1; have q2 : (tMi T + 1).tmod (tSe T) = 0 := q.2.1; have q3 : 0 < (tQ T).length := q.2.2; rw [← e6, ← e8] at q2; first | omega | exact absurd q2 h30)]
      exact hR2
    · refine k_aload_n i_72_33 rfl ?_
      refine k_getI (kz := 9) i_72_34 o_72 rfl (by decide) (ht.1) rfl ?_
      rw [mu_j (M := M1) (a := a) (b := a) (i := 6) (j := 9) (v := (M1 a 6) + 1) (by decide)]
      refine k_if_le (t := 46) i_72_37 rfl (fun h37 => ?_) (fun h37 => ?_)
      · refine fin _ ?_ ho2
        unfold servF
        rw [if_neg (by intro q; have q1 : ¬ tSe T = 0 := q.1; have q2 : (tMi T + 1).tmod (tSe T) = 0 := q.2.1; have q3 : 0 < (tQ T).length := q.2.2; rw [← e6, ← e8] at q2; first | omega | exact absurd q2 h30)]
        exact hR2
      · refine k_aload_n i_72_40 rfl ?_
        refine k_iconst i_72_41 (by decide) ?_
        refine k_iconst i_72_42 (by decide) ?_
        refine k_invV (n := 2) (o' := 6) (av := [vR (some a), vI 0, vI 2]) (rest := []) (el := [some (vR (some a)), some (vI 0), some (vI 2), none]) i_72_43 o_72 rfl v_75 rfl (ht.1) rfl rfl rfl rfl rfl ?_
        refine c_75 (k := 0) (w := 2) ht hrm hKo hT2 hR2 (by omega) (fun M3 hR3 ho3 => ?_)
        show Ok _ 72 46 [some (vR (some a)), some (vI th)] [] (M3) _
        refine fin M3 ?_ (ho2.tr ho3)
        unfold servF
        rw [if_pos ⟨by show ¬ tSe T = 0; omega, by show (tMi T + 1).tmod (tSe T) = 0; rw [← e6, ← e8]; exact h30, by show 0 < (tQ T).length; omega⟩]
        exact hR3
