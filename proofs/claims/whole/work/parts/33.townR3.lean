/-- ElbowQueueModel.goMinute -/
theorem c_153 {d : Nat} {M : Mem} {Q : Option Vv → Mem → Prop} {K : Kt} {m : Int} {T : Tt} {th : Int} (hKo : KOk K m) (hK : RepKR M K m) (hR : RepR M K m T) (hT : TOk K m T) (hmi : tMi T < 100000) (kk : ∀ M', RepR M' K m (minF K T th) → OutR M M' → Q none M') : Ok (d + 3) 153 0 [some (vR (some 273)), some (vI th), none] [] M Q := by
  obtain ⟨⟨g1, g2, g3, g4, g5, g6, g7, g8⟩, hKp⟩ := id hKo
  obtain ⟨r1, r2, r3, r4, r5, rq, rp⟩ := id hR
  have k1 : M 274 229 = kPe K := hK.1
  have k2 : M 274 230 = kPe K - kWt K := hK.2.1
  obtain ⟨u1, u2, u3, u4, u5, u6, u7⟩ := id hT
  have hl28 := q28 hKo hT
  have hT1 := hT.tell hKo
  have hT2 := hT1.tick (show tMi T < 100000 from hmi)
  have hT3 := hT2.serv hKo
  have hT4 : TOk K m (standF K (servF (tickF (tellF K T)))) := TOk.stand hKo hT3 (fun p hp => by rw [(serv_s _).1, (serv_s _).2.1]; show tS T p + 1 ≤ tMi T + 1; have := u4 p hp; omega)
  have fin : ∀ M3, RepR M3 K m (servF (tickF (tellF K T))) → OutR M M3 → Ok (d + 3) 153 78 [some (vR (some 273)), some (vI th), none] [] M3 Q := by
    intro M3 hR3 ho3
    refine k_aload_n i_153_78 rfl ?_
    refine k_invV (n := 0) (o' := 8) (av := [vR (some 273)]) (rest := []) (el := [some (vR (some 273)), none, none, none, none]) i_153_79 o_153 rfl v_151 rfl (s_273) rfl rfl rfl rfl rfl ?_
    refine c_151 hKo (hK.out hKo ho3) hR3 hT3 (fun M4 hR4 ho4 => ?_)
    show Ok _ 153 82 [some (vR (some 273)), some (vI th), none] [] (M4) _
    have e1n : M4 274 141 = tNx (standF K (servF (tickF (tellF K T)))) := hR4.2.2.2.2.1
    have e1l : M4 274 140 = (tQ (standF K (servF (tickF (tellF K T))))).length := hR4.2.2.2.1
    obtain ⟨U, hU⟩ : ∃ U, U = standF K (servF (tickF (tellF K T))) := ⟨_, rfl⟩
    rw [← hU] at hR4 hT4 e1n e1l
    have hK4 := hK.out hKo (ho3.tr ho4)
    have k14 : M4 274 229 = kPe K := hK4.1
    have hl4 := q28 hKo hT4
    obtain ⟨w1, w2, w3, w4, w5, w6, w7⟩ := id hT4
    refine k_aload_n i_153_82 rfl ?_
    refine k_getR (r := 274) i_153_83 o_153 rfl (by decide) (s_273) rfl ?_
    refine k_sipush i_153_86 (by decide) ?_
    refine k_iald i_153_89 (s_274) (by omega) ?_
    refine k_istore_n (ls' := [some (vR (some 273)), some (vI th), some (vI (M4 274 141))]) i_153_90 rfl ?_
    rw [e1n]
    refine k_iload_n i_153_91 rfl ?_
    refine k_aload_n i_153_92 rfl ?_
    refine k_invV (n := 0) (o' := 8) (av := [vR (some 273)]) (rest := [vI (tNx U)]) (el := [some (vR (some 273))]) i_153_93 o_153 rfl v_142 rfl (s_273) rfl rfl rfl rfl rfl ?_
    refine c_142 ?_
    show Ok _ 153 96 [some (vR (some 273)), some (vI th), some (vI (tNx U))] [vI (M4 274 229), vI (tNx U)] (M4) _
    refine k_icmp_ge (t := 153) i_153_96 rfl (fun h96 => ?_) (fun h96 => ?_)
    · refine k_vret i_153_153 rfl ?_
      refine kk M4 ?_ (ho3.tr ho4)
      unfold minF meetF
      rw [← hU, if_neg (by omega)]
      exact hR4
    · refine k_aload_n i_153_99 rfl ?_
      refine k_getR (r := 274) i_153_100 o_153 rfl (by decide) (s_273) rfl ?_
      refine k_sipush i_153_103 (by decide) ?_
      refine k_dup2 i_153_106 ?_
      refine k_iald i_153_107 (s_274) (by omega) ?_
      refine k_iconst i_153_108 (by decide) ?_
      refine k_iadd i_153_109 (by omega) ?_
      refine k_iast i_153_110 (s_274) (by omega) ?_
      have hR5 : RepR (mu M4 274 141 (M4 274 141 + 1)) K m (mkT (tQ U) (tW U) (tS U) (tB U) (tO U) (tMi U) (tCa U) (tSe U) (tNx U + 1)) := by
        have q := (RepR.fld hKo hl4 hR4 (M4 274 141 + 1)).1
        rw [e1n] at q ⊢
        exact q
      have hvn : Va K m (tNx U) := by unfold Va; omega
      have hvb := va_b hKo hvn
      have e24 : mu M4 274 141 (M4 274 141 + 1) 274 (201 + tNx U) = kNe K (tNx U) := by
        rw [mu_j (by omega)]
        exact (hK4.2.2 _ hvn).2.2 (by omega)
      refine k_iload_n i_153_111 rfl ?_
      refine k_if_eq (t := 144) i_153_112 rfl (fun h112 => ?_) (fun h112 => ?_)
      · refine k_aload_n i_153_144 rfl ?_
        refine k_getR (r := 274) i_153_145 o_153 rfl (by decide) (s_273) rfl ?_
        refine k_iconst i_153_148 (by decide) ?_
        refine k_iload_n i_153_149 rfl ?_
        refine k_iadd i_153_150 (by omega) ?_
        refine k_iconst i_153_151 (by decide) ?_
        rw [show (0 : Int) + tNx U = tNx U from Int.zero_add _]
        refine k_iast i_153_152 (s_274) (by omega) ?_
        refine k_vret i_153_153 rfl ?_
        refine kk _ ?_ (((ho3.tr ho4).mu (by omega)).mu (by omega))
        unfold minF meetF
        rw [← hU, if_pos (by omega), if_neg (by omega)]
        exact RepR.setW hKo (by exact hl4) hR5 4 hvn
      · refine k_aload_n i_153_115 rfl ?_
        refine k_getR (r := 274) i_153_116 o_153 rfl (by decide) (s_273) rfl ?_
        refine k_sipush i_153_119 (by decide) ?_
        refine k_iald i_153_122 (s_274) (by omega) ?_
        rw [mu_j (M := M4) (a := 274) (b := 274) (i := 141) (j := 140) (v := (M4 274 141) + 1) (by decide)]
        refine k_aload_n i_153_123 rfl ?_
        refine k_getR (r := 274) i_153_124 o_153 rfl (by decide) (s_273) rfl ?_
        refine k_sipush i_153_127 (by decide) ?_
        refine k_iload_n i_153_130 rfl ?_
        refine k_iadd i_153_131 (by omega) ?_
        refine k_iald i_153_132 (s_274) (by omega) ?_
        refine k_icmp_lt (t := 144) i_153_133 rfl (fun h133 => ?_) (fun h133 => ?_)
        · refine k_aload_n i_153_144 rfl ?_
          refine k_getR (r := 274) i_153_145 o_153 rfl (by decide) (s_273) rfl ?_
          refine k_iconst i_153_148 (by decide) ?_
          refine k_iload_n i_153_149 rfl ?_
          refine k_iadd i_153_150 (by omega) ?_
          refine k_iconst i_153_151 (by decide) ?_
          rw [show (0 : Int) + tNx U = tNx U from Int.zero_add _]
          refine k_iast i_153_152 (s_274) (by omega) ?_
          refine k_vret i_153_153 rfl ?_
          refine kk _ ?_ (((ho3.tr ho4).mu (by omega)).mu (by omega))
          unfold minF meetF
          rw [← hU, if_pos (by omega), if_neg (by omega)]
          exact RepR.setW hKo (by exact hl4) hR5 4 hvn
        · refine k_aload_n i_153_136 rfl ?_
          refine k_iload_n i_153_137 rfl ?_
          refine k_invV (n := 1) (o' := 8) (av := [vR (some 273), vI (tNx U)]) (rest := []) (el := [some (vR (some 273)), some (vI (tNx U))]) i_153_138 o_153 rfl v_152 rfl (s_273) rfl rfl rfl rfl rfl ?_
          refine c_152 hKo hR5 (by show ((tQ U).length : Int) < 28; omega) hvn (fun M5 hR6 ho5 => ?_)
          show Ok _ 153 141 [some (vR (some 273)), some (vI th), some (vI (tNx U))] [] (M5) _
          refine k_goto (t := 153) i_153_141 rfl ?_
          refine k_vret i_153_153 rfl ?_
          refine kk M5 ?_ (((ho3.tr ho4).mu (by omega)).tr ho5)
          unfold minF meetF
          rw [← hU, if_pos (by omega), if_pos (by omega)]
          exact hR6
  refine k_aload_n i_153_0 rfl ?_
  refine k_invV (n := 0) (o' := 8) (av := [vR (some 273)]) (rest := []) (el := [some (vR (some 273)), none, none]) i_153_1 o_153 rfl v_148 rfl (s_273) rfl rfl rfl rfl rfl ?_
  refine c_148 hKo hK hR hT (fun M1 hR1 ho1 => ?_)
  show Ok _ 153 4 [some (vR (some 273)), some (vI th), none] [] (M1) _
  refine k_aload_n i_153_4 rfl ?_
  refine k_getR (r := 274) i_153_5 o_153 rfl (by decide) (s_273) rfl ?_
  refine k_sipush i_153_8 (by decide) ?_
  refine k_dup2 i_153_11 ?_
  refine k_iald i_153_12 (s_274) (by omega) ?_
  refine k_iconst i_153_13 (by decide) ?_
  refine k_iadd i_153_14 (by have e6a : M1 274 142 = tMi T := hR1.1; omega) ?_
  refine k_iast i_153_15 (s_274) (by omega) ?_
  have e6a : M1 274 142 = tMi T := hR1.1
  have e8 : M1 274 144 = tSe T := hR1.2.2.1
  have e9 : M1 274 140 = (tQ T).length := hR1.2.2.2.1
  have e6 : M1 274 142 + 1 = tMi T + 1 := by omega
  have hR2 : RepR (mu M1 274 (142) ((M1 274 142) + 1)) K m (tickF (tellF K T)) := by
    have q := (RepR.fld hKo (by exact hl28) hR1 (M1 274 142 + 1)).2.1
    rw [e6] at q
    rw [e6]
    exact q
  have ho2 : OutR M (mu M1 274 (142) ((M1 274 142) + 1)) := ho1.mu (by omega)
  have hl2 : ((tQ (tickF (tellF K T))).length : Int) = (tQ T).length := rfl
  refine k_aload_n i_153_16 rfl ?_
  refine k_getR (r := 274) i_153_17 o_153 rfl (by decide) (s_273) rfl ?_
  refine k_sipush i_153_20 (by decide) ?_
  refine k_iald i_153_23 (s_274) (by omega) ?_
  rw [mu_j (M := M1) (a := 274) (b := 274) (i := 142) (j := 144) (v := (M1 274 142) + 1) (by decide)]
  refine k_if_eq (t := 78) i_153_24 rfl (fun h24 => ?_) (fun h24 => ?_)
  · refine fin _ ?_ ho2
    unfold servF
    rw [if_neg (by intro q; have q1 : ¬ tSe T = 0 := q.1; have q2 : (tMi T + 1).tmod (tSe T) = 0 := q.2.1; have q3 : 0 < (tQ T).length := q.2.2; rw [← e6, ← e8] at q2; first | omega | exact absurd q2 h44)]
    exact hR2
  · refine k_aload_n i_153_27 rfl ?_
    refine k_getR (r := 274) i_153_28 o_153 rfl (by decide) (s_273) rfl ?_
    refine k_sipush i_153_31 (by decide) ?_
    refine k_iald i_153_34 (s_274) (by omega) ?_
    rw [mu_s M1 274 (142) ((M1 274 142) + 1)]
    refine k_aload_n i_153_35 rfl ?_
    refine k_getR (r := 274) i_153_36 o_153 rfl (by decide) (s_273) rfl ?_
    refine k_sipush i_153_39 (by decide) ?_
    refine k_iald i_153_42 (s_274) (by omega) ?_
    rw [mu_j (M := M1) (a := 274) (b := 274) (i := 142) (j := 144) (v := (M1 274 142) + 1) (by decide)]
    refine k_irem i_153_43 (by omega) ⟨by have q := Int.tmod_lt_of_pos (M1 274 142 + 1) (b := M1 274 144) (by omega); have q2 := Int.tmod_nonneg (M1 274 144) (a := M1 274 142 + 1) (by omega); omega, by have q := Int.tmod_lt_of_pos (M1 274 142 + 1) (b := M1 274 144) (by omega); omega⟩ ?_
    refine k_if_ne (t := 78) i_153_44 rfl (fun h44 => ?_) (fun h44 => ?_)
    · refine fin _ ?_ ho2
      unfold servF
      rw [if_neg (by intro q; have q1 : ¬ tSe T = 0 := q.1; have q2 : (tMi T + 1).tmod (tSe T) = 0 := q.2.1; have q3 : 0 < (tQ T).length := q.2.2; rw [← e6, ← e8] at q2; first | omega | exact absurd q2 h44)]
      exact hR2
    · refine k_aload_n i_153_47 rfl ?_
      refine k_getR (r := 274) i_153_48 o_153 rfl (by decide) (s_273) rfl ?_
      refine k_sipush i_153_51 (by decide) ?_
      refine k_iald i_153_54 (s_274) (by omega) ?_
      rw [mu_j (M := M1) (a := 274) (b := 274) (i := 142) (j := 140) (v := (M1 274 142) + 1) (by decide)]
      refine k_if_le (t := 78) i_153_55 rfl (fun h55 => ?_) (fun h55 => ?_)
      · refine fin _ ?_ ho2
        unfold servF
        rw [if_neg (by intro q; have q1 : ¬ tSe T = 0 := q.1; have q2 : (tMi T + 1).tmod (tSe T) = 0 := q.2.1; have q3 : 0 < (tQ T).length := q.2.2; rw [← e6, ← e8] at q2; first | omega | exact absurd q2 h44)]
        exact hR2
      · refine k_aload_n i_153_58 rfl ?_
        refine k_getR (r := 274) i_153_59 o_153 rfl (by decide) (s_273) rfl ?_
        refine k_iconst i_153_62 (by decide) ?_
        refine k_aload_n i_153_63 rfl ?_
        refine k_getR (r := 274) i_153_64 o_153 rfl (by decide) (s_273) rfl ?_
        refine k_bipush i_153_67 (by decide) ?_
        have hq0 : M1 274 112 = (tQ T).getD 0 0 := by
          have q := RepR.q (i := 0) hR1 (by omega) (by show (0 : Int) < ((tQ T).length : Int); omega)
          exact q
        have hvx : Va K m ((tQ T).getD 0 0) := hT.va (q_mem (by omega))
        have hvb := va_b hKo hvx
        refine k_iald i_153_69 (s_274) (by omega) ?_
        rw [mu_j (M := M1) (a := 274) (b := 274) (i := 142) (j := 112) (v := (M1 274 142) + 1) (by decide)]
        refine k_iadd i_153_70 (by omega) ?_
        rw [show 0 + (M1 274 112) = (tQ T).getD 0 0 by rw [Int.zero_add]; exact hq0]
        refine k_iconst i_153_71 (by decide) ?_
        refine k_iast i_153_72 (s_274) (by omega) ?_
        have hR3a := RepR.setW hKo (by exact hl28) hR2 2 hvx
        refine k_aload_n i_153_73 rfl ?_
        refine k_iconst i_153_74 (by decide) ?_
        refine k_invV (n := 1) (o' := 8) (av := [vR (some 273), vI 0]) (rest := []) (el := [some (vR (some 273)), some (vI 0), none]) i_153_75 o_153 rfl v_149 rfl (s_273) rfl rfl rfl rfl rfl ?_
        refine c_149 (k := 0) hKo hR3a (by exact hl28) (by show (0 : Int) ≤ 0 ∧ (0 : Int) < (tQ T).length; omega) (fun M3 hR3 ho3 => ?_)
        show Ok _ 153 78 [some (vR (some 273)), some (vI th), none] [] (M3) _
        refine fin M3 ?_ ((ho2.mu (by omega)).tr ho3)
        unfold servF
        rw [if_pos ⟨by show ¬ tSe T = 0; omega, by show (tMi T + 1).tmod (tSe T) = 0; rw [← e6, ← e8]; exact h44, by show 0 < (tQ T).length; omega⟩]
        exact hR3
