theorem many_mono {K : Kt} {T U : Tt} (h : ∀ p : Int, 0 ≤ p → p < kPe K → tW T p = 2 → tW U p = 2) : ∀ n : Nat, (n : Int) ≤ kPe K → manyF T 2 n ≤ manyF U 2 n := by
  intro n
  induction n with
  | zero => intro _; exact Int.le_refl _
  | succ n ih =>
    intro hn
    have q := ih (by omega)
    have q2 := h n (by omega) (by omega)
    show manyF T 2 n + (if tW T n = 2 then 1 else 0) ≤ manyF U 2 n + (if tW U n = 2 then 1 else 0)
    by_cases e : tW T n = 2
    · rw [if_pos e, if_pos (q2 e)]; omega
    · rw [if_neg e]; split <;> omega
theorem op0 {K : Kt} {T : Tt} {s : Int} (hK : KOk K 0) (hT : TOk K 0 T) (hm : tMi T ≤ 1900) (hs : 0 ≤ s ∧ s ≤ 9) : 0 ≤ opN K T s 0 := by
  have g := hK.1
  unfold opN
  have q := many_mono (K := K) (T := T) (U := itF K (60 - 0) (seF (itF K 0 T) s)) (fun p p0 p1 hp => by
    have e := it_w (K := K) (p := p) hK ⟨p0, p1⟩ 60 (T := seF T s) (hT.se hs) (by show tMi T + ((60 : Nat) : Int) ≤ 100000; omega) (by show 2 ≤ tW T p; omega)
    exact e.trans hp) (kPe K).toNat (by omega)
  omega

set_option maxRecDepth 100000 in
theorem l_184 {d : Nat} {M0 : Mem} {Q : Option Vv → Mem → Prop} {K : Kt} {T : Tt} {s w hd : Int} (hKo : KOk K 0) (hKR : RepKR M0 K 0) (hRR : RepR M0 K 0 T) (hT : TOk K 0 T) (hmi : tMi T ≤ 1900) (hs : 0 ≤ s ∧ s ≤ 9) (h00 : 0 ≤ opN K T s 0) (hhd : hd = manyF T 2 (kPe K).toNat) (kk : ∀ v M', v = (if w = 0 then (op (opN K T s) 30).1 else (op (opN K T s) 30).2) → Wk M0 M' → Q (some (vI v)) M') : ∀ (f : Nat) (i : Int) (b : Int) (e : Int) (x7 : Option Vv) (M : Mem), (0 ≤ i ∧ i ≤ 31) → ((i = 0 ∧ b = 0 ∧ e = -1) ∨ (1 ≤ i ∧ (b, e) = op (opN K T s) (i - 1).toNat)) → (Wk M0 M) → (31 - i).toNat < f → Ok (d + 5) 184 54 [some (vR (some 273)), some (vI s), some (vI w), some (vI b), some (vI e), some (vI hd), some (vI i), x7] [] M Q := by
  intro f
  induction f with
  | zero => intro i b e x7 M hi hb hw hf; exact absurd hf (Nat.not_lt_zero _)
  | succ f ih =>
    intro i b e x7 M hi hb hw hf
    have g0 := hKo.1
    have hU := hT.it hKo i.toNat (by omega)
    have hl2 := q28 hKo hU
    have hmi2 := it_mi (K := K) i.toNat T
    have mb0 := many_b T 2 (kPe K).toNat
    refine k_iload i_184_54 rfl ?_
    refine k_bipush i_184_56 (by decide) ?_
    refine k_icmp_gt (t := 135) i_184_58 rfl (fun h58 => ?_) (fun h58 => ?_)
    · refine k_iload_n i_184_135 rfl ?_
      refine k_if_ne (t := 143) i_184_136 rfl (fun h136 => ?_) (fun h136 => ?_)
      · refine k_iload i_184_143 rfl ?_
        refine k_iret i_184_145 rfl ?_
        refine kk _ _ ?_ hw
        obtain rfl : i = 31 := by omega
        have hb2 := (hb.resolve_left (fun q => absurd q.1 (by decide))).2
        rw [show (31 - 1 : Int).toNat = 30 from rfl] at hb2
        rw [← hb2]
        rw [if_neg h136]
      · refine k_iload_n i_184_139 rfl ?_
        refine k_goto (t := 145) i_184_140 rfl ?_
        refine k_iret i_184_145 rfl ?_
        refine kk _ _ ?_ hw
        obtain rfl : i = 31 := by omega
        have hb2 := (hb.resolve_left (fun q => absurd q.1 (by decide))).2
        rw [show (31 - 1 : Int).toNat = 30 from rfl] at hb2
        rw [← hb2]
        rw [if_pos h136]
    · refine k_aload_n i_184_61 rfl ?_
      refine k_iload i_184_62 rfl ?_
      refine k_invV (n := 1) (o' := 8) (av := [vR (some 273), vI i]) (rest := []) (el := [some (vR (some 273)), some (vI i), none]) i_184_64 o_184 rfl v_167 rfl (s_273) rfl rfl rfl rfl rfl ?_
      refine c_167 hKo (hw.k hKR) hT (by omega) (by omega) (hw.r hRR) (fun M2 hR2 ho2 => ?_)
      show Ok _ 184 67 [some (vR (some 273)), some (vI s), some (vI w), some (vI b), some (vI e), some (vI hd), some (vI i), x7] [] (M2) _
      refine k_aload_n i_184_67 rfl ?_
      refine k_getR (r := 274) i_184_68 o_184 rfl (by decide) (s_273) rfl ?_
      refine k_sipush i_184_71 (by decide) ?_
      refine k_iload_n i_184_74 rfl ?_
      refine k_iast i_184_75 (s_274) (by omega) ?_
      have hR3 := (RepR.fld hKo hl2 hR2 s).2.2.2
      refine k_aload_n i_184_76 rfl ?_
      refine k_bipush i_184_77 (by decide) ?_
      refine k_iload i_184_79 rfl ?_
      refine k_isub i_184_81 (by omega) ?_
      refine k_invV (n := 1) (o' := 8) (av := [vR (some 273), vI (60 - i)]) (rest := []) (el := [some (vR (some 273)), some (vI (60 - i)), none]) i_184_82 o_184 rfl v_167 rfl (s_273) rfl rfl rfl rfl rfl ?_
      refine c_167 (T := seF (itF K i.toNat T) s) hKo ((hw.k hKR).out hKo (ho2.mu (by omega))) (hU.se (by omega)) (by omega) (by show tMi (itF K i.toNat T) ≤ 2000; omega) hR3 (fun M4 hR4 ho4 => ?_)
      show Ok _ 184 85 [some (vR (some 273)), some (vI s), some (vI w), some (vI b), some (vI e), some (vI hd), some (vI i), x7] [] (M4) _
      refine k_aload_n i_184_85 rfl ?_
      refine k_iconst i_184_86 (by decide) ?_
      refine k_invV (n := 1) (o' := 8) (av := [vR (some 273), vI 2]) (rest := []) (el := [some (vR (some 273)), some (vI 2), none, none]) i_184_87 o_184 rfl v_168 rfl (s_273) rfl rfl rfl rfl rfl ?_
      refine c_168 hKo ((hw.k hKR).out hKo ((ho2.mu (by omega)).tr ho4)) hR4 (fun v5 hv5 => ?_)
      show Ok _ 184 90 [some (vR (some 273)), some (vI s), some (vI w), some (vI b), some (vI e), some (vI hd), some (vI i), x7] [vI v5] (M4) _
      have mb5 := many_b (itF K (60 - i).toNat (seF (itF K i.toNat T) s)) 2 (kPe K).toNat
      have hN : v5 - hd = opN K T s i.toNat := by
        unfold opN
        rw [hv5, hhd, show (60 - i).toNat = 60 - i.toNat by omega]
      refine k_iload i_184_90 rfl ?_
      refine k_isub i_184_92 (by omega) ?_
      refine k_istore (ls' := [some (vR (some 273)), some (vI s), some (vI w), some (vI b), some (vI e), some (vI hd), some (vI i), some (vI (v5 - hd))]) i_184_93 rfl ?_
      refine k_aload_n i_184_95 rfl ?_
      refine k_invV (n := 0) (o' := 8) (av := [vR (some 273)]) (rest := []) (el := [some (vR (some 273)), none]) i_184_96 o_184 rfl v_166 rfl (s_273) rfl rfl rfl rfl rfl ?_
      refine c_166 ?_
      show Ok _ 184 99 [some (vR (some 273)), some (vI s), some (vI w), some (vI b), some (vI e), some (vI hd), some (vI i), some (vI (v5 - hd))] [] (cpn M4 278 274 232) _
      refine k_iload i_184_99 rfl ?_
      refine k_iload i_184_101 rfl ?_
      refine k_icmp_lt (t := 111) i_184_103 rfl (fun h103 => ?_) (fun h103 => ?_)
      · refine k_iload_n i_184_111 rfl ?_
        refine k_istore_n (ls' := [some (vR (some 273)), some (vI s), some (vI w), some (vI b), some (vI e), some (vI hd), some (vI i), some (vI (v5 - hd))]) i_184_112 rfl ?_
        refine k_iload i_184_113 rfl ?_
        refine k_iload i_184_115 rfl ?_
        refine k_icmp_lt (t := 125) i_184_117 rfl (fun h117 => ?_) (fun h117 => ?_)
        · refine k_iload i_184_125 rfl ?_
          refine k_istore (ls' := [some (vR (some 273)), some (vI s), some (vI w), some (vI b), some (vI e), some (vI hd), some (vI i), some (vI (v5 - hd))]) i_184_127 rfl ?_
          refine k_iinc (ls' := [some (vR (some 273)), some (vI s), some (vI w), some (vI b), some (vI e), some (vI hd), some (vI (i + 1)), some (vI (v5 - hd))]) i_184_129 rfl (by omega) rfl ?_
          refine k_goto (t := 54) i_184_132 rfl ?_
          refine ih (i + 1) b e _ _ (by omega) ?_ (hw.bk ((ho2.mu (by omega)).tr ho4).w) (by omega)
          refine Or.inr ⟨by omega, ?_⟩
          rw [show (i + 1 - 1).toNat = i.toNat by omega]
          by_cases hi0 : i = 0
          · subst hi0
            rw [show (0 : Int).toNat = 0 from rfl] at hN
            
            omega
          · have hb2 := (hb.resolve_left (fun q => hi0 q.1)).2
            rw [show i.toNat = (i - 1).toNat + 1 by omega] at hN ⊢
            rw [opn_s _ _ hN.symm hb2]
            rw [if_neg (by omega)]
            
        · refine k_iload i_184_120 rfl ?_
          refine k_goto (t := 127) i_184_122 rfl ?_
          refine k_istore (ls' := [some (vR (some 273)), some (vI s), some (vI w), some (vI b), some (vI (v5 - hd)), some (vI hd), some (vI i), some (vI (v5 - hd))]) i_184_127 rfl ?_
          refine k_iinc (ls' := [some (vR (some 273)), some (vI s), some (vI w), some (vI b), some (vI (v5 - hd)), some (vI hd), some (vI (i + 1)), some (vI (v5 - hd))]) i_184_129 rfl (by omega) rfl ?_
          refine k_goto (t := 54) i_184_132 rfl ?_
          exfalso
          omega
      · refine k_iload i_184_106 rfl ?_
        refine k_goto (t := 112) i_184_108 rfl ?_
        refine k_istore_n (ls' := [some (vR (some 273)), some (vI s), some (vI w), some (vI i), some (vI e), some (vI hd), some (vI i), some (vI (v5 - hd))]) i_184_112 rfl ?_
        refine k_iload i_184_113 rfl ?_
        refine k_iload i_184_115 rfl ?_
        refine k_icmp_lt (t := 125) i_184_117 rfl (fun h117 => ?_) (fun h117 => ?_)
        · refine k_iload i_184_125 rfl ?_
          refine k_istore (ls' := [some (vR (some 273)), some (vI s), some (vI w), some (vI i), some (vI e), some (vI hd), some (vI i), some (vI (v5 - hd))]) i_184_127 rfl ?_
          refine k_iinc (ls' := [some (vR (some 273)), some (vI s), some (vI w), some (vI i), some (vI e), some (vI hd), some (vI (i + 1)), some (vI (v5 - hd))]) i_184_129 rfl (by omega) rfl ?_
          refine k_goto (t := 54) i_184_132 rfl ?_
          exfalso
          omega
        · refine k_iload i_184_120 rfl ?_
          refine k_goto (t := 127) i_184_122 rfl ?_
          refine k_istore (ls' := [some (vR (some 273)), some (vI s), some (vI w), some (vI i), some (vI (v5 - hd)), some (vI hd), some (vI i), some (vI (v5 - hd))]) i_184_127 rfl ?_
          refine k_iinc (ls' := [some (vR (some 273)), some (vI s), some (vI w), some (vI i), some (vI (v5 - hd)), some (vI hd), some (vI (i + 1)), some (vI (v5 - hd))]) i_184_129 rfl (by omega) rfl ?_
          refine k_goto (t := 54) i_184_132 rfl ?_
          refine ih (i + 1) i (v5 - hd) _ _ (by omega) ?_ (hw.bk ((ho2.mu (by omega)).tr ho4).w) (by omega)
          refine Or.inr ⟨by omega, ?_⟩
          rw [show (i + 1 - 1).toNat = i.toNat by omega]
          by_cases hi0 : i = 0
          · subst hi0
            rw [show (0 : Int).toNat = 0 from rfl] at hN
            have q : op (opN K T s) (0 : Int).toNat = (0, opN K T s 0) := rfl
            rw [q, ← hN]
          · have hb2 := (hb.resolve_left (fun q => hi0 q.1)).2
            rw [show i.toNat = (i - 1).toNat + 1 by omega] at hN ⊢
            rw [opn_s _ _ hN.symm hb2]
            rw [if_pos (by omega)]
            rw [show (((i - 1).toNat + 1 : Nat) : Int) = i by omega]

set_option maxRecDepth 100000 in
theorem tp_opens {d : Nat} {M : Mem} {s w : Int} (h : Rel M)  : Two (d + 24) 107 184 [some (vR (some 0)), some (vI s), some (vI w)] [some (vR (some 273)), some (vI s), some (vI w), none, none, none, none, none] M := by
  obtain ⟨K, T, L, hW⟩ := h.2.2.2.2.1
  obtain ⟨hE, hKo, hS, hK12, hR, hKR, hRR, hA, hAR, hL, hti⟩ := id hW
  have hT := hS.1
  have hK : RepK M 20 K 0 := hK12.mono (by decide)
  have g0 := hKo.1
  have u3 := hT.2.2.1
  have mi9 := hS.2.2
  have k1 : M 20 7 = kPe K := hK.1
  have k2 : M 20 6 = kWt K := hK.2.1
  have q1 : M 274 229 = kPe K := hKR.1
  have q2 : M 274 230 = kPe K - kWt K := hKR.2.1
  obtain ⟨x6, x7, x8, x9, x10, xq, xp⟩ := id hR
  obtain ⟨y6, y7, y8, y9, y10, yq, yp⟩ := id hRR
  have hl28 := q28 hKo hT
  have hl16 : ((tQ T).length : Int) ≤ 16 := by omega
  show Ok (d + 24) 107 0 [some (vR (some 0)), some (vI s), some (vI w)] [] M _
  refine k_aload_n i_107_0 rfl ?_
  refine k_getI (kz := 11) i_107_1 o_107 rfl (by decide) (s_0) rfl ?_
  refine k_if_ne (t := 10) i_107_4 rfl (fun h4 => ?_) (fun h4 => ?_)
  · refine k_iload_n i_107_10 rfl ?_
    refine k_iconst i_107_11 (by decide) ?_
    refine k_icmp_lt (t := 29) i_107_12 rfl (fun h12 => ?_) (fun h12 => ?_)
    · refine k_ldc (z := -1000001) i_107_29 o_107 rfl (by decide) ?_
      refine k_iret i_107_31 rfl ?_
      show Ok (d + 24) 184 0 [some (vR (some 273)), some (vI s), some (vI w), none, none, none, none, none] [] M _
      refine k_aload_n i_184_0 rfl ?_
      refine k_invV (n := 0) (o' := 8) (av := [vR (some 273)]) (rest := []) (el := [some (vR (some 273))]) i_184_1 o_184 rfl v_144 rfl (s_273) rfl rfl rfl rfl rfl ?_
      refine c_144 (fun v1 hv1 => ?_)
      show Ok _ 184 4 [some (vR (some 273)), some (vI s), some (vI w), none, none, none, none, none] [vI v1] (M) _
      refine k_if_ne (t := 10) i_184_4 rfl (fun h4 => ?_) (fun h4 => ?_)
      · refine k_iload_n i_184_10 rfl ?_
        refine k_i2l i_184_11 ?_
        refine k_lconst (z := 1) i_184_12 rfl ?_
        refine k_ldc2 (z := 9) i_184_13 o_184 rfl (by decide) ?_
        refine k_invS (n := 3) (av := [vL s, vL 1, vL 9]) (rest := []) (el := [some (vL s), none, some (vL 1), none, some (vL 9), none]) i_184_16 o_184 rfl v_122 rfl rfl rfl rfl rfl rfl ?_
        refine c_122 (fun v16 hv16 => ?_)
        show Ok _ 184 19 [some (vR (some 273)), some (vI s), some (vI w), none, none, none, none, none] [vI v16] (M) _
        refine k_if_eq (t := 32) i_184_19 rfl (fun h19 => ?_) (fun h19 => ?_)
        · refine k_ldc (z := -1000001) i_184_32 o_184 rfl (by decide) ?_
          refine k_iret i_184_34 rfl ?_
          refine ⟨_, rfl, ?_, h⟩
          first
            | exact congrArg (fun z => some (vI z)) (by omega)
            | (exfalso; omega)
        · refine k_iload_n i_184_22 rfl ?_
          refine k_i2l i_184_23 ?_
          refine k_lconst (z := 0) i_184_24 rfl ?_
          refine k_lconst (z := 1) i_184_25 rfl ?_
          refine k_invS (n := 3) (av := [vL w, vL 0, vL 1]) (rest := []) (el := [some (vL w), none, some (vL 0), none, some (vL 1), none]) i_184_26 o_184 rfl v_122 rfl rfl rfl rfl rfl rfl ?_
          refine c_122 (fun v26 hv26 => ?_)
          show Ok _ 184 29 [some (vR (some 273)), some (vI s), some (vI w), none, none, none, none, none] [vI v26] (M) _
          refine k_if_ne (t := 35) i_184_29 rfl (fun h29 => ?_) (fun h29 => ?_)
          · refine k_iconst i_184_35 (by decide) ?_
            refine k_istore_n (ls' := [some (vR (some 273)), some (vI s), some (vI w), some (vI 0), none, none, none, none]) i_184_36 rfl ?_
            refine k_iconst i_184_37 (by decide) ?_
            refine k_istore (ls' := [some (vR (some 273)), some (vI s), some (vI w), some (vI 0), some (vI (-1)), none, none, none]) i_184_38 rfl ?_
            refine k_aload_n i_184_40 rfl ?_
            refine k_iconst i_184_41 (by decide) ?_
            refine k_invV (n := 1) (o' := 8) (av := [vR (some 273), vI 2]) (rest := []) (el := [some (vR (some 273)), some (vI 2), none, none]) i_184_42 o_184 rfl v_168 rfl (s_273) rfl rfl rfl rfl rfl ?_
            refine c_168 hKo hKR hRR (fun hd hhd => ?_)
            show Ok _ 184 45 [some (vR (some 273)), some (vI s), some (vI w), some (vI 0), some (vI (-1)), none, none, none] [vI hd] (M) _
            refine k_istore (ls' := [some (vR (some 273)), some (vI s), some (vI w), some (vI 0), some (vI (-1)), some (vI hd), none, none]) i_184_45 rfl ?_
            refine k_aload_n i_184_47 rfl ?_
            refine k_invV (n := 0) (o' := 8) (av := [vR (some 273)]) (rest := []) (el := [some (vR (some 273)), none]) i_184_48 o_184 rfl v_165 rfl (s_273) rfl rfl rfl rfl rfl ?_
            refine c_165 ?_
            show Ok _ 184 51 [some (vR (some 273)), some (vI s), some (vI w), some (vI 0), some (vI (-1)), some (vI hd), none, none] [] (cpn M 274 278 232) _
            refine k_iconst i_184_51 (by decide) ?_
            refine k_istore (ls' := [some (vR (some 273)), some (vI s), some (vI w), some (vI 0), some (vI (-1)), some (vI hd), some (vI 0), none]) i_184_52 rfl ?_
            exfalso
            omega
          · refine k_ldc (z := -1000001) i_184_32 o_184 rfl (by decide) ?_
            refine k_iret i_184_34 rfl ?_
            refine ⟨_, rfl, ?_, h⟩
            first
              | exact congrArg (fun z => some (vI z)) (by omega)
              | (exfalso; omega)
      · refine k_ldc (z := -1000002) i_184_7 o_184 rfl (by decide) ?_
        refine k_iret i_184_9 rfl ?_
        refine ⟨_, rfl, ?_, h⟩
        first
          | exact congrArg (fun z => some (vI z)) (by omega)
          | (exfalso; omega)
    · refine k_iload_n i_107_15 rfl ?_
      refine k_bipush i_107_16 (by decide) ?_
      refine k_icmp_gt (t := 29) i_107_18 rfl (fun h18 => ?_) (fun h18 => ?_)
      · refine k_ldc (z := -1000001) i_107_29 o_107 rfl (by decide) ?_
        refine k_iret i_107_31 rfl ?_
        show Ok (d + 24) 184 0 [some (vR (some 273)), some (vI s), some (vI w), none, none, none, none, none] [] M _
        refine k_aload_n i_184_0 rfl ?_
        refine k_invV (n := 0) (o' := 8) (av := [vR (some 273)]) (rest := []) (el := [some (vR (some 273))]) i_184_1 o_184 rfl v_144 rfl (s_273) rfl rfl rfl rfl rfl ?_
        refine c_144 (fun v1 hv1 => ?_)
        show Ok _ 184 4 [some (vR (some 273)), some (vI s), some (vI w), none, none, none, none, none] [vI v1] (M) _
        refine k_if_ne (t := 10) i_184_4 rfl (fun h4 => ?_) (fun h4 => ?_)
        · refine k_iload_n i_184_10 rfl ?_
          refine k_i2l i_184_11 ?_
          refine k_lconst (z := 1) i_184_12 rfl ?_
          refine k_ldc2 (z := 9) i_184_13 o_184 rfl (by decide) ?_
          refine k_invS (n := 3) (av := [vL s, vL 1, vL 9]) (rest := []) (el := [some (vL s), none, some (vL 1), none, some (vL 9), none]) i_184_16 o_184 rfl v_122 rfl rfl rfl rfl rfl rfl ?_
          refine c_122 (fun v16 hv16 => ?_)
          show Ok _ 184 19 [some (vR (some 273)), some (vI s), some (vI w), none, none, none, none, none] [vI v16] (M) _
          refine k_if_eq (t := 32) i_184_19 rfl (fun h19 => ?_) (fun h19 => ?_)
          · refine k_ldc (z := -1000001) i_184_32 o_184 rfl (by decide) ?_
            refine k_iret i_184_34 rfl ?_
            refine ⟨_, rfl, ?_, h⟩
            first
              | exact congrArg (fun z => some (vI z)) (by omega)
              | (exfalso; omega)
          · refine k_iload_n i_184_22 rfl ?_
            refine k_i2l i_184_23 ?_
            refine k_lconst (z := 0) i_184_24 rfl ?_
            refine k_lconst (z := 1) i_184_25 rfl ?_
            refine k_invS (n := 3) (av := [vL w, vL 0, vL 1]) (rest := []) (el := [some (vL w), none, some (vL 0), none, some (vL 1), none]) i_184_26 o_184 rfl v_122 rfl rfl rfl rfl rfl rfl ?_
            refine c_122 (fun v26 hv26 => ?_)
            show Ok _ 184 29 [some (vR (some 273)), some (vI s), some (vI w), none, none, none, none, none] [vI v26] (M) _
            refine k_if_ne (t := 35) i_184_29 rfl (fun h29 => ?_) (fun h29 => ?_)
            · refine k_iconst i_184_35 (by decide) ?_
              refine k_istore_n (ls' := [some (vR (some 273)), some (vI s), some (vI w), some (vI 0), none, none, none, none]) i_184_36 rfl ?_
              refine k_iconst i_184_37 (by decide) ?_
              refine k_istore (ls' := [some (vR (some 273)), some (vI s), some (vI w), some (vI 0), some (vI (-1)), none, none, none]) i_184_38 rfl ?_
              refine k_aload_n i_184_40 rfl ?_
              refine k_iconst i_184_41 (by decide) ?_
              refine k_invV (n := 1) (o' := 8) (av := [vR (some 273), vI 2]) (rest := []) (el := [some (vR (some 273)), some (vI 2), none, none]) i_184_42 o_184 rfl v_168 rfl (s_273) rfl rfl rfl rfl rfl ?_
              refine c_168 hKo hKR hRR (fun hd hhd => ?_)
              show Ok _ 184 45 [some (vR (some 273)), some (vI s), some (vI w), some (vI 0), some (vI (-1)), none, none, none] [vI hd] (M) _
              refine k_istore (ls' := [some (vR (some 273)), some (vI s), some (vI w), some (vI 0), some (vI (-1)), some (vI hd), none, none]) i_184_45 rfl ?_
              refine k_aload_n i_184_47 rfl ?_
              refine k_invV (n := 0) (o' := 8) (av := [vR (some 273)]) (rest := []) (el := [some (vR (some 273)), none]) i_184_48 o_184 rfl v_165 rfl (s_273) rfl rfl rfl rfl rfl ?_
              refine c_165 ?_
              show Ok _ 184 51 [some (vR (some 273)), some (vI s), some (vI w), some (vI 0), some (vI (-1)), some (vI hd), none, none] [] (cpn M 274 278 232) _
              refine k_iconst i_184_51 (by decide) ?_
              refine k_istore (ls' := [some (vR (some 273)), some (vI s), some (vI w), some (vI 0), some (vI (-1)), some (vI hd), some (vI 0), none]) i_184_52 rfl ?_
              exfalso
              omega
            · refine k_ldc (z := -1000001) i_184_32 o_184 rfl (by decide) ?_
              refine k_iret i_184_34 rfl ?_
              refine ⟨_, rfl, ?_, h⟩
              first
                | exact congrArg (fun z => some (vI z)) (by omega)
                | (exfalso; omega)
        · refine k_ldc (z := -1000002) i_184_7 o_184 rfl (by decide) ?_
          refine k_iret i_184_9 rfl ?_
          refine ⟨_, rfl, ?_, h⟩
          first
            | exact congrArg (fun z => some (vI z)) (by omega)
            | (exfalso; omega)
      · refine k_iload_n i_107_21 rfl ?_
        refine k_iconst i_107_22 (by decide) ?_
        refine k_invS (n := 2) (av := [vI w, vI 1]) (rest := []) (el := [some (vI w), some (vI 1)]) i_107_23 o_107 rfl v_117 rfl rfl rfl rfl rfl rfl ?_
        refine c_117 (fun v23 hv23 => ?_)
        show Ok _ 107 26 [some (vR (some 0)), some (vI s), some (vI w)] [vI v23] (M) _
        refine k_if_ne (t := 32) i_107_26 rfl (fun h26 => ?_) (fun h26 => ?_)
        · refine k_aload_n i_107_32 rfl ?_
          refine k_getR (r := 177) i_107_33 o_107 rfl (by decide) (s_0) rfl ?_
          refine k_iload_n i_107_36 rfl ?_
          refine k_iload_n i_107_37 rfl ?_
          refine k_if_ne (t := 45) i_107_38 rfl (fun h38 => ?_) (fun h38 => ?_)
          · refine k_iconst i_107_45 (by decide) ?_
            refine k_invV (n := 2) (o' := 2) (av := [vR (some 177), vI s, vI 0]) (rest := []) (el := [some (vR (some 177)), some (vI s), some (vI 0), none, none, none, none, none]) i_107_46 o_107 rfl v_28 rfl (s_177) rfl rfl rfl rfl rfl ?_
            refine c_28 hKo hK hT (by omega) (by omega) (op0 hKo hT (by omega) (by omega)) hR (fun vA M1 hvA ho1 => ?_)
            show Ok _ 107 49 [some (vR (some 0)), some (vI s), some (vI w)] [vI vA] (M1) _
            refine k_iret i_107_49 rfl ?_
            show Ok (d + 24) 184 0 [some (vR (some 273)), some (vI s), some (vI w), none, none, none, none, none] [] M1 _
            have hRR1 : RepR M1 K 0 T := hRR.off (fun j => ho1 274 j (by omega))
            have hKR1 : RepKR M1 K 0 := hKR.fr (fun j => ho1 274 j (by omega))
            have z1 : M1 274 231 = M 274 231 := ho1 _ _ (by omega)
            have z2 : M1 274 229 = kPe K := hKR1.1
            refine k_aload_n i_184_0 rfl ?_
            refine k_invV (n := 0) (o' := 8) (av := [vR (some 273)]) (rest := []) (el := [some (vR (some 273))]) i_184_1 o_184 rfl v_144 rfl (s_273) rfl rfl rfl rfl rfl ?_
            refine c_144 (fun v1 hv1 => ?_)
            show Ok _ 184 4 [some (vR (some 273)), some (vI s), some (vI w), none, none, none, none, none] [vI v1] (M1) _
            refine k_if_ne (t := 10) i_184_4 rfl (fun h4 => ?_) (fun h4 => ?_)
            · refine k_iload_n i_184_10 rfl ?_
              refine k_i2l i_184_11 ?_
              refine k_lconst (z := 1) i_184_12 rfl ?_
              refine k_ldc2 (z := 9) i_184_13 o_184 rfl (by decide) ?_
              refine k_invS (n := 3) (av := [vL s, vL 1, vL 9]) (rest := []) (el := [some (vL s), none, some (vL 1), none, some (vL 9), none]) i_184_16 o_184 rfl v_122 rfl rfl rfl rfl rfl rfl ?_
              refine c_122 (fun v16 hv16 => ?_)
              show Ok _ 184 19 [some (vR (some 273)), some (vI s), some (vI w), none, none, none, none, none] [vI v16] (M1) _
              refine k_if_eq (t := 32) i_184_19 rfl (fun h19 => ?_) (fun h19 => ?_)
              · refine k_ldc (z := -1000001) i_184_32 o_184 rfl (by decide) ?_
                refine k_iret i_184_34 rfl ?_
                exfalso
                omega
              · refine k_iload_n i_184_22 rfl ?_
                refine k_i2l i_184_23 ?_
                refine k_lconst (z := 0) i_184_24 rfl ?_
                refine k_lconst (z := 1) i_184_25 rfl ?_
                refine k_invS (n := 3) (av := [vL w, vL 0, vL 1]) (rest := []) (el := [some (vL w), none, some (vL 0), none, some (vL 1), none]) i_184_26 o_184 rfl v_122 rfl rfl rfl rfl rfl rfl ?_
                refine c_122 (fun v26 hv26 => ?_)
                show Ok _ 184 29 [some (vR (some 273)), some (vI s), some (vI w), none, none, none, none, none] [vI v26] (M1) _
                refine k_if_ne (t := 35) i_184_29 rfl (fun h29 => ?_) (fun h29 => ?_)
                · refine k_iconst i_184_35 (by decide) ?_
                  refine k_istore_n (ls' := [some (vR (some 273)), some (vI s), some (vI w), some (vI 0), none, none, none, none]) i_184_36 rfl ?_
                  refine k_iconst i_184_37 (by decide) ?_
                  refine k_istore (ls' := [some (vR (some 273)), some (vI s), some (vI w), some (vI 0), some (vI (-1)), none, none, none]) i_184_38 rfl ?_
                  refine k_aload_n i_184_40 rfl ?_
                  refine k_iconst i_184_41 (by decide) ?_
                  refine k_invV (n := 1) (o' := 8) (av := [vR (some 273), vI 2]) (rest := []) (el := [some (vR (some 273)), some (vI 2), none, none]) i_184_42 o_184 rfl v_168 rfl (s_273) rfl rfl rfl rfl rfl ?_
                  refine c_168 hKo hKR1 hRR1 (fun hd hhd => ?_)
                  show Ok _ 184 45 [some (vR (some 273)), some (vI s), some (vI w), some (vI 0), some (vI (-1)), none, none, none] [vI hd] (M1) _
                  refine k_istore (ls' := [some (vR (some 273)), some (vI s), some (vI w), some (vI 0), some (vI (-1)), some (vI hd), none, none]) i_184_45 rfl ?_
                  refine k_aload_n i_184_47 rfl ?_
                  refine k_invV (n := 0) (o' := 8) (av := [vR (some 273)]) (rest := []) (el := [some (vR (some 273)), none]) i_184_48 o_184 rfl v_165 rfl (s_273) rfl rfl rfl rfl rfl ?_
                  refine c_165 ?_
                  show Ok _ 184 51 [some (vR (some 273)), some (vI s), some (vI w), some (vI 0), some (vI (-1)), some (vI hd), none, none] [] (cpn M1 274 278 232) _
                  refine k_iconst i_184_51 (by decide) ?_
                  refine k_istore (ls' := [some (vR (some 273)), some (vI s), some (vI w), some (vI 0), some (vI (-1)), some (vI hd), some (vI 0), none]) i_184_52 rfl ?_
                  refine l_184 (M0 := M1) hKo hKR1 hRR1 hT (by omega) (by omega) (op0 hKo hT (by omega) (by omega)) hhd (fun v2 M2 hv2 hw => ?_) 32 0 0 (-1) _ _ (by omega) (Or.inl ⟨rfl, rfl, rfl⟩) (Wk.st M1) (by omega)
                  refine ⟨_, rfl, ?_, h.scr (fun b j b0 b1 b2 b3 b4 => (hw.1 b j b1 b3 b4).trans (ho1 b j (by omega)))⟩
                  refine congrArg (fun z => some (vI z)) ?_
                  rw [hv2, hvA]
                  first
                    | (rw [if_pos (by omega), if_neg (by omega)]; done)
                    | (rw [if_neg (by omega), if_pos (by omega)]; done)
                · refine k_ldc (z := -1000001) i_184_32 o_184 rfl (by decide) ?_
                  refine k_iret i_184_34 rfl ?_
                  exfalso
                  omega
            · refine k_ldc (z := -1000002) i_184_7 o_184 rfl (by decide) ?_
              refine k_iret i_184_9 rfl ?_
              exfalso
              omega
          · refine k_iconst i_107_41 (by decide) ?_
            refine k_goto (t := 46) i_107_42 rfl ?_
            refine k_invV (n := 2) (o' := 2) (av := [vR (some 177), vI s, vI 1]) (rest := []) (el := [some (vR (some 177)), some (vI s), some (vI 1), none, none, none, none, none]) i_107_46 o_107 rfl v_28 rfl (s_177) rfl rfl rfl rfl rfl ?_
            refine c_28 hKo hK hT (by omega) (by omega) (op0 hKo hT (by omega) (by omega)) hR (fun vA M1 hvA ho1 => ?_)
            show Ok _ 107 49 [some (vR (some 0)), some (vI s), some (vI w)] [vI vA] (M1) _
            refine k_iret i_107_49 rfl ?_
            show Ok (d + 24) 184 0 [some (vR (some 273)), some (vI s), some (vI w), none, none, none, none, none] [] M1 _
            have hRR1 : RepR M1 K 0 T := hRR.off (fun j => ho1 274 j (by omega))
            have hKR1 : RepKR M1 K 0 := hKR.fr (fun j => ho1 274 j (by omega))
            have z1 : M1 274 231 = M 274 231 := ho1 _ _ (by omega)
            have z2 : M1 274 229 = kPe K := hKR1.1
            refine k_aload_n i_184_0 rfl ?_
            refine k_invV (n := 0) (o' := 8) (av := [vR (some 273)]) (rest := []) (el := [some (vR (some 273))]) i_184_1 o_184 rfl v_144 rfl (s_273) rfl rfl rfl rfl rfl ?_
            refine c_144 (fun v1 hv1 => ?_)
            show Ok _ 184 4 [some (vR (some 273)), some (vI s), some (vI w), none, none, none, none, none] [vI v1] (M1) _
            refine k_if_ne (t := 10) i_184_4 rfl (fun h4 => ?_) (fun h4 => ?_)
            · refine k_iload_n i_184_10 rfl ?_
              refine k_i2l i_184_11 ?_
              refine k_lconst (z := 1) i_184_12 rfl ?_
              refine k_ldc2 (z := 9) i_184_13 o_184 rfl (by decide) ?_
              refine k_invS (n := 3) (av := [vL s, vL 1, vL 9]) (rest := []) (el := [some (vL s), none, some (vL 1), none, some (vL 9), none]) i_184_16 o_184 rfl v_122 rfl rfl rfl rfl rfl rfl ?_
              refine c_122 (fun v16 hv16 => ?_)
              show Ok _ 184 19 [some (vR (some 273)), some (vI s), some (vI w), none, none, none, none, none] [vI v16] (M1) _
              refine k_if_eq (t := 32) i_184_19 rfl (fun h19 => ?_) (fun h19 => ?_)
              · refine k_ldc (z := -1000001) i_184_32 o_184 rfl (by decide) ?_
                refine k_iret i_184_34 rfl ?_
                exfalso
                omega
              · refine k_iload_n i_184_22 rfl ?_
                refine k_i2l i_184_23 ?_
                refine k_lconst (z := 0) i_184_24 rfl ?_
                refine k_lconst (z := 1) i_184_25 rfl ?_
                refine k_invS (n := 3) (av := [vL w, vL 0, vL 1]) (rest := []) (el := [some (vL w), none, some (vL 0), none, some (vL 1), none]) i_184_26 o_184 rfl v_122 rfl rfl rfl rfl rfl rfl ?_
                refine c_122 (fun v26 hv26 => ?_)
                show Ok _ 184 29 [some (vR (some 273)), some (vI s), some (vI w), none, none, none, none, none] [vI v26] (M1) _
                refine k_if_ne (t := 35) i_184_29 rfl (fun h29 => ?_) (fun h29 => ?_)
                · refine k_iconst i_184_35 (by decide) ?_
                  refine k_istore_n (ls' := [some (vR (some 273)), some (vI s), some (vI w), some (vI 0), none, none, none, none]) i_184_36 rfl ?_
                  refine k_iconst i_184_37 (by decide) ?_
                  refine k_istore (ls' := [some (vR (some 273)), some (vI s), some (vI w), some (vI 0), some (vI (-1)), none, none, none]) i_184_38 rfl ?_
                  refine k_aload_n i_184_40 rfl ?_
                  refine k_iconst i_184_41 (by decide) ?_
                  refine k_invV (n := 1) (o' := 8) (av := [vR (some 273), vI 2]) (rest := []) (el := [some (vR (some 273)), some (vI 2), none, none]) i_184_42 o_184 rfl v_168 rfl (s_273) rfl rfl rfl rfl rfl ?_
                  refine c_168 hKo hKR1 hRR1 (fun hd hhd => ?_)
                  show Ok _ 184 45 [some (vR (some 273)), some (vI s), some (vI w), some (vI 0), some (vI (-1)), none, none, none] [vI hd] (M1) _
                  refine k_istore (ls' := [some (vR (some 273)), some (vI s), some (vI w), some (vI 0), some (vI (-1)), some (vI hd), none, none]) i_184_45 rfl ?_
                  refine k_aload_n i_184_47 rfl ?_
                  refine k_invV (n := 0) (o' := 8) (av := [vR (some 273)]) (rest := []) (el := [some (vR (some 273)), none]) i_184_48 o_184 rfl v_165 rfl (s_273) rfl rfl rfl rfl rfl ?_
                  refine c_165 ?_
                  show Ok _ 184 51 [some (vR (some 273)), some (vI s), some (vI w), some (vI 0), some (vI (-1)), some (vI hd), none, none] [] (cpn M1 274 278 232) _
                  refine k_iconst i_184_51 (by decide) ?_
                  refine k_istore (ls' := [some (vR (some 273)), some (vI s), some (vI w), some (vI 0), some (vI (-1)), some (vI hd), some (vI 0), none]) i_184_52 rfl ?_
                  refine l_184 (M0 := M1) hKo hKR1 hRR1 hT (by omega) (by omega) (op0 hKo hT (by omega) (by omega)) hhd (fun v2 M2 hv2 hw => ?_) 32 0 0 (-1) _ _ (by omega) (Or.inl ⟨rfl, rfl, rfl⟩) (Wk.st M1) (by omega)
                  refine ⟨_, rfl, ?_, h.scr (fun b j b0 b1 b2 b3 b4 => (hw.1 b j b1 b3 b4).trans (ho1 b j (by omega)))⟩
                  refine congrArg (fun z => some (vI z)) ?_
                  rw [hv2, hvA]
                  first
                    | (rw [if_pos (by omega), if_neg (by omega)]; done)
                    | (rw [if_neg (by omega), if_pos (by omega)]; done)
                · refine k_ldc (z := -1000001) i_184_32 o_184 rfl (by decide) ?_
                  refine k_iret i_184_34 rfl ?_
                  exfalso
                  omega
            · refine k_ldc (z := -1000002) i_184_7 o_184 rfl (by decide) ?_
              refine k_iret i_184_9 rfl ?_
              exfalso
              omega
        · refine k_ldc (z := -1000001) i_107_29 o_107 rfl (by decide) ?_
          refine k_iret i_107_31 rfl ?_
          show Ok (d + 24) 184 0 [some (vR (some 273)), some (vI s), some (vI w), none, none, none, none, none] [] M _
          refine k_aload_n i_184_0 rfl ?_
          refine k_invV (n := 0) (o' := 8) (av := [vR (some 273)]) (rest := []) (el := [some (vR (some 273))]) i_184_1 o_184 rfl v_144 rfl (s_273) rfl rfl rfl rfl rfl ?_
          refine c_144 (fun v1 hv1 => ?_)
          show Ok _ 184 4 [some (vR (some 273)), some (vI s), some (vI w), none, none, none, none, none] [vI v1] (M) _
          refine k_if_ne (t := 10) i_184_4 rfl (fun h4 => ?_) (fun h4 => ?_)
          · refine k_iload_n i_184_10 rfl ?_
            refine k_i2l i_184_11 ?_
            refine k_lconst (z := 1) i_184_12 rfl ?_
            refine k_ldc2 (z := 9) i_184_13 o_184 rfl (by decide) ?_
            refine k_invS (n := 3) (av := [vL s, vL 1, vL 9]) (rest := []) (el := [some (vL s), none, some (vL 1), none, some (vL 9), none]) i_184_16 o_184 rfl v_122 rfl rfl rfl rfl rfl rfl ?_
            refine c_122 (fun v16 hv16 => ?_)
            show Ok _ 184 19 [some (vR (some 273)), some (vI s), some (vI w), none, none, none, none, none] [vI v16] (M) _
            refine k_if_eq (t := 32) i_184_19 rfl (fun h19 => ?_) (fun h19 => ?_)
            · refine k_ldc (z := -1000001) i_184_32 o_184 rfl (by decide) ?_
              refine k_iret i_184_34 rfl ?_
              refine ⟨_, rfl, ?_, h⟩
              first
                | exact congrArg (fun z => some (vI z)) (by omega)
                | (exfalso; omega)
            · refine k_iload_n i_184_22 rfl ?_
              refine k_i2l i_184_23 ?_
              refine k_lconst (z := 0) i_184_24 rfl ?_
              refine k_lconst (z := 1) i_184_25 rfl ?_
              refine k_invS (n := 3) (av := [vL w, vL 0, vL 1]) (rest := []) (el := [some (vL w), none, some (vL 0), none, some (vL 1), none]) i_184_26 o_184 rfl v_122 rfl rfl rfl rfl rfl rfl ?_
              refine c_122 (fun v26 hv26 => ?_)
              show Ok _ 184 29 [some (vR (some 273)), some (vI s), some (vI w), none, none, none, none, none] [vI v26] (M) _
              refine k_if_ne (t := 35) i_184_29 rfl (fun h29 => ?_) (fun h29 => ?_)
              · refine k_iconst i_184_35 (by decide) ?_
                refine k_istore_n (ls' := [some (vR (some 273)), some (vI s), some (vI w), some (vI 0), none, none, none, none]) i_184_36 rfl ?_
                refine k_iconst i_184_37 (by decide) ?_
                refine k_istore (ls' := [some (vR (some 273)), some (vI s), some (vI w), some (vI 0), some (vI (-1)), none, none, none]) i_184_38 rfl ?_
                refine k_aload_n i_184_40 rfl ?_
                refine k_iconst i_184_41 (by decide) ?_
                refine k_invV (n := 1) (o' := 8) (av := [vR (some 273), vI 2]) (rest := []) (el := [some (vR (some 273)), some (vI 2), none, none]) i_184_42 o_184 rfl v_168 rfl (s_273) rfl rfl rfl rfl rfl ?_
                refine c_168 hKo hKR hRR (fun hd hhd => ?_)
                show Ok _ 184 45 [some (vR (some 273)), some (vI s), some (vI w), some (vI 0), some (vI (-1)), none, none, none] [vI hd] (M) _
                refine k_istore (ls' := [some (vR (some 273)), some (vI s), some (vI w), some (vI 0), some (vI (-1)), some (vI hd), none, none]) i_184_45 rfl ?_
                refine k_aload_n i_184_47 rfl ?_
                refine k_invV (n := 0) (o' := 8) (av := [vR (some 273)]) (rest := []) (el := [some (vR (some 273)), none]) i_184_48 o_184 rfl v_165 rfl (s_273) rfl rfl rfl rfl rfl ?_
                refine c_165 ?_
                show Ok _ 184 51 [some (vR (some 273)), some (vI s), some (vI w), some (vI 0), some (vI (-1)), some (vI hd), none, none] [] (cpn M 274 278 232) _
                refine k_iconst i_184_51 (by decide) ?_
                refine k_istore (ls' := [some (vR (some 273)), some (vI s), some (vI w), some (vI 0), some (vI (-1)), some (vI hd), some (vI 0), none]) i_184_52 rfl ?_
                exfalso
                omega
              · refine k_ldc (z := -1000001) i_184_32 o_184 rfl (by decide) ?_
                refine k_iret i_184_34 rfl ?_
                refine ⟨_, rfl, ?_, h⟩
                first
                  | exact congrArg (fun z => some (vI z)) (by omega)
                  | (exfalso; omega)
          · refine k_ldc (z := -1000002) i_184_7 o_184 rfl (by decide) ?_
            refine k_iret i_184_9 rfl ?_
            refine ⟨_, rfl, ?_, h⟩
            first
              | exact congrArg (fun z => some (vI z)) (by omega)
              | (exfalso; omega)
  · refine k_ldc (z := -1000002) i_107_7 o_107 rfl (by decide) ?_
    refine k_iret i_107_9 rfl ?_
    show Ok (d + 24) 184 0 [some (vR (some 273)), some (vI s), some (vI w), none, none, none, none, none] [] M _
    refine k_aload_n i_184_0 rfl ?_
    refine k_invV (n := 0) (o' := 8) (av := [vR (some 273)]) (rest := []) (el := [some (vR (some 273))]) i_184_1 o_184 rfl v_144 rfl (s_273) rfl rfl rfl rfl rfl ?_
    refine c_144 (fun v1 hv1 => ?_)
    show Ok _ 184 4 [some (vR (some 273)), some (vI s), some (vI w), none, none, none, none, none] [vI v1] (M) _
    refine k_if_ne (t := 10) i_184_4 rfl (fun h4 => ?_) (fun h4 => ?_)
    · refine k_iload_n i_184_10 rfl ?_
      refine k_i2l i_184_11 ?_
      refine k_lconst (z := 1) i_184_12 rfl ?_
      refine k_ldc2 (z := 9) i_184_13 o_184 rfl (by decide) ?_
      refine k_invS (n := 3) (av := [vL s, vL 1, vL 9]) (rest := []) (el := [some (vL s), none, some (vL 1), none, some (vL 9), none]) i_184_16 o_184 rfl v_122 rfl rfl rfl rfl rfl rfl ?_
      refine c_122 (fun v16 hv16 => ?_)
      show Ok _ 184 19 [some (vR (some 273)), some (vI s), some (vI w), none, none, none, none, none] [vI v16] (M) _
      refine k_if_eq (t := 32) i_184_19 rfl (fun h19 => ?_) (fun h19 => ?_)
      · refine k_ldc (z := -1000001) i_184_32 o_184 rfl (by decide) ?_
        refine k_iret i_184_34 rfl ?_
        refine ⟨_, rfl, ?_, h⟩
        first
          | exact congrArg (fun z => some (vI z)) (by omega)
          | (exfalso; omega)
      · refine k_iload_n i_184_22 rfl ?_
        refine k_i2l i_184_23 ?_
        refine k_lconst (z := 0) i_184_24 rfl ?_
        refine k_lconst (z := 1) i_184_25 rfl ?_
        refine k_invS (n := 3) (av := [vL w, vL 0, vL 1]) (rest := []) (el := [some (vL w), none, some (vL 0), none, some (vL 1), none]) i_184_26 o_184 rfl v_122 rfl rfl rfl rfl rfl rfl ?_
        refine c_122 (fun v26 hv26 => ?_)
        show Ok _ 184 29 [some (vR (some 273)), some (vI s), some (vI w), none, none, none, none, none] [vI v26] (M) _
        refine k_if_ne (t := 35) i_184_29 rfl (fun h29 => ?_) (fun h29 => ?_)
        · refine k_iconst i_184_35 (by decide) ?_
          refine k_istore_n (ls' := [some (vR (some 273)), some (vI s), some (vI w), some (vI 0), none, none, none, none]) i_184_36 rfl ?_
          refine k_iconst i_184_37 (by decide) ?_
          refine k_istore (ls' := [some (vR (some 273)), some (vI s), some (vI w), some (vI 0), some (vI (-1)), none, none, none]) i_184_38 rfl ?_
          refine k_aload_n i_184_40 rfl ?_
          refine k_iconst i_184_41 (by decide) ?_
          refine k_invV (n := 1) (o' := 8) (av := [vR (some 273), vI 2]) (rest := []) (el := [some (vR (some 273)), some (vI 2), none, none]) i_184_42 o_184 rfl v_168 rfl (s_273) rfl rfl rfl rfl rfl ?_
          refine c_168 hKo hKR hRR (fun hd hhd => ?_)
          show Ok _ 184 45 [some (vR (some 273)), some (vI s), some (vI w), some (vI 0), some (vI (-1)), none, none, none] [vI hd] (M) _
          refine k_istore (ls' := [some (vR (some 273)), some (vI s), some (vI w), some (vI 0), some (vI (-1)), some (vI hd), none, none]) i_184_45 rfl ?_
          refine k_aload_n i_184_47 rfl ?_
          refine k_invV (n := 0) (o' := 8) (av := [vR (some 273)]) (rest := []) (el := [some (vR (some 273)), none]) i_184_48 o_184 rfl v_165 rfl (s_273) rfl rfl rfl rfl rfl ?_
          refine c_165 ?_
          show Ok _ 184 51 [some (vR (some 273)), some (vI s), some (vI w), some (vI 0), some (vI (-1)), some (vI hd), none, none] [] (cpn M 274 278 232) _
          refine k_iconst i_184_51 (by decide) ?_
          refine k_istore (ls' := [some (vR (some 273)), some (vI s), some (vI w), some (vI 0), some (vI (-1)), some (vI hd), some (vI 0), none]) i_184_52 rfl ?_
          exfalso
          omega
        · refine k_ldc (z := -1000001) i_184_32 o_184 rfl (by decide) ?_
          refine k_iret i_184_34 rfl ?_
          refine ⟨_, rfl, ?_, h⟩
          first
            | exact congrArg (fun z => some (vI z)) (by omega)
            | (exfalso; omega)
    · refine k_ldc (z := -1000002) i_184_7 o_184 rfl (by decide) ?_
      refine k_iret i_184_9 rfl ?_
      refine ⟨_, rfl, ?_, h⟩
      first
        | exact congrArg (fun z => some (vI z)) (by omega)
        | (exfalso; omega)
