set_option maxRecDepth 100000 in
theorem l_174 {d : Nat} {M0 : Mem} {Q : Option Vv → Mem → Prop} {K : Kt} {T : Tt} {x w wh : Int} (hKo : KOk K 0) (hK : RepKR M0 K 0) (hT : TOk K 0 T) (hmi : tMi T ≤ 2000) (hx : 0 ≤ x ∧ x < kPe K) (hwh : 2 ≤ wh) (kk : ∀ v M', Fst (fun n : Nat => tW (itF K n T) x = wh) 200 v → Wk M0 M' → Q (some (vI v)) M') : ∀ (f : Nat) (i : Int) (M : Mem), (0 ≤ i ∧ i ≤ 200) → (∀ j : Nat, (j : Int) < i → tW (itF K j T) x < 2) → (RepR M K 0 (itF K i.toNat T)) → (OutR (cpn M0 274 278 232) M) → (200 - i).toNat < f → Ok (d + 4) 174 38 [some (vR (some 273)), some (vI x), some (vI w), some (vI wh), some (vI i), none] [] M Q := by
  intro f
  induction f with
  | zero => intro i M hi hj hR1 ho hf; exact absurd hf (Nat.not_lt_zero _)
  | succ f ih =>
    intro i M hi hj hR1 ho hf
    have hKs : RepKR (cpn M0 274 278 232) K 0 := (Wk.st M0).k hK
    have hK1 := hKs.out hKo ho
    have hU := hT.it hKo i.toNat (by omega)
    have hmi2 := it_mi (K := K) i.toNat T
    have g0 := hKo.1
    have ex : M 274 (0 + x) = tW (itF K i.toNat T) x := by rw [Int.zero_add]; exact (hR1.2.2.2.2.2.2 x (Or.inl hx)).2.1
    refine k_iload i_174_38 rfl ?_
    refine k_sipush i_174_40 (by decide) ?_
    refine k_icmp_ge (t := 69) i_174_43 rfl (fun h43 => ?_) (fun h43 => ?_)
    · refine k_aload_n i_174_69 rfl ?_
      refine k_getR (r := 274) i_174_70 o_174 rfl (by decide) (s_273) rfl ?_
      refine k_iconst i_174_73 (by decide) ?_
      refine k_iload_n i_174_74 rfl ?_
      refine k_iadd i_174_75 (by omega) ?_
      refine k_iald i_174_76 (s_274) (by omega) ?_
      refine k_iload_n i_174_77 rfl ?_
      refine k_icmp_ne (t := 85) i_174_78 rfl (fun h78 => ?_) (fun h78 => ?_)
      · refine k_iconst i_174_85 (by decide) ?_
        refine k_istore (ls' := [some (vR (some 273)), some (vI x), some (vI w), some (vI wh), some (vI i), some (vI 0)]) i_174_86 rfl ?_
        refine k_aload_n i_174_88 rfl ?_
        refine k_invV (n := 0) (o' := 8) (av := [vR (some 273)]) (rest := []) (el := [some (vR (some 273)), none]) i_174_89 o_174 rfl v_166 rfl (s_273) rfl rfl rfl rfl rfl ?_
        refine c_166 ?_
        show Ok _ 174 92 [some (vR (some 273)), some (vI x), some (vI w), some (vI wh), some (vI i), some (vI 0)] [] (cpn M 278 274 232) _
        refine k_iload i_174_92 rfl ?_
        refine k_if_eq (t := 102) i_174_94 rfl (fun h94 => ?_) (fun h94 => absurd h94 (by decide))
        refine k_ldc (z := -1000000) i_174_102 o_174 rfl (by decide) ?_
        refine k_iret i_174_104 rfl ?_
        refine kk _ _ ?_ ((Wk.st M0).bk ho.w)
        refine Or.inr ⟨rfl, fun j hj2 => ?_⟩
        show ¬ tW (itF K j T) x = wh
        by_cases e : (j : Int) < i
        · have := hj j e
          omega
        · by_cases e2 : 2 ≤ tW (itF K i.toNat T) x
          · have e3 := it_w hKo hx (j - i.toNat) hU (by omega) e2
            rw [← it_add, show i.toNat + (j - i.toNat) = j by omega] at e3
            omega
          · rw [show j = i.toNat by omega]
            omega
      · refine k_iconst i_174_81 (by decide) ?_
        refine k_goto (t := 86) i_174_82 rfl ?_
        refine k_istore (ls' := [some (vR (some 273)), some (vI x), some (vI w), some (vI wh), some (vI i), some (vI 1)]) i_174_86 rfl ?_
        refine k_aload_n i_174_88 rfl ?_
        refine k_invV (n := 0) (o' := 8) (av := [vR (some 273)]) (rest := []) (el := [some (vR (some 273)), none]) i_174_89 o_174 rfl v_166 rfl (s_273) rfl rfl rfl rfl rfl ?_
        refine c_166 ?_
        show Ok _ 174 92 [some (vR (some 273)), some (vI x), some (vI w), some (vI wh), some (vI i), some (vI 1)] [] (cpn M 278 274 232) _
        refine k_iload i_174_92 rfl ?_
        refine k_if_eq (t := 102) i_174_94 rfl (fun h94 => absurd h94 (by decide)) (fun h94 => ?_)
        refine k_iload i_174_97 rfl ?_
        refine k_goto (t := 104) i_174_99 rfl ?_
        refine k_iret i_174_104 rfl ?_
        refine kk _ _ ?_ ((Wk.st M0).bk ho.w)
        refine Or.inl ⟨i.toNat, by omega, by omega, ?_, fun j hj2 => ?_⟩
        · show tW (itF K i.toNat T) x = wh
          omega
        · have := hj j (by omega)
          show ¬ tW (itF K j T) x = wh
          omega
    · refine k_aload_n i_174_46 rfl ?_
      refine k_getR (r := 274) i_174_47 o_174 rfl (by decide) (s_273) rfl ?_
      refine k_iconst i_174_50 (by decide) ?_
      refine k_iload_n i_174_51 rfl ?_
      refine k_iadd i_174_52 (by omega) ?_
      refine k_iald i_174_53 (s_274) (by omega) ?_
      refine k_iconst i_174_54 (by decide) ?_
      refine k_icmp_ge (t := 69) i_174_55 rfl (fun h55 => ?_) (fun h55 => ?_)
      · refine k_aload_n i_174_69 rfl ?_
        refine k_getR (r := 274) i_174_70 o_174 rfl (by decide) (s_273) rfl ?_
        refine k_iconst i_174_73 (by decide) ?_
        refine k_iload_n i_174_74 rfl ?_
        refine k_iadd i_174_75 (by omega) ?_
        refine k_iald i_174_76 (s_274) (by omega) ?_
        refine k_iload_n i_174_77 rfl ?_
        refine k_icmp_ne (t := 85) i_174_78 rfl (fun h78 => ?_) (fun h78 => ?_)
        · refine k_iconst i_174_85 (by decide) ?_
          refine k_istore (ls' := [some (vR (some 273)), some (vI x), some (vI w), some (vI wh), some (vI i), some (vI 0)]) i_174_86 rfl ?_
          refine k_aload_n i_174_88 rfl ?_
          refine k_invV (n := 0) (o' := 8) (av := [vR (some 273)]) (rest := []) (el := [some (vR (some 273)), none]) i_174_89 o_174 rfl v_166 rfl (s_273) rfl rfl rfl rfl rfl ?_
          refine c_166 ?_
          show Ok _ 174 92 [some (vR (some 273)), some (vI x), some (vI w), some (vI wh), some (vI i), some (vI 0)] [] (cpn M 278 274 232) _
          refine k_iload i_174_92 rfl ?_
          refine k_if_eq (t := 102) i_174_94 rfl (fun h94 => ?_) (fun h94 => absurd h94 (by decide))
          refine k_ldc (z := -1000000) i_174_102 o_174 rfl (by decide) ?_
          refine k_iret i_174_104 rfl ?_
          refine kk _ _ ?_ ((Wk.st M0).bk ho.w)
          refine Or.inr ⟨rfl, fun j hj2 => ?_⟩
          show ¬ tW (itF K j T) x = wh
          by_cases e : (j : Int) < i
          · have := hj j e
            omega
          · by_cases e2 : 2 ≤ tW (itF K i.toNat T) x
            · have e3 := it_w hKo hx (j - i.toNat) hU (by omega) e2
              rw [← it_add, show i.toNat + (j - i.toNat) = j by omega] at e3
              omega
            · rw [show j = i.toNat by omega]
              omega
        · refine k_iconst i_174_81 (by decide) ?_
          refine k_goto (t := 86) i_174_82 rfl ?_
          refine k_istore (ls' := [some (vR (some 273)), some (vI x), some (vI w), some (vI wh), some (vI i), some (vI 1)]) i_174_86 rfl ?_
          refine k_aload_n i_174_88 rfl ?_
          refine k_invV (n := 0) (o' := 8) (av := [vR (some 273)]) (rest := []) (el := [some (vR (some 273)), none]) i_174_89 o_174 rfl v_166 rfl (s_273) rfl rfl rfl rfl rfl ?_
          refine c_166 ?_
          show Ok _ 174 92 [some (vR (some 273)), some (vI x), some (vI w), some (vI wh), some (vI i), some (vI 1)] [] (cpn M 278 274 232) _
          refine k_iload i_174_92 rfl ?_
          refine k_if_eq (t := 102) i_174_94 rfl (fun h94 => absurd h94 (by decide)) (fun h94 => ?_)
          refine k_iload i_174_97 rfl ?_
          refine k_goto (t := 104) i_174_99 rfl ?_
          refine k_iret i_174_104 rfl ?_
          refine kk _ _ ?_ ((Wk.st M0).bk ho.w)
          refine Or.inl ⟨i.toNat, by omega, by omega, ?_, fun j hj2 => ?_⟩
          · show tW (itF K i.toNat T) x = wh
            omega
          · have := hj j (by omega)
            show ¬ tW (itF K j T) x = wh
            omega
      · refine k_aload_n i_174_58 rfl ?_
        refine k_iconst i_174_59 (by decide) ?_
        refine k_invV (n := 1) (o' := 8) (av := [vR (some 273), vI 1]) (rest := []) (el := [some (vR (some 273)), some (vI 1), none]) i_174_60 o_174 rfl v_153 rfl (s_273) rfl rfl rfl rfl rfl ?_
        refine c_153 hKo hK1 hR1 hU (by omega) (fun M2 hR2 ho2 => ?_)
        show Ok _ 174 63 [some (vR (some 273)), some (vI x), some (vI w), some (vI wh), some (vI i), none] [] (M2) _
        refine k_iinc (ls' := [some (vR (some 273)), some (vI x), some (vI w), some (vI wh), some (vI (i + 1)), none]) i_174_63 rfl (by omega) rfl ?_
        refine k_goto (t := 38) i_174_66 rfl ?_
        refine ih (i + 1) M2 (by omega) (fun j hj2 => ?_) ?_ (ho.tr ho2) (by omega)
        · by_cases e : (j : Int) < i
          · exact hj j e
          · rw [show j = i.toNat by omega]
            omega
        · rw [show (i + 1).toNat = i.toNat + 1 by omega, it_s]
          exact hR2

set_option maxRecDepth 100000 in
theorem tp_served {d : Nat} {M : Mem} {x w : Int} (h : Rel M)  : Two (d + 24) 103 174 [some (vR (some 0)), some (vI x), some (vI w)] [some (vR (some 273)), some (vI x), some (vI w), none, none, none] M := by
  obtain ⟨K, T, L, hW⟩ := h.2.2.2.2.1
  obtain ⟨hE, hKo, hS, hK12, hR, hKR, hRR, hA, hAR, hL, hti⟩ := id hW
  have hT := hS.1
  have hK : RepK M 20 K 0 := hK12.mono (by decide)
  have g0 := hKo.1
  have u3 := hT.2.2.1
  have mi9 := hS.2.2
  have k1 : M 20 7 = kPe K := hK.1
  have k2 : M 20 6 = kWt K := hK.2.1
  have q1 : M 274 229 = kPe K := hKR.1
  have q2 : M 274 230 = kPe K - kWt K := hKR.2.1
  obtain ⟨x6, x7, x8, x9, x10, xq, xp⟩ := id hR
  obtain ⟨y6, y7, y8, y9, y10, yq, yp⟩ := id hRR
  have hl28 := q28 hKo hT
  have hl16 : ((tQ T).length : Int) ≤ 16 := by omega
  show Ok (d + 24) 103 0 [some (vR (some 0)), some (vI x), some (vI w)] [] M _
  refine k_aload_n i_103_0 rfl ?_
  refine k_iload_n i_103_1 rfl ?_
  refine k_invV (n := 1) (o' := 7) (av := [vR (some 0), vI x]) (rest := []) (el := [some (vR (some 0)), some (vI x)]) i_103_2 o_103 rfl v_118 rfl (s_0) rfl rfl rfl rfl rfl ?_
  refine c_118 (fun v2 hv2 => ?_)
  show Ok _ 103 5 [some (vR (some 0)), some (vI x), some (vI w)] [vI v2] (M) _
  refine k_if_eq (t := 16) i_103_5 rfl (fun h5 => ?_) (fun h5 => ?_)
  · refine k_ldc (z := -1000001) i_103_16 o_103 rfl (by decide) ?_
    refine k_iret i_103_18 rfl ?_
    show Ok (d + 24) 174 0 [some (vR (some 273)), some (vI x), some (vI w), none, none, none] [] M _
    refine k_aload_n i_174_0 rfl ?_
    refine k_iload_n i_174_1 rfl ?_
    refine k_invV (n := 1) (o' := 8) (av := [vR (some 273), vI x]) (rest := []) (el := [some (vR (some 273)), some (vI x)]) i_174_2 o_174 rfl v_143 rfl (s_273) rfl rfl rfl rfl rfl ?_
    refine c_143 (by omega) (fun v2 hv2 => ?_)
    show Ok _ 174 5 [some (vR (some 273)), some (vI x), some (vI w), none, none, none] [vI v2] (M) _
    refine k_if_eq (t := 18) i_174_5 rfl (fun h5 => ?_) (fun h5 => ?_)
    · refine k_ldc (z := -1000001) i_174_18 o_174 rfl (by decide) ?_
      refine k_iret i_174_20 rfl ?_
      refine ⟨_, rfl, ?_, h⟩
      first
        | exact congrArg (fun z => some (vI z)) (by omega)
        | (exfalso; omega)
    · refine k_iload_n i_174_8 rfl ?_
      refine k_i2l i_174_9 ?_
      refine k_lconst (z := 0) i_174_10 rfl ?_
      refine k_lconst (z := 1) i_174_11 rfl ?_
      refine k_invS (n := 3) (av := [vL w, vL 0, vL 1]) (rest := []) (el := [some (vL w), none, some (vL 0), none, some (vL 1), none]) i_174_12 o_174 rfl v_122 rfl rfl rfl rfl rfl rfl ?_
      refine c_122 (fun v12 hv12 => ?_)
      show Ok _ 174 15 [some (vR (some 273)), some (vI x), some (vI w), none, none, none] [vI v12] (M) _
      refine k_if_ne (t := 21) i_174_15 rfl (fun h15 => ?_) (fun h15 => ?_)
      · refine k_iload_n i_174_21 rfl ?_
        refine k_if_ne (t := 29) i_174_22 rfl (fun h22 => ?_) (fun h22 => ?_)
        · refine k_iconst i_174_29 (by decide) ?_
          refine k_istore_n (ls' := [some (vR (some 273)), some (vI x), some (vI w), some (vI 3), none, none]) i_174_30 rfl ?_
          refine k_iconst i_174_31 (by decide) ?_
          refine k_istore (ls' := [some (vR (some 273)), some (vI x), some (vI w), some (vI 3), some (vI 0), none]) i_174_32 rfl ?_
          refine k_aload_n i_174_34 rfl ?_
          refine k_invV (n := 0) (o' := 8) (av := [vR (some 273)]) (rest := []) (el := [some (vR (some 273)), none]) i_174_35 o_174 rfl v_165 rfl (s_273) rfl rfl rfl rfl rfl ?_
          refine c_165 ?_
          show Ok _ 174 38 [some (vR (some 273)), some (vI x), some (vI w), some (vI 3), some (vI 0), none] [] (cpn M 274 278 232) _
          exfalso
          omega
        · refine k_iconst i_174_25 (by decide) ?_
          refine k_goto (t := 30) i_174_26 rfl ?_
          refine k_istore_n (ls' := [some (vR (some 273)), some (vI x), some (vI w), some (vI 2), none, none]) i_174_30 rfl ?_
          refine k_iconst i_174_31 (by decide) ?_
          refine k_istore (ls' := [some (vR (some 273)), some (vI x), some (vI w), some (vI 2), some (vI 0), none]) i_174_32 rfl ?_
          refine k_aload_n i_174_34 rfl ?_
          refine k_invV (n := 0) (o' := 8) (av := [vR (some 273)]) (rest := []) (el := [some (vR (some 273)), none]) i_174_35 o_174 rfl v_165 rfl (s_273) rfl rfl rfl rfl rfl ?_
          refine c_165 ?_
          show Ok _ 174 38 [some (vR (some 273)), some (vI x), some (vI w), some (vI 2), some (vI 0), none] [] (cpn M 274 278 232) _
          exfalso
          omega
      · refine k_ldc (z := -1000001) i_174_18 o_174 rfl (by decide) ?_
        refine k_iret i_174_20 rfl ?_
        refine ⟨_, rfl, ?_, h⟩
        first
          | exact congrArg (fun z => some (vI z)) (by omega)
          | (exfalso; omega)
  · refine k_iload_n i_103_8 rfl ?_
    refine k_iconst i_103_9 (by decide) ?_
    refine k_invS (n := 2) (av := [vI w, vI 1]) (rest := []) (el := [some (vI w), some (vI 1)]) i_103_10 o_103 rfl v_117 rfl rfl rfl rfl rfl rfl ?_
    refine c_117 (fun v10 hv10 => ?_)
    show Ok _ 103 13 [some (vR (some 0)), some (vI x), some (vI w)] [vI v10] (M) _
    refine k_if_ne (t := 19) i_103_13 rfl (fun h13 => ?_) (fun h13 => ?_)
    · refine k_aload_n i_103_19 rfl ?_
      refine k_getR (r := 177) i_103_20 o_103 rfl (by decide) (s_0) rfl ?_
      refine k_iload_n i_103_23 rfl ?_
      refine k_iload_n i_103_24 rfl ?_
      refine k_if_ne (t := 32) i_103_25 rfl (fun h25 => ?_) (fun h25 => ?_)
      · refine k_iconst i_103_32 (by decide) ?_
        refine k_invV (n := 2) (o' := 2) (av := [vR (some 177), vI x, vI 3]) (rest := []) (el := [some (vR (some 177)), some (vI x), some (vI 3)]) i_103_33 o_103 rfl v_19 rfl (s_177) rfl rfl rfl rfl rfl ?_
        refine c_19 hKo hK hT hR (by omega) (Or.inl (by omega)) (fun vA M1 hvA ho1 => ?_)
        show Ok _ 103 36 [some (vR (some 0)), some (vI x), some (vI w)] [vI vA] (M1) _
        refine k_iret i_103_36 rfl ?_
        show Ok (d + 24) 174 0 [some (vR (some 273)), some (vI x), some (vI w), none, none, none] [] M1 _
        have hRR1 : RepR M1 K 0 T := hRR.off (fun j => ho1 274 j (by omega))
        have hKR1 : RepKR M1 K 0 := hKR.fr (fun j => ho1 274 j (by omega))
        have z1 : M1 274 231 = M 274 231 := ho1 _ _ (by omega)
        have z2 : M1 274 229 = kPe K := hKR1.1
        refine k_aload_n i_174_0 rfl ?_
        refine k_iload_n i_174_1 rfl ?_
        refine k_invV (n := 1) (o' := 8) (av := [vR (some 273), vI x]) (rest := []) (el := [some (vR (some 273)), some (vI x)]) i_174_2 o_174 rfl v_143 rfl (s_273) rfl rfl rfl rfl rfl ?_
        refine c_143 (by omega) (fun v2 hv2 => ?_)
        show Ok _ 174 5 [some (vR (some 273)), some (vI x), some (vI w), none, none, none] [vI v2] (M1) _
        refine k_if_eq (t := 18) i_174_5 rfl (fun h5 => ?_) (fun h5 => ?_)
        · refine k_ldc (z := -1000001) i_174_18 o_174 rfl (by decide) ?_
          refine k_iret i_174_20 rfl ?_
          exfalso
          omega
        · refine k_iload_n i_174_8 rfl ?_
          refine k_i2l i_174_9 ?_
          refine k_lconst (z := 0) i_174_10 rfl ?_
          refine k_lconst (z := 1) i_174_11 rfl ?_
          refine k_invS (n := 3) (av := [vL w, vL 0, vL 1]) (rest := []) (el := [some (vL w), none, some (vL 0), none, some (vL 1), none]) i_174_12 o_174 rfl v_122 rfl rfl rfl rfl rfl rfl ?_
          refine c_122 (fun v12 hv12 => ?_)
          show Ok _ 174 15 [some (vR (some 273)), some (vI x), some (vI w), none, none, none] [vI v12] (M1) _
          refine k_if_ne (t := 21) i_174_15 rfl (fun h15 => ?_) (fun h15 => ?_)
          · refine k_iload_n i_174_21 rfl ?_
            refine k_if_ne (t := 29) i_174_22 rfl (fun h22 => ?_) (fun h22 => ?_)
            · refine k_iconst i_174_29 (by decide) ?_
              refine k_istore_n (ls' := [some (vR (some 273)), some (vI x), some (vI w), some (vI 3), none, none]) i_174_30 rfl ?_
              refine k_iconst i_174_31 (by decide) ?_
              refine k_istore (ls' := [some (vR (some 273)), some (vI x), some (vI w), some (vI 3), some (vI 0), none]) i_174_32 rfl ?_
              refine k_aload_n i_174_34 rfl ?_
              refine k_invV (n := 0) (o' := 8) (av := [vR (some 273)]) (rest := []) (el := [some (vR (some 273)), none]) i_174_35 o_174 rfl v_165 rfl (s_273) rfl rfl rfl rfl rfl ?_
              refine c_165 ?_
              show Ok _ 174 38 [some (vR (some 273)), some (vI x), some (vI w), some (vI 3), some (vI 0), none] [] (cpn M1 274 278 232) _
              refine l_174 (M0 := M1) hKo hKR1 hT (by omega) (by omega) (by omega) (fun v2 M2 hv2 hw => ?_) 201 0 _ (by omega) (fun j hj => by omega) ((Wk.st M1).r hRR1) (OutR.rf _) (by omega)
              first
                | (refine ⟨_, rfl, ?_, h.scr (fun b j b0 b1 b2 b3 b4 => (hw.1 b j b1 b3 b4).trans (ho1 b j (by omega)))⟩
                   refine congrArg (fun z => some (vI z)) ?_
                   exact Fst.uq hv2 hvA (fun n _ => Iff.rfl))
                | (exfalso; omega)
            · refine k_iconst i_174_25 (by decide) ?_
              refine k_goto (t := 30) i_174_26 rfl ?_
              refine k_istore_n (ls' := [some (vR (some 273)), some (vI x), some (vI w), some (vI 2), none, none]) i_174_30 rfl ?_
              refine k_iconst i_174_31 (by decide) ?_
              refine k_istore (ls' := [some (vR (some 273)), some (vI x), some (vI w), some (vI 2), some (vI 0), none]) i_174_32 rfl ?_
              refine k_aload_n i_174_34 rfl ?_
              refine k_invV (n := 0) (o' := 8) (av := [vR (some 273)]) (rest := []) (el := [some (vR (some 273)), none]) i_174_35 o_174 rfl v_165 rfl (s_273) rfl rfl rfl rfl rfl ?_
              refine c_165 ?_
              show Ok _ 174 38 [some (vR (some 273)), some (vI x), some (vI w), some (vI 2), some (vI 0), none] [] (cpn M1 274 278 232) _
              refine l_174 (M0 := M1) hKo hKR1 hT (by omega) (by omega) (by omega) (fun v2 M2 hv2 hw => ?_) 201 0 _ (by omega) (fun j hj => by omega) ((Wk.st M1).r hRR1) (OutR.rf _) (by omega)
              first
                | (refine ⟨_, rfl, ?_, h.scr (fun b j b0 b1 b2 b3 b4 => (hw.1 b j b1 b3 b4).trans (ho1 b j (by omega)))⟩
                   refine congrArg (fun z => some (vI z)) ?_
                   exact Fst.uq hv2 hvA (fun n _ => Iff.rfl))
                | (exfalso; omega)
          · refine k_ldc (z := -1000001) i_174_18 o_174 rfl (by decide) ?_
            refine k_iret i_174_20 rfl ?_
            exfalso
            omega
      · refine k_iconst i_103_28 (by decide) ?_
        refine k_goto (t := 33) i_103_29 rfl ?_
        refine k_invV (n := 2) (o' := 2) (av := [vR (some 177), vI x, vI 2]) (rest := []) (el := [some (vR (some 177)), some (vI x), some (vI 2)]) i_103_33 o_103 rfl v_19 rfl (s_177) rfl rfl rfl rfl rfl ?_
        refine c_19 hKo hK hT hR (by omega) (Or.inl (by omega)) (fun vA M1 hvA ho1 => ?_)
        show Ok _ 103 36 [some (vR (some 0)), some (vI x), some (vI w)] [vI vA] (M1) _
        refine k_iret i_103_36 rfl ?_
        show Ok (d + 24) 174 0 [some (vR (some 273)), some (vI x), some (vI w), none, none, none] [] M1 _
        have hRR1 : RepR M1 K 0 T := hRR.off (fun j => ho1 274 j (by omega))
        have hKR1 : RepKR M1 K 0 := hKR.fr (fun j => ho1 274 j (by omega))
        have z1 : M1 274 231 = M 274 231 := ho1 _ _ (by omega)
        have z2 : M1 274 229 = kPe K := hKR1.1
        refine k_aload_n i_174_0 rfl ?_
        refine k_iload_n i_174_1 rfl ?_
        refine k_invV (n := 1) (o' := 8) (av := [vR (some 273), vI x]) (rest := []) (el := [some (vR (some 273)), some (vI x)]) i_174_2 o_174 rfl v_143 rfl (s_273) rfl rfl rfl rfl rfl ?_
        refine c_143 (by omega) (fun v2 hv2 => ?_)
        show Ok _ 174 5 [some (vR (some 273)), some (vI x), some (vI w), none, none, none] [vI v2] (M1) _
        refine k_if_eq (t := 18) i_174_5 rfl (fun h5 => ?_) (fun h5 => ?_)
        · refine k_ldc (z := -1000001) i_174_18 o_174 rfl (by decide) ?_
          refine k_iret i_174_20 rfl ?_
          exfalso
          omega
        · refine k_iload_n i_174_8 rfl ?_
          refine k_i2l i_174_9 ?_
          refine k_lconst (z := 0) i_174_10 rfl ?_
          refine k_lconst (z := 1) i_174_11 rfl ?_
          refine k_invS (n := 3) (av := [vL w, vL 0, vL 1]) (rest := []) (el := [some (vL w), none, some (vL 0), none, some (vL 1), none]) i_174_12 o_174 rfl v_122 rfl rfl rfl rfl rfl rfl ?_
          refine c_122 (fun v12 hv12 => ?_)
          show Ok _ 174 15 [some (vR (some 273)), some (vI x), some (vI w), none, none, none] [vI v12] (M1) _
          refine k_if_ne (t := 21) i_174_15 rfl (fun h15 => ?_) (fun h15 => ?_)
          · refine k_iload_n i_174_21 rfl ?_
            refine k_if_ne (t := 29) i_174_22 rfl (fun h22 => ?_) (fun h22 => ?_)
            · refine k_iconst i_174_29 (by decide) ?_
              refine k_istore_n (ls' := [some (vR (some 273)), some (vI x), some (vI w), some (vI 3), none, none]) i_174_30 rfl ?_
              refine k_iconst i_174_31 (by decide) ?_
              refine k_istore (ls' := [some (vR (some 273)), some (vI x), some (vI w), some (vI 3), some (vI 0), none]) i_174_32 rfl ?_
              refine k_aload_n i_174_34 rfl ?_
              refine k_invV (n := 0) (o' := 8) (av := [vR (some 273)]) (rest := []) (el := [some (vR (some 273)), none]) i_174_35 o_174 rfl v_165 rfl (s_273) rfl rfl rfl rfl rfl ?_
              refine c_165 ?_
              show Ok _ 174 38 [some (vR (some 273)), some (vI x), some (vI w), some (vI 3), some (vI 0), none] [] (cpn M1 274 278 232) _
              refine l_174 (M0 := M1) hKo hKR1 hT (by omega) (by omega) (by omega) (fun v2 M2 hv2 hw => ?_) 201 0 _ (by omega) (fun j hj => by omega) ((Wk.st M1).r hRR1) (OutR.rf _) (by omega)
              first
                | (refine ⟨_, rfl, ?_, h.scr (fun b j b0 b1 b2 b3 b4 => (hw.1 b j b1 b3 b4).trans (ho1 b j (by omega)))⟩
                   refine congrArg (fun z => some (vI z)) ?_
                   exact Fst.uq hv2 hvA (fun n _ => Iff.rfl))
                | (exfalso; omega)
            · refine k_iconst i_174_25 (by decide) ?_
              refine k_goto (t := 30) i_174_26 rfl ?_
              refine k_istore_n (ls' := [some (vR (some 273)), some (vI x), some (vI w), some (vI 2), none, none]) i_174_30 rfl ?_
              refine k_iconst i_174_31 (by decide) ?_
              refine k_istore (ls' := [some (vR (some 273)), some (vI x), some (vI w), some (vI 2), some (vI 0), none]) i_174_32 rfl ?_
              refine k_aload_n i_174_34 rfl ?_
              refine k_invV (n := 0) (o' := 8) (av := [vR (some 273)]) (rest := []) (el := [some (vR (some 273)), none]) i_174_35 o_174 rfl v_165 rfl (s_273) rfl rfl rfl rfl rfl ?_
              refine c_165 ?_
              show Ok _ 174 38 [some (vR (some 273)), some (vI x), some (vI w), some (vI 2), some (vI 0), none] [] (cpn M1 274 278 232) _
              refine l_174 (M0 := M1) hKo hKR1 hT (by omega) (by omega) (by omega) (fun v2 M2 hv2 hw => ?_) 201 0 _ (by omega) (fun j hj => by omega) ((Wk.st M1).r hRR1) (OutR.rf _) (by omega)
              first
                | (refine ⟨_, rfl, ?_, h.scr (fun b j b0 b1 b2 b3 b4 => (hw.1 b j b1 b3 b4).trans (ho1 b j (by omega)))⟩
                   refine congrArg (fun z => some (vI z)) ?_
                   exact Fst.uq hv2 hvA (fun n _ => Iff.rfl))
                | (exfalso; omega)
          · refine k_ldc (z := -1000001) i_174_18 o_174 rfl (by decide) ?_
            refine k_iret i_174_20 rfl ?_
            exfalso
            omega
    · refine k_ldc (z := -1000001) i_103_16 o_103 rfl (by decide) ?_
      refine k_iret i_103_18 rfl ?_
      show Ok (d + 24) 174 0 [some (vR (some 273)), some (vI x), some (vI w), none, none, none] [] M _
      refine k_aload_n i_174_0 rfl ?_
      refine k_iload_n i_174_1 rfl ?_
      refine k_invV (n := 1) (o' := 8) (av := [vR (some 273), vI x]) (rest := []) (el := [some (vR (some 273)), some (vI x)]) i_174_2 o_174 rfl v_143 rfl (s_273) rfl rfl rfl rfl rfl ?_
      refine c_143 (by omega) (fun v2 hv2 => ?_)
      show Ok _ 174 5 [some (vR (some 273)), some (vI x), some (vI w), none, none, none] [vI v2] (M) _
      refine k_if_eq (t := 18) i_174_5 rfl (fun h5 => ?_) (fun h5 => ?_)
      · refine k_ldc (z := -1000001) i_174_18 o_174 rfl (by decide) ?_
        refine k_iret i_174_20 rfl ?_
        refine ⟨_, rfl, ?_, h⟩
        first
          | exact congrArg (fun z => some (vI z)) (by omega)
          | (exfalso; omega)
      · refine k_iload_n i_174_8 rfl ?_
        refine k_i2l i_174_9 ?_
        refine k_lconst (z := 0) i_174_10 rfl ?_
        refine k_lconst (z := 1) i_174_11 rfl ?_
        refine k_invS (n := 3) (av := [vL w, vL 0, vL 1]) (rest := []) (el := [some (vL w), none, some (vL 0), none, some (vL 1), none]) i_174_12 o_174 rfl v_122 rfl rfl rfl rfl rfl rfl ?_
        refine c_122 (fun v12 hv12 => ?_)
        show Ok _ 174 15 [some (vR (some 273)), some (vI x), some (vI w), none, none, none] [vI v12] (M) _
        refine k_if_ne (t := 21) i_174_15 rfl (fun h15 => ?_) (fun h15 => ?_)
        · refine k_iload_n i_174_21 rfl ?_
          refine k_if_ne (t := 29) i_174_22 rfl (fun h22 => ?_) (fun h22 => ?_)
          · refine k_iconst i_174_29 (by decide) ?_
            refine k_istore_n (ls' := [some (vR (some 273)), some (vI x), some (vI w), some (vI 3), none, none]) i_174_30 rfl ?_
            refine k_iconst i_174_31 (by decide) ?_
            refine k_istore (ls' := [some (vR (some 273)), some (vI x), some (vI w), some (vI 3), some (vI 0), none]) i_174_32 rfl ?_
            refine k_aload_n i_174_34 rfl ?_
            refine k_invV (n := 0) (o' := 8) (av := [vR (some 273)]) (rest := []) (el := [some (vR (some 273)), none]) i_174_35 o_174 rfl v_165 rfl (s_273) rfl rfl rfl rfl rfl ?_
            refine c_165 ?_
            show Ok _ 174 38 [some (vR (some 273)), some (vI x), some (vI w), some (vI 3), some (vI 0), none] [] (cpn M 274 278 232) _
            exfalso
            omega
          · refine k_iconst i_174_25 (by decide) ?_
            refine k_goto (t := 30) i_174_26 rfl ?_
            refine k_istore_n (ls' := [some (vR (some 273)), some (vI x), some (vI w), some (vI 2), none, none]) i_174_30 rfl ?_
            refine k_iconst i_174_31 (by decide) ?_
            refine k_istore (ls' := [some (vR (some 273)), some (vI x), some (vI w), some (vI 2), some (vI 0), none]) i_174_32 rfl ?_
            refine k_aload_n i_174_34 rfl ?_
            refine k_invV (n := 0) (o' := 8) (av := [vR (some 273)]) (rest := []) (el := [some (vR (some 273)), none]) i_174_35 o_174 rfl v_165 rfl (s_273) rfl rfl rfl rfl rfl ?_
            refine c_165 ?_
            show Ok _ 174 38 [some (vR (some 273)), some (vI x), some (vI w), some (vI 2), some (vI 0), none] [] (cpn M 274 278 232) _
            exfalso
            omega
        · refine k_ldc (z := -1000001) i_174_18 o_174 rfl (by decide) ?_
          refine k_iret i_174_20 rfl ?_
          refine ⟨_, rfl, ?_, h⟩
          first
            | exact congrArg (fun z => some (vI z)) (by omega)
            | (exfalso; omega)

set_option maxRecDepth 100000 in
theorem l_179 {d : Nat} {M0 : Mem} {Q : Option Vv → Mem → Prop} {K : Kt} {T : Tt} {x : Int} (hKo : KOk K 0) (hE : Elb K) (hKR : RepKR M0 K 0) (hRR : RepR M0 K 0 T) (hT : TOk K 0 T) (hmi : tMi T ≤ 1900) (hnx : kWt K ≤ tNx T) (kk : ∀ v M', Fst (fun n : Nat => x ≤ joinC K 8 (elbF T n)) 12 v → Wk M0 M' → Q (some (vI v)) M') : ∀ (f : Nat) (i : Int) (b : Int) (M : Mem), (-1 ≤ i ∧ i ≤ 12) → ((∃ n : Nat, (n : Int) ≤ 12 ∧ b = n ∧ (fun n : Nat => x ≤ joinC K 8 (elbF T n)) n ∧ ∀ j : Nat, i < (j : Int) → j < n → ¬ (fun n : Nat => x ≤ joinC K 8 (elbF T n)) j) ∨ (b = -1000000 ∧ ∀ j : Nat, i < (j : Int) → (j : Int) ≤ 12 → ¬ (fun n : Nat => x ≤ joinC K 8 (elbF T n)) j)) → (Wk M0 M) → (i + 1).toNat < f → Ok (d + 5) 179 35 [some (vR (some 273)), some (vI x), some (vI b), some (vI i)] [] M Q := by
  intro f
  induction f with
  | zero => intro i b M hi hb hw hf; exact absurd hf (Nat.not_lt_zero _)
  | succ f ih =>
    intro i b M hi hb hw hf
    have g0 := hKo.1
    have u3 := hT.2.2.1
    refine k_iload_n i_179_35 rfl ?_
    refine k_if_lt (t := 68) i_179_36 rfl (fun h36 => ?_) (fun h36 => ?_)
    · refine k_iload_n i_179_68 rfl ?_
      refine k_iret i_179_69 rfl ?_
      refine kk _ _ ?_ hw
      rcases hb with ⟨n, n1, n2, n3, n4⟩ | ⟨n1, n2⟩
      · exact Or.inl ⟨n, n1, n2, n3, fun j hj => n4 j (by omega) hj⟩
      · exact Or.inr ⟨n1, fun j hj => n2 j (by omega) hj⟩
    · have hTe : TOk K i (elbF T i.toNat) := by
        have q := hT.elbF (hE.kok hKo (by decide)) i.toNat (by omega)
        rw [show ((i.toNat : Nat) : Int) = i by omega] at q
        exact q
      refine k_aload_n i_179_39 rfl ?_
      refine k_iload_n i_179_40 rfl ?_
      refine k_invV (n := 1) (o' := 8) (av := [vR (some 273), vI i]) (rest := []) (el := [some (vR (some 273)), some (vI i), none, none]) i_179_41 o_179 rfl v_177 rfl (s_273) rfl rfl rfl rfl rfl ?_
      refine c_177 hKo hE hT (by omega) (hw.r hRR) (hw.k hKR) (fun M2 hR2 hK2 ho2 => ?_)
      show Ok _ 179 44 [some (vR (some 273)), some (vI x), some (vI b), some (vI i)] [] (M2) _
      refine k_aload_n i_179_44 rfl ?_
      refine k_invV (n := 0) (o' := 8) (av := [vR (some 273)]) (rest := []) (el := [some (vR (some 273)), none, none]) i_179_45 o_179 rfl v_178 rfl (s_273) rfl rfl rfl rfl rfl ?_
      refine c_178 (hE.kok hKo (by omega)) hK2 hTe (by rw [(elb_mi T i.toNat).1]; omega) hR2 (fun v3 M3 hv3 ho3 => ?_)
      show Ok _ 179 48 [some (vR (some 273)), some (vI x), some (vI b), some (vI i)] [vI v3] (M3) _
      have e8 : v3 = joinC K 8 (elbF T i.toNat) := by
        rw [hv3]
        exact joinC_m _ _ _ (by rw [(elb_mi T i.toNat).2]; omega) (by rw [(elb_mi T i.toNat).2]; omega)
      refine k_iload_n i_179_48 rfl ?_
      refine k_icmp_lt (t := 56) i_179_49 rfl (fun h49 => ?_) (fun h49 => ?_)
      · refine k_iload_n i_179_56 rfl ?_
        refine k_istore_n (ls' := [some (vR (some 273)), some (vI x), some (vI b), some (vI i)]) i_179_57 rfl ?_
        refine k_aload_n i_179_58 rfl ?_
        refine k_invV (n := 0) (o' := 8) (av := [vR (some 273)]) (rest := []) (el := [some (vR (some 273)), none]) i_179_59 o_179 rfl v_166 rfl (s_273) rfl rfl rfl rfl rfl ?_
        refine c_166 ?_
        show Ok _ 179 62 [some (vR (some 273)), some (vI x), some (vI b), some (vI i)] [] (cpn M3 278 274 232) _
        refine k_iinc (ls' := [some (vR (some 273)), some (vI x), some (vI b), some (vI (i + (-1)))]) i_179_62 rfl (by omega) rfl ?_
        refine k_goto (t := 35) i_179_65 rfl ?_
        refine ih (i + -1) b _ (by omega) ?_ (hw.bk (ho2.tr ho3.w)) (by omega)
        rcases hb with ⟨n, n1, n2, n3, n4⟩ | ⟨n1, n2⟩
        · refine Or.inl ⟨n, by omega, n2, n3, fun j hj1 hj2 => ?_⟩
          by_cases e : (j : Int) = i
          · rw [show j = i.toNat by omega]
            show ¬ x ≤ joinC K 8 (elbF T i.toNat)
            omega
          · exact n4 j (by omega) hj2
        · refine Or.inr ⟨n1, fun j hj1 hj2 => ?_⟩
          by_cases e : (j : Int) = i
          · rw [show j = i.toNat by omega]
            show ¬ x ≤ joinC K 8 (elbF T i.toNat)
            omega
          · exact n2 j (by omega) hj2
      · refine k_iload_n i_179_52 rfl ?_
        refine k_goto (t := 57) i_179_53 rfl ?_
        refine k_istore_n (ls' := [some (vR (some 273)), some (vI x), some (vI i), some (vI i)]) i_179_57 rfl ?_
        refine k_aload_n i_179_58 rfl ?_
        refine k_invV (n := 0) (o' := 8) (av := [vR (some 273)]) (rest := []) (el := [some (vR (some 273)), none]) i_179_59 o_179 rfl v_166 rfl (s_273) rfl rfl rfl rfl rfl ?_
        refine c_166 ?_
        show Ok _ 179 62 [some (vR (some 273)), some (vI x), some (vI i), some (vI i)] [] (cpn M3 278 274 232) _
        refine k_iinc (ls' := [some (vR (some 273)), some (vI x), some (vI i), some (vI (i + (-1)))]) i_179_62 rfl (by omega) rfl ?_
        refine k_goto (t := 35) i_179_65 rfl ?_
        refine ih (i + -1) i _ (by omega) ?_ (hw.bk (ho2.tr ho3.w)) (by omega)
        refine Or.inl ⟨i.toNat, by omega, by omega, by show x ≤ joinC K 8 (elbF T i.toNat); omega, fun j hj => by omega⟩

set_option maxRecDepth 100000 in
theorem tp_elbows {d : Nat} {M : Mem} {x : Int} (h : Rel M)  : Two (d + 24) 105 179 [some (vR (some 0)), some (vI x)] [some (vR (some 273)), some (vI x), none, none] M := by
  obtain ⟨K, T, L, hW⟩ := h.2.2.2.2.1
  obtain ⟨hE, hKo, hS, hK12, hR, hKR, hRR, hA, hAR, hL, hti⟩ := id hW
  have hT := hS.1
  have hK : RepK M 20 K 0 := hK12.mono (by decide)
  have g0 := hKo.1
  have u3 := hT.2.2.1
  have mi9 := hS.2.2
  have k1 : M 20 7 = kPe K := hK.1
  have k2 : M 20 6 = kWt K := hK.2.1
  have q1 : M 274 229 = kPe K := hKR.1
  have q2 : M 274 230 = kPe K - kWt K := hKR.2.1
  obtain ⟨x6, x7, x8, x9, x10, xq, xp⟩ := id hR
  obtain ⟨y6, y7, y8, y9, y10, yq, yp⟩ := id hRR
  have hl28 := q28 hKo hT
  have hl16 : ((tQ T).length : Int) ≤ 16 := by omega
  show Ok (d + 24) 105 0 [some (vR (some 0)), some (vI x)] [] M _
  refine k_aload_n i_105_0 rfl ?_
  refine k_getI (kz := 11) i_105_1 o_105 rfl (by decide) (s_0) rfl ?_
  refine k_if_ne (t := 10) i_105_4 rfl (fun h4 => ?_) (fun h4 => ?_)
  · refine k_iload_n i_105_10 rfl ?_
    refine k_bipush i_105_11 (by decide) ?_
    refine k_invS (n := 2) (av := [vI x, vI 8]) (rest := []) (el := [some (vI x), some (vI 8)]) i_105_13 o_105 rfl v_117 rfl rfl rfl rfl rfl rfl ?_
    refine c_117 (fun v13 hv13 => ?_)
    show Ok _ 105 16 [some (vR (some 0)), some (vI x)] [vI v13] (M) _
    refine k_if_eq (t := 30) i_105_16 rfl (fun h16 => ?_) (fun h16 => ?_)
    · refine k_ldc (z := -1000001) i_105_30 o_105 rfl (by decide) ?_
      refine k_iret i_105_32 rfl ?_
      show Ok (d + 24) 179 0 [some (vR (some 273)), some (vI x), none, none] [] M _
      refine k_aload_n i_179_0 rfl ?_
      refine k_invV (n := 0) (o' := 8) (av := [vR (some 273)]) (rest := []) (el := [some (vR (some 273))]) i_179_1 o_179 rfl v_144 rfl (s_273) rfl rfl rfl rfl rfl ?_
      refine c_144 (fun v1 hv1 => ?_)
      show Ok _ 179 4 [some (vR (some 273)), some (vI x), none, none] [vI v1] (M) _
      refine k_if_ne (t := 10) i_179_4 rfl (fun h4 => ?_) (fun h4 => ?_)
      · refine k_iload_n i_179_10 rfl ?_
        refine k_i2l i_179_11 ?_
        refine k_lconst (z := 0) i_179_12 rfl ?_
        refine k_ldc2 (z := 8) i_179_13 o_179 rfl (by decide) ?_
        refine k_invS (n := 3) (av := [vL x, vL 0, vL 8]) (rest := []) (el := [some (vL x), none, some (vL 0), none, some (vL 8), none]) i_179_16 o_179 rfl v_122 rfl rfl rfl rfl rfl rfl ?_
        refine c_122 (fun v16 hv16 => ?_)
        show Ok _ 179 19 [some (vR (some 273)), some (vI x), none, none] [vI v16] (M) _
        refine k_if_ne (t := 25) i_179_19 rfl (fun h19 => ?_) (fun h19 => ?_)
        · refine k_ldc (z := -1000000) i_179_25 o_179 rfl (by decide) ?_
          refine k_istore_n (ls' := [some (vR (some 273)), some (vI x), some (vI (-1000000)), none]) i_179_27 rfl ?_
          refine k_aload_n i_179_28 rfl ?_
          refine k_invV (n := 0) (o' := 8) (av := [vR (some 273)]) (rest := []) (el := [some (vR (some 273)), none]) i_179_29 o_179 rfl v_165 rfl (s_273) rfl rfl rfl rfl rfl ?_
          refine c_165 ?_
          show Ok _ 179 32 [some (vR (some 273)), some (vI x), some (vI (-1000000)), none] [] (cpn M 274 278 232) _
          refine k_bipush i_179_32 (by decide) ?_
          refine k_istore_n (ls' := [some (vR (some 273)), some (vI x), some (vI (-1000000)), some (vI 12)]) i_179_34 rfl ?_
          exfalso
          omega
        · refine k_ldc (z := -1000001) i_179_22 o_179 rfl (by decide) ?_
          refine k_iret i_179_24 rfl ?_
          refine ⟨_, rfl, ?_, h⟩
          first
            | exact congrArg (fun z => some (vI z)) (by omega)
            | (exfalso; omega)
      · refine k_ldc (z := -1000002) i_179_7 o_179 rfl (by decide) ?_
        refine k_iret i_179_9 rfl ?_
        refine ⟨_, rfl, ?_, h⟩
        first
          | exact congrArg (fun z => some (vI z)) (by omega)
          | (exfalso; omega)
    · refine k_aload_n i_105_19 rfl ?_
      refine k_getR (r := 177) i_105_20 o_105 rfl (by decide) (s_0) rfl ?_
      refine k_iload_n i_105_23 rfl ?_
      refine k_invV (n := 1) (o' := 2) (av := [vR (some 177), vI x]) (rest := []) (el := [some (vR (some 177)), some (vI x), none]) i_105_24 o_105 rfl v_23 rfl (s_177) rfl rfl rfl rfl rfl ?_
      refine c_23 (hE.kok hKo (by decide)) hK12 hT hR (by omega) (fun vA M1 hvA ho1 => ?_)
      show Ok _ 105 27 [some (vR (some 0)), some (vI x)] [vI vA] (M1) _
      refine k_goto (t := 32) i_105_27 rfl ?_
      refine k_iret i_105_32 rfl ?_
      show Ok (d + 24) 179 0 [some (vR (some 273)), some (vI x), none, none] [] M1 _
      have hRR1 : RepR M1 K 0 T := hRR.off (fun j => ho1 274 j (by omega))
      have hKR1 : RepKR M1 K 0 := hKR.fr (fun j => ho1 274 j (by omega))
      have z1 : M1 274 231 = M 274 231 := ho1 _ _ (by omega)
      have z2 : M1 274 229 = kPe K := hKR1.1
      refine k_aload_n i_179_0 rfl ?_
      refine k_invV (n := 0) (o' := 8) (av := [vR (some 273)]) (rest := []) (el := [some (vR (some 273))]) i_179_1 o_179 rfl v_144 rfl (s_273) rfl rfl rfl rfl rfl ?_
      refine c_144 (fun v1 hv1 => ?_)
      show Ok _ 179 4 [some (vR (some 273)), some (vI x), none, none] [vI v1] (M1) _
      refine k_if_ne (t := 10) i_179_4 rfl (fun h4 => ?_) (fun h4 => ?_)
      · refine k_iload_n i_179_10 rfl ?_
        refine k_i2l i_179_11 ?_
        refine k_lconst (z := 0) i_179_12 rfl ?_
        refine k_ldc2 (z := 8) i_179_13 o_179 rfl (by decide) ?_
        refine k_invS (n := 3) (av := [vL x, vL 0, vL 8]) (rest := []) (el := [some (vL x), none, some (vL 0), none, some (vL 8), none]) i_179_16 o_179 rfl v_122 rfl rfl rfl rfl rfl rfl ?_
        refine c_122 (fun v16 hv16 => ?_)
        show Ok _ 179 19 [some (vR (some 273)), some (vI x), none, none] [vI v16] (M1) _
        refine k_if_ne (t := 25) i_179_19 rfl (fun h19 => ?_) (fun h19 => ?_)
        · refine k_ldc (z := -1000000) i_179_25 o_179 rfl (by decide) ?_
          refine k_istore_n (ls' := [some (vR (some 273)), some (vI x), some (vI (-1000000)), none]) i_179_27 rfl ?_
          refine k_aload_n i_179_28 rfl ?_
          refine k_invV (n := 0) (o' := 8) (av := [vR (some 273)]) (rest := []) (el := [some (vR (some 273)), none]) i_179_29 o_179 rfl v_165 rfl (s_273) rfl rfl rfl rfl rfl ?_
          refine c_165 ?_
          show Ok _ 179 32 [some (vR (some 273)), some (vI x), some (vI (-1000000)), none] [] (cpn M1 274 278 232) _
          refine k_bipush i_179_32 (by decide) ?_
          refine k_istore_n (ls' := [some (vR (some 273)), some (vI x), some (vI (-1000000)), some (vI 12)]) i_179_34 rfl ?_
          refine l_179 (M0 := M1) hKo hE hKR1 hRR1 hT (by omega) hS.2.1 (fun v2 M2 hv2 hw => ?_) 14 12 (-1000000) _ (by omega) (Or.inr ⟨rfl, fun j hj1 hj2 => by omega⟩) (Wk.st M1) (by omega)
          refine ⟨_, rfl, ?_, h.scr (fun b j b0 b1 b2 b3 b4 => (hw.1 b j b1 b3 b4).trans (ho1 b j (by omega)))⟩
          refine congrArg (fun z => some (vI z)) ?_
          exact Fst.uq hv2 hvA (fun n _ => Iff.rfl)
        · refine k_ldc (z := -1000001) i_179_22 o_179 rfl (by decide) ?_
          refine k_iret i_179_24 rfl ?_
          exfalso
          omega
      · refine k_ldc (z := -1000002) i_179_7 o_179 rfl (by decide) ?_
        refine k_iret i_179_9 rfl ?_
        exfalso
        omega
  · refine k_ldc (z := -1000002) i_105_7 o_105 rfl (by decide) ?_
    refine k_iret i_105_9 rfl ?_
    show Ok (d + 24) 179 0 [some (vR (some 273)), some (vI x), none, none] [] M _
    refine k_aload_n i_179_0 rfl ?_
    refine k_invV (n := 0) (o' := 8) (av := [vR (some 273)]) (rest := []) (el := [some (vR (some 273))]) i_179_1 o_179 rfl v_144 rfl (s_273) rfl rfl rfl rfl rfl ?_
    refine c_144 (fun v1 hv1 => ?_)
    show Ok _ 179 4 [some (vR (some 273)), some (vI x), none, none] [vI v1] (M) _
    refine k_if_ne (t := 10) i_179_4 rfl (fun h4 => ?_) (fun h4 => ?_)
    · refine k_iload_n i_179_10 rfl ?_
      refine k_i2l i_179_11 ?_
      refine k_lconst (z := 0) i_179_12 rfl ?_
      refine k_ldc2 (z := 8) i_179_13 o_179 rfl (by decide) ?_
      refine k_invS (n := 3) (av := [vL x, vL 0, vL 8]) (rest := []) (el := [some (vL x), none, some (vL 0), none, some (vL 8), none]) i_179_16 o_179 rfl v_122 rfl rfl rfl rfl rfl rfl ?_
      refine c_122 (fun v16 hv16 => ?_)
      show Ok _ 179 19 [some (vR (some 273)), some (vI x), none, none] [vI v16] (M) _
      refine k_if_ne (t := 25) i_179_19 rfl (fun h19 => ?_) (fun h19 => ?_)
      · refine k_ldc (z := -1000000) i_179_25 o_179 rfl (by decide) ?_
        refine k_istore_n (ls' := [some (vR (some 273)), some (vI x), some (vI (-1000000)), none]) i_179_27 rfl ?_
        refine k_aload_n i_179_28 rfl ?_
        refine k_invV (n := 0) (o' := 8) (av := [vR (some 273)]) (rest := []) (el := [some (vR (some 273)), none]) i_179_29 o_179 rfl v_165 rfl (s_273) rfl rfl rfl rfl rfl ?_
        refine c_165 ?_
        show Ok _ 179 32 [some (vR (some 273)), some (vI x), some (vI (-1000000)), none] [] (cpn M 274 278 232) _
        refine k_bipush i_179_32 (by decide) ?_
        refine k_istore_n (ls' := [some (vR (some 273)), some (vI x), some (vI (-1000000)), some (vI 12)]) i_179_34 rfl ?_
        exfalso
        omega
      · refine k_ldc (z := -1000001) i_179_22 o_179 rfl (by decide) ?_
        refine k_iret i_179_24 rfl ?_
        refine ⟨_, rfl, ?_, h⟩
        first
          | exact congrArg (fun z => some (vI z)) (by omega)
          | (exfalso; omega)
    · refine k_ldc (z := -1000002) i_179_7 o_179 rfl (by decide) ?_
      refine k_iret i_179_9 rfl ?_
      refine ⟨_, rfl, ?_, h⟩
      first
        | exact congrArg (fun z => some (vI z)) (by omega)
        | (exfalso; omega)
