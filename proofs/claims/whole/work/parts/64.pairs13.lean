set_option maxRecDepth 100000 in
theorem tp_say {d : Nat} {M : Mem} {i b : Int} (h : Rel M)  : Two (d + 24) 93 158 [some (vR (some 0)), some (vI i), some (vI b), none] [some (vR (some 273)), some (vI i), some (vI b), none] M := by
  obtain ⟨K, T, L, hW⟩ := h.2.2.2.2.1
  obtain ⟨hE, hKo, hS, hK12, hR, hKR, hRR, hA, hAR, hL, hti⟩ := id hW
  have hT := hS.1
  have hK : RepK M 20 K 0 := hK12.mono (by decide)
  have g0 := hKo.1
  have u3 := hT.2.2.1
  have mi9 := hS.2.2
  have k1 : M 20 7 = kPe K := hK.1
  have k2 : M 20 6 = kWt K := hK.2.1
  have q1 : M 274 229 = kPe K := hKR.1
  have q2 : M 274 230 = kPe K - kWt K := hKR.2.1
  obtain ⟨x6, x7, x8, x9, x10, xq, xp⟩ := id hR
  obtain ⟨y6, y7, y8, y9, y10, yq, yp⟩ := id hRR
  have hl28 := q28 hKo hT
  have hl16 : ((tQ T).length : Int) ≤ 16 := by omega
  show Ok (d + 24) 93 0 [some (vR (some 0)), some (vI i), some (vI b), none] [] M _
  refine k_aload_n i_93_0 rfl ?_
  refine k_iload_n i_93_1 rfl ?_
  refine k_invV (n := 1) (o' := 7) (av := [vR (some 0), vI i]) (rest := []) (el := [some (vR (some 0)), some (vI i)]) i_93_2 o_93 rfl v_118 rfl (s_0) rfl rfl rfl rfl rfl ?_
  refine c_118 (fun v2 hv2 => ?_)
  show Ok _ 93 5 [some (vR (some 0)), some (vI i), some (vI b), none] [vI v2] (M) _
  refine k_if_eq (t := 16) i_93_5 rfl (fun h5 => ?_) (fun h5 => ?_)
  · refine k_ldc (z := -1000001) i_93_16 o_93 rfl (by decide) ?_
    refine k_iret i_93_18 rfl ?_
    show Ok (d + 24) 158 0 [some (vR (some 273)), some (vI i), some (vI b), none] [] M _
    refine k_aload_n i_158_0 rfl ?_
    refine k_iload_n i_158_1 rfl ?_
    refine k_invV (n := 1) (o' := 8) (av := [vR (some 273), vI i]) (rest := []) (el := [some (vR (some 273)), some (vI i)]) i_158_2 o_158 rfl v_143 rfl (s_273) rfl rfl rfl rfl rfl ?_
    refine c_143 (by omega) (fun v2 hv2 => ?_)
    show Ok _ 158 5 [some (vR (some 273)), some (vI i), some (vI b), none] [vI v2] (M) _
    refine k_if_eq (t := 20) i_158_5 rfl (fun h5 => ?_) (fun h5 => ?_)
    · refine k_ldc (z := -1000001) i_158_20 o_158 rfl (by decide) ?_
      refine k_iret i_158_22 rfl ?_
      refine ⟨_, rfl, ?_, h⟩
      first
        | exact congrArg (fun z => some (vI z)) (by omega)
        | (exfalso; omega)
        | (exfalso
           have e28 : M 28 i = tW T i := (xp i (Or.inl (by omega))).2.1
           omega)
    · refine k_iload_n i_158_8 rfl ?_
      refine k_i2l i_158_9 ?_
      refine k_lconst (z := 0) i_158_10 rfl ?_
      refine k_ldc2 (z := 3) i_158_11 o_158 rfl (by decide) ?_
      refine k_invS (n := 3) (av := [vL b, vL 0, vL 3]) (rest := []) (el := [some (vL b), none, some (vL 0), none, some (vL 3), none]) i_158_14 o_158 rfl v_122 rfl rfl rfl rfl rfl rfl ?_
      refine c_122 (fun v14 hv14 => ?_)
      show Ok _ 158 17 [some (vR (some 273)), some (vI i), some (vI b), none] [vI v14] (M) _
      refine k_if_ne (t := 23) i_158_17 rfl (fun h17 => ?_) (fun h17 => ?_)
      · refine k_aload_n i_158_23 rfl ?_
        refine k_iload_n i_158_24 rfl ?_
        refine k_invV (n := 1) (o' := 8) (av := [vR (some 273), vI i]) (rest := []) (el := [some (vR (some 273)), some (vI i)]) i_158_25 o_158 rfl v_156 rfl (s_273) rfl rfl rfl rfl rfl ?_
        refine c_156 hKo hKR hRR (Or.inl (by omega)) (fun vq hvq => ?_)
        show Ok _ 158 28 [some (vR (some 273)), some (vI i), some (vI b), none] [vI vq] (M) _
        refine k_if_ne (t := 34) i_158_28 rfl (fun h28 => ?_) (fun h28 => ?_)
        · refine k_aload_n i_158_34 rfl ?_
          refine k_invV (n := 0) (o' := 8) (av := [vR (some 273)]) (rest := []) (el := [some (vR (some 273)), none]) i_158_35 o_158 rfl v_154 rfl (s_273) rfl rfl rfl rfl rfl ?_
          refine c_154 hKo hRR hl16 (fun U hU => sane_len hKo (hL U hU)) hAR (fun M3 hA3 ho3 => ?_)
          show Ok _ 158 38 [some (vR (some 273)), some (vI i), some (vI b), none] [] (M3) _
          refine k_aload_n i_158_38 rfl ?_
          refine k_iload_n i_158_39 rfl ?_
          refine k_invV (n := 1) (o' := 8) (av := [vR (some 273), vI i]) (rest := []) (el := [some (vR (some 273)), some (vI i)]) i_158_40 o_158 rfl v_146 rfl (s_273) rfl rfl rfl rfl rfl ?_
          refine c_146 hKo (hKR.fr (fun j => ho3 274 j (by decide) (by omega))) (hRR.off (fun j => ho3 274 j (by decide) (by omega))) (Or.inl (by omega)) (fun vr hvr => ?_)
          show Ok _ 158 43 [some (vR (some 273)), some (vI i), some (vI b), none] [vI vr] (M3) _
          refine k_istore_n (ls' := [some (vR (some 273)), some (vI i), some (vI b), some (vI vr)]) i_158_43 rfl ?_
          refine k_aload_n i_158_44 rfl ?_
          refine k_iload_n i_158_45 rfl ?_
          refine k_iload_n i_158_46 rfl ?_
          refine k_invV (n := 2) (o' := 8) (av := [vR (some 273), vI i, vI b]) (rest := []) (el := [some (vR (some 273)), some (vI i), some (vI b)]) i_158_47 o_158 rfl v_157 rfl (s_273) rfl rfl rfl rfl rfl ?_
          refine c_157 hKo (hRR.off (fun j => ho3 274 j (by decide) (by omega))) hl28 (Or.inl (by omega)) (fun M4 hR4 ho4 => ?_)
          show Ok _ 158 50 [some (vR (some 273)), some (vI i), some (vI b), some (vI vr)] [] (M4) _
          refine k_iload_n i_158_50 rfl ?_
          refine k_iret i_158_51 rfl ?_
          first
            | (exfalso; omega)
            | (exfalso
               have e28 : M 28 i = tW T i := (xp i (Or.inl (by omega))).2.1
               omega)
        · refine k_ldc (z := -1000002) i_158_31 o_158 rfl (by decide) ?_
          refine k_iret i_158_33 rfl ?_
          refine ⟨_, rfl, ?_, h⟩
          first
            | exact congrArg (fun z => some (vI z)) (by omega)
            | (exfalso; omega)
            | (exfalso
               have e28 : M 28 i = tW T i := (xp i (Or.inl (by omega))).2.1
               omega)
      · refine k_ldc (z := -1000001) i_158_20 o_158 rfl (by decide) ?_
        refine k_iret i_158_22 rfl ?_
        refine ⟨_, rfl, ?_, h⟩
        first
          | exact congrArg (fun z => some (vI z)) (by omega)
          | (exfalso; omega)
          | (exfalso
             have e28 : M 28 i = tW T i := (xp i (Or.inl (by omega))).2.1
             omega)
  · refine k_iload_n i_93_8 rfl ?_
    refine k_iconst i_93_9 (by decide) ?_
    refine k_invS (n := 2) (av := [vI b, vI 3]) (rest := []) (el := [some (vI b), some (vI 3)]) i_93_10 o_93 rfl v_117 rfl rfl rfl rfl rfl rfl ?_
    refine c_117 (fun v10 hv10 => ?_)
    show Ok _ 93 13 [some (vR (some 0)), some (vI i), some (vI b), none] [vI v10] (M) _
    refine k_if_ne (t := 19) i_93_13 rfl (fun h13 => ?_) (fun h13 => ?_)
    · refine k_aload_n i_93_19 rfl ?_
      refine k_getR (r := 25) i_93_20 o_93 rfl (by decide) (s_0) rfl ?_
      refine k_getR (r := 28) i_93_23 o_93 rfl (by decide) (s_25) rfl ?_
      refine k_iload_n i_93_26 rfl ?_
      refine k_iald i_93_27 (s_28) (by omega) ?_
      refine k_iconst i_93_28 (by decide) ?_
      refine k_icmp_eq (t := 35) i_93_29 rfl (fun h29 => ?_) (fun h29 => ?_)
      · refine k_aload_n i_93_35 rfl ?_
        refine k_getR (r := 25) i_93_36 o_93 rfl (by decide) (s_0) rfl ?_
        refine k_iload_n i_93_39 rfl ?_
        refine k_invV (n := 1) (o' := 6) (av := [vR (some 25), vI i]) (rest := []) (el := [some (vR (some 25)), some (vI i)]) i_93_40 o_93 rfl v_63 rfl (s_25) rfl rfl rfl rfl rfl ?_
        refine c_63 tw_25 (by omega) hKo hK hR.p (Or.inl (by omega)) (fun vp hvp => ?_)
        show Ok _ 93 43 [some (vR (some 0)), some (vI i), some (vI b), none] [vI vp] (M) _
        refine k_istore_n (ls' := [some (vR (some 0)), some (vI i), some (vI b), some (vI vp)]) i_93_43 rfl ?_
        refine k_aload_n i_93_44 rfl ?_
        refine k_getR (r := 31) i_93_45 o_93 rfl (by decide) (s_0) rfl ?_
        refine k_aload_n i_93_48 rfl ?_
        refine k_getR (r := 25) i_93_49 o_93 rfl (by decide) (s_0) rfl ?_
        refine k_invV (n := 1) (o' := 0) (av := [vR (some 31), vR (some 25)]) (rest := []) (el := [some (vR (some 31)), some (vR (some 25))]) i_93_52 o_93 rfl v_3 rfl (s_31) rfl rfl rfl rfl rfl ?_
        refine c_3 hKo hR hl16 hA (fun M1 hA1 ho1 => ?_)
        show Ok _ 93 55 [some (vR (some 0)), some (vI i), some (vI b), some (vI vp)] [] (M1) _
        refine k_aload_n i_93_55 rfl ?_
        refine k_getR (r := 25) i_93_56 o_93 rfl (by decide) (s_0) rfl ?_
        refine k_iload_n i_93_59 rfl ?_
        refine k_iload_n i_93_60 rfl ?_
        refine k_invV (n := 2) (o' := 6) (av := [vR (some 25), vI i, vI b]) (rest := []) (el := [some (vR (some 25)), some (vI i), some (vI b)]) i_93_61 o_93 rfl v_64 rfl (s_25) rfl rfl rfl rfl rfl ?_
        refine c_64 tw_25 (by omega) hKo (hK.fr (fun b j h0 h1 => ho1 b j (by omega))) (hR.fr (fun b j h0 h1 => ho1 b j (by omega))) (Or.inl (by omega)) (fun M2 hC2 ho2 => ?_)
        show Ok _ 93 64 [some (vR (some 0)), some (vI i), some (vI b), some (vI vp)] [] (M2) _
        refine k_iload_n i_93_64 rfl ?_
        refine k_iret i_93_65 rfl ?_
        show Ok (d + 24) 158 0 [some (vR (some 273)), some (vI i), some (vI b), none] [] M2 _
        obtain ⟨N, hN⟩ : ∃ N : Mem, N = M2 := ⟨_, rfl⟩
        rw [← hN]
        have hnb : ∀ (b : Nat) (j : Int), ¬ (25 ≤ b ∧ b ≤ 176) → N b j = M b j := fun b j hb => by
          rw [hN, ho2 b j (by omega)]
          exact ho1 b j (by omega)
        have hRN : RepR N K 0 T := hRR.off (fun j => hnb 274 j (by omega))
        have hKN : RepKR N K 0 := hKR.fr (fun j => hnb 274 j (by omega))
        have hAN : ActsR N K L := hAR.fr (hnb _ _ (by omega)) (fun j => hnb _ _ (by omega))
        have z1 : N 274 231 = M 274 231 := hnb _ _ (by omega)
        have z2 : N 274 229 = M 274 229 := hnb _ _ (by omega)
        refine k_aload_n i_158_0 rfl ?_
        refine k_iload_n i_158_1 rfl ?_
        refine k_invV (n := 1) (o' := 8) (av := [vR (some 273), vI i]) (rest := []) (el := [some (vR (some 273)), some (vI i)]) i_158_2 o_158 rfl v_143 rfl (s_273) rfl rfl rfl rfl rfl ?_
        refine c_143 (by omega) (fun v2 hv2 => ?_)
        show Ok _ 158 5 [some (vR (some 273)), some (vI i), some (vI b), none] [vI v2] (N) _
        refine k_if_eq (t := 20) i_158_5 rfl (fun h5 => ?_) (fun h5 => ?_)
        · refine k_ldc (z := -1000001) i_158_20 o_158 rfl (by decide) ?_
          refine k_iret i_158_22 rfl ?_
          first
            | (exfalso; omega)
            | (exfalso
               have e28 : M 28 i = tW T i := (xp i (Or.inl (by omega))).2.1
               omega)
        · refine k_iload_n i_158_8 rfl ?_
          refine k_i2l i_158_9 ?_
          refine k_lconst (z := 0) i_158_10 rfl ?_
          refine k_ldc2 (z := 3) i_158_11 o_158 rfl (by decide) ?_
          refine k_invS (n := 3) (av := [vL b, vL 0, vL 3]) (rest := []) (el := [some (vL b), none, some (vL 0), none, some (vL 3), none]) i_158_14 o_158 rfl v_122 rfl rfl rfl rfl rfl rfl ?_
          refine c_122 (fun v14 hv14 => ?_)
          show Ok _ 158 17 [some (vR (some 273)), some (vI i), some (vI b), none] [vI v14] (N) _
          refine k_if_ne (t := 23) i_158_17 rfl (fun h17 => ?_) (fun h17 => ?_)
          · refine k_aload_n i_158_23 rfl ?_
            refine k_iload_n i_158_24 rfl ?_
            refine k_invV (n := 1) (o' := 8) (av := [vR (some 273), vI i]) (rest := []) (el := [some (vR (some 273)), some (vI i)]) i_158_25 o_158 rfl v_156 rfl (s_273) rfl rfl rfl rfl rfl ?_
            refine c_156 hKo hKN hRN (Or.inl (by omega)) (fun vq hvq => ?_)
            show Ok _ 158 28 [some (vR (some 273)), some (vI i), some (vI b), none] [vI vq] (N) _
            refine k_if_ne (t := 34) i_158_28 rfl (fun h28 => ?_) (fun h28 => ?_)
            · refine k_aload_n i_158_34 rfl ?_
              refine k_invV (n := 0) (o' := 8) (av := [vR (some 273)]) (rest := []) (el := [some (vR (some 273)), none]) i_158_35 o_158 rfl v_154 rfl (s_273) rfl rfl rfl rfl rfl ?_
              refine c_154 hKo hRN hl16 (fun U hU => sane_len hKo (hL U hU)) hAN (fun M3 hA3 ho3 => ?_)
              show Ok _ 158 38 [some (vR (some 273)), some (vI i), some (vI b), none] [] (M3) _
              refine k_aload_n i_158_38 rfl ?_
              refine k_iload_n i_158_39 rfl ?_
              refine k_invV (n := 1) (o' := 8) (av := [vR (some 273), vI i]) (rest := []) (el := [some (vR (some 273)), some (vI i)]) i_158_40 o_158 rfl v_146 rfl (s_273) rfl rfl rfl rfl rfl ?_
              refine c_146 hKo (hKN.fr (fun j => ho3 274 j (by decide) (by omega))) (hRN.off (fun j => ho3 274 j (by decide) (by omega))) (Or.inl (by omega)) (fun vr hvr => ?_)
              show Ok _ 158 43 [some (vR (some 273)), some (vI i), some (vI b), none] [vI vr] (M3) _
              refine k_istore_n (ls' := [some (vR (some 273)), some (vI i), some (vI b), some (vI vr)]) i_158_43 rfl ?_
              refine k_aload_n i_158_44 rfl ?_
              refine k_iload_n i_158_45 rfl ?_
              refine k_iload_n i_158_46 rfl ?_
              refine k_invV (n := 2) (o' := 8) (av := [vR (some 273), vI i, vI b]) (rest := []) (el := [some (vR (some 273)), some (vI i), some (vI b)]) i_158_47 o_158 rfl v_157 rfl (s_273) rfl rfl rfl rfl rfl ?_
              refine c_157 hKo (hRN.off (fun j => ho3 274 j (by decide) (by omega))) hl28 (Or.inl (by omega)) (fun M4 hR4 ho4 => ?_)
              show Ok _ 158 50 [some (vR (some 273)), some (vI i), some (vI b), some (vI vr)] [] (M4) _
              refine k_iload_n i_158_50 rfl ?_
              refine k_iret i_158_51 rfl ?_
              have hC2N : RepC N 25 K 0 (hearF T i b) := by rw [hN]; exact hC2
              refine ⟨_, rfl, congrArg (fun z => some (vI z)) (by rw [hvr, hvp]), h.act (K := K) (T := hearF T i b) (L := keepL L T) (fun c j h0 h1 h2 h3 h4 h5 => ?_) ⟨hE, hKo, ⟨hT.hear (by omega), hS.2.1, hS.2.2⟩, ?_, ?_, ?_, hR4, ?_, ?_, sane_keep hS hL, ?_⟩⟩
              · rw [ho4 c j h1 h4 h5, ho3 c j h3 h2, hnb c j h0]
              · exact hK12.fr (fun c j h0 h1 => by rw [ho4 _ _ (by omega) (by omega) (by omega), ho3 _ _ (by omega) (by omega), hnb _ _ (by omega)])
              · exact hC2N.fr (fun c j h0 h1 => by rw [ho4 _ _ (by omega) (by omega) (by omega), ho3 _ _ (by omega) (by omega)])
              · have hk3 : RepKR M3 K 0 := hKN.fr (fun j => ho3 274 j (by decide) (by omega))
                exact hk3.out hKo ho4
              · refine hA1.fr (fun c j h0 h1 => ?_)
                rw [ho4 _ _ (by omega) (by omega) (by omega), ho3 _ _ (by omega) (by omega), hN, ho2 _ _ (by omega)]
              · exact hA3.fr (ho4 _ _ (by omega) (by decide) (by decide)) (fun j => ho4 _ _ (by omega) (by decide) (by decide))
              · have e0 : M 0 11 = 1 ∧ M 274 231 = 1 := by
                  rcases hti with q | q
                  · omega
                  · exact q
                refine Or.inr ⟨?_, ?_⟩
                · rw [ho4 _ _ (by omega) (by decide) (by decide), ho3 _ _ (by decide) (by omega), hnb _ _ (by omega)]; exact e0.1
                · rw [ho4 _ _ (by omega) (by decide) (by decide), ho3 _ _ (by decide) (by omega), hnb _ _ (by omega)]; exact e0.2
            · refine k_ldc (z := -1000002) i_158_31 o_158 rfl (by decide) ?_
              refine k_iret i_158_33 rfl ?_
              first
                | (exfalso; omega)
                | (exfalso
                   have e28 : M 28 i = tW T i := (xp i (Or.inl (by omega))).2.1
                   omega)
          · refine k_ldc (z := -1000001) i_158_20 o_158 rfl (by decide) ?_
            refine k_iret i_158_22 rfl ?_
            first
              | (exfalso; omega)
              | (exfalso
                 have e28 : M 28 i = tW T i := (xp i (Or.inl (by omega))).2.1
                 omega)
      · refine k_ldc (z := -1000002) i_93_32 o_93 rfl (by decide) ?_
        refine k_iret i_93_34 rfl ?_
        show Ok (d + 24) 158 0 [some (vR (some 273)), some (vI i), some (vI b), none] [] M _
        refine k_aload_n i_158_0 rfl ?_
        refine k_iload_n i_158_1 rfl ?_
        refine k_invV (n := 1) (o' := 8) (av := [vR (some 273), vI i]) (rest := []) (el := [some (vR (some 273)), some (vI i)]) i_158_2 o_158 rfl v_143 rfl (s_273) rfl rfl rfl rfl rfl ?_
        refine c_143 (by omega) (fun v2 hv2 => ?_)
        show Ok _ 158 5 [some (vR (some 273)), some (vI i), some (vI b), none] [vI v2] (M) _
        refine k_if_eq (t := 20) i_158_5 rfl (fun h5 => ?_) (fun h5 => ?_)
        · refine k_ldc (z := -1000001) i_158_20 o_158 rfl (by decide) ?_
          refine k_iret i_158_22 rfl ?_
          refine ⟨_, rfl, ?_, h⟩
          first
            | exact congrArg (fun z => some (vI z)) (by omega)
            | (exfalso; omega)
            | (exfalso
               have e28 : M 28 i = tW T i := (xp i (Or.inl (by omega))).2.1
               omega)
        · refine k_iload_n i_158_8 rfl ?_
          refine k_i2l i_158_9 ?_
          refine k_lconst (z := 0) i_158_10 rfl ?_
          refine k_ldc2 (z := 3) i_158_11 o_158 rfl (by decide) ?_
          refine k_invS (n := 3) (av := [vL b, vL 0, vL 3]) (rest := []) (el := [some (vL b), none, some (vL 0), none, some (vL 3), none]) i_158_14 o_158 rfl v_122 rfl rfl rfl rfl rfl rfl ?_
          refine c_122 (fun v14 hv14 => ?_)
          show Ok _ 158 17 [some (vR (some 273)), some (vI i), some (vI b), none] [vI v14] (M) _
          refine k_if_ne (t := 23) i_158_17 rfl (fun h17 => ?_) (fun h17 => ?_)
          · refine k_aload_n i_158_23 rfl ?_
            refine k_iload_n i_158_24 rfl ?_
            refine k_invV (n := 1) (o' := 8) (av := [vR (some 273), vI i]) (rest := []) (el := [some (vR (some 273)), some (vI i)]) i_158_25 o_158 rfl v_156 rfl (s_273) rfl rfl rfl rfl rfl ?_
            refine c_156 hKo hKR hRR (Or.inl (by omega)) (fun vq hvq => ?_)
            show Ok _ 158 28 [some (vR (some 273)), some (vI i), some (vI b), none] [vI vq] (M) _
            refine k_if_ne (t := 34) i_158_28 rfl (fun h28 => ?_) (fun h28 => ?_)
            · refine k_aload_n i_158_34 rfl ?_
              refine k_invV (n := 0) (o' := 8) (av := [vR (some 273)]) (rest := []) (el := [some (vR (some 273)), none]) i_158_35 o_158 rfl v_154 rfl (s_273) rfl rfl rfl rfl rfl ?_
              refine c_154 hKo hRR hl16 (fun U hU => sane_len hKo (hL U hU)) hAR (fun M3 hA3 ho3 => ?_)
              show Ok _ 158 38 [some (vR (some 273)), some (vI i), some (vI b), none] [] (M3) _
              refine k_aload_n i_158_38 rfl ?_
              refine k_iload_n i_158_39 rfl ?_
              refine k_invV (n := 1) (o' := 8) (av := [vR (some 273), vI i]) (rest := []) (el := [some (vR (some 273)), some (vI i)]) i_158_40 o_158 rfl v_146 rfl (s_273) rfl rfl rfl rfl rfl ?_
              refine c_146 hKo (hKR.fr (fun j => ho3 274 j (by decide) (by omega))) (hRR.off (fun j => ho3 274 j (by decide) (by omega))) (Or.inl (by omega)) (fun vr hvr => ?_)
              show Ok _ 158 43 [some (vR (some 273)), some (vI i), some (vI b), none] [vI vr] (M3) _
              refine k_istore_n (ls' := [some (vR (some 273)), some (vI i), some (vI b), some (vI vr)]) i_158_43 rfl ?_
              refine k_aload_n i_158_44 rfl ?_
              refine k_iload_n i_158_45 rfl ?_
              refine k_iload_n i_158_46 rfl ?_
              refine k_invV (n := 2) (o' := 8) (av := [vR (some 273), vI i, vI b]) (rest := []) (el := [some (vR (some 273)), some (vI i), some (vI b)]) i_158_47 o_158 rfl v_157 rfl (s_273) rfl rfl rfl rfl rfl ?_
              refine c_157 hKo (hRR.off (fun j => ho3 274 j (by decide) (by omega))) hl28 (Or.inl (by omega)) (fun M4 hR4 ho4 => ?_)
              show Ok _ 158 50 [some (vR (some 273)), some (vI i), some (vI b), some (vI vr)] [] (M4) _
              refine k_iload_n i_158_50 rfl ?_
              refine k_iret i_158_51 rfl ?_
              first
                | (exfalso; omega)
                | (exfalso
                   have e28 : M 28 i = tW T i := (xp i (Or.inl (by omega))).2.1
                   omega)
            · refine k_ldc (z := -1000002) i_158_31 o_158 rfl (by decide) ?_
              refine k_iret i_158_33 rfl ?_
              refine ⟨_, rfl, ?_, h⟩
              first
                | exact congrArg (fun z => some (vI z)) (by omega)
                | (exfalso; omega)
                | (exfalso
                   have e28 : M 28 i = tW T i := (xp i (Or.inl (by omega))).2.1
                   omega)
          · refine k_ldc (z := -1000001) i_158_20 o_158 rfl (by decide) ?_
            refine k_iret i_158_22 rfl ?_
            refine ⟨_, rfl, ?_, h⟩
            first
              | exact congrArg (fun z => some (vI z)) (by omega)
              | (exfalso; omega)
              | (exfalso
                 have e28 : M 28 i = tW T i := (xp i (Or.inl (by omega))).2.1
                 omega)
    · refine k_ldc (z := -1000001) i_93_16 o_93 rfl (by decide) ?_
      refine k_iret i_93_18 rfl ?_
      show Ok (d + 24) 158 0 [some (vR (some 273)), some (vI i), some (vI b), none] [] M _
      refine k_aload_n i_158_0 rfl ?_
      refine k_iload_n i_158_1 rfl ?_
      refine k_invV (n := 1) (o' := 8) (av := [vR (some 273), vI i]) (rest := []) (el := [some (vR (some 273)), some (vI i)]) i_158_2 o_158 rfl v_143 rfl (s_273) rfl rfl rfl rfl rfl ?_
      refine c_143 (by omega) (fun v2 hv2 => ?_)
      show Ok _ 158 5 [some (vR (some 273)), some (vI i), some (vI b), none] [vI v2] (M) _
      refine k_if_eq (t := 20) i_158_5 rfl (fun h5 => ?_) (fun h5 => ?_)
      · refine k_ldc (z := -1000001) i_158_20 o_158 rfl (by decide) ?_
        refine k_iret i_158_22 rfl ?_
        refine ⟨_, rfl, ?_, h⟩
        first
          | exact congrArg (fun z => some (vI z)) (by omega)
          | (exfalso; omega)
          | (exfalso
             have e28 : M 28 i = tW T i := (xp i (Or.inl (by omega))).2.1
             omega)
      · refine k_iload_n i_158_8 rfl ?_
        refine k_i2l i_158_9 ?_
        refine k_lconst (z := 0) i_158_10 rfl ?_
        refine k_ldc2 (z := 3) i_158_11 o_158 rfl (by decide) ?_
        refine k_invS (n := 3) (av := [vL b, vL 0, vL 3]) (rest := []) (el := [some (vL b), none, some (vL 0), none, some (vL 3), none]) i_158_14 o_158 rfl v_122 rfl rfl rfl rfl rfl rfl ?_
        refine c_122 (fun v14 hv14 => ?_)
        show Ok _ 158 17 [some (vR (some 273)), some (vI i), some (vI b), none] [vI v14] (M) _
        refine k_if_ne (t := 23) i_158_17 rfl (fun h17 => ?_) (fun h17 => ?_)
        · refine k_aload_n i_158_23 rfl ?_
          refine k_iload_n i_158_24 rfl ?_
          refine k_invV (n := 1) (o' := 8) (av := [vR (some 273), vI i]) (rest := []) (el := [some (vR (some 273)), some (vI i)]) i_158_25 o_158 rfl v_156 rfl (s_273) rfl rfl rfl rfl rfl ?_
          refine c_156 hKo hKR hRR (Or.inl (by omega)) (fun vq hvq => ?_)
          show Ok _ 158 28 [some (vR (some 273)), some (vI i), some (vI b), none] [vI vq] (M) _
          refine k_if_ne (t := 34) i_158_28 rfl (fun h28 => ?_) (fun h28 => ?_)
          · refine k_aload_n i_158_34 rfl ?_
            refine k_invV (n := 0) (o' := 8) (av := [vR (some 273)]) (rest := []) (el := [some (vR (some 273)), none]) i_158_35 o_158 rfl v_154 rfl (s_273) rfl rfl rfl rfl rfl ?_
            refine c_154 hKo hRR hl16 (fun U hU => sane_len hKo (hL U hU)) hAR (fun M3 hA3 ho3 => ?_)
            show Ok _ 158 38 [some (vR (some 273)), some (vI i), some (vI b), none] [] (M3) _
            refine k_aload_n i_158_38 rfl ?_
            refine k_iload_n i_158_39 rfl ?_
            refine k_invV (n := 1) (o' := 8) (av := [vR (some 273), vI i]) (rest := []) (el := [some (vR (some 273)), some (vI i)]) i_158_40 o_158 rfl v_146 rfl (s_273) rfl rfl rfl rfl rfl ?_
            refine c_146 hKo (hKR.fr (fun j => ho3 274 j (by decide) (by omega))) (hRR.off (fun j => ho3 274 j (by decide) (by omega))) (Or.inl (by omega)) (fun vr hvr => ?_)
            show Ok _ 158 43 [some (vR (some 273)), some (vI i), some (vI b), none] [vI vr] (M3) _
            refine k_istore_n (ls' := [some (vR (some 273)), some (vI i), some (vI b), some (vI vr)]) i_158_43 rfl ?_
            refine k_aload_n i_158_44 rfl ?_
            refine k_iload_n i_158_45 rfl ?_
            refine k_iload_n i_158_46 rfl ?_
            refine k_invV (n := 2) (o' := 8) (av := [vR (some 273), vI i, vI b]) (rest := []) (el := [some (vR (some 273)), some (vI i), some (vI b)]) i_158_47 o_158 rfl v_157 rfl (s_273) rfl rfl rfl rfl rfl ?_
            refine c_157 hKo (hRR.off (fun j => ho3 274 j (by decide) (by omega))) hl28 (Or.inl (by omega)) (fun M4 hR4 ho4 => ?_)
            show Ok _ 158 50 [some (vR (some 273)), some (vI i), some (vI b), some (vI vr)] [] (M4) _
            refine k_iload_n i_158_50 rfl ?_
            refine k_iret i_158_51 rfl ?_
            first
              | (exfalso; omega)
              | (exfalso
                 have e28 : M 28 i = tW T i := (xp i (Or.inl (by omega))).2.1
                 omega)
          · refine k_ldc (z := -1000002) i_158_31 o_158 rfl (by decide) ?_
            refine k_iret i_158_33 rfl ?_
            refine ⟨_, rfl, ?_, h⟩
            first
              | exact congrArg (fun z => some (vI z)) (by omega)
              | (exfalso; omega)
              | (exfalso
                 have e28 : M 28 i = tW T i := (xp i (Or.inl (by omega))).2.1
                 omega)
        · refine k_ldc (z := -1000001) i_158_20 o_158 rfl (by decide) ?_
          refine k_iret i_158_22 rfl ?_
          refine ⟨_, rfl, ?_, h⟩
          first
            | exact congrArg (fun z => some (vI z)) (by omega)
            | (exfalso; omega)
            | (exfalso
               have e28 : M 28 i = tW T i := (xp i (Or.inl (by omega))).2.1
               omega)
