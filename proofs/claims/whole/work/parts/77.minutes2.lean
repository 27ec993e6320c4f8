set_option maxRecDepth 100000 in
theorem tp_minutes {d : Nat} {M : Mem} {n : Int} (h : Rel M)  : Two (d + 24) 92 155 [some (vR (some 0)), some (vI n), none] [some (vR (some 273)), some (vI n), none] M := by
  obtain ⟨K, T, L, hW⟩ := h.2.2.2.2.1
  obtain ⟨hE, hKo, hS, hK12, hR, hKR, hRR, hA, hAR, hL, hti⟩ := id hW
  have hT := hS.1
  have hK : RepK M 20 K 0 := hK12.mono (by decide)
  have g0 := hKo.1
  have u3 := hT.2.2.1
  have mi9 := hS.2.2
  have k1 : M 20 7 = kPe K := hK.1
  have k2 : M 20 6 = kWt K := hK.2.1
  have q1 : M 274 229 = kPe K := hKR.1
  have q2 : M 274 230 = kPe K - kWt K := hKR.2.1
  obtain ⟨x6, x7, x8, x9, x10, xq, xp⟩ := id hR
  obtain ⟨y6, y7, y8, y9, y10, yq, yp⟩ := id hRR
  have hl28 := q28 hKo hT
  have hl16 : ((tQ T).length : Int) ≤ 16 := by omega
  show Ok (d + 24) 92 0 [some (vR (some 0)), some (vI n), none] [] M _
  refine k_aload_n i_92_0 rfl ?_
  refine k_getI (kz := 11) i_92_1 o_92 rfl (by decide) (s_0) rfl ?_
  refine k_if_ne (t := 10) i_92_4 rfl (fun h4 => ?_) (fun h4 => ?_)
  · refine k_iload_n i_92_10 rfl ?_
    refine k_iconst i_92_11 (by decide) ?_
    refine k_icmp_lt (t := 21) i_92_12 rfl (fun h12 => ?_) (fun h12 => ?_)
    · refine k_ldc (z := -1000001) i_92_21 o_92 rfl (by decide) ?_
      refine k_iret i_92_23 rfl ?_
      show Ok (d + 24) 155 0 [some (vR (some 273)), some (vI n), none] [] M _
      refine k_aload_n i_155_0 rfl ?_
      refine k_invV (n := 0) (o' := 8) (av := [vR (some 273)]) (rest := []) (el := [some (vR (some 273))]) i_155_1 o_155 rfl v_144 rfl (s_273) rfl rfl rfl rfl rfl ?_
      refine c_144 (fun v1 hv1 => ?_)
      show Ok _ 155 4 [some (vR (some 273)), some (vI n), none] [vI v1] (M) _
      refine k_if_ne (t := 10) i_155_4 rfl (fun h4 => ?_) (fun h4 => ?_)
      · refine k_iload_n i_155_10 rfl ?_
        refine k_i2l i_155_11 ?_
        refine k_lconst (z := 1) i_155_12 rfl ?_
        refine k_ldc2 (z := 20) i_155_13 o_155 rfl (by decide) ?_
        refine k_invS (n := 3) (av := [vL n, vL 1, vL 20]) (rest := []) (el := [some (vL n), none, some (vL 1), none, some (vL 20), none]) i_155_16 o_155 rfl v_122 rfl rfl rfl rfl rfl rfl ?_
        refine c_122 (fun v16 hv16 => ?_)
        show Ok _ 155 19 [some (vR (some 273)), some (vI n), none] [vI v16] (M) _
        refine k_if_ne (t := 25) i_155_19 rfl (fun h19 => ?_) (fun h19 => ?_)
        · refine k_aload_n i_155_25 rfl ?_
          refine k_getR (r := 274) i_155_26 o_155 rfl (by decide) (s_273) rfl ?_
          refine k_sipush i_155_29 (by decide) ?_
          refine k_iald i_155_32 (s_274) (by omega) ?_
          refine k_iload_n i_155_33 rfl ?_
          refine k_iadd i_155_34 (by omega) ?_
          refine k_sipush i_155_35 (by decide) ?_
          refine k_icmp_le (t := 44) i_155_38 rfl (fun h38 => ?_) (fun h38 => ?_)
          · refine k_iconst i_155_44 (by decide) ?_
            refine k_istore_n (ls' := [some (vR (some 273)), some (vI n), some (vI 0)]) i_155_45 rfl ?_
            exfalso
            omega
          · refine k_ldc (z := -1000003) i_155_41 o_155 rfl (by decide) ?_
            refine k_iret i_155_43 rfl ?_
            refine ⟨_, rfl, ?_, h⟩
            first
              | exact congrArg (fun z => some (vI z)) (by omega)
              | (exfalso; omega)
        · refine k_ldc (z := -1000001) i_155_22 o_155 rfl (by decide) ?_
          refine k_iret i_155_24 rfl ?_
          refine ⟨_, rfl, ?_, h⟩
          first
            | exact congrArg (fun z => some (vI z)) (by omega)
            | (exfalso; omega)
      · refine k_ldc (z := -1000002) i_155_7 o_155 rfl (by decide) ?_
        refine k_iret i_155_9 rfl ?_
        refine ⟨_, rfl, ?_, h⟩
        first
          | exact congrArg (fun z => some (vI z)) (by omega)
          | (exfalso; omega)
    · refine k_iload_n i_92_15 rfl ?_
      refine k_bipush i_92_16 (by decide) ?_
      refine k_icmp_le (t := 24) i_92_18 rfl (fun h18 => ?_) (fun h18 => ?_)
      · refine k_aload_n i_92_24 rfl ?_
        refine k_getR (r := 25) i_92_25 o_92 rfl (by decide) (s_0) rfl ?_
        refine k_getI (kz := 6) i_92_28 o_92 rfl (by decide) (s_25) rfl ?_
        refine k_iload_n i_92_31 rfl ?_
        refine k_iadd i_92_32 (by omega) ?_
        refine k_sipush i_92_33 (by decide) ?_
        refine k_icmp_le (t := 42) i_92_36 rfl (fun h36 => ?_) (fun h36 => ?_)
        · refine k_iconst i_92_42 (by decide) ?_
          refine k_istore_n (ls' := [some (vR (some 0)), some (vI n), some (vI 0)]) i_92_43 rfl ?_
          refine l_92 (M0 := M) (n := n) (T := T) (L := L) hKo hK hS (by omega) (fun N hC hAC hfN => ?_) 1000 0 M (by omega) hR hA (fun _ _ _ => rfl) (by omega)
          show Ok (d + 24) 155 0 [some (vR (some 273)), some (vI n), none] [] N _
          have hRN : RepR N K 0 T := hRR.off (fun j => hfN 274 j (by omega))
          have hKN : RepKR N K 0 := hKR.fr (fun j => hfN 274 j (by omega))
          have hAN : ActsR N K L := hAR.fr (hfN _ _ (by omega)) (fun j => hfN _ _ (by omega))
          have z1 : N 274 231 = M 274 231 := hfN _ _ (by omega)
          have z2 : N 274 142 = M 274 142 := hfN _ _ (by omega)
          refine k_aload_n i_155_0 rfl ?_
          refine k_invV (n := 0) (o' := 8) (av := [vR (some 273)]) (rest := []) (el := [some (vR (some 273))]) i_155_1 o_155 rfl v_144 rfl (s_273) rfl rfl rfl rfl rfl ?_
          refine c_144 (fun v1 hv1 => ?_)
          show Ok _ 155 4 [some (vR (some 273)), some (vI n), none] [vI v1] (N) _
          refine k_if_ne (t := 10) i_155_4 rfl (fun h4 => ?_) (fun h4 => ?_)
          · refine k_iload_n i_155_10 rfl ?_
            refine k_i2l i_155_11 ?_
            refine k_lconst (z := 1) i_155_12 rfl ?_
            refine k_ldc2 (z := 20) i_155_13 o_155 rfl (by decide) ?_
            refine k_invS (n := 3) (av := [vL n, vL 1, vL 20]) (rest := []) (el := [some (vL n), none, some (vL 1), none, some (vL 20), none]) i_155_16 o_155 rfl v_122 rfl rfl rfl rfl rfl rfl ?_
            refine c_122 (fun v16 hv16 => ?_)
            show Ok _ 155 19 [some (vR (some 273)), some (vI n), none] [vI v16] (N) _
            refine k_if_ne (t := 25) i_155_19 rfl (fun h19 => ?_) (fun h19 => ?_)
            · refine k_aload_n i_155_25 rfl ?_
              refine k_getR (r := 274) i_155_26 o_155 rfl (by decide) (s_273) rfl ?_
              refine k_sipush i_155_29 (by decide) ?_
              refine k_iald i_155_32 (s_274) (by omega) ?_
              refine k_iload_n i_155_33 rfl ?_
              refine k_iadd i_155_34 (by omega) ?_
              refine k_sipush i_155_35 (by decide) ?_
              refine k_icmp_le (t := 44) i_155_38 rfl (fun h38 => ?_) (fun h38 => ?_)
              · refine k_iconst i_155_44 (by decide) ?_
                refine k_istore_n (ls' := [some (vR (some 273)), some (vI n), some (vI 0)]) i_155_45 rfl ?_
                refine l_155 (M0 := N) (n := n) (T := T) (L := L) hKo hKN hS hL (by omega) (fun P hRP hKP hAP hfP => ?_) 1000 0 N (by omega) hRN hKN hAN (fun _ _ _ _ _ _ _ => rfl) (by omega)
                have n9 : N 25 9 = (tQ (itF K n.toNat T)).length := hC.2.2.2.1
                have n4 : P 274 140 = (tQ (itF K n.toNat T)).length := hRP.2.2.2.1
                refine ⟨_, rfl, congrArg (fun z => some (vI z)) (by omega), h.act (K := K) (T := itF K n.toNat T) (L := acL K T L n.toNat) (fun c j h0 h1 h2 h3 h4 h5 => ?_) ⟨hE, hKo, hS.it hKo _ (by omega), ?_, ?_, hKP, hRP, ?_, hAP, sane_ac hKo hS hL _ (by omega), ?_⟩⟩
                · rw [hfP c j h1 h4 h5 h3 h2, hfN c j h0]
                · exact hK12.fr (fun c j h0 h1 => by rw [hfP _ _ (by omega) (by omega) (by omega) (by omega) (by omega), hfN _ _ (by omega)])
                · exact hC.fr (fun c j h0 h1 => hfP _ _ (by omega) (by omega) (by omega) (by omega) (by omega))
                · exact hAC.fr (fun c j h0 h1 => hfP _ _ (by omega) (by omega) (by omega) (by omega) (by omega))
                · have e0 : M 0 11 = 1 ∧ M 274 231 = 1 := by
                    rcases hti with q | q
                    · omega
                    · exact q
                  refine Or.inr ⟨?_, ?_⟩
                  · rw [hfP _ _ (by omega) (by omega) (by omega) (by omega) (by omega), hfN _ _ (by omega)]; exact e0.1
                  · rw [hfP _ _ (by omega) (by omega) (by omega) (by omega) (by omega), hfN _ _ (by omega)]; exact e0.2
              · refine k_ldc (z := -1000003) i_155_41 o_155 rfl (by decide) ?_
                refine k_iret i_155_43 rfl ?_
                exfalso
                omega
            · refine k_ldc (z := -1000001) i_155_22 o_155 rfl (by decide) ?_
              refine k_iret i_155_24 rfl ?_
              exfalso
              omega
          · refine k_ldc (z := -1000002) i_155_7 o_155 rfl (by decide) ?_
            refine k_iret i_155_9 rfl ?_
            exfalso
            omega
        · refine k_ldc (z := -1000003) i_92_39 o_92 rfl (by decide) ?_
          refine k_iret i_92_41 rfl ?_
          show Ok (d + 24) 155 0 [some (vR (some 273)), some (vI n), none] [] M _
          refine k_aload_n i_155_0 rfl ?_
          refine k_invV (n := 0) (o' := 8) (av := [vR (some 273)]) (rest := []) (el := [some (vR (some 273))]) i_155_1 o_155 rfl v_144 rfl (s_273) rfl rfl rfl rfl rfl ?_
          refine c_144 (fun v1 hv1 => ?_)
          show Ok _ 155 4 [some (vR (some 273)), some (vI n), none] [vI v1] (M) _
          refine k_if_ne (t := 10) i_155_4 rfl (fun h4 => ?_) (fun h4 => ?_)
          · refine k_iload_n i_155_10 rfl ?_
            refine k_i2l i_155_11 ?_
            refine k_lconst (z := 1) i_155_12 rfl ?_
            refine k_ldc2 (z := 20) i_155_13 o_155 rfl (by decide) ?_
            refine k_invS (n := 3) (av := [vL n, vL 1, vL 20]) (rest := []) (el := [some (vL n), none, some (vL 1), none, some (vL 20), none]) i_155_16 o_155 rfl v_122 rfl rfl rfl rfl rfl rfl ?_
            refine c_122 (fun v16 hv16 => ?_)
            show Ok _ 155 19 [some (vR (some 273)), some (vI n), none] [vI v16] (M) _
            refine k_if_ne (t := 25) i_155_19 rfl (fun h19 => ?_) (fun h19 => ?_)
            · refine k_aload_n i_155_25 rfl ?_
              refine k_getR (r := 274) i_155_26 o_155 rfl (by decide) (s_273) rfl ?_
              refine k_sipush i_155_29 (by decide) ?_
              refine k_iald i_155_32 (s_274) (by omega) ?_
              refine k_iload_n i_155_33 rfl ?_
              refine k_iadd i_155_34 (by omega) ?_
              refine k_sipush i_155_35 (by decide) ?_
              refine k_icmp_le (t := 44) i_155_38 rfl (fun h38 => ?_) (fun h38 => ?_)
              · refine k_iconst i_155_44 (by decide) ?_
                refine k_istore_n (ls' := [some (vR (some 273)), some (vI n), some (vI 0)]) i_155_45 rfl ?_
                exfalso
                omega
              · refine k_ldc (z := -1000003) i_155_41 o_155 rfl (by decide) ?_
                refine k_iret i_155_43 rfl ?_
                refine ⟨_, rfl, ?_, h⟩
                first
                  | exact congrArg (fun z => some (vI z)) (by omega)
                  | (exfalso; omega)
            · refine k_ldc (z := -1000001) i_155_22 o_155 rfl (by decide) ?_
              refine k_iret i_155_24 rfl ?_
              refine ⟨_, rfl, ?_, h⟩
              first
                | exact congrArg (fun z => some (vI z)) (by omega)
                | (exfalso; omega)
          · refine k_ldc (z := -1000002) i_155_7 o_155 rfl (by decide) ?_
            refine k_iret i_155_9 rfl ?_
            refine ⟨_, rfl, ?_, h⟩
            first
              | exact congrArg (fun z => some (vI z)) (by omega)
              | (exfalso; omega)
      · refine k_ldc (z := -1000001) i_92_21 o_92 rfl (by decide) ?_
        refine k_iret i_92_23 rfl ?_
        show Ok (d + 24) 155 0 [some (vR (some 273)), some (vI n), none] [] M _
        refine k_aload_n i_155_0 rfl ?_
        refine k_invV (n := 0) (o' := 8) (av := [vR (some 273)]) (rest := []) (el := [some (vR (some 273))]) i_155_1 o_155 rfl v_144 rfl (s_273) rfl rfl rfl rfl rfl ?_
        refine c_144 (fun v1 hv1 => ?_)
        show Ok _ 155 4 [some (vR (some 273)), some (vI n), none] [vI v1] (M) _
        refine k_if_ne (t := 10) i_155_4 rfl (fun h4 => ?_) (fun h4 => ?_)
        · refine k_iload_n i_155_10 rfl ?_
          refine k_i2l i_155_11 ?_
          refine k_lconst (z := 1) i_155_12 rfl ?_
          refine k_ldc2 (z := 20) i_155_13 o_155 rfl (by decide) ?_
          refine k_invS (n := 3) (av := [vL n, vL 1, vL 20]) (rest := []) (el := [some (vL n), none, some (vL 1), none, some (vL 20), none]) i_155_16 o_155 rfl v_122 rfl rfl rfl rfl rfl rfl ?_
          refine c_122 (fun v16 hv16 => ?_)
          show Ok _ 155 19 [some (vR (some 273)), some (vI n), none] [vI v16] (M) _
          refine k_if_ne (t := 25) i_155_19 rfl (fun h19 => ?_) (fun h19 => ?_)
          · refine k_aload_n i_155_25 rfl ?_
            refine k_getR (r := 274) i_155_26 o_155 rfl (by decide) (s_273) rfl ?_
            refine k_sipush i_155_29 (by decide) ?_
            refine k_iald i_155_32 (s_274) (by omega) ?_
            refine k_iload_n i_155_33 rfl ?_
            refine k_iadd i_155_34 (by omega) ?_
            refine k_sipush i_155_35 (by decide) ?_
            refine k_icmp_le (t := 44) i_155_38 rfl (fun h38 => ?_) (fun h38 => ?_)
            · refine k_iconst i_155_44 (by decide) ?_
              refine k_istore_n (ls' := [some (vR (some 273)), some (vI n), some (vI 0)]) i_155_45 rfl ?_
              exfalso
              omega
            · refine k_ldc (z := -1000003) i_155_41 o_155 rfl (by decide) ?_
              refine k_iret i_155_43 rfl ?_
              refine ⟨_, rfl, ?_, h⟩
              first
                | exact congrArg (fun z => some (vI z)) (by omega)
                | (exfalso; omega)
          · refine k_ldc (z := -1000001) i_155_22 o_155 rfl (by decide) ?_
            refine k_iret i_155_24 rfl ?_
            refine ⟨_, rfl, ?_, h⟩
            first
              | exact congrArg (fun z => some (vI z)) (by omega)
              | (exfalso; omega)
        · refine k_ldc (z := -1000002) i_155_7 o_155 rfl (by decide) ?_
          refine k_iret i_155_9 rfl ?_
          refine ⟨_, rfl, ?_, h⟩
          first
            | exact congrArg (fun z => some (vI z)) (by omega)
            | (exfalso; omega)
  · refine k_ldc (z := -1000002) i_92_7 o_92 rfl (by decide) ?_
    refine k_iret i_92_9 rfl ?_
    show Ok (d + 24) 155 0 [some (vR (some 273)), some (vI n), none] [] M _
    refine k_aload_n i_155_0 rfl ?_
    refine k_invV (n := 0) (o' := 8) (av := [vR (some 273)]) (rest := []) (el := [some (vR (some 273))]) i_155_1 o_155 rfl v_144 rfl (s_273) rfl rfl rfl rfl rfl ?_
    refine c_144 (fun v1 hv1 => ?_)
    show Ok _ 155 4 [some (vR (some 273)), some (vI n), none] [vI v1] (M) _
    refine k_if_ne (t := 10) i_155_4 rfl (fun h4 => ?_) (fun h4 => ?_)
    · refine k_iload_n i_155_10 rfl ?_
      refine k_i2l i_155_11 ?_
      refine k_lconst (z := 1) i_155_12 rfl ?_
      refine k_ldc2 (z := 20) i_155_13 o_155 rfl (by decide) ?_
      refine k_invS (n := 3) (av := [vL n, vL 1, vL 20]) (rest := []) (el := [some (vL n), none, some (vL 1), none, some (vL 20), none]) i_155_16 o_155 rfl v_122 rfl rfl rfl rfl rfl rfl ?_
      refine c_122 (fun v16 hv16 => ?_)
      show Ok _ 155 19 [some (vR (some 273)), some (vI n), none] [vI v16] (M) _
      refine k_if_ne (t := 25) i_155_19 rfl (fun h19 => ?_) (fun h19 => ?_)
      · refine k_aload_n i_155_25 rfl ?_
        refine k_getR (r := 274) i_155_26 o_155 rfl (by decide) (s_273) rfl ?_
        refine k_sipush i_155_29 (by decide) ?_
        refine k_iald i_155_32 (s_274) (by omega) ?_
        refine k_iload_n i_155_33 rfl ?_
        refine k_iadd i_155_34 (by omega) ?_
        refine k_sipush i_155_35 (by decide) ?_
        refine k_icmp_le (t := 44) i_155_38 rfl (fun h38 => ?_) (fun h38 => ?_)
        · refine k_iconst i_155_44 (by decide) ?_
          refine k_istore_n (ls' := [some (vR (some 273)), some (vI n), some (vI 0)]) i_155_45 rfl ?_
          exfalso
          omega
        · refine k_ldc (z := -1000003) i_155_41 o_155 rfl (by decide) ?_
          refine k_iret i_155_43 rfl ?_
          refine ⟨_, rfl, ?_, h⟩
          first
            | exact congrArg (fun z => some (vI z)) (by omega)
            | (exfalso; omega)
      · refine k_ldc (z := -1000001) i_155_22 o_155 rfl (by decide) ?_
        refine k_iret i_155_24 rfl ?_
        refine ⟨_, rfl, ?_, h⟩
        first
          | exact congrArg (fun z => some (vI z)) (by omega)
          | (exfalso; omega)
    · refine k_ldc (z := -1000002) i_155_7 o_155 rfl (by decide) ?_
      refine k_iret i_155_9 rfl ?_
      refine ⟨_, rfl, ?_, h⟩
      first
        | exact congrArg (fun z => some (vI z)) (by omega)
        | (exfalso; omega)
