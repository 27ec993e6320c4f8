set_option maxRecDepth 100000 in
theorem tp_hatch {d : Nat} {M : Mem} {c s : Int} (h : Rel M)  : Two (d + 24) 95 161 [some (vR (some 0)), some (vI c), some (vI s), none] [some (vR (some 273)), some (vI c), some (vI s), none] M := by
  obtain ⟨K, T, L, hW⟩ := h.2.2.2.2.1
  obtain ⟨hE, hKo, hS, hK12, hR, hKR, hRR, hA, hAR, hL, hti⟩ := id hW
  have hT := hS.1
  have hK : RepK M 20 K 0 := hK12.mono (by decide)
  have g0 := hKo.1
  have u3 := hT.2.2.1
  have mi9 := hS.2.2
  have k1 : M 20 7 = kPe K := hK.1
  have k2 : M 20 6 = kWt K := hK.2.1
  have q1 : M 274 229 = kPe K := hKR.1
  have q2 : M 274 230 = kPe K - kWt K := hKR.2.1
  obtain ⟨x6, x7, x8, x9, x10, xq, xp⟩ := id hR
  obtain ⟨y6, y7, y8, y9, y10, yq, yp⟩ := id hRR
  have hl28 := q28 hKo hT
  have hl16 : ((tQ T).length : Int) ≤ 16 := by omega
  show Ok (d + 24) 95 0 [some (vR (some 0)), some (vI c), some (vI s), none] [] M _
  refine k_aload_n i_95_0 rfl ?_
  refine k_getI (kz := 11) i_95_1 o_95 rfl (by decide) (s_0) rfl ?_
  refine k_if_ne (t := 10) i_95_4 rfl (fun h4 => ?_) (fun h4 => ?_)
  · refine k_iload_n i_95_10 rfl ?_
    refine k_iconst i_95_11 (by decide) ?_
    refine k_invS (n := 2) (av := [vI c, vI 3]) (rest := []) (el := [some (vI c), some (vI 3)]) i_95_12 o_95 rfl v_117 rfl rfl rfl rfl rfl rfl ?_
    refine c_117 (fun v12 hv12 => ?_)
    show Ok _ 95 15 [some (vR (some 0)), some (vI c), some (vI s), none] [vI v12] (M) _
    refine k_if_eq (t := 27) i_95_15 rfl (fun h15 => ?_) (fun h15 => ?_)
    · refine k_ldc (z := -1000001) i_95_27 o_95 rfl (by decide) ?_
      refine k_iret i_95_29 rfl ?_
      show Ok (d + 24) 161 0 [some (vR (some 273)), some (vI c), some (vI s), none] [] M _
      refine k_aload_n i_161_0 rfl ?_
      refine k_invV (n := 0) (o' := 8) (av := [vR (some 273)]) (rest := []) (el := [some (vR (some 273))]) i_161_1 o_161 rfl v_144 rfl (s_273) rfl rfl rfl rfl rfl ?_
      refine c_144 (fun v1 hv1 => ?_)
      show Ok _ 161 4 [some (vR (some 273)), some (vI c), some (vI s), none] [vI v1] (M) _
      refine k_if_ne (t := 10) i_161_4 rfl (fun h4 => ?_) (fun h4 => ?_)
      · refine k_iload_n i_161_10 rfl ?_
        refine k_i2l i_161_11 ?_
        refine k_lconst (z := 0) i_161_12 rfl ?_
        refine k_ldc2 (z := 3) i_161_13 o_161 rfl (by decide) ?_
        refine k_invS (n := 3) (av := [vL c, vL 0, vL 3]) (rest := []) (el := [some (vL c), none, some (vL 0), none, some (vL 3), none]) i_161_16 o_161 rfl v_122 rfl rfl rfl rfl rfl rfl ?_
        refine c_122 (fun v16 hv16 => ?_)
        show Ok _ 161 19 [some (vR (some 273)), some (vI c), some (vI s), none] [vI v16] (M) _
        refine k_if_eq (t := 34) i_161_19 rfl (fun h19 => ?_) (fun h19 => ?_)
        · refine k_ldc (z := -1000001) i_161_34 o_161 rfl (by decide) ?_
          refine k_iret i_161_36 rfl ?_
          refine ⟨_, rfl, ?_, h⟩
          first
            | exact congrArg (fun z => some (vI z)) (by omega)
            | (exfalso; omega)
        · refine k_iload_n i_161_22 rfl ?_
          refine k_i2l i_161_23 ?_
          refine k_lconst (z := 0) i_161_24 rfl ?_
          refine k_ldc2 (z := 9) i_161_25 o_161 rfl (by decide) ?_
          refine k_invS (n := 3) (av := [vL s, vL 0, vL 9]) (rest := []) (el := [some (vL s), none, some (vL 0), none, some (vL 9), none]) i_161_28 o_161 rfl v_122 rfl rfl rfl rfl rfl rfl ?_
          refine c_122 (fun v28 hv28 => ?_)
          show Ok _ 161 31 [some (vR (some 273)), some (vI c), some (vI s), none] [vI v28] (M) _
          refine k_if_ne (t := 37) i_161_31 rfl (fun h31 => ?_) (fun h31 => ?_)
          · refine k_aload_n i_161_37 rfl ?_
            refine k_invV (n := 0) (o' := 8) (av := [vR (some 273)]) (rest := []) (el := [some (vR (some 273)), none]) i_161_38 o_161 rfl v_154 rfl (s_273) rfl rfl rfl rfl rfl ?_
            refine c_154 hKo hRR hl16 (fun U hU => sane_len hKo (hL U hU)) hAR (fun M3 hA3 ho3 => ?_)
            show Ok _ 161 41 [some (vR (some 273)), some (vI c), some (vI s), none] [] (M3) _
            refine k_bipush i_161_41 (by decide) ?_
            refine k_aload_n i_161_43 rfl ?_
            refine k_getR (r := 274) i_161_44 o_161 rfl (by decide) (s_273) rfl ?_
            refine k_sipush i_161_47 (by decide) ?_
            refine k_iald i_161_50 (s_274) (by omega) ?_
            refine k_imul i_161_51 (by first | (exfalso; omega) | (have w143 : M3 274 143 = tCa T := (ho3 _ _ (by decide) (by omega)).trans hRN.2.1; omega) | (have w143 : M3 274 143 = tCa T := (ho3 _ _ (by decide) (by omega)).trans hRR.2.1; omega)) ?_
            refine k_aload_n i_161_52 rfl ?_
            refine k_getR (r := 274) i_161_53 o_161 rfl (by decide) (s_273) rfl ?_
            refine k_sipush i_161_56 (by decide) ?_
            refine k_iald i_161_59 (s_274) (by omega) ?_
            refine k_iadd i_161_60 (by first | (exfalso; omega) | (have w143 : M3 274 143 = tCa T := (ho3 _ _ (by decide) (by omega)).trans hRN.2.1; have w144 : M3 274 144 = tSe T := (ho3 _ _ (by decide) (by omega)).trans hRN.2.2.1; omega)) ?_
            refine k_istore_n (ls' := [some (vR (some 273)), some (vI c), some (vI s), some (vI ((10 * (M3 274 143)) + (M3 274 144)))]) i_161_61 rfl ?_
            refine k_aload_n i_161_62 rfl ?_
            refine k_getR (r := 274) i_161_63 o_161 rfl (by decide) (s_273) rfl ?_
            refine k_sipush i_161_66 (by decide) ?_
            refine k_iload_n i_161_69 rfl ?_
            refine k_iast i_161_70 (s_274) (by omega) ?_
            refine k_aload_n i_161_71 rfl ?_
            refine k_getR (r := 274) i_161_72 o_161 rfl (by decide) (s_273) rfl ?_
            refine k_sipush i_161_75 (by decide) ?_
            refine k_iload_n i_161_78 rfl ?_
            refine k_iast i_161_79 (s_274) (by omega) ?_
            refine k_iload_n i_161_80 rfl ?_
            refine k_iret i_161_81 rfl ?_
            exfalso
            omega
          · refine k_ldc (z := -1000001) i_161_34 o_161 rfl (by decide) ?_
            refine k_iret i_161_36 rfl ?_
            refine ⟨_, rfl, ?_, h⟩
            first
              | exact congrArg (fun z => some (vI z)) (by omega)
              | (exfalso; omega)
      · refine k_ldc (z := -1000002) i_161_7 o_161 rfl (by decide) ?_
        refine k_iret i_161_9 rfl ?_
        refine ⟨_, rfl, ?_, h⟩
        first
          | exact congrArg (fun z => some (vI z)) (by omega)
          | (exfalso; omega)
    · refine k_iload_n i_95_18 rfl ?_
      refine k_bipush i_95_19 (by decide) ?_
      refine k_invS (n := 2) (av := [vI s, vI 9]) (rest := []) (el := [some (vI s), some (vI 9)]) i_95_21 o_95 rfl v_117 rfl rfl rfl rfl rfl rfl ?_
      refine c_117 (fun v21 hv21 => ?_)
      show Ok _ 95 24 [some (vR (some 0)), some (vI c), some (vI s), none] [vI v21] (M) _
      refine k_if_ne (t := 30) i_95_24 rfl (fun h24 => ?_) (fun h24 => ?_)
      · refine k_bipush i_95_30 (by decide) ?_
        refine k_aload_n i_95_32 rfl ?_
        refine k_getR (r := 25) i_95_33 o_95 rfl (by decide) (s_0) rfl ?_
        refine k_getI (kz := 7) i_95_36 o_95 rfl (by decide) (s_25) rfl ?_
        refine k_imul i_95_39 (by omega) ?_
        refine k_aload_n i_95_40 rfl ?_
        refine k_getR (r := 25) i_95_41 o_95 rfl (by decide) (s_0) rfl ?_
        refine k_getI (kz := 8) i_95_44 o_95 rfl (by decide) (s_25) rfl ?_
        refine k_iadd i_95_47 (by omega) ?_
        refine k_istore_n (ls' := [some (vR (some 0)), some (vI c), some (vI s), some (vI ((10 * (M 25 7)) + (M 25 8)))]) i_95_48 rfl ?_
        refine k_aload_n i_95_49 rfl ?_
        refine k_getR (r := 31) i_95_50 o_95 rfl (by decide) (s_0) rfl ?_
        refine k_aload_n i_95_53 rfl ?_
        refine k_getR (r := 25) i_95_54 o_95 rfl (by decide) (s_0) rfl ?_
        refine k_invV (n := 1) (o' := 0) (av := [vR (some 31), vR (some 25)]) (rest := []) (el := [some (vR (some 31)), some (vR (some 25))]) i_95_57 o_95 rfl v_3 rfl (s_31) rfl rfl rfl rfl rfl ?_
        refine c_3 hKo hR hl16 hA (fun M1 hA1 ho1 => ?_)
        show Ok _ 95 60 [some (vR (some 0)), some (vI c), some (vI s), some (vI ((10 * (M 25 7)) + (M 25 8)))] [] (M1) _
        refine k_aload_n i_95_60 rfl ?_
        refine k_getR (r := 25) i_95_61 o_95 rfl (by decide) (s_0) rfl ?_
        refine k_iload_n i_95_64 rfl ?_
        refine k_putI (kz := 7) i_95_65 o_95 rfl (by decide) (s_25) rfl ?_
        refine k_aload_n i_95_68 rfl ?_
        refine k_getR (r := 25) i_95_69 o_95 rfl (by decide) (s_0) rfl ?_
        refine k_iload_n i_95_72 rfl ?_
        refine k_putI (kz := 8) i_95_73 o_95 rfl (by decide) (s_25) rfl ?_
        refine k_iload_n i_95_76 rfl ?_
        refine k_iret i_95_77 rfl ?_
        show Ok (d + 24) 161 0 [some (vR (some 273)), some (vI c), some (vI s), none] [] (mu (mu M1 25 (7) (c)) 25 (8) (s)) _
        obtain ⟨N, hN⟩ : ∃ N : Mem, N = mu (mu M1 25 (7) (c)) 25 (8) (s) := ⟨_, rfl⟩
        rw [← hN]
        have hnb : ∀ (b : Nat) (j : Int), ¬ (25 ≤ b ∧ b ≤ 176) → N b j = M b j := fun b j hb => by
          rw [hN]
          repeat rw [mu_ne (by omega)]
          exact ho1 b j (by omega)
        have hRN : RepR N K 0 T := hRR.off (fun j => hnb 274 j (by omega))
        have hAN : ActsR N K L := hAR.fr (hnb _ _ (by omega)) (fun j => hnb _ _ (by omega))
        have z1 : N 274 231 = M 274 231 := hnb _ _ (by omega)
        have z2 : N 274 229 = M 274 229 := hnb _ _ (by omega)
        refine k_aload_n i_161_0 rfl ?_
        refine k_invV (n := 0) (o' := 8) (av := [vR (some 273)]) (rest := []) (el := [some (vR (some 273))]) i_161_1 o_161 rfl v_144 rfl (s_273) rfl rfl rfl rfl rfl ?_
        refine c_144 (fun v1 hv1 => ?_)
        show Ok _ 161 4 [some (vR (some 273)), some (vI c), some (vI s), none] [vI v1] (N) _
        refine k_if_ne (t := 10) i_161_4 rfl (fun h4 => ?_) (fun h4 => ?_)
        · refine k_iload_n i_161_10 rfl ?_
          refine k_i2l i_161_11 ?_
          refine k_lconst (z := 0) i_161_12 rfl ?_
          refine k_ldc2 (z := 3) i_161_13 o_161 rfl (by decide) ?_
          refine k_invS (n := 3) (av := [vL c, vL 0, vL 3]) (rest := []) (el := [some (vL c), none, some (vL 0), none, some (vL 3), none]) i_161_16 o_161 rfl v_122 rfl rfl rfl rfl rfl rfl ?_
          refine c_122 (fun v16 hv16 => ?_)
          show Ok _ 161 19 [some (vR (some 273)), some (vI c), some (vI s), none] [vI v16] (N) _
          refine k_if_eq (t := 34) i_161_19 rfl (fun h19 => ?_) (fun h19 => ?_)
          · refine k_ldc (z := -1000001) i_161_34 o_161 rfl (by decide) ?_
            refine k_iret i_161_36 rfl ?_
            exfalso
            omega
          · refine k_iload_n i_161_22 rfl ?_
            refine k_i2l i_161_23 ?_
            refine k_lconst (z := 0) i_161_24 rfl ?_
            refine k_ldc2 (z := 9) i_161_25 o_161 rfl (by decide) ?_
            refine k_invS (n := 3) (av := [vL s, vL 0, vL 9]) (rest := []) (el := [some (vL s), none, some (vL 0), none, some (vL 9), none]) i_161_28 o_161 rfl v_122 rfl rfl rfl rfl rfl rfl ?_
            refine c_122 (fun v28 hv28 => ?_)
            show Ok _ 161 31 [some (vR (some 273)), some (vI c), some (vI s), none] [vI v28] (N) _
            refine k_if_ne (t := 37) i_161_31 rfl (fun h31 => ?_) (fun h31 => ?_)
            · refine k_aload_n i_161_37 rfl ?_
              refine k_invV (n := 0) (o' := 8) (av := [vR (some 273)]) (rest := []) (el := [some (vR (some 273)), none]) i_161_38 o_161 rfl v_154 rfl (s_273) rfl rfl rfl rfl rfl ?_
              refine c_154 hKo hRN hl16 (fun U hU => sane_len hKo (hL U hU)) hAN (fun M3 hA3 ho3 => ?_)
              show Ok _ 161 41 [some (vR (some 273)), some (vI c), some (vI s), none] [] (M3) _
              refine k_bipush i_161_41 (by decide) ?_
              refine k_aload_n i_161_43 rfl ?_
              refine k_getR (r := 274) i_161_44 o_161 rfl (by decide) (s_273) rfl ?_
              refine k_sipush i_161_47 (by decide) ?_
              refine k_iald i_161_50 (s_274) (by omega) ?_
              refine k_imul i_161_51 (by first | (exfalso; omega) | (have w143 : M3 274 143 = tCa T := (ho3 _ _ (by decide) (by omega)).trans hRN.2.1; omega) | (have w143 : M3 274 143 = tCa T := (ho3 _ _ (by decide) (by omega)).trans hRR.2.1; omega)) ?_
              refine k_aload_n i_161_52 rfl ?_
              refine k_getR (r := 274) i_161_53 o_161 rfl (by decide) (s_273) rfl ?_
              refine k_sipush i_161_56 (by decide) ?_
              refine k_iald i_161_59 (s_274) (by omega) ?_
              refine k_iadd i_161_60 (by first | (exfalso; omega) | (have w143 : M3 274 143 = tCa T := (ho3 _ _ (by decide) (by omega)).trans hRN.2.1; have w144 : M3 274 144 = tSe T := (ho3 _ _ (by decide) (by omega)).trans hRN.2.2.1; omega)) ?_
              refine k_istore_n (ls' := [some (vR (some 273)), some (vI c), some (vI s), some (vI ((10 * (M3 274 143)) + (M3 274 144)))]) i_161_61 rfl ?_
              refine k_aload_n i_161_62 rfl ?_
              refine k_getR (r := 274) i_161_63 o_161 rfl (by decide) (s_273) rfl ?_
              refine k_sipush i_161_66 (by decide) ?_
              refine k_iload_n i_161_69 rfl ?_
              refine k_iast i_161_70 (s_274) (by omega) ?_
              refine k_aload_n i_161_71 rfl ?_
              refine k_getR (r := 274) i_161_72 o_161 rfl (by decide) (s_273) rfl ?_
              refine k_sipush i_161_75 (by decide) ?_
              refine k_iload_n i_161_78 rfl ?_
              refine k_iast i_161_79 (s_274) (by omega) ?_
              refine k_iload_n i_161_80 rfl ?_
              refine k_iret i_161_81 rfl ?_
              have w143 : M3 274 143 = tCa T := (ho3 _ _ (by decide) (by omega)).trans hRN.2.1
              have w144 : M3 274 144 = tSe T := (ho3 _ _ (by decide) (by omega)).trans hRN.2.2.1
              have hR3 : RepR M3 K 0 T := hRN.off (fun j => ho3 274 j (by decide) (by omega))
              have hC1 : RepC M1 25 K 0 T := hR.fr (fun b j h0 h1 => ho1 b j (by omega))
              have hCN : RepC N 25 K 0 (mkT (tQ T) (tW T) (tS T) (tB T) (tO T) (tMi T) c s (tNx T)) := by
                rw [hN]
                exact ((hC1.fld c).2.2.1.fld s).2.2.2
              have hRF : RepR (mu (mu M3 274 143 c) 274 144 s) K 0 (mkT (tQ T) (tW T) (tS T) (tB T) (tO T) (tMi T) c s (tNx T)) := (RepR.fld hKo (by exact hl28) (RepR.fld hKo hl28 hR3 c).2.2.1 s).2.2.2
              have hu := hT
              refine ⟨_, rfl, congrArg (fun z => some (vI z)) (by omega), h.act (K := K) (T := mkT (tQ T) (tW T) (tS T) (tB T) (tO T) (tMi T) c s (tNx T)) (L := keepL L T) (fun b j h0 h1 h2 h3 h4 h5 => ?_) ⟨hE, hKo, ⟨?_, hS.2.1, hS.2.2⟩, ?_, ?_, ?_, hRF, ?_, ?_, sane_keep hS hL, ?_⟩⟩
              · have e1 : ¬ (b = 274 ∧ j = 144) := by omega
                have e2 : ¬ (b = 274 ∧ j = 143) := by omega
                refine (if_neg e1).trans ((if_neg e2).trans ?_)
                rw [ho3 b j h3 h2, hnb b j h0]
              · obtain ⟨u1, u2, u3', u4, u5, u6, u7⟩ := id hT
                refine ⟨u1, u2, ?_, u4, u5, u6, u7⟩
                show 0 ≤ tNx T ∧ tNx T ≤ kPe K ∧ ((tQ T).length : Int) ≤ tNx T + 0 ∧ 0 ≤ tMi T ∧ tMi T ≤ 100000 ∧ 0 ≤ c ∧ c ≤ 3 ∧ 0 ≤ s ∧ s ≤ 9
                omega
              · exact hK12.fr (fun b j h0 h1 => by rw [mu_ne (by omega), mu_ne (by omega), ho3 _ _ (by omega) (by omega), hnb _ _ (by omega)])
              · exact hCN.fr (fun b j h0 h1 => by rw [mu_ne (by omega), mu_ne (by omega), ho3 _ _ (by omega) (by omega)])
              · have hk3 : RepKR M3 K 0 := hKR.fr (fun j => (ho3 274 j (by decide) (by omega)).trans (hnb 274 j (by omega)))
                exact hk3.out hKo (((OutR.rf M3).mu (by omega)).mu (by omega))
              · refine hA1.fr (fun b j h0 h1 => ?_)
                rw [mu_ne (by omega), mu_ne (by omega), ho3 _ _ (by omega) (by omega), hN, mu_ne (by omega), mu_ne (by omega)]
              · exact hA3.fr (by rw [mu_ne (by decide), mu_ne (by decide)]) (fun j => by rw [mu_ne (by decide), mu_ne (by decide)])
              · refine Or.inr ⟨?_, ?_⟩
                · rw [mu_ne (by decide), mu_ne (by decide), ho3 _ _ (by decide) (by omega), hnb _ _ (by omega)]; omega
                · rw [mu_j (by decide), mu_j (by decide), ho3 _ _ (by decide) (by omega), hnb _ _ (by omega)]; omega
            · refine k_ldc (z := -1000001) i_161_34 o_161 rfl (by decide) ?_
              refine k_iret i_161_36 rfl ?_
              exfalso
              omega
        · refine k_ldc (z := -1000002) i_161_7 o_161 rfl (by decide) ?_
          refine k_iret i_161_9 rfl ?_
          exfalso
          omega
      · refine k_ldc (z := -1000001) i_95_27 o_95 rfl (by decide) ?_
        refine k_iret i_95_29 rfl ?_
        show Ok (d + 24) 161 0 [some (vR (some 273)), some (vI c), some (vI s), none] [] M _
        refine k_aload_n i_161_0 rfl ?_
        refine k_invV (n := 0) (o' := 8) (av := [vR (some 273)]) (rest := []) (el := [some (vR (some 273))]) i_161_1 o_161 rfl v_144 rfl (s_273) rfl rfl rfl rfl rfl ?_
        refine c_144 (fun v1 hv1 => ?_)
        show Ok _ 161 4 [some (vR (some 273)), some (vI c), some (vI s), none] [vI v1] (M) _
        refine k_if_ne (t := 10) i_161_4 rfl (fun h4 => ?_) (fun h4 => ?_)
        · refine k_iload_n i_161_10 rfl ?_
          refine k_i2l i_161_11 ?_
          refine k_lconst (z := 0) i_161_12 rfl ?_
          refine k_ldc2 (z := 3) i_161_13 o_161 rfl (by decide) ?_
          refine k_invS (n := 3) (av := [vL c, vL 0, vL 3]) (rest := []) (el := [some (vL c), none, some (vL 0), none, some (vL 3), none]) i_161_16 o_161 rfl v_122 rfl rfl rfl rfl rfl rfl ?_
          refine c_122 (fun v16 hv16 => ?_)
          show Ok _ 161 19 [some (vR (some 273)), some (vI c), some (vI s), none] [vI v16] (M) _
          refine k_if_eq (t := 34) i_161_19 rfl (fun h19 => ?_) (fun h19 => ?_)
          · refine k_ldc (z := -1000001) i_161_34 o_161 rfl (by decide) ?_
            refine k_iret i_161_36 rfl ?_
            refine ⟨_, rfl, ?_, h⟩
            first
              | exact congrArg (fun z => some (vI z)) (by omega)
              | (exfalso; omega)
          · refine k_iload_n i_161_22 rfl ?_
            refine k_i2l i_161_23 ?_
            refine k_lconst (z := 0) i_161_24 rfl ?_
            refine k_ldc2 (z := 9) i_161_25 o_161 rfl (by decide) ?_
            refine k_invS (n := 3) (av := [vL s, vL 0, vL 9]) (rest := []) (el := [some (vL s), none, some (vL 0), none, some (vL 9), none]) i_161_28 o_161 rfl v_122 rfl rfl rfl rfl rfl rfl ?_
            refine c_122 (fun v28 hv28 => ?_)
            show Ok _ 161 31 [some (vR (some 273)), some (vI c), some (vI s), none] [vI v28] (M) _
            refine k_if_ne (t := 37) i_161_31 rfl (fun h31 => ?_) (fun h31 => ?_)
            · refine k_aload_n i_161_37 rfl ?_
              refine k_invV (n := 0) (o' := 8) (av := [vR (some 273)]) (rest := []) (el := [some (vR (some 273)), none]) i_161_38 o_161 rfl v_154 rfl (s_273) rfl rfl rfl rfl rfl ?_
              refine c_154 hKo hRR hl16 (fun U hU => sane_len hKo (hL U hU)) hAR (fun M3 hA3 ho3 => ?_)
              show Ok _ 161 41 [some (vR (some 273)), some (vI c), some (vI s), none] [] (M3) _
              refine k_bipush i_161_41 (by decide) ?_
              refine k_aload_n i_161_43 rfl ?_
              refine k_getR (r := 274) i_161_44 o_161 rfl (by decide) (s_273) rfl ?_
              refine k_sipush i_161_47 (by decide) ?_
              refine k_iald i_161_50 (s_274) (by omega) ?_
              refine k_imul i_161_51 (by first | (exfalso; omega) | (have w143 : M3 274 143 = tCa T := (ho3 _ _ (by decide) (by omega)).trans hRN.2.1; omega) | (have w143 : M3 274 143 = tCa T := (ho3 _ _ (by decide) (by omega)).trans hRR.2.1; omega)) ?_
              refine k_aload_n i_161_52 rfl ?_
              refine k_getR (r := 274) i_161_53 o_161 rfl (by decide) (s_273) rfl ?_
              refine k_sipush i_161_56 (by decide) ?_
              refine k_iald i_161_59 (s_274) (by omega) ?_
              refine k_iadd i_161_60 (by first | (exfalso; omega) | (have w143 : M3 274 143 = tCa T := (ho3 _ _ (by decide) (by omega)).trans hRN.2.1; have w144 : M3 274 144 = tSe T := (ho3 _ _ (by decide) (by omega)).trans hRN.2.2.1; omega)) ?_
              refine k_istore_n (ls' := [some (vR (some 273)), some (vI c), some (vI s), some (vI ((10 * (M3 274 143)) + (M3 274 144)))]) i_161_61 rfl ?_
              refine k_aload_n i_161_62 rfl ?_
              refine k_getR (r := 274) i_161_63 o_161 rfl (by decide) (s_273) rfl ?_
              refine k_sipush i_161_66 (by decide) ?_
              refine k_iload_n i_161_69 rfl ?_
              refine k_iast i_161_70 (s_274) (by omega) ?_
              refine k_aload_n i_161_71 rfl ?_
              refine k_getR (r := 274) i_161_72 o_161 rfl (by decide) (s_273) rfl ?_
              refine k_sipush i_161_75 (by decide) ?_
              refine k_iload_n i_161_78 rfl ?_
              refine k_iast i_161_79 (s_274) (by omega) ?_
              refine k_iload_n i_161_80 rfl ?_
              refine k_iret i_161_81 rfl ?_
              exfalso
              omega
            · refine k_ldc (z := -1000001) i_161_34 o_161 rfl (by decide) ?_
              refine k_iret i_161_36 rfl ?_
              refine ⟨_, rfl, ?_, h⟩
              first
                | exact congrArg (fun z => some (vI z)) (by omega)
                | (exfalso; omega)
        · refine k_ldc (z := -1000002) i_161_7 o_161 rfl (by decide) ?_
          refine k_iret i_161_9 rfl ?_
          refine ⟨_, rfl, ?_, h⟩
          first
            | exact congrArg (fun z => some (vI z)) (by omega)
            | (exfalso; omega)
  · refine k_ldc (z := -1000002) i_95_7 o_95 rfl (by decide) ?_
    refine k_iret i_95_9 rfl ?_
    show Ok (d + 24) 161 0 [some (vR (some 273)), some (vI c), some (vI s), none] [] M _
    refine k_aload_n i_161_0 rfl ?_
    refine k_invV (n := 0) (o' := 8) (av := [vR (some 273)]) (rest := []) (el := [some (vR (some 273))]) i_161_1 o_161 rfl v_144 rfl (s_273) rfl rfl rfl rfl rfl ?_
    refine c_144 (fun v1 hv1 => ?_)
    show Ok _ 161 4 [some (vR (some 273)), some (vI c), some (vI s), none] [vI v1] (M) _
    refine k_if_ne (t := 10) i_161_4 rfl (fun h4 => ?_) (fun h4 => ?_)
    · refine k_iload_n i_161_10 rfl ?_
      refine k_i2l i_161_11 ?_
      refine k_lconst (z := 0) i_161_12 rfl ?_
      refine k_ldc2 (z := 3) i_161_13 o_161 rfl (by decide) ?_
      refine k_invS (n := 3) (av := [vL c, vL 0, vL 3]) (rest := []) (el := [some (vL c), none, some (vL 0), none, some (vL 3), none]) i_161_16 o_161 rfl v_122 rfl rfl rfl rfl rfl rfl ?_
      refine c_122 (fun v16 hv16 => ?_)
      show Ok _ 161 19 [some (vR (some 273)), some (vI c), some (vI s), none] [vI v16] (M) _
      refine k_if_eq (t := 34) i_161_19 rfl (fun h19 => ?_) (fun h19 => ?_)
      · refine k_ldc (z := -1000001) i_161_34 o_161 rfl (by decide) ?_
        refine k_iret i_161_36 rfl ?_
        refine ⟨_, rfl, ?_, h⟩
        first
          | exact congrArg (fun z => some (vI z)) (by omega)
          | (exfalso; omega)
      · refine k_iload_n i_161_22 rfl ?_
        refine k_i2l i_161_23 ?_
        refine k_lconst (z := 0) i_161_24 rfl ?_
        refine k_ldc2 (z := 9) i_161_25 o_161 rfl (by decide) ?_
        refine k_invS (n := 3) (av := [vL s, vL 0, vL 9]) (rest := []) (el := [some (vL s), none, some (vL 0), none, some (vL 9), none]) i_161_28 o_161 rfl v_122 rfl rfl rfl rfl rfl rfl ?_
        refine c_122 (fun v28 hv28 => ?_)
        show Ok _ 161 31 [some (vR (some 273)), some (vI c), some (vI s), none] [vI v28] (M) _
        refine k_if_ne (t := 37) i_161_31 rfl (fun h31 => ?_) (fun h31 => ?_)
        · refine k_aload_n i_161_37 rfl ?_
          refine k_invV (n := 0) (o' := 8) (av := [vR (some 273)]) (rest := []) (el := [some (vR (some 273)), none]) i_161_38 o_161 rfl v_154 rfl (s_273) rfl rfl rfl rfl rfl ?_
          refine c_154 hKo hRR hl16 (fun U hU => sane_len hKo (hL U hU)) hAR (fun M3 hA3 ho3 => ?_)
          show Ok _ 161 41 [some (vR (some 273)), some (vI c), some (vI s), none] [] (M3) _
          refine k_bipush i_161_41 (by decide) ?_
          refine k_aload_n i_161_43 rfl ?_
          refine k_getR (r := 274) i_161_44 o_161 rfl (by decide) (s_273) rfl ?_
          refine k_sipush i_161_47 (by decide) ?_
          refine k_iald i_161_50 (s_274) (by omega) ?_
          refine k_imul i_161_51 (by first | (exfalso; omega) | (have w143 : M3 274 143 = tCa T := (ho3 _ _ (by decide) (by omega)).trans hRN.2.1; omega) | (have w143 : M3 274 143 = tCa T := (ho3 _ _ (by decide) (by omega)).trans hRR.2.1; omega)) ?_
          refine k_aload_n i_161_52 rfl ?_
          refine k_getR (r := 274) i_161_53 o_161 rfl (by decide) (s_273) rfl ?_
          refine k_sipush i_161_56 (by decide) ?_
          refine k_iald i_161_59 (s_274) (by omega) ?_
          refine k_iadd i_161_60 (by first | (exfalso; omega) | (have w143 : M3 274 143 = tCa T := (ho3 _ _ (by decide) (by omega)).trans hRN.2.1; have w144 : M3 274 144 = tSe T := (ho3 _ _ (by decide) (by omega)).trans hRN.2.2.1; omega)) ?_
          refine k_istore_n (ls' := [some (vR (some 273)), some (vI c), some (vI s), some (vI ((10 * (M3 274 143)) + (M3 274 144)))]) i_161_61 rfl ?_
          refine k_aload_n i_161_62 rfl ?_
          refine k_getR (r := 274) i_161_63 o_161 rfl (by decide) (s_273) rfl ?_
          refine k_sipush i_161_66 (by decide) ?_
          refine k_iload_n i_161_69 rfl ?_
          refine k_iast i_161_70 (s_274) (by omega) ?_
          refine k_aload_n i_161_71 rfl ?_
          refine k_getR (r := 274) i_161_72 o_161 rfl (by decide) (s_273) rfl ?_
          refine k_sipush i_161_75 (by decide) ?_
          refine k_iload_n i_161_78 rfl ?_
          refine k_iast i_161_79 (s_274) (by omega) ?_
          refine k_iload_n i_161_80 rfl ?_
          refine k_iret i_161_81 rfl ?_
          exfalso
          omega
        · refine k_ldc (z := -1000001) i_161_34 o_161 rfl (by decide) ?_
          refine k_iret i_161_36 rfl ?_
          refine ⟨_, rfl, ?_, h⟩
          first
            | exact congrArg (fun z => some (vI z)) (by omega)
            | (exfalso; omega)
    · refine k_ldc (z := -1000002) i_161_7 o_161 rfl (by decide) ?_
      refine k_iret i_161_9 rfl ?_
      refine ⟨_, rfl, ?_, h⟩
      first
        | exact congrArg (fun z => some (vI z)) (by omega)
        | (exfalso; omega)
