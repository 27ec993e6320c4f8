set_option maxRecDepth 100000 in
theorem tp_person {d : Nat} {M : Mem} {i w : Int} (h : Rel M)  : Two (d + 24) 97 163 [some (vR (some 0)), some (vI i), some (vI w)] [some (vR (some 273)), some (vI i), some (vI w)] M := by
  obtain ⟨K, T, L, hW⟩ := h.2.2.2.2.1
  obtain ⟨hE, hKo, hS, hK12, hR, hKR, hRR, hA, hAR, hL, hti⟩ := id hW
  have hT := hS.1
  have hK : RepK M 20 K 0 := hK12.mono (by decide)
  have g0 := hKo.1
  have u3 := hT.2.2.1
  have mi9 := hS.2.2
  have k1 : M 20 7 = kPe K := hK.1
  have k2 : M 20 6 = kWt K := hK.2.1
  have q1 : M 274 229 = kPe K := hKR.1
  have q2 : M 274 230 = kPe K - kWt K := hKR.2.1
  obtain ⟨x6, x7, x8, x9, x10, xq, xp⟩ := id hR
  obtain ⟨y6, y7, y8, y9, y10, yq, yp⟩ := id hRR
  have hl28 := q28 hKo hT
  have hl16 : ((tQ T).length : Int) ≤ 16 := by omega
  show Ok (d + 24) 97 0 [some (vR (some 0)), some (vI i), some (vI w)] [] M _
  refine k_aload_n i_97_0 rfl ?_
  refine k_iload_n i_97_1 rfl ?_
  refine k_invV (n := 1) (o' := 7) (av := [vR (some 0), vI i]) (rest := []) (el := [some (vR (some 0)), some (vI i)]) i_97_2 o_97 rfl v_118 rfl (s_0) rfl rfl rfl rfl rfl ?_
  refine c_118 (fun v2 hv2 => ?_)
  show Ok _ 97 5 [some (vR (some 0)), some (vI i), some (vI w)] [vI v2] (M) _
  refine k_if_ne (t := 11) i_97_5 rfl (fun h5 => ?_) (fun h5 => ?_)
  · refine k_iload_n i_97_11 rfl ?_
    rcases (show w = 0 ∨ w = 1 ∨ w = 2 ∨ w = 3 ∨ w = 4 ∨ w = 5 ∨ (w < 0 ∨ 5 < w) by omega) with hx12 | hx12 | hx12 | hx12 | hx12 | hx12 | hx12
    · refine k_tab (off := 40) (t := 52) i_97_12 (by rw [hx12]; rfl) rfl ?_
      refine k_aload_n i_97_52 rfl ?_
      refine k_getR (r := 25) i_97_53 o_97 rfl (by decide) (s_0) rfl ?_
      refine k_iload_n i_97_56 rfl ?_
      refine k_invV (n := 1) (o' := 6) (av := [vR (some 25), vI i]) (rest := []) (el := [some (vR (some 25)), some (vI i), none]) i_97_57 o_97 rfl v_66 rfl (s_25) rfl rfl rfl rfl rfl ?_
      refine c_66 tw_25 hR (by omega) hT.1 (by omega) (fun vp hvp => ?_)
      show Ok _ 97 60 [some (vR (some 0)), some (vI i), some (vI w)] [vI vp] (M) _
      refine k_iret i_97_60 rfl ?_
      show Ok (d + 24) 163 0 [some (vR (some 273)), some (vI i), some (vI w)] [] M _
      refine k_aload_n i_163_0 rfl ?_
      refine k_iload_n i_163_1 rfl ?_
      refine k_invV (n := 1) (o' := 8) (av := [vR (some 273), vI i]) (rest := []) (el := [some (vR (some 273)), some (vI i)]) i_163_2 o_163 rfl v_143 rfl (s_273) rfl rfl rfl rfl rfl ?_
      refine c_143 (by omega) (fun v2 hv2 => ?_)
      show Ok _ 163 5 [some (vR (some 273)), some (vI i), some (vI w)] [vI v2] (M) _
      refine k_if_eq (t := 20) i_163_5 rfl (fun h5 => ?_) (fun h5 => ?_)
      · refine k_ldc (z := -1000001) i_163_20 o_163 rfl (by decide) ?_
        refine k_iret i_163_22 rfl ?_
        refine ⟨_, rfl, ?_, h⟩
        first
          | exact congrArg (fun z => some (vI z)) (by omega)
          | (exfalso; omega)
          | (have hv : Va K 0 i := Or.inl (by omega)
             have e1 : M 27 i = tB T i ∧ M 28 i = tW T i ∧ M 29 i = tS T i ∧ M 30 i = tO T i := xp i hv
             have e2 : M 274 (56 + i) = tB T i ∧ M 274 i = tW T i ∧ M 274 (28 + i) = tS T i ∧ M 274 (84 + i) = tO T i := yp i hv
             have e3 : M 22 i = kPa K i := (hK.2.2 i hv).2.1
             have e4 : M 274 (173 + i) = kPa K i := (hKR.2.2 i hv).2.1
             refine congrArg (fun z => some (vI z)) ?_
             first
               | omega
               | (rw [Int.zero_add]; omega))
      · refine k_iload_n i_163_8 rfl ?_
        refine k_i2l i_163_9 ?_
        refine k_lconst (z := 0) i_163_10 rfl ?_
        refine k_ldc2 (z := 5) i_163_11 o_163 rfl (by decide) ?_
        refine k_invS (n := 3) (av := [vL w, vL 0, vL 5]) (rest := []) (el := [some (vL w), none, some (vL 0), none, some (vL 5), none]) i_163_14 o_163 rfl v_122 rfl rfl rfl rfl rfl rfl ?_
        refine c_122 (fun v14 hv14 => ?_)
        show Ok _ 163 17 [some (vR (some 273)), some (vI i), some (vI w)] [vI v14] (M) _
        refine k_if_ne (t := 23) i_163_17 rfl (fun h17 => ?_) (fun h17 => ?_)
        · refine k_iload_n i_163_23 rfl ?_
          rcases (show w = 0 ∨ w = 1 ∨ w = 2 ∨ w = 3 ∨ w = 4 ∨ (w < 0 ∨ 4 < w) by omega) with hx24 | hx24 | hx24 | hx24 | hx24 | hx24
          · refine k_tab (off := 36) (t := 60) i_163_24 (by rw [hx24]; rfl) rfl ?_
            refine k_aload_n i_163_60 rfl ?_
            refine k_iload_n i_163_61 rfl ?_
            refine k_invV (n := 1) (o' := 8) (av := [vR (some 273), vI i]) (rest := []) (el := [some (vR (some 273)), some (vI i), none, none]) i_163_62 o_163 rfl v_159 rfl (s_273) rfl rfl rfl rfl rfl ?_
            refine c_159 hKo hKR hRR hT (fun vq hvq => ?_)
            show Ok _ 163 65 [some (vR (some 273)), some (vI i), some (vI w)] [vI vq] (M) _
            refine k_iret i_163_65 rfl ?_
            refine ⟨_, rfl, ?_, h⟩
            first
              | exact congrArg (fun z => some (vI z)) (by omega)
              | (exfalso; omega)
              | (have hv : Va K 0 i := Or.inl (by omega)
                 have e1 : M 27 i = tB T i ∧ M 28 i = tW T i ∧ M 29 i = tS T i ∧ M 30 i = tO T i := xp i hv
                 have e2 : M 274 (56 + i) = tB T i ∧ M 274 i = tW T i ∧ M 274 (28 + i) = tS T i ∧ M 274 (84 + i) = tO T i := yp i hv
                 have e3 : M 22 i = kPa K i := (hK.2.2 i hv).2.1
                 have e4 : M 274 (173 + i) = kPa K i := (hKR.2.2 i hv).2.1
                 refine congrArg (fun z => some (vI z)) ?_
                 first
                   | omega
                   | (rw [Int.zero_add]; omega))
          · refine k_tab (off := 42) (t := 66) i_163_24 (by rw [hx24]; rfl) rfl ?_
            refine k_aload_n i_163_66 rfl ?_
            refine k_getR (r := 274) i_163_67 o_163 rfl (by decide) (s_273) rfl ?_
            refine k_iconst i_163_70 (by decide) ?_
            refine k_iload_n i_163_71 rfl ?_
            refine k_iadd i_163_72 (by omega) ?_
            refine k_iald i_163_73 (s_274) (by omega) ?_
            refine k_iret i_163_74 rfl ?_
            refine ⟨_, rfl, ?_, h⟩
            first
              | exact congrArg (fun z => some (vI z)) (by omega)
              | (exfalso; omega)
              | (have hv : Va K 0 i := Or.inl (by omega)
                 have e1 : M 27 i = tB T i ∧ M 28 i = tW T i ∧ M 29 i = tS T i ∧ M 30 i = tO T i := xp i hv
                 have e2 : M 274 (56 + i) = tB T i ∧ M 274 i = tW T i ∧ M 274 (28 + i) = tS T i ∧ M 274 (84 + i) = tO T i := yp i hv
                 have e3 : M 22 i = kPa K i := (hK.2.2 i hv).2.1
                 have e4 : M 274 (173 + i) = kPa K i := (hKR.2.2 i hv).2.1
                 refine congrArg (fun z => some (vI z)) ?_
                 first
                   | omega
                   | (rw [Int.zero_add]; omega))
          · refine k_tab (off := 51) (t := 75) i_163_24 (by rw [hx24]; rfl) rfl ?_
            refine k_aload_n i_163_75 rfl ?_
            refine k_getR (r := 274) i_163_76 o_163 rfl (by decide) (s_273) rfl ?_
            refine k_bipush i_163_79 (by decide) ?_
            refine k_iload_n i_163_81 rfl ?_
            refine k_iadd i_163_82 (by omega) ?_
            refine k_iald i_163_83 (s_274) (by omega) ?_
            refine k_iret i_163_84 rfl ?_
            refine ⟨_, rfl, ?_, h⟩
            first
              | exact congrArg (fun z => some (vI z)) (by omega)
              | (exfalso; omega)
              | (have hv : Va K 0 i := Or.inl (by omega)
                 have e1 : M 27 i = tB T i ∧ M 28 i = tW T i ∧ M 29 i = tS T i ∧ M 30 i = tO T i := xp i hv
                 have e2 : M 274 (56 + i) = tB T i ∧ M 274 i = tW T i ∧ M 274 (28 + i) = tS T i ∧ M 274 (84 + i) = tO T i := yp i hv
                 have e3 : M 22 i = kPa K i := (hK.2.2 i hv).2.1
                 have e4 : M 274 (173 + i) = kPa K i := (hKR.2.2 i hv).2.1
                 refine congrArg (fun z => some (vI z)) ?_
                 first
                   | omega
                   | (rw [Int.zero_add]; omega))
          · refine k_tab (off := 61) (t := 85) i_163_24 (by rw [hx24]; rfl) rfl ?_
            refine k_aload_n i_163_85 rfl ?_
            refine k_iload_n i_163_86 rfl ?_
            refine k_invV (n := 1) (o' := 8) (av := [vR (some 273), vI i]) (rest := []) (el := [some (vR (some 273)), some (vI i)]) i_163_87 o_163 rfl v_146 rfl (s_273) rfl rfl rfl rfl rfl ?_
            refine c_146 hKo hKR hRR (Or.inl (by omega)) (fun vq hvq => ?_)
            show Ok _ 163 90 [some (vR (some 273)), some (vI i), some (vI w)] [vI vq] (M) _
            refine k_iret i_163_90 rfl ?_
            refine ⟨_, rfl, ?_, h⟩
            first
              | exact congrArg (fun z => some (vI z)) (by omega)
              | (exfalso; omega)
              | (have hv : Va K 0 i := Or.inl (by omega)
                 have e1 : M 27 i = tB T i ∧ M 28 i = tW T i ∧ M 29 i = tS T i ∧ M 30 i = tO T i := xp i hv
                 have e2 : M 274 (56 + i) = tB T i ∧ M 274 i = tW T i ∧ M 274 (28 + i) = tS T i ∧ M 274 (84 + i) = tO T i := yp i hv
                 have e3 : M 22 i = kPa K i := (hK.2.2 i hv).2.1
                 have e4 : M 274 (173 + i) = kPa K i := (hKR.2.2 i hv).2.1
                 refine congrArg (fun z => some (vI z)) ?_
                 first
                   | omega
                   | (rw [Int.zero_add]; omega))
          · refine k_tab (off := 67) (t := 91) i_163_24 (by rw [hx24]; rfl) rfl ?_
            refine k_aload_n i_163_91 rfl ?_
            refine k_getR (r := 274) i_163_92 o_163 rfl (by decide) (s_273) rfl ?_
            refine k_sipush i_163_95 (by decide) ?_
            refine k_iload_n i_163_98 rfl ?_
            refine k_iadd i_163_99 (by omega) ?_
            refine k_iald i_163_100 (s_274) (by omega) ?_
            refine k_iret i_163_101 rfl ?_
            refine ⟨_, rfl, ?_, h⟩
            first
              | exact congrArg (fun z => some (vI z)) (by omega)
              | (exfalso; omega)
              | (have hv : Va K 0 i := Or.inl (by omega)
                 have e1 : M 27 i = tB T i ∧ M 28 i = tW T i ∧ M 29 i = tS T i ∧ M 30 i = tO T i := xp i hv
                 have e2 : M 274 (56 + i) = tB T i ∧ M 274 i = tW T i ∧ M 274 (28 + i) = tS T i ∧ M 274 (84 + i) = tO T i := yp i hv
                 have e3 : M 22 i = kPa K i := (hK.2.2 i hv).2.1
                 have e4 : M 274 (173 + i) = kPa K i := (hKR.2.2 i hv).2.1
                 refine congrArg (fun z => some (vI z)) ?_
                 first
                   | omega
                   | (rw [Int.zero_add]; omega))
          · refine k_tab (off := 78) (t := 102) i_163_24 (if_pos hx24) rfl ?_
            refine k_aload_n i_163_102 rfl ?_
            refine k_getR (r := 274) i_163_103 o_163 rfl (by decide) (s_273) rfl ?_
            refine k_bipush i_163_106 (by decide) ?_
            refine k_iload_n i_163_108 rfl ?_
            refine k_iadd i_163_109 (by omega) ?_
            refine k_iald i_163_110 (s_274) (by omega) ?_
            refine k_iret i_163_111 rfl ?_
            refine ⟨_, rfl, ?_, h⟩
            first
              | exact congrArg (fun z => some (vI z)) (by omega)
              | (exfalso; omega)
              | (have hv : Va K 0 i := Or.inl (by omega)
                 have e1 : M 27 i = tB T i ∧ M 28 i = tW T i ∧ M 29 i = tS T i ∧ M 30 i = tO T i := xp i hv
                 have e2 : M 274 (56 + i) = tB T i ∧ M 274 i = tW T i ∧ M 274 (28 + i) = tS T i ∧ M 274 (84 + i) = tO T i := yp i hv
                 have e3 : M 22 i = kPa K i := (hK.2.2 i hv).2.1
                 have e4 : M 274 (173 + i) = kPa K i := (hKR.2.2 i hv).2.1
                 refine congrArg (fun z => some (vI z)) ?_
                 first
                   | omega
                   | (rw [Int.zero_add]; omega))
        · refine k_ldc (z := -1000001) i_163_20 o_163 rfl (by decide) ?_
          refine k_iret i_163_22 rfl ?_
          refine ⟨_, rfl, ?_, h⟩
          first
            | exact congrArg (fun z => some (vI z)) (by omega)
            | (exfalso; omega)
            | (have hv : Va K 0 i := Or.inl (by omega)
               have e1 : M 27 i = tB T i ∧ M 28 i = tW T i ∧ M 29 i = tS T i ∧ M 30 i = tO T i := xp i hv
               have e2 : M 274 (56 + i) = tB T i ∧ M 274 i = tW T i ∧ M 274 (28 + i) = tS T i ∧ M 274 (84 + i) = tO T i := yp i hv
               have e3 : M 22 i = kPa K i := (hK.2.2 i hv).2.1
               have e4 : M 274 (173 + i) = kPa K i := (hKR.2.2 i hv).2.1
               refine congrArg (fun z => some (vI z)) ?_
               first
                 | omega
                 | (rw [Int.zero_add]; omega))
    · refine k_tab (off := 49) (t := 61) i_97_12 (by rw [hx12]; rfl) rfl ?_
      refine k_aload_n i_97_61 rfl ?_
      refine k_getR (r := 25) i_97_62 o_97 rfl (by decide) (s_0) rfl ?_
      refine k_getR (r := 28) i_97_65 o_97 rfl (by decide) (s_25) rfl ?_
      refine k_iload_n i_97_68 rfl ?_
      refine k_iald i_97_69 (s_28) (by omega) ?_
      refine k_iret i_97_70 rfl ?_
      show Ok (d + 24) 163 0 [some (vR (some 273)), some (vI i), some (vI w)] [] M _
      refine k_aload_n i_163_0 rfl ?_
      refine k_iload_n i_163_1 rfl ?_
      refine k_invV (n := 1) (o' := 8) (av := [vR (some 273), vI i]) (rest := []) (el := [some (vR (some 273)), some (vI i)]) i_163_2 o_163 rfl v_143 rfl (s_273) rfl rfl rfl rfl rfl ?_
      refine c_143 (by omega) (fun v2 hv2 => ?_)
      show Ok _ 163 5 [some (vR (some 273)), some (vI i), some (vI w)] [vI v2] (M) _
      refine k_if_eq (t := 20) i_163_5 rfl (fun h5 => ?_) (fun h5 => ?_)
      · refine k_ldc (z := -1000001) i_163_20 o_163 rfl (by decide) ?_
        refine k_iret i_163_22 rfl ?_
        refine ⟨_, rfl, ?_, h⟩
        first
          | exact congrArg (fun z => some (vI z)) (by omega)
          | (exfalso; omega)
          | (have hv : Va K 0 i := Or.inl (by omega)
             have e1 : M 27 i = tB T i ∧ M 28 i = tW T i ∧ M 29 i = tS T i ∧ M 30 i = tO T i := xp i hv
             have e2 : M 274 (56 + i) = tB T i ∧ M 274 i = tW T i ∧ M 274 (28 + i) = tS T i ∧ M 274 (84 + i) = tO T i := yp i hv
             have e3 : M 22 i = kPa K i := (hK.2.2 i hv).2.1
             have e4 : M 274 (173 + i) = kPa K i := (hKR.2.2 i hv).2.1
             refine congrArg (fun z => some (vI z)) ?_
             first
               | omega
               | (rw [Int.zero_add]; omega))
      · refine k_iload_n i_163_8 rfl ?_
        refine k_i2l i_163_9 ?_
        refine k_lconst (z := 0) i_163_10 rfl ?_
        refine k_ldc2 (z := 5) i_163_11 o_163 rfl (by decide) ?_
        refine k_invS (n := 3) (av := [vL w, vL 0, vL 5]) (rest := []) (el := [some (vL w), none, some (vL 0), none, some (vL 5), none]) i_163_14 o_163 rfl v_122 rfl rfl rfl rfl rfl rfl ?_
        refine c_122 (fun v14 hv14 => ?_)
        show Ok _ 163 17 [some (vR (some 273)), some (vI i), some (vI w)] [vI v14] (M) _
        refine k_if_ne (t := 23) i_163_17 rfl (fun h17 => ?_) (fun h17 => ?_)
        · refine k_iload_n i_163_23 rfl ?_
          rcases (show w = 0 ∨ w = 1 ∨ w = 2 ∨ w = 3 ∨ w = 4 ∨ (w < 0 ∨ 4 < w) by omega) with hx24 | hx24 | hx24 | hx24 | hx24 | hx24
          · refine k_tab (off := 36) (t := 60) i_163_24 (by rw [hx24]; rfl) rfl ?_
            refine k_aload_n i_163_60 rfl ?_
            refine k_iload_n i_163_61 rfl ?_
            refine k_invV (n := 1) (o' := 8) (av := [vR (some 273), vI i]) (rest := []) (el := [some (vR (some 273)), some (vI i), none, none]) i_163_62 o_163 rfl v_159 rfl (s_273) rfl rfl rfl rfl rfl ?_
            refine c_159 hKo hKR hRR hT (fun vq hvq => ?_)
            show Ok _ 163 65 [some (vR (some 273)), some (vI i), some (vI w)] [vI vq] (M) _
            refine k_iret i_163_65 rfl ?_
            refine ⟨_, rfl, ?_, h⟩
            first
              | exact congrArg (fun z => some (vI z)) (by omega)
              | (exfalso; omega)
              | (have hv : Va K 0 i := Or.inl (by omega)
                 have e1 : M 27 i = tB T i ∧ M 28 i = tW T i ∧ M 29 i = tS T i ∧ M 30 i = tO T i := xp i hv
                 have e2 : M 274 (56 + i) = tB T i ∧ M 274 i = tW T i ∧ M 274 (28 + i) = tS T i ∧ M 274 (84 + i) = tO T i := yp i hv
                 have e3 : M 22 i = kPa K i := (hK.2.2 i hv).2.1
                 have e4 : M 274 (173 + i) = kPa K i := (hKR.2.2 i hv).2.1
                 refine congrArg (fun z => some (vI z)) ?_
                 first
                   | omega
                   | (rw [Int.zero_add]; omega))
          · refine k_tab (off := 42) (t := 66) i_163_24 (by rw [hx24]; rfl) rfl ?_
            refine k_aload_n i_163_66 rfl ?_
            refine k_getR (r := 274) i_163_67 o_163 rfl (by decide) (s_273) rfl ?_
            refine k_iconst i_163_70 (by decide) ?_
            refine k_iload_n i_163_71 rfl ?_
            refine k_iadd i_163_72 (by omega) ?_
            refine k_iald i_163_73 (s_274) (by omega) ?_
            refine k_iret i_163_74 rfl ?_
            refine ⟨_, rfl, ?_, h⟩
            first
              | exact congrArg (fun z => some (vI z)) (by omega)
              | (exfalso; omega)
              | (have hv : Va K 0 i := Or.inl (by omega)
                 have e1 : M 27 i = tB T i ∧ M 28 i = tW T i ∧ M 29 i = tS T i ∧ M 30 i = tO T i := xp i hv
                 have e2 : M 274 (56 + i) = tB T i ∧ M 274 i = tW T i ∧ M 274 (28 + i) = tS T i ∧ M 274 (84 + i) = tO T i := yp i hv
                 have e3 : M 22 i = kPa K i := (hK.2.2 i hv).2.1
                 have e4 : M 274 (173 + i) = kPa K i := (hKR.2.2 i hv).2.1
                 refine congrArg (fun z => some (vI z)) ?_
                 first
                   | omega
                   | (rw [Int.zero_add]; omega))
          · refine k_tab (off := 51) (t := 75) i_163_24 (by rw [hx24]; rfl) rfl ?_
            refine k_aload_n i_163_75 rfl ?_
            refine k_getR (r := 274) i_163_76 o_163 rfl (by decide) (s_273) rfl ?_
            refine k_bipush i_163_79 (by decide) ?_
            refine k_iload_n i_163_81 rfl ?_
            refine k_iadd i_163_82 (by omega) ?_
            refine k_iald i_163_83 (s_274) (by omega) ?_
            refine k_iret i_163_84 rfl ?_
            refine ⟨_, rfl, ?_, h⟩
            first
              | exact congrArg (fun z => some (vI z)) (by omega)
              | (exfalso; omega)
              | (have hv : Va K 0 i := Or.inl (by omega)
                 have e1 : M 27 i = tB T i ∧ M 28 i = tW T i ∧ M 29 i = tS T i ∧ M 30 i = tO T i := xp i hv
                 have e2 : M 274 (56 + i) = tB T i ∧ M 274 i = tW T i ∧ M 274 (28 + i) = tS T i ∧ M 274 (84 + i) = tO T i := yp i hv
                 have e3 : M 22 i = kPa K i := (hK.2.2 i hv).2.1
                 have e4 : M 274 (173 + i) = kPa K i := (hKR.2.2 i hv).2.1
                 refine congrArg (fun z => some (vI z)) ?_
                 first
                   | omega
                   | (rw [Int.zero_add]; omega))
          · refine k_tab (off := 61) (t := 85) i_163_24 (by rw [hx24]; rfl) rfl ?_
            refine k_aload_n i_163_85 rfl ?_
            refine k_iload_n i_163_86 rfl ?_
            refine k_invV (n := 1) (o' := 8) (av := [vR (some 273), vI i]) (rest := []) (el := [some (vR (some 273)), some (vI i)]) i_163_87 o_163 rfl v_146 rfl (s_273) rfl rfl rfl rfl rfl ?_
            refine c_146 hKo hKR hRR (Or.inl (by omega)) (fun vq hvq => ?_)
            show Ok _ 163 90 [some (vR (some 273)), some (vI i), some (vI w)] [vI vq] (M) _
            refine k_iret i_163_90 rfl ?_
            refine ⟨_, rfl, ?_, h⟩
            first
              | exact congrArg (fun z => some (vI z)) (by omega)
              | (exfalso; omega)
              | (have hv : Va K 0 i := Or.inl (by omega)
                 have e1 : M 27 i = tB T i ∧ M 28 i = tW T i ∧ M 29 i = tS T i ∧ M 30 i = tO T i := xp i hv
                 have e2 : M 274 (56 + i) = tB T i ∧ M 274 i = tW T i ∧ M 274 (28 + i) = tS T i ∧ M 274 (84 + i) = tO T i := yp i hv
                 have e3 : M 22 i = kPa K i := (hK.2.2 i hv).2.1
                 have e4 : M 274 (173 + i) = kPa K i := (hKR.2.2 i hv).2.1
                 refine congrArg (fun z => some (vI z)) ?_
                 first
                   | omega
                   | (rw [Int.zero_add]; omega))
          · refine k_tab (off := 67) (t := 91) i_163_24 (by rw [hx24]; rfl) rfl ?_
            refine k_aload_n i_163_91 rfl ?_
            refine k_getR (r := 274) i_163_92 o_163 rfl (by decide) (s_273) rfl ?_
            refine k_sipush i_163_95 (by decide) ?_
            refine k_iload_n i_163_98 rfl ?_
            refine k_iadd i_163_99 (by omega) ?_
            refine k_iald i_163_100 (s_274) (by omega) ?_
            refine k_iret i_163_101 rfl ?_
            refine ⟨_, rfl, ?_, h⟩
            first
              | exact congrArg (fun z => some (vI z)) (by omega)
              | (exfalso; omega)
              | (have hv : Va K 0 i := Or.inl (by omega)
                 have e1 : M 27 i = tB T i ∧ M 28 i = tW T i ∧ M 29 i = tS T i ∧ M 30 i = tO T i := xp i hv
                 have e2 : M 274 (56 + i) = tB T i ∧ M 274 i = tW T i ∧ M 274 (28 + i) = tS T i ∧ M 274 (84 + i) = tO T i := yp i hv
                 have e3 : M 22 i = kPa K i := (hK.2.2 i hv).2.1
                 have e4 : M 274 (173 + i) = kPa K i := (hKR.2.2 i hv).2.1
                 refine congrArg (fun z => some (vI z)) ?_
                 first
                   | omega
                   | (rw [Int.zero_add]; omega))
          · refine k_tab (off := 78) (t := 102) i_163_24 (if_pos hx24) rfl ?_
            refine k_aload_n i_163_102 rfl ?_
            refine k_getR (r := 274) i_163_103 o_163 rfl (by decide) (s_273) rfl ?_
            refine k_bipush i_163_106 (by decide) ?_
            refine k_iload_n i_163_108 rfl ?_
            refine k_iadd i_163_109 (by omega) ?_
            refine k_iald i_163_110 (s_274) (by omega) ?_
            refine k_iret i_163_111 rfl ?_
            refine ⟨_, rfl, ?_, h⟩
            first
              | exact congrArg (fun z => some (vI z)) (by omega)
              | (exfalso; omega)
              | (have hv : Va K 0 i := Or.inl (by omega)
                 have e1 : M 27 i = tB T i ∧ M 28 i = tW T i ∧ M 29 i = tS T i ∧ M 30 i = tO T i := xp i hv
                 have e2 : M 274 (56 + i) = tB T i ∧ M 274 i = tW T i ∧ M 274 (28 + i) = tS T i ∧ M 274 (84 + i) = tO T i := yp i hv
                 have e3 : M 22 i = kPa K i := (hK.2.2 i hv).2.1
                 have e4 : M 274 (173 + i) = kPa K i := (hKR.2.2 i hv).2.1
                 refine congrArg (fun z => some (vI z)) ?_
                 first
                   | omega
                   | (rw [Int.zero_add]; omega))
        · refine k_ldc (z := -1000001) i_163_20 o_163 rfl (by decide) ?_
          refine k_iret i_163_22 rfl ?_
          refine ⟨_, rfl, ?_, h⟩
          first
            | exact congrArg (fun z => some (vI z)) (by omega)
            | (exfalso; omega)
            | (have hv : Va K 0 i := Or.inl (by omega)
               have e1 : M 27 i = tB T i ∧ M 28 i = tW T i ∧ M 29 i = tS T i ∧ M 30 i = tO T i := xp i hv
               have e2 : M 274 (56 + i) = tB T i ∧ M 274 i = tW T i ∧ M 274 (28 + i) = tS T i ∧ M 274 (84 + i) = tO T i := yp i hv
               have e3 : M 22 i = kPa K i := (hK.2.2 i hv).2.1
               have e4 : M 274 (173 + i) = kPa K i := (hKR.2.2 i hv).2.1
               refine congrArg (fun z => some (vI z)) ?_
               first
                 | omega
                 | (rw [Int.zero_add]; omega))
    · refine k_tab (off := 59) (t := 71) i_97_12 (by rw [hx12]; rfl) rfl ?_
      refine k_aload_n i_97_71 rfl ?_
      refine k_getR (r := 25) i_97_72 o_97 rfl (by decide) (s_0) rfl ?_
      refine k_getR (r := 29) i_97_75 o_97 rfl (by decide) (s_25) rfl ?_
      refine k_iload_n i_97_78 rfl ?_
      refine k_iald i_97_79 (s_29) (by omega) ?_
      refine k_iret i_97_80 rfl ?_
      show Ok (d + 24) 163 0 [some (vR (some 273)), some (vI i), some (vI w)] [] M _
      refine k_aload_n i_163_0 rfl ?_
      refine k_iload_n i_163_1 rfl ?_
      refine k_invV (n := 1) (o' := 8) (av := [vR (some 273), vI i]) (rest := []) (el := [some (vR (some 273)), some (vI i)]) i_163_2 o_163 rfl v_143 rfl (s_273) rfl rfl rfl rfl rfl ?_
      refine c_143 (by omega) (fun v2 hv2 => ?_)
      show Ok _ 163 5 [some (vR (some 273)), some (vI i), some (vI w)] [vI v2] (M) _
      refine k_if_eq (t := 20) i_163_5 rfl (fun h5 => ?_) (fun h5 => ?_)
      · refine k_ldc (z := -1000001) i_163_20 o_163 rfl (by decide) ?_
        refine k_iret i_163_22 rfl ?_
        refine ⟨_, rfl, ?_, h⟩
        first
          | exact congrArg (fun z => some (vI z)) (by omega)
          | (exfalso; omega)
          | (have hv : Va K 0 i := Or.inl (by omega)
             have e1 : M 27 i = tB T i ∧ M 28 i = tW T i ∧ M 29 i = tS T i ∧ M 30 i = tO T i := xp i hv
             have e2 : M 274 (56 + i) = tB T i ∧ M 274 i = tW T i ∧ M 274 (28 + i) = tS T i ∧ M 274 (84 + i) = tO T i := yp i hv
             have e3 : M 22 i = kPa K i := (hK.2.2 i hv).2.1
             have e4 : M 274 (173 + i) = kPa K i := (hKR.2.2 i hv).2.1
             refine congrArg (fun z => some (vI z)) ?_
             first
               | omega
               | (rw [Int.zero_add]; omega))
      · refine k_iload_n i_163_8 rfl ?_
        refine k_i2l i_163_9 ?_
        refine k_lconst (z := 0) i_163_10 rfl ?_
        refine k_ldc2 (z := 5) i_163_11 o_163 rfl (by decide) ?_
        refine k_invS (n := 3) (av := [vL w, vL 0, vL 5]) (rest := []) (el := [some (vL w), none, some (vL 0), none, some (vL 5), none]) i_163_14 o_163 rfl v_122 rfl rfl rfl rfl rfl rfl ?_
        refine c_122 (fun v14 hv14 => ?_)
        show Ok _ 163 17 [some (vR (some 273)), some (vI i), some (vI w)] [vI v14] (M) _
        refine k_if_ne (t := 23) i_163_17 rfl (fun h17 => ?_) (fun h17 => ?_)
        · refine k_iload_n i_163_23 rfl ?_
          rcases (show w = 0 ∨ w = 1 ∨ w = 2 ∨ w = 3 ∨ w = 4 ∨ (w < 0 ∨ 4 < w) by omega) with hx24 | hx24 | hx24 | hx24 | hx24 | hx24
          · refine k_tab (off := 36) (t := 60) i_163_24 (by rw [hx24]; rfl) rfl ?_
            refine k_aload_n i_163_60 rfl ?_
            refine k_iload_n i_163_61 rfl ?_
            refine k_invV (n := 1) (o' := 8) (av := [vR (some 273), vI i]) (rest := []) (el := [some (vR (some 273)), some (vI i), none, none]) i_163_62 o_163 rfl v_159 rfl (s_273) rfl rfl rfl rfl rfl ?_
            refine c_159 hKo hKR hRR hT (fun vq hvq => ?_)
            show Ok _ 163 65 [some (vR (some 273)), some (vI i), some (vI w)] [vI vq] (M) _
            refine k_iret i_163_65 rfl ?_
            refine ⟨_, rfl, ?_, h⟩
            first
              | exact congrArg (fun z => some (vI z)) (by omega)
              | (exfalso; omega)
              | (have hv : Va K 0 i := Or.inl (by omega)
                 have e1 : M 27 i = tB T i ∧ M 28 i = tW T i ∧ M 29 i = tS T i ∧ M 30 i = tO T i := xp i hv
                 have e2 : M 274 (56 + i) = tB T i ∧ M 274 i = tW T i ∧ M 274 (28 + i) = tS T i ∧ M 274 (84 + i) = tO T i := yp i hv
                 have e3 : M 22 i = kPa K i := (hK.2.2 i hv).2.1
                 have e4 : M 274 (173 + i) = kPa K i := (hKR.2.2 i hv).2.1
                 refine congrArg (fun z => some (vI z)) ?_
                 first
                   | omega
                   | (rw [Int.zero_add]; omega))
          · refine k_tab (off := 42) (t := 66) i_163_24 (by rw [hx24]; rfl) rfl ?_
            refine k_aload_n i_163_66 rfl ?_
            refine k_getR (r := 274) i_163_67 o_163 rfl (by decide) (s_273) rfl ?_
            refine k_iconst i_163_70 (by decide) ?_
            refine k_iload_n i_163_71 rfl ?_
            refine k_iadd i_163_72 (by omega) ?_
            refine k_iald i_163_73 (s_274) (by omega) ?_
            refine k_iret i_163_74 rfl ?_
            refine ⟨_, rfl, ?_, h⟩
            first
              | exact congrArg (fun z => some (vI z)) (by omega)
              | (exfalso; omega)
              | (have hv : Va K 0 i := Or.inl (by omega)
                 have e1 : M 27 i = tB T i ∧ M 28 i = tW T i ∧ M 29 i = tS T i ∧ M 30 i = tO T i := xp i hv
                 have e2 : M 274 (56 + i) = tB T i ∧ M 274 i = tW T i ∧ M 274 (28 + i) = tS T i ∧ M 274 (84 + i) = tO T i := yp i hv
                 have e3 : M 22 i = kPa K i := (hK.2.2 i hv).2.1
                 have e4 : M 274 (173 + i) = kPa K i := (hKR.2.2 i hv).2.1
                 refine congrArg (fun z => some (vI z)) ?_
                 first
                   | omega
                   | (rw [Int.zero_add]; omega))
          · refine k_tab (off := 51) (t := 75) i_163_24 (by rw [hx24]; rfl) rfl ?_
            refine k_aload_n i_163_75 rfl ?_
            refine k_getR (r := 274) i_163_76 o_163 rfl (by decide) (s_273) rfl ?_
            refine k_bipush i_163_79 (by decide) ?_
            refine k_iload_n i_163_81 rfl ?_
            refine k_iadd i_163_82 (by omega) ?_
            refine k_iald i_163_83 (s_274) (by omega) ?_
            refine k_iret i_163_84 rfl ?_
            refine ⟨_, rfl, ?_, h⟩
            first
              | exact congrArg (fun z => some (vI z)) (by omega)
              | (exfalso; omega)
              | (have hv : Va K 0 i := Or.inl (by omega)
                 have e1 : M 27 i = tB T i ∧ M 28 i = tW T i ∧ M 29 i = tS T i ∧ M 30 i = tO T i := xp i hv
                 have e2 : M 274 (56 + i) = tB T i ∧ M 274 i = tW T i ∧ M 274 (28 + i) = tS T i ∧ M 274 (84 + i) = tO T i := yp i hv
                 have e3 : M 22 i = kPa K i := (hK.2.2 i hv).2.1
                 have e4 : M 274 (173 + i) = kPa K i := (hKR.2.2 i hv).2.1
                 refine congrArg (fun z => some (vI z)) ?_
                 first
                   | omega
                   | (rw [Int.zero_add]; omega))
          · refine k_tab (off := 61) (t := 85) i_163_24 (by rw [hx24]; rfl) rfl ?_
            refine k_aload_n i_163_85 rfl ?_
            refine k_iload_n i_163_86 rfl ?_
            refine k_invV (n := 1) (o' := 8) (av := [vR (some 273), vI i]) (rest := []) (el := [some (vR (some 273)), some (vI i)]) i_163_87 o_163 rfl v_146 rfl (s_273) rfl rfl rfl rfl rfl ?_
            refine c_146 hKo hKR hRR (Or.inl (by omega)) (fun vq hvq => ?_)
            show Ok _ 163 90 [some (vR (some 273)), some (vI i), some (vI w)] [vI vq] (M) _
            refine k_iret i_163_90 rfl ?_
            refine ⟨_, rfl, ?_, h⟩
            first
              | exact congrArg (fun z => some (vI z)) (by omega)
              | (exfalso; omega)
              | (have hv : Va K 0 i := Or.inl (by omega)
                 have e1 : M 27 i = tB T i ∧ M 28 i = tW T i ∧ M 29 i = tS T i ∧ M 30 i = tO T i := xp i hv
                 have e2 : M 274 (56 + i) = tB T i ∧ M 274 i = tW T i ∧ M 274 (28 + i) = tS T i ∧ M 274 (84 + i) = tO T i := yp i hv
                 have e3 : M 22 i = kPa K i := (hK.2.2 i hv).2.1
                 have e4 : M 274 (173 + i) = kPa K i := (hKR.2.2 i hv).2.1
                 refine congrArg (fun z => some (vI z)) ?_
                 first
                   | omega
                   | (rw [Int.zero_add]; omega))
          · refine k_tab (off := 67) (t := 91) i_163_24 (by rw [hx24]; rfl) rfl ?_
            refine k_aload_n i_163_91 rfl ?_
            refine k_getR (r := 274) i_163_92 o_163 rfl (by decide) (s_273) rfl ?_
            refine k_sipush i_163_95 (by decide) ?_
            refine k_iload_n i_163_98 rfl ?_
            refine k_iadd i_163_99 (by omega) ?_
            refine k_iald i_163_100 (s_274) (by omega) ?_
            refine k_iret i_163_101 rfl ?_
            refine ⟨_, rfl, ?_, h⟩
            first
              | exact congrArg (fun z => some (vI z)) (by omega)
              | (exfalso; omega)
              | (have hv : Va K 0 i := Or.inl (by omega)
                 have e1 : M 27 i = tB T i ∧ M 28 i = tW T i ∧ M 29 i = tS T i ∧ M 30 i = tO T i := xp i hv
                 have e2 : M 274 (56 + i) = tB T i ∧ M 274 i = tW T i ∧ M 274 (28 + i) = tS T i ∧ M 274 (84 + i) = tO T i := yp i hv
                 have e3 : M 22 i = kPa K i := (hK.2.2 i hv).2.1
                 have e4 : M 274 (173 + i) = kPa K i := (hKR.2.2 i hv).2.1
                 refine congrArg (fun z => some (vI z)) ?_
                 first
                   | omega
                   | (rw [Int.zero_add]; omega))
          · refine k_tab (off := 78) (t := 102) i_163_24 (if_pos hx24) rfl ?_
            refine k_aload_n i_163_102 rfl ?_
            refine k_getR (r := 274) i_163_103 o_163 rfl (by decide) (s_273) rfl ?_
            refine k_bipush i_163_106 (by decide) ?_
            refine k_iload_n i_163_108 rfl ?_
            refine k_iadd i_163_109 (by omega) ?_
            refine k_iald i_163_110 (s_274) (by omega) ?_
            refine k_iret i_163_111 rfl ?_
            refine ⟨_, rfl, ?_, h⟩
            first
              | exact congrArg (fun z => some (vI z)) (by omega)
              | (exfalso; omega)
              | (have hv : Va K 0 i := Or.inl (by omega)
                 have e1 : M 27 i = tB T i ∧ M 28 i = tW T i ∧ M 29 i = tS T i ∧ M 30 i = tO T i := xp i hv
                 have e2 : M 274 (56 + i) = tB T i ∧ M 274 i = tW T i ∧ M 274 (28 + i) = tS T i ∧ M 274 (84 + i) = tO T i := yp i hv
                 have e3 : M 22 i = kPa K i := (hK.2.2 i hv).2.1
                 have e4 : M 274 (173 + i) = kPa K i := (hKR.2.2 i hv).2.1
                 refine congrArg (fun z => some (vI z)) ?_
                 first
                   | omega
                   | (rw [Int.zero_add]; omega))
        · refine k_ldc (z := -1000001) i_163_20 o_163 rfl (by decide) ?_
          refine k_iret i_163_22 rfl ?_
          refine ⟨_, rfl, ?_, h⟩
          first
            | exact congrArg (fun z => some (vI z)) (by omega)
            | (exfalso; omega)
            | (have hv : Va K 0 i := Or.inl (by omega)
               have e1 : M 27 i = tB T i ∧ M 28 i = tW T i ∧ M 29 i = tS T i ∧ M 30 i = tO T i := xp i hv
               have e2 : M 274 (56 + i) = tB T i ∧ M 274 i = tW T i ∧ M 274 (28 + i) = tS T i ∧ M 274 (84 + i) = tO T i := yp i hv
               have e3 : M 22 i = kPa K i := (hK.2.2 i hv).2.1
               have e4 : M 274 (173 + i) = kPa K i := (hKR.2.2 i hv).2.1
               refine congrArg (fun z => some (vI z)) ?_
               first
                 | omega
                 | (rw [Int.zero_add]; omega))
    · refine k_tab (off := 69) (t := 81) i_97_12 (by rw [hx12]; rfl) rfl ?_
      refine k_aload_n i_97_81 rfl ?_
      refine k_getR (r := 25) i_97_82 o_97 rfl (by decide) (s_0) rfl ?_
      refine k_iload_n i_97_85 rfl ?_
      refine k_invV (n := 1) (o' := 6) (av := [vR (some 25), vI i]) (rest := []) (el := [some (vR (some 25)), some (vI i)]) i_97_86 o_97 rfl v_63 rfl (s_25) rfl rfl rfl rfl rfl ?_
      refine c_63 tw_25 (by omega) hKo hK hR.p (Or.inl (by omega)) (fun vp hvp => ?_)
      show Ok _ 97 89 [some (vR (some 0)), some (vI i), some (vI w)] [vI vp] (M) _
      refine k_iret i_97_89 rfl ?_
      show Ok (d + 24) 163 0 [some (vR (some 273)), some (vI i), some (vI w)] [] M _
      refine k_aload_n i_163_0 rfl ?_
      refine k_iload_n i_163_1 rfl ?_
      refine k_invV (n := 1) (o' := 8) (av := [vR (some 273), vI i]) (rest := []) (el := [some (vR (some 273)), some (vI i)]) i_163_2 o_163 rfl v_143 rfl (s_273) rfl rfl rfl rfl rfl ?_
      refine c_143 (by omega) (fun v2 hv2 => ?_)
      show Ok _ 163 5 [some (vR (some 273)), some (vI i), some (vI w)] [vI v2] (M) _
      refine k_if_eq (t := 20) i_163_5 rfl (fun h5 => ?_) (fun h5 => ?_)
      · refine k_ldc (z := -1000001) i_163_20 o_163 rfl (by decide) ?_
        refine k_iret i_163_22 rfl ?_
        refine ⟨_, rfl, ?_, h⟩
        first
          | exact congrArg (fun z => some (vI z)) (by omega)
          | (exfalso; omega)
          | (have hv : Va K 0 i := Or.inl (by omega)
             have e1 : M 27 i = tB T i ∧ M 28 i = tW T i ∧ M 29 i = tS T i ∧ M 30 i = tO T i := xp i hv
             have e2 : M 274 (56 + i) = tB T i ∧ M 274 i = tW T i ∧ M 274 (28 + i) = tS T i ∧ M 274 (84 + i) = tO T i := yp i hv
             have e3 : M 22 i = kPa K i := (hK.2.2 i hv).2.1
             have e4 : M 274 (173 + i) = kPa K i := (hKR.2.2 i hv).2.1
             refine congrArg (fun z => some (vI z)) ?_
             first
               | omega
               | (rw [Int.zero_add]; omega))
      · refine k_iload_n i_163_8 rfl ?_
        refine k_i2l i_163_9 ?_
        refine k_lconst (z := 0) i_163_10 rfl ?_
        refine k_ldc2 (z := 5) i_163_11 o_163 rfl (by decide) ?_
        refine k_invS (n := 3) (av := [vL w, vL 0, vL 5]) (rest := []) (el := [some (vL w), none, some (vL 0), none, some (vL 5), none]) i_163_14 o_163 rfl v_122 rfl rfl rfl rfl rfl rfl ?_
        refine c_122 (fun v14 hv14 => ?_)
        show Ok _ 163 17 [some (vR (some 273)), some (vI i), some (vI w)] [vI v14] (M) _
        refine k_if_ne (t := 23) i_163_17 rfl (fun h17 => ?_) (fun h17 => ?_)
        · refine k_iload_n i_163_23 rfl ?_
          rcases (show w = 0 ∨ w = 1 ∨ w = 2 ∨ w = 3 ∨ w = 4 ∨ (w < 0 ∨ 4 < w) by omega) with hx24 | hx24 | hx24 | hx24 | hx24 | hx24
          · refine k_tab (off := 36) (t := 60) i_163_24 (by rw [hx24]; rfl) rfl ?_
            refine k_aload_n i_163_60 rfl ?_
            refine k_iload_n i_163_61 rfl ?_
            refine k_invV (n := 1) (o' := 8) (av := [vR (some 273), vI i]) (rest := []) (el := [some (vR (some 273)), some (vI i), none, none]) i_163_62 o_163 rfl v_159 rfl (s_273) rfl rfl rfl rfl rfl ?_
            refine c_159 hKo hKR hRR hT (fun vq hvq => ?_)
            show Ok _ 163 65 [some (vR (some 273)), some (vI i), some (vI w)] [vI vq] (M) _
            refine k_iret i_163_65 rfl ?_
            refine ⟨_, rfl, ?_, h⟩
            first
              | exact congrArg (fun z => some (vI z)) (by omega)
              | (exfalso; omega)
              | (have hv : Va K 0 i := Or.inl (by omega)
                 have e1 : M 27 i = tB T i ∧ M 28 i = tW T i ∧ M 29 i = tS T i ∧ M 30 i = tO T i := xp i hv
                 have e2 : M 274 (56 + i) = tB T i ∧ M 274 i = tW T i ∧ M 274 (28 + i) = tS T i ∧ M 274 (84 + i) = tO T i := yp i hv
                 have e3 : M 22 i = kPa K i := (hK.2.2 i hv).2.1
                 have e4 : M 274 (173 + i) = kPa K i := (hKR.2.2 i hv).2.1
                 refine congrArg (fun z => some (vI z)) ?_
                 first
                   | omega
                   | (rw [Int.zero_add]; omega))
          · refine k_tab (off := 42) (t := 66) i_163_24 (by rw [hx24]; rfl) rfl ?_
            refine k_aload_n i_163_66 rfl ?_
            refine k_getR (r := 274) i_163_67 o_163 rfl (by decide) (s_273) rfl ?_
            refine k_iconst i_163_70 (by decide) ?_
            refine k_iload_n i_163_71 rfl ?_
            refine k_iadd i_163_72 (by omega) ?_
            refine k_iald i_163_73 (s_274) (by omega) ?_
            refine k_iret i_163_74 rfl ?_
            refine ⟨_, rfl, ?_, h⟩
            first
              | exact congrArg (fun z => some (vI z)) (by omega)
              | (exfalso; omega)
              | (have hv : Va K 0 i := Or.inl (by omega)
                 have e1 : M 27 i = tB T i ∧ M 28 i = tW T i ∧ M 29 i = tS T i ∧ M 30 i = tO T i := xp i hv
                 have e2 : M 274 (56 + i) = tB T i ∧ M 274 i = tW T i ∧ M 274 (28 + i) = tS T i ∧ M 274 (84 + i) = tO T i := yp i hv
                 have e3 : M 22 i = kPa K i := (hK.2.2 i hv).2.1
                 have e4 : M 274 (173 + i) = kPa K i := (hKR.2.2 i hv).2.1
                 refine congrArg (fun z => some (vI z)) ?_
                 first
                   | omega
                   | (rw [Int.zero_add]; omega))
          · refine k_tab (off := 51) (t := 75) i_163_24 (by rw [hx24]; rfl) rfl ?_
            refine k_aload_n i_163_75 rfl ?_
            refine k_getR (r := 274) i_163_76 o_163 rfl (by decide) (s_273) rfl ?_
            refine k_bipush i_163_79 (by decide) ?_
            refine k_iload_n i_163_81 rfl ?_
            refine k_iadd i_163_82 (by omega) ?_
            refine k_iald i_163_83 (s_274) (by omega) ?_
            refine k_iret i_163_84 rfl ?_
            refine ⟨_, rfl, ?_, h⟩
            first
              | exact congrArg (fun z => some (vI z)) (by omega)
              | (exfalso; omega)
              | (have hv : Va K 0 i := Or.inl (by omega)
                 have e1 : M 27 i = tB T i ∧ M 28 i = tW T i ∧ M 29 i = tS T i ∧ M 30 i = tO T i := xp i hv
                 have e2 : M 274 (56 + i) = tB T i ∧ M 274 i = tW T i ∧ M 274 (28 + i) = tS T i ∧ M 274 (84 + i) = tO T i := yp i hv
                 have e3 : M 22 i = kPa K i := (hK.2.2 i hv).2.1
                 have e4 : M 274 (173 + i) = kPa K i := (hKR.2.2 i hv).2.1
                 refine congrArg (fun z => some (vI z)) ?_
                 first
                   | omega
                   | (rw [Int.zero_add]; omega))
          · refine k_tab (off := 61) (t := 85) i_163_24 (by rw [hx24]; rfl) rfl ?_
            refine k_aload_n i_163_85 rfl ?_
            refine k_iload_n i_163_86 rfl ?_
            refine k_invV (n := 1) (o' := 8) (av := [vR (some 273), vI i]) (rest := []) (el := [some (vR (some 273)), some (vI i)]) i_163_87 o_163 rfl v_146 rfl (s_273) rfl rfl rfl rfl rfl ?_
            refine c_146 hKo hKR hRR (Or.inl (by omega)) (fun vq hvq => ?_)
            show Ok _ 163 90 [some (vR (some 273)), some (vI i), some (vI w)] [vI vq] (M) _
            refine k_iret i_163_90 rfl ?_
            refine ⟨_, rfl, ?_, h⟩
            first
              | exact congrArg (fun z => some (vI z)) (by omega)
              | (exfalso; omega)
              | (have hv : Va K 0 i := Or.inl (by omega)
                 have e1 : M 27 i = tB T i ∧ M 28 i = tW T i ∧ M 29 i = tS T i ∧ M 30 i = tO T i := xp i hv
                 have e2 : M 274 (56 + i) = tB T i ∧ M 274 i = tW T i ∧ M 274 (28 + i) = tS T i ∧ M 274 (84 + i) = tO T i := yp i hv
                 have e3 : M 22 i = kPa K i := (hK.2.2 i hv).2.1
                 have e4 : M 274 (173 + i) = kPa K i := (hKR.2.2 i hv).2.1
                 refine congrArg (fun z => some (vI z)) ?_
                 first
                   | omega
                   | (rw [Int.zero_add]; omega))
          · refine k_tab (off := 67) (t := 91) i_163_24 (by rw [hx24]; rfl) rfl ?_
            refine k_aload_n i_163_91 rfl ?_
            refine k_getR (r := 274) i_163_92 o_163 rfl (by decide) (s_273) rfl ?_
            refine k_sipush i_163_95 (by decide) ?_
            refine k_iload_n i_163_98 rfl ?_
            refine k_iadd i_163_99 (by omega) ?_
            refine k_iald i_163_100 (s_274) (by omega) ?_
            refine k_iret i_163_101 rfl ?_
            refine ⟨_, rfl, ?_, h⟩
            first
              | exact congrArg (fun z => some (vI z)) (by omega)
              | (exfalso; omega)
              | (have hv : Va K 0 i := Or.inl (by omega)
                 have e1 : M 27 i = tB T i ∧ M 28 i = tW T i ∧ M 29 i = tS T i ∧ M 30 i = tO T i := xp i hv
                 have e2 : M 274 (56 + i) = tB T i ∧ M 274 i = tW T i ∧ M 274 (28 + i) = tS T i ∧ M 274 (84 + i) = tO T i := yp i hv
                 have e3 : M 22 i = kPa K i := (hK.2.2 i hv).2.1
                 have e4 : M 274 (173 + i) = kPa K i := (hKR.2.2 i hv).2.1
                 refine congrArg (fun z => some (vI z)) ?_
                 first
                   | omega
                   | (rw [Int.zero_add]; omega))
          · refine k_tab (off := 78) (t := 102) i_163_24 (if_pos hx24) rfl ?_
            refine k_aload_n i_163_102 rfl ?_
            refine k_getR (r := 274) i_163_103 o_163 rfl (by decide) (s_273) rfl ?_
            refine k_bipush i_163_106 (by decide) ?_
            refine k_iload_n i_163_108 rfl ?_
            refine k_iadd i_163_109 (by omega) ?_
            refine k_iald i_163_110 (s_274) (by omega) ?_
            refine k_iret i_163_111 rfl ?_
            refine ⟨_, rfl, ?_, h⟩
            first
              | exact congrArg (fun z => some (vI z)) (by omega)
              | (exfalso; omega)
              | (have hv : Va K 0 i := Or.inl (by omega)
                 have e1 : M 27 i = tB T i ∧ M 28 i = tW T i ∧ M 29 i = tS T i ∧ M 30 i = tO T i := xp i hv
                 have e2 : M 274 (56 + i) = tB T i ∧ M 274 i = tW T i ∧ M 274 (28 + i) = tS T i ∧ M 274 (84 + i) = tO T i := yp i hv
                 have e3 : M 22 i = kPa K i := (hK.2.2 i hv).2.1
                 have e4 : M 274 (173 + i) = kPa K i := (hKR.2.2 i hv).2.1
                 refine congrArg (fun z => some (vI z)) ?_
                 first
                   | omega
                   | (rw [Int.zero_add]; omega))
        · refine k_ldc (z := -1000001) i_163_20 o_163 rfl (by decide) ?_
          refine k_iret i_163_22 rfl ?_
          refine ⟨_, rfl, ?_, h⟩
          first
            | exact congrArg (fun z => some (vI z)) (by omega)
            | (exfalso; omega)
            | (have hv : Va K 0 i := Or.inl (by omega)
               have e1 : M 27 i = tB T i ∧ M 28 i = tW T i ∧ M 29 i = tS T i ∧ M 30 i = tO T i := xp i hv
               have e2 : M 274 (56 + i) = tB T i ∧ M 274 i = tW T i ∧ M 274 (28 + i) = tS T i ∧ M 274 (84 + i) = tO T i := yp i hv
               have e3 : M 22 i = kPa K i := (hK.2.2 i hv).2.1
               have e4 : M 274 (173 + i) = kPa K i := (hKR.2.2 i hv).2.1
               refine congrArg (fun z => some (vI z)) ?_
               first
                 | omega
                 | (rw [Int.zero_add]; omega))
    · refine k_tab (off := 78) (t := 90) i_97_12 (by rw [hx12]; rfl) rfl ?_
      refine k_aload_n i_97_90 rfl ?_
      refine k_getR (r := 20) i_97_91 o_97 rfl (by decide) (s_0) rfl ?_
      refine k_getR (r := 22) i_97_94 o_97 rfl (by decide) (s_20) rfl ?_
      refine k_iload_n i_97_97 rfl ?_
      refine k_iald i_97_98 (s_22) (by omega) ?_
      refine k_iret i_97_99 rfl ?_
      show Ok (d + 24) 163 0 [some (vR (some 273)), some (vI i), some (vI w)] [] M _
      refine k_aload_n i_163_0 rfl ?_
      refine k_iload_n i_163_1 rfl ?_
      refine k_invV (n := 1) (o' := 8) (av := [vR (some 273), vI i]) (rest := []) (el := [some (vR (some 273)), some (vI i)]) i_163_2 o_163 rfl v_143 rfl (s_273) rfl rfl rfl rfl rfl ?_
      refine c_143 (by omega) (fun v2 hv2 => ?_)
      show Ok _ 163 5 [some (vR (some 273)), some (vI i), some (vI w)] [vI v2] (M) _
      refine k_if_eq (t := 20) i_163_5 rfl (fun h5 => ?_) (fun h5 => ?_)
      · refine k_ldc (z := -1000001) i_163_20 o_163 rfl (by decide) ?_
        refine k_iret i_163_22 rfl ?_
        refine ⟨_, rfl, ?_, h⟩
        first
          | exact congrArg (fun z => some (vI z)) (by omega)
          | (exfalso; omega)
          | (have hv : Va K 0 i := Or.inl (by omega)
             have e1 : M 27 i = tB T i ∧ M 28 i = tW T i ∧ M 29 i = tS T i ∧ M 30 i = tO T i := xp i hv
             have e2 : M 274 (56 + i) = tB T i ∧ M 274 i = tW T i ∧ M 274 (28 + i) = tS T i ∧ M 274 (84 + i) = tO T i := yp i hv
             have e3 : M 22 i = kPa K i := (hK.2.2 i hv).2.1
             have e4 : M 274 (173 + i) = kPa K i := (hKR.2.2 i hv).2.1
             refine congrArg (fun z => some (vI z)) ?_
             first
               | omega
               | (rw [Int.zero_add]; omega))
      · refine k_iload_n i_163_8 rfl ?_
        refine k_i2l i_163_9 ?_
        refine k_lconst (z := 0) i_163_10 rfl ?_
        refine k_ldc2 (z := 5) i_163_11 o_163 rfl (by decide) ?_
        refine k_invS (n := 3) (av := [vL w, vL 0, vL 5]) (rest := []) (el := [some (vL w), none, some (vL 0), none, some (vL 5), none]) i_163_14 o_163 rfl v_122 rfl rfl rfl rfl rfl rfl ?_
        refine c_122 (fun v14 hv14 => ?_)
        show Ok _ 163 17 [some (vR (some 273)), some (vI i), some (vI w)] [vI v14] (M) _
        refine k_if_ne (t := 23) i_163_17 rfl (fun h17 => ?_) (fun h17 => ?_)
        · refine k_iload_n i_163_23 rfl ?_
          rcases (show w = 0 ∨ w = 1 ∨ w = 2 ∨ w = 3 ∨ w = 4 ∨ (w < 0 ∨ 4 < w) by omega) with hx24 | hx24 | hx24 | hx24 | hx24 | hx24
          · refine k_tab (off := 36) (t := 60) i_163_24 (by rw [hx24]; rfl) rfl ?_
            refine k_aload_n i_163_60 rfl ?_
            refine k_iload_n i_163_61 rfl ?_
            refine k_invV (n := 1) (o' := 8) (av := [vR (some 273), vI i]) (rest := []) (el := [some (vR (some 273)), some (vI i), none, none]) i_163_62 o_163 rfl v_159 rfl (s_273) rfl rfl rfl rfl rfl ?_
            refine c_159 hKo hKR hRR hT (fun vq hvq => ?_)
            show Ok _ 163 65 [some (vR (some 273)), some (vI i), some (vI w)] [vI vq] (M) _
            refine k_iret i_163_65 rfl ?_
            refine ⟨_, rfl, ?_, h⟩
            first
              | exact congrArg (fun z => some (vI z)) (by omega)
              | (exfalso; omega)
              | (have hv : Va K 0 i := Or.inl (by omega)
                 have e1 : M 27 i = tB T i ∧ M 28 i = tW T i ∧ M 29 i = tS T i ∧ M 30 i = tO T i := xp i hv
                 have e2 : M 274 (56 + i) = tB T i ∧ M 274 i = tW T i ∧ M 274 (28 + i) = tS T i ∧ M 274 (84 + i) = tO T i := yp i hv
                 have e3 : M 22 i = kPa K i := (hK.2.2 i hv).2.1
                 have e4 : M 274 (173 + i) = kPa K i := (hKR.2.2 i hv).2.1
                 refine congrArg (fun z => some (vI z)) ?_
                 first
                   | omega
                   | (rw [Int.zero_add]; omega))
          · refine k_tab (off := 42) (t := 66) i_163_24 (by rw [hx24]; rfl) rfl ?_
            refine k_aload_n i_163_66 rfl ?_
            refine k_getR (r := 274) i_163_67 o_163 rfl (by decide) (s_273) rfl ?_
            refine k_iconst i_163_70 (by decide) ?_
            refine k_iload_n i_163_71 rfl ?_
            refine k_iadd i_163_72 (by omega) ?_
            refine k_iald i_163_73 (s_274) (by omega) ?_
            refine k_iret i_163_74 rfl ?_
            refine ⟨_, rfl, ?_, h⟩
            first
              | exact congrArg (fun z => some (vI z)) (by omega)
              | (exfalso; omega)
              | (have hv : Va K 0 i := Or.inl (by omega)
                 have e1 : M 27 i = tB T i ∧ M 28 i = tW T i ∧ M 29 i = tS T i ∧ M 30 i = tO T i := xp i hv
                 have e2 : M 274 (56 + i) = tB T i ∧ M 274 i = tW T i ∧ M 274 (28 + i) = tS T i ∧ M 274 (84 + i) = tO T i := yp i hv
                 have e3 : M 22 i = kPa K i := (hK.2.2 i hv).2.1
                 have e4 : M 274 (173 + i) = kPa K i := (hKR.2.2 i hv).2.1
                 refine congrArg (fun z => some (vI z)) ?_
                 first
                   | omega
                   | (rw [Int.zero_add]; omega))
          · refine k_tab (off := 51) (t := 75) i_163_24 (by rw [hx24]; rfl) rfl ?_
            refine k_aload_n i_163_75 rfl ?_
            refine k_getR (r := 274) i_163_76 o_163 rfl (by decide) (s_273) rfl ?_
            refine k_bipush i_163_79 (by decide) ?_
            refine k_iload_n i_163_81 rfl ?_
            refine k_iadd i_163_82 (by omega) ?_
            refine k_iald i_163_83 (s_274) (by omega) ?_
            refine k_iret i_163_84 rfl ?_
            refine ⟨_, rfl, ?_, h⟩
            first
              | exact congrArg (fun z => some (vI z)) (by omega)
              | (exfalso; omega)
              | (have hv : Va K 0 i := Or.inl (by omega)
                 have e1 : M 27 i = tB T i ∧ M 28 i = tW T i ∧ M 29 i = tS T i ∧ M 30 i = tO T i := xp i hv
                 have e2 : M 274 (56 + i) = tB T i ∧ M 274 i = tW T i ∧ M 274 (28 + i) = tS T i ∧ M 274 (84 + i) = tO T i := yp i hv
                 have e3 : M 22 i = kPa K i := (hK.2.2 i hv).2.1
                 have e4 : M 274 (173 + i) = kPa K i := (hKR.2.2 i hv).2.1
                 refine congrArg (fun z => some (vI z)) ?_
                 first
                   | omega
                   | (rw [Int.zero_add]; omega))
          · refine k_tab (off := 61) (t := 85) i_163_24 (by rw [hx24]; rfl) rfl ?_
            refine k_aload_n i_163_85 rfl ?_
            refine k_iload_n i_163_86 rfl ?_
            refine k_invV (n := 1) (o' := 8) (av := [vR (some 273), vI i]) (rest := []) (el := [some (vR (some 273)), some (vI i)]) i_163_87 o_163 rfl v_146 rfl (s_273) rfl rfl rfl rfl rfl ?_
            refine c_146 hKo hKR hRR (Or.inl (by omega)) (fun vq hvq => ?_)
            show Ok _ 163 90 [some (vR (some 273)), some (vI i), some (vI w)] [vI vq] (M) _
            refine k_iret i_163_90 rfl ?_
            refine ⟨_, rfl, ?_, h⟩
            first
              | exact congrArg (fun z => some (vI z)) (by omega)
              | (exfalso; omega)
              | (have hv : Va K 0 i := Or.inl (by omega)
                 have e1 : M 27 i = tB T i ∧ M 28 i = tW T i ∧ M 29 i = tS T i ∧ M 30 i = tO T i := xp i hv
                 have e2 : M 274 (56 + i) = tB T i ∧ M 274 i = tW T i ∧ M 274 (28 + i) = tS T i ∧ M 274 (84 + i) = tO T i := yp i hv
                 have e3 : M 22 i = kPa K i := (hK.2.2 i hv).2.1
                 have e4 : M 274 (173 + i) = kPa K i := (hKR.2.2 i hv).2.1
                 refine congrArg (fun z => some (vI z)) ?_
                 first
                   | omega
                   | (rw [Int.zero_add]; omega))
          · refine k_tab (off := 67) (t := 91) i_163_24 (by rw [hx24]; rfl) rfl ?_
            refine k_aload_n i_163_91 rfl ?_
            refine k_getR (r := 274) i_163_92 o_163 rfl (by decide) (s_273) rfl ?_
            refine k_sipush i_163_95 (by decide) ?_
            refine k_iload_n i_163_98 rfl ?_
            refine k_iadd i_163_99 (by omega) ?_
            refine k_iald i_163_100 (s_274) (by omega) ?_
            refine k_iret i_163_101 rfl ?_
            refine ⟨_, rfl, ?_, h⟩
            first
              | exact congrArg (fun z => some (vI z)) (by omega)
              | (exfalso; omega)
              | (have hv : Va K 0 i := Or.inl (by omega)
                 have e1 : M 27 i = tB T i ∧ M 28 i = tW T i ∧ M 29 i = tS T i ∧ M 30 i = tO T i := xp i hv
                 have e2 : M 274 (56 + i) = tB T i ∧ M 274 i = tW T i ∧ M 274 (28 + i) = tS T i ∧ M 274 (84 + i) = tO T i := yp i hv
                 have e3 : M 22 i = kPa K i := (hK.2.2 i hv).2.1
                 have e4 : M 274 (173 + i) = kPa K i := (hKR.2.2 i hv).2.1
                 refine congrArg (fun z => some (vI z)) ?_
                 first
                   | omega
                   | (rw [Int.zero_add]; omega))
          · refine k_tab (off := 78) (t := 102) i_163_24 (if_pos hx24) rfl ?_
            refine k_aload_n i_163_102 rfl ?_
            refine k_getR (r := 274) i_163_103 o_163 rfl (by decide) (s_273) rfl ?_
            refine k_bipush i_163_106 (by decide) ?_
            refine k_iload_n i_163_108 rfl ?_
            refine k_iadd i_163_109 (by omega) ?_
            refine k_iald i_163_110 (s_274) (by omega) ?_
            refine k_iret i_163_111 rfl ?_
            refine ⟨_, rfl, ?_, h⟩
            first
              | exact congrArg (fun z => some (vI z)) (by omega)
              | (exfalso; omega)
              | (have hv : Va K 0 i := Or.inl (by omega)
                 have e1 : M 27 i = tB T i ∧ M 28 i = tW T i ∧ M 29 i = tS T i ∧ M 30 i = tO T i := xp i hv
                 have e2 : M 274 (56 + i) = tB T i ∧ M 274 i = tW T i ∧ M 274 (28 + i) = tS T i ∧ M 274 (84 + i) = tO T i := yp i hv
                 have e3 : M 22 i = kPa K i := (hK.2.2 i hv).2.1
                 have e4 : M 274 (173 + i) = kPa K i := (hKR.2.2 i hv).2.1
                 refine congrArg (fun z => some (vI z)) ?_
                 first
                   | omega
                   | (rw [Int.zero_add]; omega))
        · refine k_ldc (z := -1000001) i_163_20 o_163 rfl (by decide) ?_
          refine k_iret i_163_22 rfl ?_
          refine ⟨_, rfl, ?_, h⟩
          first
            | exact congrArg (fun z => some (vI z)) (by omega)
            | (exfalso; omega)
            | (have hv : Va K 0 i := Or.inl (by omega)
               have e1 : M 27 i = tB T i ∧ M 28 i = tW T i ∧ M 29 i = tS T i ∧ M 30 i = tO T i := xp i hv
               have e2 : M 274 (56 + i) = tB T i ∧ M 274 i = tW T i ∧ M 274 (28 + i) = tS T i ∧ M 274 (84 + i) = tO T i := yp i hv
               have e3 : M 22 i = kPa K i := (hK.2.2 i hv).2.1
               have e4 : M 274 (173 + i) = kPa K i := (hKR.2.2 i hv).2.1
               refine congrArg (fun z => some (vI z)) ?_
               first
                 | omega
                 | (rw [Int.zero_add]; omega))
    · refine k_tab (off := 88) (t := 100) i_97_12 (by rw [hx12]; rfl) rfl ?_
      refine k_aload_n i_97_100 rfl ?_
      refine k_getR (r := 25) i_97_101 o_97 rfl (by decide) (s_0) rfl ?_
      refine k_getR (r := 30) i_97_104 o_97 rfl (by decide) (s_25) rfl ?_
      refine k_iload_n i_97_107 rfl ?_
      refine k_iald i_97_108 (s_30) (by omega) ?_
      refine k_iret i_97_109 rfl ?_
      show Ok (d + 24) 163 0 [some (vR (some 273)), some (vI i), some (vI w)] [] M _
      refine k_aload_n i_163_0 rfl ?_
      refine k_iload_n i_163_1 rfl ?_
      refine k_invV (n := 1) (o' := 8) (av := [vR (some 273), vI i]) (rest := []) (el := [some (vR (some 273)), some (vI i)]) i_163_2 o_163 rfl v_143 rfl (s_273) rfl rfl rfl rfl rfl ?_
      refine c_143 (by omega) (fun v2 hv2 => ?_)
      show Ok _ 163 5 [some (vR (some 273)), some (vI i), some (vI w)] [vI v2] (M) _
      refine k_if_eq (t := 20) i_163_5 rfl (fun h5 => ?_) (fun h5 => ?_)
      · refine k_ldc (z := -1000001) i_163_20 o_163 rfl (by decide) ?_
        refine k_iret i_163_22 rfl ?_
        refine ⟨_, rfl, ?_, h⟩
        first
          | exact congrArg (fun z => some (vI z)) (by omega)
          | (exfalso; omega)
          | (have hv : Va K 0 i := Or.inl (by omega)
             have e1 : M 27 i = tB T i ∧ M 28 i = tW T i ∧ M 29 i = tS T i ∧ M 30 i = tO T i := xp i hv
             have e2 : M 274 (56 + i) = tB T i ∧ M 274 i = tW T i ∧ M 274 (28 + i) = tS T i ∧ M 274 (84 + i) = tO T i := yp i hv
             have e3 : M 22 i = kPa K i := (hK.2.2 i hv).2.1
             have e4 : M 274 (173 + i) = kPa K i := (hKR.2.2 i hv).2.1
             refine congrArg (fun z => some (vI z)) ?_
             first
               | omega
               | (rw [Int.zero_add]; omega))
      · refine k_iload_n i_163_8 rfl ?_
        refine k_i2l i_163_9 ?_
        refine k_lconst (z := 0) i_163_10 rfl ?_
        refine k_ldc2 (z := 5) i_163_11 o_163 rfl (by decide) ?_
        refine k_invS (n := 3) (av := [vL w, vL 0, vL 5]) (rest := []) (el := [some (vL w), none, some (vL 0), none, some (vL 5), none]) i_163_14 o_163 rfl v_122 rfl rfl rfl rfl rfl rfl ?_
        refine c_122 (fun v14 hv14 => ?_)
        show Ok _ 163 17 [some (vR (some 273)), some (vI i), some (vI w)] [vI v14] (M) _
        refine k_if_ne (t := 23) i_163_17 rfl (fun h17 => ?_) (fun h17 => ?_)
        · refine k_iload_n i_163_23 rfl ?_
          rcases (show w = 0 ∨ w = 1 ∨ w = 2 ∨ w = 3 ∨ w = 4 ∨ (w < 0 ∨ 4 < w) by omega) with hx24 | hx24 | hx24 | hx24 | hx24 | hx24
          · refine k_tab (off := 36) (t := 60) i_163_24 (by rw [hx24]; rfl) rfl ?_
            refine k_aload_n i_163_60 rfl ?_
            refine k_iload_n i_163_61 rfl ?_
            refine k_invV (n := 1) (o' := 8) (av := [vR (some 273), vI i]) (rest := []) (el := [some (vR (some 273)), some (vI i), none, none]) i_163_62 o_163 rfl v_159 rfl (s_273) rfl rfl rfl rfl rfl ?_
            refine c_159 hKo hKR hRR hT (fun vq hvq => ?_)
            show Ok _ 163 65 [some (vR (some 273)), some (vI i), some (vI w)] [vI vq] (M) _
            refine k_iret i_163_65 rfl ?_
            refine ⟨_, rfl, ?_, h⟩
            first
              | exact congrArg (fun z => some (vI z)) (by omega)
              | (exfalso; omega)
              | (have hv : Va K 0 i := Or.inl (by omega)
                 have e1 : M 27 i = tB T i ∧ M 28 i = tW T i ∧ M 29 i = tS T i ∧ M 30 i = tO T i := xp i hv
                 have e2 : M 274 (56 + i) = tB T i ∧ M 274 i = tW T i ∧ M 274 (28 + i) = tS T i ∧ M 274 (84 + i) = tO T i := yp i hv
                 have e3 : M 22 i = kPa K i := (hK.2.2 i hv).2.1
                 have e4 : M 274 (173 + i) = kPa K i := (hKR.2.2 i hv).2.1
                 refine congrArg (fun z => some (vI z)) ?_
                 first
                   | omega
                   | (rw [Int.zero_add]; omega))
          · refine k_tab (off := 42) (t := 66) i_163_24 (by rw [hx24]; rfl) rfl ?_
            refine k_aload_n i_163_66 rfl ?_
            refine k_getR (r := 274) i_163_67 o_163 rfl (by decide) (s_273) rfl ?_
            refine k_iconst i_163_70 (by decide) ?_
            refine k_iload_n i_163_71 rfl ?_
            refine k_iadd i_163_72 (by omega) ?_
            refine k_iald i_163_73 (s_274) (by omega) ?_
            refine k_iret i_163_74 rfl ?_
            refine ⟨_, rfl, ?_, h⟩
            first
              | exact congrArg (fun z => some (vI z)) (by omega)
              | (exfalso; omega)
              | (have hv : Va K 0 i := Or.inl (by omega)
                 have e1 : M 27 i = tB T i ∧ M 28 i = tW T i ∧ M 29 i = tS T i ∧ M 30 i = tO T i := xp i hv
                 have e2 : M 274 (56 + i) = tB T i ∧ M 274 i = tW T i ∧ M 274 (28 + i) = tS T i ∧ M 274 (84 + i) = tO T i := yp i hv
                 have e3 : M 22 i = kPa K i := (hK.2.2 i hv).2.1
                 have e4 : M 274 (173 + i) = kPa K i := (hKR.2.2 i hv).2.1
                 refine congrArg (fun z => some (vI z)) ?_
                 first
                   | omega
                   | (rw [Int.zero_add]; omega))
          · refine k_tab (off := 51) (t := 75) i_163_24 (by rw [hx24]; rfl) rfl ?_
            refine k_aload_n i_163_75 rfl ?_
            refine k_getR (r := 274) i_163_76 o_163 rfl (by decide) (s_273) rfl ?_
            refine k_bipush i_163_79 (by decide) ?_
            refine k_iload_n i_163_81 rfl ?_
            refine k_iadd i_163_82 (by omega) ?_
            refine k_iald i_163_83 (s_274) (by omega) ?_
            refine k_iret i_163_84 rfl ?_
            refine ⟨_, rfl, ?_, h⟩
            first
              | exact congrArg (fun z => some (vI z)) (by omega)
              | (exfalso; omega)
              | (have hv : Va K 0 i := Or.inl (by omega)
                 have e1 : M 27 i = tB T i ∧ M 28 i = tW T i ∧ M 29 i = tS T i ∧ M 30 i = tO T i := xp i hv
                 have e2 : M 274 (56 + i) = tB T i ∧ M 274 i = tW T i ∧ M 274 (28 + i) = tS T i ∧ M 274 (84 + i) = tO T i := yp i hv
                 have e3 : M 22 i = kPa K i := (hK.2.2 i hv).2.1
                 have e4 : M 274 (173 + i) = kPa K i := (hKR.2.2 i hv).2.1
                 refine congrArg (fun z => some (vI z)) ?_
                 first
                   | omega
                   | (rw [Int.zero_add]; omega))
          · refine k_tab (off := 61) (t := 85) i_163_24 (by rw [hx24]; rfl) rfl ?_
            refine k_aload_n i_163_85 rfl ?_
            refine k_iload_n i_163_86 rfl ?_
            refine k_invV (n := 1) (o' := 8) (av := [vR (some 273), vI i]) (rest := []) (el := [some (vR (some 273)), some (vI i)]) i_163_87 o_163 rfl v_146 rfl (s_273) rfl rfl rfl rfl rfl ?_
            refine c_146 hKo hKR hRR (Or.inl (by omega)) (fun vq hvq => ?_)
            show Ok _ 163 90 [some (vR (some 273)), some (vI i), some (vI w)] [vI vq] (M) _
            refine k_iret i_163_90 rfl ?_
            refine ⟨_, rfl, ?_, h⟩
            first
              | exact congrArg (fun z => some (vI z)) (by omega)
              | (exfalso; omega)
              | (have hv : Va K 0 i := Or.inl (by omega)
                 have e1 : M 27 i = tB T i ∧ M 28 i = tW T i ∧ M 29 i = tS T i ∧ M 30 i = tO T i := xp i hv
                 have e2 : M 274 (56 + i) = tB T i ∧ M 274 i = tW T i ∧ M 274 (28 + i) = tS T i ∧ M 274 (84 + i) = tO T i := yp i hv
                 have e3 : M 22 i = kPa K i := (hK.2.2 i hv).2.1
                 have e4 : M 274 (173 + i) = kPa K i := (hKR.2.2 i hv).2.1
                 refine congrArg (fun z => some (vI z)) ?_
                 first
                   | omega
                   | (rw [Int.zero_add]; omega))
          · refine k_tab (off := 67) (t := 91) i_163_24 (by rw [hx24]; rfl) rfl ?_
            refine k_aload_n i_163_91 rfl ?_
            refine k_getR (r := 274) i_163_92 o_163 rfl (by decide) (s_273) rfl ?_
            refine k_sipush i_163_95 (by decide) ?_
            refine k_iload_n i_163_98 rfl ?_
            refine k_iadd i_163_99 (by omega) ?_
            refine k_iald i_163_100 (s_274) (by omega) ?_
            refine k_iret i_163_101 rfl ?_
            refine ⟨_, rfl, ?_, h⟩
            first
              | exact congrArg (fun z => some (vI z)) (by omega)
              | (exfalso; omega)
              | (have hv : Va K 0 i := Or.inl (by omega)
                 have e1 : M 27 i = tB T i ∧ M 28 i = tW T i ∧ M 29 i = tS T i ∧ M 30 i = tO T i := xp i hv
                 have e2 : M 274 (56 + i) = tB T i ∧ M 274 i = tW T i ∧ M 274 (28 + i) = tS T i ∧ M 274 (84 + i) = tO T i := yp i hv
                 have e3 : M 22 i = kPa K i := (hK.2.2 i hv).2.1
                 have e4 : M 274 (173 + i) = kPa K i := (hKR.2.2 i hv).2.1
                 refine congrArg (fun z => some (vI z)) ?_
                 first
                   | omega
                   | (rw [Int.zero_add]; omega))
          · refine k_tab (off := 78) (t := 102) i_163_24 (if_pos hx24) rfl ?_
            refine k_aload_n i_163_102 rfl ?_
            refine k_getR (r := 274) i_163_103 o_163 rfl (by decide) (s_273) rfl ?_
            refine k_bipush i_163_106 (by decide) ?_
            refine k_iload_n i_163_108 rfl ?_
            refine k_iadd i_163_109 (by omega) ?_
            refine k_iald i_163_110 (s_274) (by omega) ?_
            refine k_iret i_163_111 rfl ?_
            refine ⟨_, rfl, ?_, h⟩
            first
              | exact congrArg (fun z => some (vI z)) (by omega)
              | (exfalso; omega)
              | (have hv : Va K 0 i := Or.inl (by omega)
                 have e1 : M 27 i = tB T i ∧ M 28 i = tW T i ∧ M 29 i = tS T i ∧ M 30 i = tO T i := xp i hv
                 have e2 : M 274 (56 + i) = tB T i ∧ M 274 i = tW T i ∧ M 274 (28 + i) = tS T i ∧ M 274 (84 + i) = tO T i := yp i hv
                 have e3 : M 22 i = kPa K i := (hK.2.2 i hv).2.1
                 have e4 : M 274 (173 + i) = kPa K i := (hKR.2.2 i hv).2.1
                 refine congrArg (fun z => some (vI z)) ?_
                 first
                   | omega
                   | (rw [Int.zero_add]; omega))
        · refine k_ldc (z := -1000001) i_163_20 o_163 rfl (by decide) ?_
          refine k_iret i_163_22 rfl ?_
          refine ⟨_, rfl, ?_, h⟩
          first
            | exact congrArg (fun z => some (vI z)) (by omega)
            | (exfalso; omega)
            | (have hv : Va K 0 i := Or.inl (by omega)
               have e1 : M 27 i = tB T i ∧ M 28 i = tW T i ∧ M 29 i = tS T i ∧ M 30 i = tO T i := xp i hv
               have e2 : M 274 (56 + i) = tB T i ∧ M 274 i = tW T i ∧ M 274 (28 + i) = tS T i ∧ M 274 (84 + i) = tO T i := yp i hv
               have e3 : M 22 i = kPa K i := (hK.2.2 i hv).2.1
               have e4 : M 274 (173 + i) = kPa K i := (hKR.2.2 i hv).2.1
               refine congrArg (fun z => some (vI z)) ?_
               first
                 | omega
                 | (rw [Int.zero_add]; omega))
    · refine k_tab (off := 98) (t := 110) i_97_12 (if_pos hx12) rfl ?_
      refine k_ldc (z := -1000001) i_97_110 o_97 rfl (by decide) ?_
      refine k_iret i_97_112 rfl ?_
      show Ok (d + 24) 163 0 [some (vR (some 273)), some (vI i), some (vI w)] [] M _
      refine k_aload_n i_163_0 rfl ?_
      refine k_iload_n i_163_1 rfl ?_
      refine k_invV (n := 1) (o' := 8) (av := [vR (some 273), vI i]) (rest := []) (el := [some (vR (some 273)), some (vI i)]) i_163_2 o_163 rfl v_143 rfl (s_273) rfl rfl rfl rfl rfl ?_
      refine c_143 (by omega) (fun v2 hv2 => ?_)
      show Ok _ 163 5 [some (vR (some 273)), some (vI i), some (vI w)] [vI v2] (M) _
      refine k_if_eq (t := 20) i_163_5 rfl (fun h5 => ?_) (fun h5 => ?_)
      · refine k_ldc (z := -1000001) i_163_20 o_163 rfl (by decide) ?_
        refine k_iret i_163_22 rfl ?_
        refine ⟨_, rfl, ?_, h⟩
        first
          | exact congrArg (fun z => some (vI z)) (by omega)
          | (exfalso; omega)
          | (have hv : Va K 0 i := Or.inl (by omega)
             have e1 : M 27 i = tB T i ∧ M 28 i = tW T i ∧ M 29 i = tS T i ∧ M 30 i = tO T i := xp i hv
             have e2 : M 274 (56 + i) = tB T i ∧ M 274 i = tW T i ∧ M 274 (28 + i) = tS T i ∧ M 274 (84 + i) = tO T i := yp i hv
             have e3 : M 22 i = kPa K i := (hK.2.2 i hv).2.1
             have e4 : M 274 (173 + i) = kPa K i := (hKR.2.2 i hv).2.1
             refine congrArg (fun z => some (vI z)) ?_
             first
               | omega
               | (rw [Int.zero_add]; omega))
      · refine k_iload_n i_163_8 rfl ?_
        refine k_i2l i_163_9 ?_
        refine k_lconst (z := 0) i_163_10 rfl ?_
        refine k_ldc2 (z := 5) i_163_11 o_163 rfl (by decide) ?_
        refine k_invS (n := 3) (av := [vL w, vL 0, vL 5]) (rest := []) (el := [some (vL w), none, some (vL 0), none, some (vL 5), none]) i_163_14 o_163 rfl v_122 rfl rfl rfl rfl rfl rfl ?_
        refine c_122 (fun v14 hv14 => ?_)
        show Ok _ 163 17 [some (vR (some 273)), some (vI i), some (vI w)] [vI v14] (M) _
        refine k_if_ne (t := 23) i_163_17 rfl (fun h17 => ?_) (fun h17 => ?_)
        · refine k_iload_n i_163_23 rfl ?_
          rcases (show w = 0 ∨ w = 1 ∨ w = 2 ∨ w = 3 ∨ w = 4 ∨ (w < 0 ∨ 4 < w) by omega) with hx24 | hx24 | hx24 | hx24 | hx24 | hx24
          · refine k_tab (off := 36) (t := 60) i_163_24 (by rw [hx24]; rfl) rfl ?_
            refine k_aload_n i_163_60 rfl ?_
            refine k_iload_n i_163_61 rfl ?_
            refine k_invV (n := 1) (o' := 8) (av := [vR (some 273), vI i]) (rest := []) (el := [some (vR (some 273)), some (vI i), none, none]) i_163_62 o_163 rfl v_159 rfl (s_273) rfl rfl rfl rfl rfl ?_
            refine c_159 hKo hKR hRR hT (fun vq hvq => ?_)
            show Ok _ 163 65 [some (vR (some 273)), some (vI i), some (vI w)] [vI vq] (M) _
            refine k_iret i_163_65 rfl ?_
            refine ⟨_, rfl, ?_, h⟩
            first
              | exact congrArg (fun z => some (vI z)) (by omega)
              | (exfalso; omega)
              | (have hv : Va K 0 i := Or.inl (by omega)
                 have e1 : M 27 i = tB T i ∧ M 28 i = tW T i ∧ M 29 i = tS T i ∧ M 30 i = tO T i := xp i hv
                 have e2 : M 274 (56 + i) = tB T i ∧ M 274 i = tW T i ∧ M 274 (28 + i) = tS T i ∧ M 274 (84 + i) = tO T i := yp i hv
                 have e3 : M 22 i = kPa K i := (hK.2.2 i hv).2.1
                 have e4 : M 274 (173 + i) = kPa K i := (hKR.2.2 i hv).2.1
                 refine congrArg (fun z => some (vI z)) ?_
                 first
                   | omega
                   | (rw [Int.zero_add]; omega))
          · refine k_tab (off := 42) (t := 66) i_163_24 (by rw [hx24]; rfl) rfl ?_
            refine k_aload_n i_163_66 rfl ?_
            refine k_getR (r := 274) i_163_67 o_163 rfl (by decide) (s_273) rfl ?_
            refine k_iconst i_163_70 (by decide) ?_
            refine k_iload_n i_163_71 rfl ?_
            refine k_iadd i_163_72 (by omega) ?_
            refine k_iald i_163_73 (s_274) (by omega) ?_
            refine k_iret i_163_74 rfl ?_
            refine ⟨_, rfl, ?_, h⟩
            first
              | exact congrArg (fun z => some (vI z)) (by omega)
              | (exfalso; omega)
              | (have hv : Va K 0 i := Or.inl (by omega)
                 have e1 : M 27 i = tB T i ∧ M 28 i = tW T i ∧ M 29 i = tS T i ∧ M 30 i = tO T i := xp i hv
                 have e2 : M 274 (56 + i) = tB T i ∧ M 274 i = tW T i ∧ M 274 (28 + i) = tS T i ∧ M 274 (84 + i) = tO T i := yp i hv
                 have e3 : M 22 i = kPa K i := (hK.2.2 i hv).2.1
                 have e4 : M 274 (173 + i) = kPa K i := (hKR.2.2 i hv).2.1
                 refine congrArg (fun z => some (vI z)) ?_
                 first
                   | omega
                   | (rw [Int.zero_add]; omega))
          · refine k_tab (off := 51) (t := 75) i_163_24 (by rw [hx24]; rfl) rfl ?_
            refine k_aload_n i_163_75 rfl ?_
            refine k_getR (r := 274) i_163_76 o_163 rfl (by decide) (s_273) rfl ?_
            refine k_bipush i_163_79 (by decide) ?_
            refine k_iload_n i_163_81 rfl ?_
            refine k_iadd i_163_82 (by omega) ?_
            refine k_iald i_163_83 (s_274) (by omega) ?_
            refine k_iret i_163_84 rfl ?_
            refine ⟨_, rfl, ?_, h⟩
            first
              | exact congrArg (fun z => some (vI z)) (by omega)
              | (exfalso; omega)
              | (have hv : Va K 0 i := Or.inl (by omega)
                 have e1 : M 27 i = tB T i ∧ M 28 i = tW T i ∧ M 29 i = tS T i ∧ M 30 i = tO T i := xp i hv
                 have e2 : M 274 (56 + i) = tB T i ∧ M 274 i = tW T i ∧ M 274 (28 + i) = tS T i ∧ M 274 (84 + i) = tO T i := yp i hv
                 have e3 : M 22 i = kPa K i := (hK.2.2 i hv).2.1
                 have e4 : M 274 (173 + i) = kPa K i := (hKR.2.2 i hv).2.1
                 refine congrArg (fun z => some (vI z)) ?_
                 first
                   | omega
                   | (rw [Int.zero_add]; omega))
          · refine k_tab (off := 61) (t := 85) i_163_24 (by rw [hx24]; rfl) rfl ?_
            refine k_aload_n i_163_85 rfl ?_
            refine k_iload_n i_163_86 rfl ?_
            refine k_invV (n := 1) (o' := 8) (av := [vR (some 273), vI i]) (rest := []) (el := [some (vR (some 273)), some (vI i)]) i_163_87 o_163 rfl v_146 rfl (s_273) rfl rfl rfl rfl rfl ?_
            refine c_146 hKo hKR hRR (Or.inl (by omega)) (fun vq hvq => ?_)
            show Ok _ 163 90 [some (vR (some 273)), some (vI i), some (vI w)] [vI vq] (M) _
            refine k_iret i_163_90 rfl ?_
            refine ⟨_, rfl, ?_, h⟩
            first
              | exact congrArg (fun z => some (vI z)) (by omega)
              | (exfalso; omega)
              | (have hv : Va K 0 i := Or.inl (by omega)
                 have e1 : M 27 i = tB T i ∧ M 28 i = tW T i ∧ M 29 i = tS T i ∧ M 30 i = tO T i := xp i hv
                 have e2 : M 274 (56 + i) = tB T i ∧ M 274 i = tW T i ∧ M 274 (28 + i) = tS T i ∧ M 274 (84 + i) = tO T i := yp i hv
                 have e3 : M 22 i = kPa K i := (hK.2.2 i hv).2.1
                 have e4 : M 274 (173 + i) = kPa K i := (hKR.2.2 i hv).2.1
                 refine congrArg (fun z => some (vI z)) ?_
                 first
                   | omega
                   | (rw [Int.zero_add]; omega))
          · refine k_tab (off := 67) (t := 91) i_163_24 (by rw [hx24]; rfl) rfl ?_
            refine k_aload_n i_163_91 rfl ?_
            refine k_getR (r := 274) i_163_92 o_163 rfl (by decide) (s_273) rfl ?_
            refine k_sipush i_163_95 (by decide) ?_
            refine k_iload_n i_163_98 rfl ?_
            refine k_iadd i_163_99 (by omega) ?_
            refine k_iald i_163_100 (s_274) (by omega) ?_
            refine k_iret i_163_101 rfl ?_
            refine ⟨_, rfl, ?_, h⟩
            first
              | exact congrArg (fun z => some (vI z)) (by omega)
              | (exfalso; omega)
              | (have hv : Va K 0 i := Or.inl (by omega)
                 have e1 : M 27 i = tB T i ∧ M 28 i = tW T i ∧ M 29 i = tS T i ∧ M 30 i = tO T i := xp i hv
                 have e2 : M 274 (56 + i) = tB T i ∧ M 274 i = tW T i ∧ M 274 (28 + i) = tS T i ∧ M 274 (84 + i) = tO T i := yp i hv
                 have e3 : M 22 i = kPa K i := (hK.2.2 i hv).2.1
                 have e4 : M 274 (173 + i) = kPa K i := (hKR.2.2 i hv).2.1
                 refine congrArg (fun z => some (vI z)) ?_
                 first
                   | omega
                   | (rw [Int.zero_add]; omega))
          · refine k_tab (off := 78) (t := 102) i_163_24 (if_pos hx24) rfl ?_
            refine k_aload_n i_163_102 rfl ?_
            refine k_getR (r := 274) i_163_103 o_163 rfl (by decide) (s_273) rfl ?_
            refine k_bipush i_163_106 (by decide) ?_
            refine k_iload_n i_163_108 rfl ?_
            refine k_iadd i_163_109 (by omega) ?_
            refine k_iald i_163_110 (s_274) (by omega) ?_
            refine k_iret i_163_111 rfl ?_
            refine ⟨_, rfl, ?_, h⟩
            first
              | exact congrArg (fun z => some (vI z)) (by omega)
              | (exfalso; omega)
              | (have hv : Va K 0 i := Or.inl (by omega)
                 have e1 : M 27 i = tB T i ∧ M 28 i = tW T i ∧ M 29 i = tS T i ∧ M 30 i = tO T i := xp i hv
                 have e2 : M 274 (56 + i) = tB T i ∧ M 274 i = tW T i ∧ M 274 (28 + i) = tS T i ∧ M 274 (84 + i) = tO T i := yp i hv
                 have e3 : M 22 i = kPa K i := (hK.2.2 i hv).2.1
                 have e4 : M 274 (173 + i) = kPa K i := (hKR.2.2 i hv).2.1
                 refine congrArg (fun z => some (vI z)) ?_
                 first
                   | omega
                   | (rw [Int.zero_add]; omega))
        · refine k_ldc (z := -1000001) i_163_20 o_163 rfl (by decide) ?_
          refine k_iret i_163_22 rfl ?_
          refine ⟨_, rfl, ?_, h⟩
          first
            | exact congrArg (fun z => some (vI z)) (by omega)
            | (exfalso; omega)
            | (have hv : Va K 0 i := Or.inl (by omega)
               have e1 : M 27 i = tB T i ∧ M 28 i = tW T i ∧ M 29 i = tS T i ∧ M 30 i = tO T i := xp i hv
               have e2 : M 274 (56 + i) = tB T i ∧ M 274 i = tW T i ∧ M 274 (28 + i) = tS T i ∧ M 274 (84 + i) = tO T i := yp i hv
               have e3 : M 22 i = kPa K i := (hK.2.2 i hv).2.1
               have e4 : M 274 (173 + i) = kPa K i := (hKR.2.2 i hv).2.1
               refine congrArg (fun z => some (vI z)) ?_
               first
                 | omega
                 | (rw [Int.zero_add]; omega))
  · refine k_ldc (z := -1000001) i_97_8 o_97 rfl (by decide) ?_
    refine k_iret i_97_10 rfl ?_
    show Ok (d + 24) 163 0 [some (vR (some 273)), some (vI i), some (vI w)] [] M _
    refine k_aload_n i_163_0 rfl ?_
    refine k_iload_n i_163_1 rfl ?_
    refine k_invV (n := 1) (o' := 8) (av := [vR (some 273), vI i]) (rest := []) (el := [some (vR (some 273)), some (vI i)]) i_163_2 o_163 rfl v_143 rfl (s_273) rfl rfl rfl rfl rfl ?_
    refine c_143 (by omega) (fun v2 hv2 => ?_)
    show Ok _ 163 5 [some (vR (some 273)), some (vI i), some (vI w)] [vI v2] (M) _
    refine k_if_eq (t := 20) i_163_5 rfl (fun h5 => ?_) (fun h5 => ?_)
    · refine k_ldc (z := -1000001) i_163_20 o_163 rfl (by decide) ?_
      refine k_iret i_163_22 rfl ?_
      refine ⟨_, rfl, ?_, h⟩
      first
        | exact congrArg (fun z => some (vI z)) (by omega)
        | (exfalso; omega)
        | (have hv : Va K 0 i := Or.inl (by omega)
           have e1 : M 27 i = tB T i ∧ M 28 i = tW T i ∧ M 29 i = tS T i ∧ M 30 i = tO T i := xp i hv
           have e2 : M 274 (56 + i) = tB T i ∧ M 274 i = tW T i ∧ M 274 (28 + i) = tS T i ∧ M 274 (84 + i) = tO T i := yp i hv
           have e3 : M 22 i = kPa K i := (hK.2.2 i hv).2.1
           have e4 : M 274 (173 + i) = kPa K i := (hKR.2.2 i hv).2.1
           refine congrArg (fun z => some (vI z)) ?_
           first
             | omega
             | (rw [Int.zero_add]; omega))
    · refine k_iload_n i_163_8 rfl ?_
      refine k_i2l i_163_9 ?_
      refine k_lconst (z := 0) i_163_10 rfl ?_
      refine k_ldc2 (z := 5) i_163_11 o_163 rfl (by decide) ?_
      refine k_invS (n := 3) (av := [vL w, vL 0, vL 5]) (rest := []) (el := [some (vL w), none, some (vL 0), none, some (vL 5), none]) i_163_14 o_163 rfl v_122 rfl rfl rfl rfl rfl rfl ?_
      refine c_122 (fun v14 hv14 => ?_)
      show Ok _ 163 17 [some (vR (some 273)), some (vI i), some (vI w)] [vI v14] (M) _
      refine k_if_ne (t := 23) i_163_17 rfl (fun h17 => ?_) (fun h17 => ?_)
      · refine k_iload_n i_163_23 rfl ?_
        rcases (show w = 0 ∨ w = 1 ∨ w = 2 ∨ w = 3 ∨ w = 4 ∨ (w < 0 ∨ 4 < w) by omega) with hx24 | hx24 | hx24 | hx24 | hx24 | hx24
        · refine k_tab (off := 36) (t := 60) i_163_24 (by rw [hx24]; rfl) rfl ?_
          refine k_aload_n i_163_60 rfl ?_
          refine k_iload_n i_163_61 rfl ?_
          refine k_invV (n := 1) (o' := 8) (av := [vR (some 273), vI i]) (rest := []) (el := [some (vR (some 273)), some (vI i), none, none]) i_163_62 o_163 rfl v_159 rfl (s_273) rfl rfl rfl rfl rfl ?_
          refine c_159 hKo hKR hRR hT (fun vq hvq => ?_)
          show Ok _ 163 65 [some (vR (some 273)), some (vI i), some (vI w)] [vI vq] (M) _
          refine k_iret i_163_65 rfl ?_
          refine ⟨_, rfl, ?_, h⟩
          first
            | exact congrArg (fun z => some (vI z)) (by omega)
            | (exfalso; omega)
            | (have hv : Va K 0 i := Or.inl (by omega)
               have e1 : M 27 i = tB T i ∧ M 28 i = tW T i ∧ M 29 i = tS T i ∧ M 30 i = tO T i := xp i hv
               have e2 : M 274 (56 + i) = tB T i ∧ M 274 i = tW T i ∧ M 274 (28 + i) = tS T i ∧ M 274 (84 + i) = tO T i := yp i hv
               have e3 : M 22 i = kPa K i := (hK.2.2 i hv).2.1
               have e4 : M 274 (173 + i) = kPa K i := (hKR.2.2 i hv).2.1
               refine congrArg (fun z => some (vI z)) ?_
               first
                 | omega
                 | (rw [Int.zero_add]; omega))
        · refine k_tab (off := 42) (t := 66) i_163_24 (by rw [hx24]; rfl) rfl ?_
          refine k_aload_n i_163_66 rfl ?_
          refine k_getR (r := 274) i_163_67 o_163 rfl (by decide) (s_273) rfl ?_
          refine k_iconst i_163_70 (by decide) ?_
          refine k_iload_n i_163_71 rfl ?_
          refine k_iadd i_163_72 (by omega) ?_
          refine k_iald i_163_73 (s_274) (by omega) ?_
          refine k_iret i_163_74 rfl ?_
          refine ⟨_, rfl, ?_, h⟩
          first
            | exact congrArg (fun z => some (vI z)) (by omega)
            | (exfalso; omega)
            | (have hv : Va K 0 i := Or.inl (by omega)
               have e1 : M 27 i = tB T i ∧ M 28 i = tW T i ∧ M 29 i = tS T i ∧ M 30 i = tO T i := xp i hv
               have e2 : M 274 (56 + i) = tB T i ∧ M 274 i = tW T i ∧ M 274 (28 + i) = tS T i ∧ M 274 (84 + i) = tO T i := yp i hv
               have e3 : M 22 i = kPa K i := (hK.2.2 i hv).2.1
               have e4 : M 274 (173 + i) = kPa K i := (hKR.2.2 i hv).2.1
               refine congrArg (fun z => some (vI z)) ?_
               first
                 | omega
                 | (rw [Int.zero_add]; omega))
        · refine k_tab (off := 51) (t := 75) i_163_24 (by rw [hx24]; rfl) rfl ?_
          refine k_aload_n i_163_75 rfl ?_
          refine k_getR (r := 274) i_163_76 o_163 rfl (by decide) (s_273) rfl ?_
          refine k_bipush i_163_79 (by decide) ?_
          refine k_iload_n i_163_81 rfl ?_
          refine k_iadd i_163_82 (by omega) ?_
          refine k_iald i_163_83 (s_274) (by omega) ?_
          refine k_iret i_163_84 rfl ?_
          refine ⟨_, rfl, ?_, h⟩
          first
            | exact congrArg (fun z => some (vI z)) (by omega)
            | (exfalso; omega)
            | (have hv : Va K 0 i := Or.inl (by omega)
               have e1 : M 27 i = tB T i ∧ M 28 i = tW T i ∧ M 29 i = tS T i ∧ M 30 i = tO T i := xp i hv
               have e2 : M 274 (56 + i) = tB T i ∧ M 274 i = tW T i ∧ M 274 (28 + i) = tS T i ∧ M 274 (84 + i) = tO T i := yp i hv
               have e3 : M 22 i = kPa K i := (hK.2.2 i hv).2.1
               have e4 : M 274 (173 + i) = kPa K i := (hKR.2.2 i hv).2.1
               refine congrArg (fun z => some (vI z)) ?_
               first
                 | omega
                 | (rw [Int.zero_add]; omega))
        · refine k_tab (off := 61) (t := 85) i_163_24 (by rw [hx24]; rfl) rfl ?_
          refine k_aload_n i_163_85 rfl ?_
          refine k_iload_n i_163_86 rfl ?_
          refine k_invV (n := 1) (o' := 8) (av := [vR (some 273), vI i]) (rest := []) (el := [some (vR (some 273)), some (vI i)]) i_163_87 o_163 rfl v_146 rfl (s_273) rfl rfl rfl rfl rfl ?_
          refine c_146 hKo hKR hRR (Or.inl (by omega)) (fun vq hvq => ?_)
          show Ok _ 163 90 [some (vR (some 273)), some (vI i), some (vI w)] [vI vq] (M) _
          refine k_iret i_163_90 rfl ?_
          refine ⟨_, rfl, ?_, h⟩
          first
            | exact congrArg (fun z => some (vI z)) (by omega)
            | (exfalso; omega)
            | (have hv : Va K 0 i := Or.inl (by omega)
               have e1 : M 27 i = tB T i ∧ M 28 i = tW T i ∧ M 29 i = tS T i ∧ M 30 i = tO T i := xp i hv
               have e2 : M 274 (56 + i) = tB T i ∧ M 274 i = tW T i ∧ M 274 (28 + i) = tS T i ∧ M 274 (84 + i) = tO T i := yp i hv
               have e3 : M 22 i = kPa K i := (hK.2.2 i hv).2.1
               have e4 : M 274 (173 + i) = kPa K i := (hKR.2.2 i hv).2.1
               refine congrArg (fun z => some (vI z)) ?_
               first
                 | omega
                 | (rw [Int.zero_add]; omega))
        · refine k_tab (off := 67) (t := 91) i_163_24 (by rw [hx24]; rfl) rfl ?_
          refine k_aload_n i_163_91 rfl ?_
          refine k_getR (r := 274) i_163_92 o_163 rfl (by decide) (s_273) rfl ?_
          refine k_sipush i_163_95 (by decide) ?_
          refine k_iload_n i_163_98 rfl ?_
          refine k_iadd i_163_99 (by omega) ?_
          refine k_iald i_163_100 (s_274) (by omega) ?_
          refine k_iret i_163_101 rfl ?_
          refine ⟨_, rfl, ?_, h⟩
          first
            | exact congrArg (fun z => some (vI z)) (by omega)
            | (exfalso; omega)
            | (have hv : Va K 0 i := Or.inl (by omega)
               have e1 : M 27 i = tB T i ∧ M 28 i = tW T i ∧ M 29 i = tS T i ∧ M 30 i = tO T i := xp i hv
               have e2 : M 274 (56 + i) = tB T i ∧ M 274 i = tW T i ∧ M 274 (28 + i) = tS T i ∧ M 274 (84 + i) = tO T i := yp i hv
               have e3 : M 22 i = kPa K i := (hK.2.2 i hv).2.1
               have e4 : M 274 (173 + i) = kPa K i := (hKR.2.2 i hv).2.1
               refine congrArg (fun z => some (vI z)) ?_
               first
                 | omega
                 | (rw [Int.zero_add]; omega))
        · refine k_tab (off := 78) (t := 102) i_163_24 (if_pos hx24) rfl ?_
          refine k_aload_n i_163_102 rfl ?_
          refine k_getR (r := 274) i_163_103 o_163 rfl (by decide) (s_273) rfl ?_
          refine k_bipush i_163_106 (by decide) ?_
          refine k_iload_n i_163_108 rfl ?_
          refine k_iadd i_163_109 (by omega) ?_
          refine k_iald i_163_110 (s_274) (by omega) ?_
          refine k_iret i_163_111 rfl ?_
          refine ⟨_, rfl, ?_, h⟩
          first
            | exact congrArg (fun z => some (vI z)) (by omega)
            | (exfalso; omega)
            | (have hv : Va K 0 i := Or.inl (by omega)
               have e1 : M 27 i = tB T i ∧ M 28 i = tW T i ∧ M 29 i = tS T i ∧ M 30 i = tO T i := xp i hv
               have e2 : M 274 (56 + i) = tB T i ∧ M 274 i = tW T i ∧ M 274 (28 + i) = tS T i ∧ M 274 (84 + i) = tO T i := yp i hv
               have e3 : M 22 i = kPa K i := (hK.2.2 i hv).2.1
               have e4 : M 274 (173 + i) = kPa K i := (hKR.2.2 i hv).2.1
               refine congrArg (fun z => some (vI z)) ?_
               first
                 | omega
                 | (rw [Int.zero_add]; omega))
      · refine k_ldc (z := -1000001) i_163_20 o_163 rfl (by decide) ?_
        refine k_iret i_163_22 rfl ?_
        refine ⟨_, rfl, ?_, h⟩
        first
          | exact congrArg (fun z => some (vI z)) (by omega)
          | (exfalso; omega)
          | (have hv : Va K 0 i := Or.inl (by omega)
             have e1 : M 27 i = tB T i ∧ M 28 i = tW T i ∧ M 29 i = tS T i ∧ M 30 i = tO T i := xp i hv
             have e2 : M 274 (56 + i) = tB T i ∧ M 274 i = tW T i ∧ M 274 (28 + i) = tS T i ∧ M 274 (84 + i) = tO T i := yp i hv
             have e3 : M 22 i = kPa K i := (hK.2.2 i hv).2.1
             have e4 : M 274 (173 + i) = kPa K i := (hKR.2.2 i hv).2.1
             refine congrArg (fun z => some (vI z)) ?_
             first
               | omega
               | (rw [Int.zero_add]; omega))

set_option maxRecDepth 100000 in
theorem tp_trace {d : Nat} {M : Mem} {i : Int} (h : Rel M)  : Two (d + 24) 114 202 [some (vR (some 0)), some (vI i)] [some (vR (some 273)), some (vI i)] M := by
  obtain ⟨K, T, L, hW⟩ := h.2.2.2.2.1
  obtain ⟨hE, hKo, hS, hK12, hR, hKR, hRR, hA, hAR, hL, hti⟩ := id hW
  have hT := hS.1
  have hK : RepK M 20 K 0 := hK12.mono (by decide)
  have g0 := hKo.1
  have u3 := hT.2.2.1
  have mi9 := hS.2.2
  have k1 : M 20 7 = kPe K := hK.1
  have k2 : M 20 6 = kWt K := hK.2.1
  have q1 : M 274 229 = kPe K := hKR.1
  have q2 : M 274 230 = kPe K - kWt K := hKR.2.1
  obtain ⟨x6, x7, x8, x9, x10, xq, xp⟩ := id hR
  obtain ⟨y6, y7, y8, y9, y10, yq, yp⟩ := id hRR
  have hl28 := q28 hKo hT
  have hl16 : ((tQ T).length : Int) ≤ 16 := by omega
  obtain ⟨t1, t2, t3, t4⟩ := h.2.2.2.2.2.2
  show Ok (d + 24) 114 0 [some (vR (some 0)), some (vI i)] [] M _
  refine k_aload_n i_114_0 rfl ?_
  refine k_getR (r := 246) i_114_1 o_114 rfl (by decide) (s_0) rfl ?_
  refine k_iload_n i_114_4 rfl ?_
  refine k_invV (n := 1) (o' := 1) (av := [vR (some 246), vI i]) (rest := []) (el := [some (vR (some 246)), some (vI i)]) i_114_5 o_114 rfl v_7 rfl (s_246) rfl rfl rfl rfl rfl ?_
  refine c_7 (by omega) ?_
  show Ok _ 114 8 [some (vR (some 0)), some (vI i)] [vI (if 0 ≤ i ∧ i < M 246 3 then M 247 i else -1000000)] (M) _
  refine k_iret i_114_8 rfl ?_
  show Ok (d + 24) 202 0 [some (vR (some 273)), some (vI i)] [] M _
  refine k_iload_n i_202_0 rfl ?_
  refine k_i2l i_202_1 ?_
  refine k_lconst (z := 0) i_202_2 rfl ?_
  refine k_aload_n i_202_3 rfl ?_
  refine k_getI (kz := 21) i_202_4 o_202 rfl (by decide) (s_273) rfl ?_
  refine k_iconst i_202_7 (by decide) ?_
  refine k_isub i_202_8 (by omega) ?_
  refine k_i2l i_202_9 ?_
  refine k_invS (n := 3) (av := [vL i, vL 0, vL ((M 273 21) - 1)]) (rest := []) (el := [some (vL i), none, some (vL 0), none, some (vL ((M 273 21) - 1)), none]) i_202_10 o_202 rfl v_122 rfl rfl rfl rfl rfl rfl ?_
  refine c_122 (fun v10 hv10 => ?_)
  show Ok _ 202 13 [some (vR (some 273)), some (vI i)] [vI v10] (M) _
  refine k_if_eq (t := 25) i_202_13 rfl (fun h13 => ?_) (fun h13 => ?_)
  · refine k_ldc (z := -1000000) i_202_25 o_202 rfl (by decide) ?_
    refine k_iret i_202_27 rfl ?_
    refine ⟨_, rfl, ?_, h⟩
    refine congrArg (fun z => some (vI z)) ?_
    first
      | (rw [if_pos (by omega)]; exact (t4 i (by omega) (by omega)).symm)
      | (rw [if_neg (by omega)])
  · refine k_aload_n i_202_16 rfl ?_
    refine k_getR (r := 288) i_202_17 o_202 rfl (by decide) (s_273) rfl ?_
    refine k_iload_n i_202_20 rfl ?_
    refine k_iald i_202_21 (s_288) (by omega) ?_
    refine k_goto (t := 27) i_202_22 rfl ?_
    refine k_iret i_202_27 rfl ?_
    refine ⟨_, rfl, ?_, h⟩
    refine congrArg (fun z => some (vI z)) ?_
    first
      | (rw [if_pos (by omega)]; exact (t4 i (by omega) (by omega)).symm)
      | (rw [if_neg (by omega)])

set_option maxRecDepth 100000 in
theorem tp_ahead {d : Nat} {M : Mem} {n w : Int} (h : Rel M)  : Two (d + 24) 99 169 [some (vR (some 0)), some (vI n), some (vI w)] [some (vR (some 273)), some (vI n), some (vI w), none] M := by
  obtain ⟨K, T, L, hW⟩ := h.2.2.2.2.1
  obtain ⟨hE, hKo, hS, hK12, hR, hKR, hRR, hA, hAR, hL, hti⟩ := id hW
  have hT := hS.1
  have hK : RepK M 20 K 0 := hK12.mono (by decide)
  have g0 := hKo.1
  have u3 := hT.2.2.1
  have mi9 := hS.2.2
  have k1 : M 20 7 = kPe K := hK.1
  have k2 : M 20 6 = kWt K := hK.2.1
  have q1 : M 274 229 = kPe K := hKR.1
  have q2 : M 274 230 = kPe K - kWt K := hKR.2.1
  obtain ⟨x6, x7, x8, x9, x10, xq, xp⟩ := id hR
  obtain ⟨y6, y7, y8, y9, y10, yq, yp⟩ := id hRR
  have hl28 := q28 hKo hT
  have hl16 : ((tQ T).length : Int) ≤ 16 := by omega
  show Ok (d + 24) 99 0 [some (vR (some 0)), some (vI n), some (vI w)] [] M _
  refine k_aload_n i_99_0 rfl ?_
  refine k_getI (kz := 11) i_99_1 o_99 rfl (by decide) (s_0) rfl ?_
  refine k_if_ne (t := 10) i_99_4 rfl (fun h4 => ?_) (fun h4 => ?_)
  · refine k_iload_n i_99_10 rfl ?_
    refine k_bipush i_99_11 (by decide) ?_
    refine k_invS (n := 2) (av := [vI n, vI 60]) (rest := []) (el := [some (vI n), some (vI 60)]) i_99_13 o_99 rfl v_117 rfl rfl rfl rfl rfl rfl ?_
    refine c_117 (fun v13 hv13 => ?_)
    show Ok _ 99 16 [some (vR (some 0)), some (vI n), some (vI w)] [vI v13] (M) _
    refine k_if_eq (t := 27) i_99_16 rfl (fun h16 => ?_) (fun h16 => ?_)
    · refine k_ldc (z := -1000001) i_99_27 o_99 rfl (by decide) ?_
      refine k_iret i_99_29 rfl ?_
      show Ok (d + 24) 169 0 [some (vR (some 273)), some (vI n), some (vI w), none] [] M _
      refine k_aload_n i_169_0 rfl ?_
      refine k_invV (n := 0) (o' := 8) (av := [vR (some 273)]) (rest := []) (el := [some (vR (some 273))]) i_169_1 o_169 rfl v_144 rfl (s_273) rfl rfl rfl rfl rfl ?_
      refine c_144 (fun v1 hv1 => ?_)
      show Ok _ 169 4 [some (vR (some 273)), some (vI n), some (vI w), none] [vI v1] (M) _
      refine k_if_ne (t := 10) i_169_4 rfl (fun h4 => ?_) (fun h4 => ?_)
      · refine k_iload_n i_169_10 rfl ?_
        refine k_i2l i_169_11 ?_
        refine k_lconst (z := 0) i_169_12 rfl ?_
        refine k_ldc2 (z := 60) i_169_13 o_169 rfl (by decide) ?_
        refine k_invS (n := 3) (av := [vL n, vL 0, vL 60]) (rest := []) (el := [some (vL n), none, some (vL 0), none, some (vL 60), none]) i_169_16 o_169 rfl v_122 rfl rfl rfl rfl rfl rfl ?_
        refine c_122 (fun v16 hv16 => ?_)
        show Ok _ 169 19 [some (vR (some 273)), some (vI n), some (vI w), none] [vI v16] (M) _
        refine k_if_eq (t := 34) i_169_19 rfl (fun h19 => ?_) (fun h19 => ?_)
        · refine k_ldc (z := -1000001) i_169_34 o_169 rfl (by decide) ?_
          refine k_iret i_169_36 rfl ?_
          refine ⟨_, rfl, ?_, h⟩
          first
            | exact congrArg (fun z => some (vI z)) (by omega)
            | (exfalso; omega)
        · refine k_iload_n i_169_22 rfl ?_
          refine k_i2l i_169_23 ?_
          refine k_lconst (z := 0) i_169_24 rfl ?_
          refine k_ldc2 (z := 3) i_169_25 o_169 rfl (by decide) ?_
          refine k_invS (n := 3) (av := [vL w, vL 0, vL 3]) (rest := []) (el := [some (vL w), none, some (vL 0), none, some (vL 3), none]) i_169_28 o_169 rfl v_122 rfl rfl rfl rfl rfl rfl ?_
          refine c_122 (fun v28 hv28 => ?_)
          show Ok _ 169 31 [some (vR (some 273)), some (vI n), some (vI w), none] [vI v28] (M) _
          refine k_if_ne (t := 37) i_169_31 rfl (fun h31 => ?_) (fun h31 => ?_)
          · refine k_aload_n i_169_37 rfl ?_
            refine k_invV (n := 0) (o' := 8) (av := [vR (some 273)]) (rest := []) (el := [some (vR (some 273)), none]) i_169_38 o_169 rfl v_165 rfl (s_273) rfl rfl rfl rfl rfl ?_
            refine c_165 ?_
            show Ok _ 169 41 [some (vR (some 273)), some (vI n), some (vI w), none] [] (cpn M 274 278 232) _
            refine k_aload_n i_169_41 rfl ?_
            refine k_iload_n i_169_42 rfl ?_
            refine k_invV (n := 1) (o' := 8) (av := [vR (some 273), vI n]) (rest := []) (el := [some (vR (some 273)), some (vI n), none]) i_169_43 o_169 rfl v_167 rfl (s_273) rfl rfl rfl rfl rfl ?_
            refine c_167 hKo ((Wk.st M).k hKR) hT (by omega) (by omega) ((Wk.st M).r hRR) (fun M2 hR2 ho2 => ?_)
            show Ok _ 169 46 [some (vR (some 273)), some (vI n), some (vI w), none] [] (M2) _
            refine k_aload_n i_169_46 rfl ?_
            refine k_iconst i_169_47 (by decide) ?_
            refine k_iload_n i_169_48 rfl ?_
            refine k_iadd i_169_49 (by omega) ?_
            refine k_invV (n := 1) (o' := 8) (av := [vR (some 273), vI (1 + w)]) (rest := []) (el := [some (vR (some 273)), some (vI (1 + w)), none, none]) i_169_50 o_169 rfl v_168 rfl (s_273) rfl rfl rfl rfl rfl ?_
            refine c_168 hKo (((Wk.st M).k hKR).out hKo ho2) hR2 (fun v4 hv4 => ?_)
            show Ok _ 169 53 [some (vR (some 273)), some (vI n), some (vI w), none] [vI v4] (M2) _
            refine k_istore_n (ls' := [some (vR (some 273)), some (vI n), some (vI w), some (vI v4)]) i_169_53 rfl ?_
            refine k_aload_n i_169_54 rfl ?_
            refine k_invV (n := 0) (o' := 8) (av := [vR (some 273)]) (rest := []) (el := [some (vR (some 273)), none]) i_169_55 o_169 rfl v_166 rfl (s_273) rfl rfl rfl rfl rfl ?_
            refine c_166 ?_
            show Ok _ 169 58 [some (vR (some 273)), some (vI n), some (vI w), some (vI v4)] [] (cpn M2 278 274 232) _
            refine k_iload_n i_169_58 rfl ?_
            refine k_iret i_169_59 rfl ?_
            exfalso
            omega
          · refine k_ldc (z := -1000001) i_169_34 o_169 rfl (by decide) ?_
            refine k_iret i_169_36 rfl ?_
            refine ⟨_, rfl, ?_, h⟩
            first
              | exact congrArg (fun z => some (vI z)) (by omega)
              | (exfalso; omega)
      · refine k_ldc (z := -1000002) i_169_7 o_169 rfl (by decide) ?_
        refine k_iret i_169_9 rfl ?_
        refine ⟨_, rfl, ?_, h⟩
        first
          | exact congrArg (fun z => some (vI z)) (by omega)
          | (exfalso; omega)
    · refine k_iload_n i_99_19 rfl ?_
      refine k_iconst i_99_20 (by decide) ?_
      refine k_invS (n := 2) (av := [vI w, vI 3]) (rest := []) (el := [some (vI w), some (vI 3)]) i_99_21 o_99 rfl v_117 rfl rfl rfl rfl rfl rfl ?_
      refine c_117 (fun v21 hv21 => ?_)
      show Ok _ 99 24 [some (vR (some 0)), some (vI n), some (vI w)] [vI v21] (M) _
      refine k_if_ne (t := 30) i_99_24 rfl (fun h24 => ?_) (fun h24 => ?_)
      · refine k_aload_n i_99_30 rfl ?_
        refine k_getR (r := 177) i_99_31 o_99 rfl (by decide) (s_0) rfl ?_
        refine k_iload_n i_99_34 rfl ?_
        refine k_invV (n := 1) (o' := 2) (av := [vR (some 177), vI n]) (rest := []) (el := [some (vR (some 177)), some (vI n)]) i_99_35 o_99 rfl v_15 rfl (s_177) rfl rfl rfl rfl rfl ?_
        refine c_15 hKo hK hT hR (by omega) (by omega) (fun M1 x hR1 ho1 => ?_)
        show Ok _ 99 38 [some (vR (some 0)), some (vI n), some (vI w)] [vR (some 179)] (M1) _
        refine k_iconst i_99_38 (by decide) ?_
        refine k_iload_n i_99_39 rfl ?_
        refine k_iadd i_99_40 (by omega) ?_
        refine k_invV (n := 1) (o' := 6) (av := [vR (some 179), vI (1 + w)]) (rest := []) (el := [some (vR (some 179)), some (vI (1 + w)), none, none]) i_99_41 o_99 rfl v_67 rfl (s_179) rfl rfl rfl rfl rfl ?_
        refine c_67 tw_179 (by omega) hKo (hK.out ho1 (by omega)) hR1 (fun v3 hv3 => ?_)
        show Ok _ 99 44 [some (vR (some 0)), some (vI n), some (vI w)] [vI v3] (M1) _
        refine k_iret i_99_44 rfl ?_
        show Ok (d + 24) 169 0 [some (vR (some 273)), some (vI n), some (vI w), none] [] M1 _
        have hRR1 : RepR M1 K 0 T := hRR.off (fun j => ho1 274 j (by omega))
        have hKR1 : RepKR M1 K 0 := hKR.fr (fun j => ho1 274 j (by omega))
        have z1 : M1 274 231 = M 274 231 := ho1 _ _ (by omega)
        have z2 : M1 274 229 = kPe K := hKR1.1
        refine k_aload_n i_169_0 rfl ?_
        refine k_invV (n := 0) (o' := 8) (av := [vR (some 273)]) (rest := []) (el := [some (vR (some 273))]) i_169_1 o_169 rfl v_144 rfl (s_273) rfl rfl rfl rfl rfl ?_
        refine c_144 (fun v1 hv1 => ?_)
        show Ok _ 169 4 [some (vR (some 273)), some (vI n), some (vI w), none] [vI v1] (M1) _
        refine k_if_ne (t := 10) i_169_4 rfl (fun h4 => ?_) (fun h4 => ?_)
        · refine k_iload_n i_169_10 rfl ?_
          refine k_i2l i_169_11 ?_
          refine k_lconst (z := 0) i_169_12 rfl ?_
          refine k_ldc2 (z := 60) i_169_13 o_169 rfl (by decide) ?_
          refine k_invS (n := 3) (av := [vL n, vL 0, vL 60]) (rest := []) (el := [some (vL n), none, some (vL 0), none, some (vL 60), none]) i_169_16 o_169 rfl v_122 rfl rfl rfl rfl rfl rfl ?_
          refine c_122 (fun v16 hv16 => ?_)
          show Ok _ 169 19 [some (vR (some 273)), some (vI n), some (vI w), none] [vI v16] (M1) _
          refine k_if_eq (t := 34) i_169_19 rfl (fun h19 => ?_) (fun h19 => ?_)
          · refine k_ldc (z := -1000001) i_169_34 o_169 rfl (by decide) ?_
            refine k_iret i_169_36 rfl ?_
            exfalso
            omega
          · refine k_iload_n i_169_22 rfl ?_
            refine k_i2l i_169_23 ?_
            refine k_lconst (z := 0) i_169_24 rfl ?_
            refine k_ldc2 (z := 3) i_169_25 o_169 rfl (by decide) ?_
            refine k_invS (n := 3) (av := [vL w, vL 0, vL 3]) (rest := []) (el := [some (vL w), none, some (vL 0), none, some (vL 3), none]) i_169_28 o_169 rfl v_122 rfl rfl rfl rfl rfl rfl ?_
            refine c_122 (fun v28 hv28 => ?_)
            show Ok _ 169 31 [some (vR (some 273)), some (vI n), some (vI w), none] [vI v28] (M1) _
            refine k_if_ne (t := 37) i_169_31 rfl (fun h31 => ?_) (fun h31 => ?_)
            · refine k_aload_n i_169_37 rfl ?_
              refine k_invV (n := 0) (o' := 8) (av := [vR (some 273)]) (rest := []) (el := [some (vR (some 273)), none]) i_169_38 o_169 rfl v_165 rfl (s_273) rfl rfl rfl rfl rfl ?_
              refine c_165 ?_
              show Ok _ 169 41 [some (vR (some 273)), some (vI n), some (vI w), none] [] (cpn M1 274 278 232) _
              refine k_aload_n i_169_41 rfl ?_
              refine k_iload_n i_169_42 rfl ?_
              refine k_invV (n := 1) (o' := 8) (av := [vR (some 273), vI n]) (rest := []) (el := [some (vR (some 273)), some (vI n), none]) i_169_43 o_169 rfl v_167 rfl (s_273) rfl rfl rfl rfl rfl ?_
              refine c_167 hKo ((Wk.st M1).k hKR1) hT (by omega) (by omega) ((Wk.st M1).r hRR1) (fun M2 hR2 ho2 => ?_)
              show Ok _ 169 46 [some (vR (some 273)), some (vI n), some (vI w), none] [] (M2) _
              refine k_aload_n i_169_46 rfl ?_
              refine k_iconst i_169_47 (by decide) ?_
              refine k_iload_n i_169_48 rfl ?_
              refine k_iadd i_169_49 (by omega) ?_
              refine k_invV (n := 1) (o' := 8) (av := [vR (some 273), vI (1 + w)]) (rest := []) (el := [some (vR (some 273)), some (vI (1 + w)), none, none]) i_169_50 o_169 rfl v_168 rfl (s_273) rfl rfl rfl rfl rfl ?_
              refine c_168 hKo (((Wk.st M1).k hKR1).out hKo ho2) hR2 (fun v4 hv4 => ?_)
              show Ok _ 169 53 [some (vR (some 273)), some (vI n), some (vI w), none] [vI v4] (M2) _
              refine k_istore_n (ls' := [some (vR (some 273)), some (vI n), some (vI w), some (vI v4)]) i_169_53 rfl ?_
              refine k_aload_n i_169_54 rfl ?_
              refine k_invV (n := 0) (o' := 8) (av := [vR (some 273)]) (rest := []) (el := [some (vR (some 273)), none]) i_169_55 o_169 rfl v_166 rfl (s_273) rfl rfl rfl rfl rfl ?_
              refine c_166 ?_
              show Ok _ 169 58 [some (vR (some 273)), some (vI n), some (vI w), some (vI v4)] [] (cpn M2 278 274 232) _
              refine k_iload_n i_169_58 rfl ?_
              refine k_iret i_169_59 rfl ?_
              have hw := (Wk.st M1).bk ho2.w
              refine ⟨_, rfl, ?_, h.scr (fun b j b0 b1 b2 b3 b4 => (hw.1 b j b1 b3 b4).trans (ho1 b j (by omega)))⟩
              refine congrArg (fun z => some (vI z)) ?_
              rw [many_mi] at hv3
              omega
            · refine k_ldc (z := -1000001) i_169_34 o_169 rfl (by decide) ?_
              refine k_iret i_169_36 rfl ?_
              exfalso
              omega
        · refine k_ldc (z := -1000002) i_169_7 o_169 rfl (by decide) ?_
          refine k_iret i_169_9 rfl ?_
          exfalso
          omega
      · refine k_ldc (z := -1000001) i_99_27 o_99 rfl (by decide) ?_
        refine k_iret i_99_29 rfl ?_
        show Ok (d + 24) 169 0 [some (vR (some 273)), some (vI n), some (vI w), none] [] M _
        refine k_aload_n i_169_0 rfl ?_
        refine k_invV (n := 0) (o' := 8) (av := [vR (some 273)]) (rest := []) (el := [some (vR (some 273))]) i_169_1 o_169 rfl v_144 rfl (s_273) rfl rfl rfl rfl rfl ?_
        refine c_144 (fun v1 hv1 => ?_)
        show Ok _ 169 4 [some (vR (some 273)), some (vI n), some (vI w), none] [vI v1] (M) _
        refine k_if_ne (t := 10) i_169_4 rfl (fun h4 => ?_) (fun h4 => ?_)
        · refine k_iload_n i_169_10 rfl ?_
          refine k_i2l i_169_11 ?_
          refine k_lconst (z := 0) i_169_12 rfl ?_
          refine k_ldc2 (z := 60) i_169_13 o_169 rfl (by decide) ?_
          refine k_invS (n := 3) (av := [vL n, vL 0, vL 60]) (rest := []) (el := [some (vL n), none, some (vL 0), none, some (vL 60), none]) i_169_16 o_169 rfl v_122 rfl rfl rfl rfl rfl rfl ?_
          refine c_122 (fun v16 hv16 => ?_)
          show Ok _ 169 19 [some (vR (some 273)), some (vI n), some (vI w), none] [vI v16] (M) _
          refine k_if_eq (t := 34) i_169_19 rfl (fun h19 => ?_) (fun h19 => ?_)
          · refine k_ldc (z := -1000001) i_169_34 o_169 rfl (by decide) ?_
            refine k_iret i_169_36 rfl ?_
            refine ⟨_, rfl, ?_, h⟩
            first
              | exact congrArg (fun z => some (vI z)) (by omega)
              | (exfalso; omega)
          · refine k_iload_n i_169_22 rfl ?_
            refine k_i2l i_169_23 ?_
            refine k_lconst (z := 0) i_169_24 rfl ?_
            refine k_ldc2 (z := 3) i_169_25 o_169 rfl (by decide) ?_
            refine k_invS (n := 3) (av := [vL w, vL 0, vL 3]) (rest := []) (el := [some (vL w), none, some (vL 0), none, some (vL 3), none]) i_169_28 o_169 rfl v_122 rfl rfl rfl rfl rfl rfl ?_
            refine c_122 (fun v28 hv28 => ?_)
            show Ok _ 169 31 [some (vR (some 273)), some (vI n), some (vI w), none] [vI v28] (M) _
            refine k_if_ne (t := 37) i_169_31 rfl (fun h31 => ?_) (fun h31 => ?_)
            · refine k_aload_n i_169_37 rfl ?_
              refine k_invV (n := 0) (o' := 8) (av := [vR (some 273)]) (rest := []) (el := [some (vR (some 273)), none]) i_169_38 o_169 rfl v_165 rfl (s_273) rfl rfl rfl rfl rfl ?_
              refine c_165 ?_
              show Ok _ 169 41 [some (vR (some 273)), some (vI n), some (vI w), none] [] (cpn M 274 278 232) _
              refine k_aload_n i_169_41 rfl ?_
              refine k_iload_n i_169_42 rfl ?_
              refine k_invV (n := 1) (o' := 8) (av := [vR (some 273), vI n]) (rest := []) (el := [some (vR (some 273)), some (vI n), none]) i_169_43 o_169 rfl v_167 rfl (s_273) rfl rfl rfl rfl rfl ?_
              refine c_167 hKo ((Wk.st M).k hKR) hT (by omega) (by omega) ((Wk.st M).r hRR) (fun M2 hR2 ho2 => ?_)
              show Ok _ 169 46 [some (vR (some 273)), some (vI n), some (vI w), none] [] (M2) _
              refine k_aload_n i_169_46 rfl ?_
              refine k_iconst i_169_47 (by decide) ?_
              refine k_iload_n i_169_48 rfl ?_
              refine k_iadd i_169_49 (by omega) ?_
              refine k_invV (n := 1) (o' := 8) (av := [vR (some 273), vI (1 + w)]) (rest := []) (el := [some (vR (some 273)), some (vI (1 + w)), none, none]) i_169_50 o_169 rfl v_168 rfl (s_273) rfl rfl rfl rfl rfl ?_
              refine c_168 hKo (((Wk.st M).k hKR).out hKo ho2) hR2 (fun v4 hv4 => ?_)
              show Ok _ 169 53 [some (vR (some 273)), some (vI n), some (vI w), none] [vI v4] (M2) _
              refine k_istore_n (ls' := [some (vR (some 273)), some (vI n), some (vI w), some (vI v4)]) i_169_53 rfl ?_
              refine k_aload_n i_169_54 rfl ?_
              refine k_invV (n := 0) (o' := 8) (av := [vR (some 273)]) (rest := []) (el := [some (vR (some 273)), none]) i_169_55 o_169 rfl v_166 rfl (s_273) rfl rfl rfl rfl rfl ?_
              refine c_166 ?_
              show Ok _ 169 58 [some (vR (some 273)), some (vI n), some (vI w), some (vI v4)] [] (cpn M2 278 274 232) _
              refine k_iload_n i_169_58 rfl ?_
              refine k_iret i_169_59 rfl ?_
              exfalso
              omega
            · refine k_ldc (z := -1000001) i_169_34 o_169 rfl (by decide) ?_
              refine k_iret i_169_36 rfl ?_
              refine ⟨_, rfl, ?_, h⟩
              first
                | exact congrArg (fun z => some (vI z)) (by omega)
                | (exfalso; omega)
        · refine k_ldc (z := -1000002) i_169_7 o_169 rfl (by decide) ?_
          refine k_iret i_169_9 rfl ?_
          refine ⟨_, rfl, ?_, h⟩
          first
            | exact congrArg (fun z => some (vI z)) (by omega)
            | (exfalso; omega)
  · refine k_ldc (z := -1000002) i_99_7 o_99 rfl (by decide) ?_
    refine k_iret i_99_9 rfl ?_
    show Ok (d + 24) 169 0 [some (vR (some 273)), some (vI n), some (vI w), none] [] M _
    refine k_aload_n i_169_0 rfl ?_
    refine k_invV (n := 0) (o' := 8) (av := [vR (some 273)]) (rest := []) (el := [some (vR (some 273))]) i_169_1 o_169 rfl v_144 rfl (s_273) rfl rfl rfl rfl rfl ?_
    refine c_144 (fun v1 hv1 => ?_)
    show Ok _ 169 4 [some (vR (some 273)), some (vI n), some (vI w), none] [vI v1] (M) _
    refine k_if_ne (t := 10) i_169_4 rfl (fun h4 => ?_) (fun h4 => ?_)
    · refine k_iload_n i_169_10 rfl ?_
      refine k_i2l i_169_11 ?_
      refine k_lconst (z := 0) i_169_12 rfl ?_
      refine k_ldc2 (z := 60) i_169_13 o_169 rfl (by decide) ?_
      refine k_invS (n := 3) (av := [vL n, vL 0, vL 60]) (rest := []) (el := [some (vL n), none, some (vL 0), none, some (vL 60), none]) i_169_16 o_169 rfl v_122 rfl rfl rfl rfl rfl rfl ?_
      refine c_122 (fun v16 hv16 => ?_)
      show Ok _ 169 19 [some (vR (some 273)), some (vI n), some (vI w), none] [vI v16] (M) _
      refine k_if_eq (t := 34) i_169_19 rfl (fun h19 => ?_) (fun h19 => ?_)
      · refine k_ldc (z := -1000001) i_169_34 o_169 rfl (by decide) ?_
        refine k_iret i_169_36 rfl ?_
        refine ⟨_, rfl, ?_, h⟩
        first
          | exact congrArg (fun z => some (vI z)) (by omega)
          | (exfalso; omega)
      · refine k_iload_n i_169_22 rfl ?_
        refine k_i2l i_169_23 ?_
        refine k_lconst (z := 0) i_169_24 rfl ?_
        refine k_ldc2 (z := 3) i_169_25 o_169 rfl (by decide) ?_
        refine k_invS (n := 3) (av := [vL w, vL 0, vL 3]) (rest := []) (el := [some (vL w), none, some (vL 0), none, some (vL 3), none]) i_169_28 o_169 rfl v_122 rfl rfl rfl rfl rfl rfl ?_
        refine c_122 (fun v28 hv28 => ?_)
        show Ok _ 169 31 [some (vR (some 273)), some (vI n), some (vI w), none] [vI v28] (M) _
        refine k_if_ne (t := 37) i_169_31 rfl (fun h31 => ?_) (fun h31 => ?_)
        · refine k_aload_n i_169_37 rfl ?_
          refine k_invV (n := 0) (o' := 8) (av := [vR (some 273)]) (rest := []) (el := [some (vR (some 273)), none]) i_169_38 o_169 rfl v_165 rfl (s_273) rfl rfl rfl rfl rfl ?_
          refine c_165 ?_
          show Ok _ 169 41 [some (vR (some 273)), some (vI n), some (vI w), none] [] (cpn M 274 278 232) _
          refine k_aload_n i_169_41 rfl ?_
          refine k_iload_n i_169_42 rfl ?_
          refine k_invV (n := 1) (o' := 8) (av := [vR (some 273), vI n]) (rest := []) (el := [some (vR (some 273)), some (vI n), none]) i_169_43 o_169 rfl v_167 rfl (s_273) rfl rfl rfl rfl rfl ?_
          refine c_167 hKo ((Wk.st M).k hKR) hT (by omega) (by omega) ((Wk.st M).r hRR) (fun M2 hR2 ho2 => ?_)
          show Ok _ 169 46 [some (vR (some 273)), some (vI n), some (vI w), none] [] (M2) _
          refine k_aload_n i_169_46 rfl ?_
          refine k_iconst i_169_47 (by decide) ?_
          refine k_iload_n i_169_48 rfl ?_
          refine k_iadd i_169_49 (by omega) ?_
          refine k_invV (n := 1) (o' := 8) (av := [vR (some 273), vI (1 + w)]) (rest := []) (el := [some (vR (some 273)), some (vI (1 + w)), none, none]) i_169_50 o_169 rfl v_168 rfl (s_273) rfl rfl rfl rfl rfl ?_
          refine c_168 hKo (((Wk.st M).k hKR).out hKo ho2) hR2 (fun v4 hv4 => ?_)
          show Ok _ 169 53 [some (vR (some 273)), some (vI n), some (vI w), none] [vI v4] (M2) _
          refine k_istore_n (ls' := [some (vR (some 273)), some (vI n), some (vI w), some (vI v4)]) i_169_53 rfl ?_
          refine k_aload_n i_169_54 rfl ?_
          refine k_invV (n := 0) (o' := 8) (av := [vR (some 273)]) (rest := []) (el := [some (vR (some 273)), none]) i_169_55 o_169 rfl v_166 rfl (s_273) rfl rfl rfl rfl rfl ?_
          refine c_166 ?_
          show Ok _ 169 58 [some (vR (some 273)), some (vI n), some (vI w), some (vI v4)] [] (cpn M2 278 274 232) _
          refine k_iload_n i_169_58 rfl ?_
          refine k_iret i_169_59 rfl ?_
          exfalso
          omega
        · refine k_ldc (z := -1000001) i_169_34 o_169 rfl (by decide) ?_
          refine k_iret i_169_36 rfl ?_
          refine ⟨_, rfl, ?_, h⟩
          first
            | exact congrArg (fun z => some (vI z)) (by omega)
            | (exfalso; omega)
    · refine k_ldc (z := -1000002) i_169_7 o_169 rfl (by decide) ?_
      refine k_iret i_169_9 rfl ?_
      refine ⟨_, rfl, ?_, h⟩
      first
        | exact congrArg (fun z => some (vI z)) (by omega)
        | (exfalso; omega)

set_option maxRecDepth 100000 in
theorem tp_order {d : Nat} {M : Mem} {n k : Int} (h : Rel M)  : Two (d + 24) 100 170 [some (vR (some 0)), some (vI n), some (vI k)] [some (vR (some 273)), some (vI n), some (vI k), none] M := by
  obtain ⟨K, T, L, hW⟩ := h.2.2.2.2.1
  obtain ⟨hE, hKo, hS, hK12, hR, hKR, hRR, hA, hAR, hL, hti⟩ := id hW
  have hT := hS.1
  have hK : RepK M 20 K 0 := hK12.mono (by decide)
  have g0 := hKo.1
  have u3 := hT.2.2.1
  have mi9 := hS.2.2
  have k1 : M 20 7 = kPe K := hK.1
  have k2 : M 20 6 = kWt K := hK.2.1
  have q1 : M 274 229 = kPe K := hKR.1
  have q2 : M 274 230 = kPe K - kWt K := hKR.2.1
  obtain ⟨x6, x7, x8, x9, x10, xq, xp⟩ := id hR
  obtain ⟨y6, y7, y8, y9, y10, yq, yp⟩ := id hRR
  have hl28 := q28 hKo hT
  have hl16 : ((tQ T).length : Int) ≤ 16 := by omega
  show Ok (d + 24) 100 0 [some (vR (some 0)), some (vI n), some (vI k)] [] M _
  refine k_aload_n i_100_0 rfl ?_
  refine k_getI (kz := 11) i_100_1 o_100 rfl (by decide) (s_0) rfl ?_
  refine k_if_ne (t := 10) i_100_4 rfl (fun h4 => ?_) (fun h4 => ?_)
  · refine k_iload_n i_100_10 rfl ?_
    refine k_bipush i_100_11 (by decide) ?_
    refine k_invS (n := 2) (av := [vI n, vI 60]) (rest := []) (el := [some (vI n), some (vI 60)]) i_100_13 o_100 rfl v_117 rfl rfl rfl rfl rfl rfl ?_
    refine c_117 (fun v13 hv13 => ?_)
    show Ok _ 100 16 [some (vR (some 0)), some (vI n), some (vI k)] [vI v13] (M) _
    refine k_if_eq (t := 23) i_100_16 rfl (fun h16 => ?_) (fun h16 => ?_)
    · refine k_ldc (z := -1000001) i_100_23 o_100 rfl (by decide) ?_
      refine k_iret i_100_25 rfl ?_
      show Ok (d + 24) 170 0 [some (vR (some 273)), some (vI n), some (vI k), none] [] M _
      refine k_aload_n i_170_0 rfl ?_
      refine k_invV (n := 0) (o' := 8) (av := [vR (some 273)]) (rest := []) (el := [some (vR (some 273))]) i_170_1 o_170 rfl v_144 rfl (s_273) rfl rfl rfl rfl rfl ?_
      refine c_144 (fun v1 hv1 => ?_)
      show Ok _ 170 4 [some (vR (some 273)), some (vI n), some (vI k), none] [vI v1] (M) _
      refine k_if_ne (t := 10) i_170_4 rfl (fun h4 => ?_) (fun h4 => ?_)
      · refine k_iload_n i_170_10 rfl ?_
        refine k_i2l i_170_11 ?_
        refine k_lconst (z := 0) i_170_12 rfl ?_
        refine k_ldc2 (z := 60) i_170_13 o_170 rfl (by decide) ?_
        refine k_invS (n := 3) (av := [vL n, vL 0, vL 60]) (rest := []) (el := [some (vL n), none, some (vL 0), none, some (vL 60), none]) i_170_16 o_170 rfl v_122 rfl rfl rfl rfl rfl rfl ?_
        refine c_122 (fun v16 hv16 => ?_)
        show Ok _ 170 19 [some (vR (some 273)), some (vI n), some (vI k), none] [vI v16] (M) _
        refine k_if_eq (t := 26) i_170_19 rfl (fun h19 => ?_) (fun h19 => ?_)
        · refine k_ldc (z := -1000001) i_170_26 o_170 rfl (by decide) ?_
          refine k_iret i_170_28 rfl ?_
          refine ⟨_, rfl, ?_, h⟩
          first
            | exact congrArg (fun z => some (vI z)) (by omega)
            | (exfalso; omega)
        · refine k_iload_n i_170_22 rfl ?_
          refine k_if_ge (t := 29) i_170_23 rfl (fun h23 => ?_) (fun h23 => ?_)
          · refine k_aload_n i_170_29 rfl ?_
            refine k_invV (n := 0) (o' := 8) (av := [vR (some 273)]) (rest := []) (el := [some (vR (some 273)), none]) i_170_30 o_170 rfl v_165 rfl (s_273) rfl rfl rfl rfl rfl ?_
            refine c_165 ?_
            show Ok _ 170 33 [some (vR (some 273)), some (vI n), some (vI k), none] [] (cpn M 274 278 232) _
            refine k_aload_n i_170_33 rfl ?_
            refine k_iload_n i_170_34 rfl ?_
            refine k_invV (n := 1) (o' := 8) (av := [vR (some 273), vI n]) (rest := []) (el := [some (vR (some 273)), some (vI n), none]) i_170_35 o_170 rfl v_167 rfl (s_273) rfl rfl rfl rfl rfl ?_
            refine c_167 hKo ((Wk.st M).k hKR) hT (by omega) (by omega) ((Wk.st M).r hRR) (fun M2 hR2 ho2 => ?_)
            show Ok _ 170 38 [some (vR (some 273)), some (vI n), some (vI k), none] [] (M2) _
            refine k_iload_n i_170_38 rfl ?_
            refine k_aload_n i_170_39 rfl ?_
            refine k_getR (r := 274) i_170_40 o_170 rfl (by decide) (s_273) rfl ?_
            refine k_sipush i_170_43 (by decide) ?_
            refine k_iald i_170_46 (s_274) (by omega) ?_
            refine k_icmp_ge (t := 62) i_170_47 rfl (fun h47 => ?_) (fun h47 => ?_)
            · refine k_ldc (z := -1000000) i_170_62 o_170 rfl (by decide) ?_
              refine k_istore_n (ls' := [some (vR (some 273)), some (vI n), some (vI k), some (vI (-1000000))]) i_170_64 rfl ?_
              refine k_aload_n i_170_65 rfl ?_
              refine k_invV (n := 0) (o' := 8) (av := [vR (some 273)]) (rest := []) (el := [some (vR (some 273)), none]) i_170_66 o_170 rfl v_166 rfl (s_273) rfl rfl rfl rfl rfl ?_
              refine c_166 ?_
              show Ok _ 170 69 [some (vR (some 273)), some (vI n), some (vI k), some (vI (-1000000))] [] (cpn M2 278 274 232) _
              refine k_iload_n i_170_69 rfl ?_
              refine k_iret i_170_70 rfl ?_
              exfalso
              omega
            · refine k_aload_n i_170_50 rfl ?_
              refine k_getR (r := 274) i_170_51 o_170 rfl (by decide) (s_273) rfl ?_
              refine k_bipush i_170_54 (by decide) ?_
              refine k_iload_n i_170_56 rfl ?_
              refine k_iadd i_170_57 (by have := hR2.2.2.2.1; have := (hT.it hKo n.toNat (by omega)).2.2.1; omega) ?_
              refine k_iald i_170_58 (s_274) (by have := hR2.2.2.2.1; have := (hT.it hKo n.toNat (by omega)).2.2.1; omega) ?_
              refine k_goto (t := 64) i_170_59 rfl ?_
              refine k_istore_n (ls' := [some (vR (some 273)), some (vI n), some (vI k), some (vI (M2 274 (112 + k)))]) i_170_64 rfl ?_
              refine k_aload_n i_170_65 rfl ?_
              refine k_invV (n := 0) (o' := 8) (av := [vR (some 273)]) (rest := []) (el := [some (vR (some 273)), none]) i_170_66 o_170 rfl v_166 rfl (s_273) rfl rfl rfl rfl rfl ?_
              refine c_166 ?_
              show Ok _ 170 69 [some (vR (some 273)), some (vI n), some (vI k), some (vI (M2 274 (112 + k)))] [] (cpn M2 278 274 232) _
              refine k_iload_n i_170_69 rfl ?_
              refine k_iret i_170_70 rfl ?_
              exfalso
              omega
          · refine k_ldc (z := -1000001) i_170_26 o_170 rfl (by decide) ?_
            refine k_iret i_170_28 rfl ?_
            refine ⟨_, rfl, ?_, h⟩
            first
              | exact congrArg (fun z => some (vI z)) (by omega)
              | (exfalso; omega)
      · refine k_ldc (z := -1000002) i_170_7 o_170 rfl (by decide) ?_
        refine k_iret i_170_9 rfl ?_
        refine ⟨_, rfl, ?_, h⟩
        first
          | exact congrArg (fun z => some (vI z)) (by omega)
          | (exfalso; omega)
    · refine k_iload_n i_100_19 rfl ?_
      refine k_if_ge (t := 26) i_100_20 rfl (fun h20 => ?_) (fun h20 => ?_)
      · refine k_aload_n i_100_26 rfl ?_
        refine k_getR (r := 177) i_100_27 o_100 rfl (by decide) (s_0) rfl ?_
        refine k_iload_n i_100_30 rfl ?_
        refine k_invV (n := 1) (o' := 2) (av := [vR (some 177), vI n]) (rest := []) (el := [some (vR (some 177)), some (vI n)]) i_100_31 o_100 rfl v_15 rfl (s_177) rfl rfl rfl rfl rfl ?_
        refine c_15 hKo hK hT hR (by omega) (by omega) (fun M1 x hR1 ho1 => ?_)
        show Ok _ 100 34 [some (vR (some 0)), some (vI n), some (vI k)] [vR (some 179)] (M1) _
        refine k_iload_n i_100_34 rfl ?_
        refine k_invV (n := 1) (o' := 6) (av := [vR (some 179), vI k]) (rest := []) (el := [some (vR (some 179)), some (vI k)]) i_100_35 o_100 rfl v_65 rfl (s_179) rfl rfl rfl rfl rfl ?_
        refine c_65 tw_179 hR1 (by show ((tQ (itF K n.toNat T)).length : Int) ≤ 28; have := (hT.it hKo n.toNat (by omega)).2.2.1; omega) (fun v3 hv3 => ?_)
        show Ok _ 100 38 [some (vR (some 0)), some (vI n), some (vI k)] [vI v3] (M1) _
        refine k_iret i_100_38 rfl ?_
        show Ok (d + 24) 170 0 [some (vR (some 273)), some (vI n), some (vI k), none] [] M1 _
        have hRR1 : RepR M1 K 0 T := hRR.off (fun j => ho1 274 j (by omega))
        have hKR1 : RepKR M1 K 0 := hKR.fr (fun j => ho1 274 j (by omega))
        have z1 : M1 274 231 = M 274 231 := ho1 _ _ (by omega)
        have z2 : M1 274 229 = kPe K := hKR1.1
        refine k_aload_n i_170_0 rfl ?_
        refine k_invV (n := 0) (o' := 8) (av := [vR (some 273)]) (rest := []) (el := [some (vR (some 273))]) i_170_1 o_170 rfl v_144 rfl (s_273) rfl rfl rfl rfl rfl ?_
        refine c_144 (fun v1 hv1 => ?_)
        show Ok _ 170 4 [some (vR (some 273)), some (vI n), some (vI k), none] [vI v1] (M1) _
        refine k_if_ne (t := 10) i_170_4 rfl (fun h4 => ?_) (fun h4 => ?_)
        · refine k_iload_n i_170_10 rfl ?_
          refine k_i2l i_170_11 ?_
          refine k_lconst (z := 0) i_170_12 rfl ?_
          refine k_ldc2 (z := 60) i_170_13 o_170 rfl (by decide) ?_
          refine k_invS (n := 3) (av := [vL n, vL 0, vL 60]) (rest := []) (el := [some (vL n), none, some (vL 0), none, some (vL 60), none]) i_170_16 o_170 rfl v_122 rfl rfl rfl rfl rfl rfl ?_
          refine c_122 (fun v16 hv16 => ?_)
          show Ok _ 170 19 [some (vR (some 273)), some (vI n), some (vI k), none] [vI v16] (M1) _
          refine k_if_eq (t := 26) i_170_19 rfl (fun h19 => ?_) (fun h19 => ?_)
          · refine k_ldc (z := -1000001) i_170_26 o_170 rfl (by decide) ?_
            refine k_iret i_170_28 rfl ?_
            exfalso
            omega
          · refine k_iload_n i_170_22 rfl ?_
            refine k_if_ge (t := 29) i_170_23 rfl (fun h23 => ?_) (fun h23 => ?_)
            · refine k_aload_n i_170_29 rfl ?_
              refine k_invV (n := 0) (o' := 8) (av := [vR (some 273)]) (rest := []) (el := [some (vR (some 273)), none]) i_170_30 o_170 rfl v_165 rfl (s_273) rfl rfl rfl rfl rfl ?_
              refine c_165 ?_
              show Ok _ 170 33 [some (vR (some 273)), some (vI n), some (vI k), none] [] (cpn M1 274 278 232) _
              refine k_aload_n i_170_33 rfl ?_
              refine k_iload_n i_170_34 rfl ?_
              refine k_invV (n := 1) (o' := 8) (av := [vR (some 273), vI n]) (rest := []) (el := [some (vR (some 273)), some (vI n), none]) i_170_35 o_170 rfl v_167 rfl (s_273) rfl rfl rfl rfl rfl ?_
              refine c_167 hKo ((Wk.st M1).k hKR1) hT (by omega) (by omega) ((Wk.st M1).r hRR1) (fun M2 hR2 ho2 => ?_)
              show Ok _ 170 38 [some (vR (some 273)), some (vI n), some (vI k), none] [] (M2) _
              refine k_iload_n i_170_38 rfl ?_
              refine k_aload_n i_170_39 rfl ?_
              refine k_getR (r := 274) i_170_40 o_170 rfl (by decide) (s_273) rfl ?_
              refine k_sipush i_170_43 (by decide) ?_
              refine k_iald i_170_46 (s_274) (by omega) ?_
              refine k_icmp_ge (t := 62) i_170_47 rfl (fun h47 => ?_) (fun h47 => ?_)
              · refine k_ldc (z := -1000000) i_170_62 o_170 rfl (by decide) ?_
                refine k_istore_n (ls' := [some (vR (some 273)), some (vI n), some (vI k), some (vI (-1000000))]) i_170_64 rfl ?_
                refine k_aload_n i_170_65 rfl ?_
                refine k_invV (n := 0) (o' := 8) (av := [vR (some 273)]) (rest := []) (el := [some (vR (some 273)), none]) i_170_66 o_170 rfl v_166 rfl (s_273) rfl rfl rfl rfl rfl ?_
                refine c_166 ?_
                show Ok _ 170 69 [some (vR (some 273)), some (vI n), some (vI k), some (vI (-1000000))] [] (cpn M2 278 274 232) _
                refine k_iload_n i_170_69 rfl ?_
                refine k_iret i_170_70 rfl ?_
                have hw := (Wk.st M1).bk ho2.w
                refine ⟨_, rfl, ?_, h.scr (fun b j b0 b1 b2 b3 b4 => (hw.1 b j b1 b3 b4).trans (ho1 b j (by omega)))⟩
                refine congrArg (fun z => some (vI z)) ?_
                have y := hR2.2.2.2.1
                have e3 : v3 = whoF (itF K n.toNat T) k := hv3
                unfold whoF at e3
                first
                  | (rw [if_pos (by omega)] at e3; rw [e3]; exact hR2.q (by omega) (by omega))
                  | (rw [if_neg (by omega)] at e3; exact e3.symm)
              · refine k_aload_n i_170_50 rfl ?_
                refine k_getR (r := 274) i_170_51 o_170 rfl (by decide) (s_273) rfl ?_
                refine k_bipush i_170_54 (by decide) ?_
                refine k_iload_n i_170_56 rfl ?_
                refine k_iadd i_170_57 (by have := hR2.2.2.2.1; have := (hT.it hKo n.toNat (by omega)).2.2.1; omega) ?_
                refine k_iald i_170_58 (s_274) (by have := hR2.2.2.2.1; have := (hT.it hKo n.toNat (by omega)).2.2.1; omega) ?_
                refine k_goto (t := 64) i_170_59 rfl ?_
                refine k_istore_n (ls' := [some (vR (some 273)), some (vI n), some (vI k), some (vI (M2 274 (112 + k)))]) i_170_64 rfl ?_
                refine k_aload_n i_170_65 rfl ?_
                refine k_invV (n := 0) (o' := 8) (av := [vR (some 273)]) (rest := []) (el := [some (vR (some 273)), none]) i_170_66 o_170 rfl v_166 rfl (s_273) rfl rfl rfl rfl rfl ?_
                refine c_166 ?_
                show Ok _ 170 69 [some (vR (some 273)), some (vI n), some (vI k), some (vI (M2 274 (112 + k)))] [] (cpn M2 278 274 232) _
                refine k_iload_n i_170_69 rfl ?_
                refine k_iret i_170_70 rfl ?_
                have hw := (Wk.st M1).bk ho2.w
                refine ⟨_, rfl, ?_, h.scr (fun b j b0 b1 b2 b3 b4 => (hw.1 b j b1 b3 b4).trans (ho1 b j (by omega)))⟩
                refine congrArg (fun z => some (vI z)) ?_
                have y := hR2.2.2.2.1
                have e3 : v3 = whoF (itF K n.toNat T) k := hv3
                unfold whoF at e3
                first
                  | (rw [if_pos (by omega)] at e3; rw [e3]; exact hR2.q (by omega) (by omega))
                  | (rw [if_neg (by omega)] at e3; exact e3.symm)
            · refine k_ldc (z := -1000001) i_170_26 o_170 rfl (by decide) ?_
              refine k_iret i_170_28 rfl ?_
              exfalso
              omega
        · refine k_ldc (z := -1000002) i_170_7 o_170 rfl (by decide) ?_
          refine k_iret i_170_9 rfl ?_
          exfalso
          omega
      · refine k_ldc (z := -1000001) i_100_23 o_100 rfl (by decide) ?_
        refine k_iret i_100_25 rfl ?_
        show Ok (d + 24) 170 0 [some (vR (some 273)), some (vI n), some (vI k), none] [] M _
        refine k_aload_n i_170_0 rfl ?_
        refine k_invV (n := 0) (o' := 8) (av := [vR (some 273)]) (rest := []) (el := [some (vR (some 273))]) i_170_1 o_170 rfl v_144 rfl (s_273) rfl rfl rfl rfl rfl ?_
        refine c_144 (fun v1 hv1 => ?_)
        show Ok _ 170 4 [some (vR (some 273)), some (vI n), some (vI k), none] [vI v1] (M) _
        refine k_if_ne (t := 10) i_170_4 rfl (fun h4 => ?_) (fun h4 => ?_)
        · refine k_iload_n i_170_10 rfl ?_
          refine k_i2l i_170_11 ?_
          refine k_lconst (z := 0) i_170_12 rfl ?_
          refine k_ldc2 (z := 60) i_170_13 o_170 rfl (by decide) ?_
          refine k_invS (n := 3) (av := [vL n, vL 0, vL 60]) (rest := []) (el := [some (vL n), none, some (vL 0), none, some (vL 60), none]) i_170_16 o_170 rfl v_122 rfl rfl rfl rfl rfl rfl ?_
          refine c_122 (fun v16 hv16 => ?_)
          show Ok _ 170 19 [some (vR (some 273)), some (vI n), some (vI k), none] [vI v16] (M) _
          refine k_if_eq (t := 26) i_170_19 rfl (fun h19 => ?_) (fun h19 => ?_)
          · refine k_ldc (z := -1000001) i_170_26 o_170 rfl (by decide) ?_
            refine k_iret i_170_28 rfl ?_
            refine ⟨_, rfl, ?_, h⟩
            first
              | exact congrArg (fun z => some (vI z)) (by omega)
              | (exfalso; omega)
          · refine k_iload_n i_170_22 rfl ?_
            refine k_if_ge (t := 29) i_170_23 rfl (fun h23 => ?_) (fun h23 => ?_)
            · refine k_aload_n i_170_29 rfl ?_
              refine k_invV (n := 0) (o' := 8) (av := [vR (some 273)]) (rest := []) (el := [some (vR (some 273)), none]) i_170_30 o_170 rfl v_165 rfl (s_273) rfl rfl rfl rfl rfl ?_
              refine c_165 ?_
              show Ok _ 170 33 [some (vR (some 273)), some (vI n), some (vI k), none] [] (cpn M 274 278 232) _
              refine k_aload_n i_170_33 rfl ?_
              refine k_iload_n i_170_34 rfl ?_
              refine k_invV (n := 1) (o' := 8) (av := [vR (some 273), vI n]) (rest := []) (el := [some (vR (some 273)), some (vI n), none]) i_170_35 o_170 rfl v_167 rfl (s_273) rfl rfl rfl rfl rfl ?_
              refine c_167 hKo ((Wk.st M).k hKR) hT (by omega) (by omega) ((Wk.st M).r hRR) (fun M2 hR2 ho2 => ?_)
              show Ok _ 170 38 [some (vR (some 273)), some (vI n), some (vI k), none] [] (M2) _
              refine k_iload_n i_170_38 rfl ?_
              refine k_aload_n i_170_39 rfl ?_
              refine k_getR (r := 274) i_170_40 o_170 rfl (by decide) (s_273) rfl ?_
              refine k_sipush i_170_43 (by decide) ?_
              refine k_iald i_170_46 (s_274) (by omega) ?_
              refine k_icmp_ge (t := 62) i_170_47 rfl (fun h47 => ?_) (fun h47 => ?_)
              · refine k_ldc (z := -1000000) i_170_62 o_170 rfl (by decide) ?_
                refine k_istore_n (ls' := [some (vR (some 273)), some (vI n), some (vI k), some (vI (-1000000))]) i_170_64 rfl ?_
                refine k_aload_n i_170_65 rfl ?_
                refine k_invV (n := 0) (o' := 8) (av := [vR (some 273)]) (rest := []) (el := [some (vR (some 273)), none]) i_170_66 o_170 rfl v_166 rfl (s_273) rfl rfl rfl rfl rfl ?_
                refine c_166 ?_
                show Ok _ 170 69 [some (vR (some 273)), some (vI n), some (vI k), some (vI (-1000000))] [] (cpn M2 278 274 232) _
                refine k_iload_n i_170_69 rfl ?_
                refine k_iret i_170_70 rfl ?_
                exfalso
                omega
              · refine k_aload_n i_170_50 rfl ?_
                refine k_getR (r := 274) i_170_51 o_170 rfl (by decide) (s_273) rfl ?_
                refine k_bipush i_170_54 (by decide) ?_
                refine k_iload_n i_170_56 rfl ?_
                refine k_iadd i_170_57 (by have := hR2.2.2.2.1; have := (hT.it hKo n.toNat (by omega)).2.2.1; omega) ?_
                refine k_iald i_170_58 (s_274) (by have := hR2.2.2.2.1; have := (hT.it hKo n.toNat (by omega)).2.2.1; omega) ?_
                refine k_goto (t := 64) i_170_59 rfl ?_
                refine k_istore_n (ls' := [some (vR (some 273)), some (vI n), some (vI k), some (vI (M2 274 (112 + k)))]) i_170_64 rfl ?_
                refine k_aload_n i_170_65 rfl ?_
                refine k_invV (n := 0) (o' := 8) (av := [vR (some 273)]) (rest := []) (el := [some (vR (some 273)), none]) i_170_66 o_170 rfl v_166 rfl (s_273) rfl rfl rfl rfl rfl ?_
                refine c_166 ?_
                show Ok _ 170 69 [some (vR (some 273)), some (vI n), some (vI k), some (vI (M2 274 (112 + k)))] [] (cpn M2 278 274 232) _
                refine k_iload_n i_170_69 rfl ?_
                refine k_iret i_170_70 rfl ?_
                exfalso
                omega
            · refine k_ldc (z := -1000001) i_170_26 o_170 rfl (by decide) ?_
              refine k_iret i_170_28 rfl ?_
              refine ⟨_, rfl, ?_, h⟩
              first
                | exact congrArg (fun z => some (vI z)) (by omega)
                | (exfalso; omega)
        · refine k_ldc (z := -1000002) i_170_7 o_170 rfl (by decide) ?_
          refine k_iret i_170_9 rfl ?_
          refine ⟨_, rfl, ?_, h⟩
          first
            | exact congrArg (fun z => some (vI z)) (by omega)
            | (exfalso; omega)
  · refine k_ldc (z := -1000002) i_100_7 o_100 rfl (by decide) ?_
    refine k_iret i_100_9 rfl ?_
    show Ok (d + 24) 170 0 [some (vR (some 273)), some (vI n), some (vI k), none] [] M _
    refine k_aload_n i_170_0 rfl ?_
    refine k_invV (n := 0) (o' := 8) (av := [vR (some 273)]) (rest := []) (el := [some (vR (some 273))]) i_170_1 o_170 rfl v_144 rfl (s_273) rfl rfl rfl rfl rfl ?_
    refine c_144 (fun v1 hv1 => ?_)
    show Ok _ 170 4 [some (vR (some 273)), some (vI n), some (vI k), none] [vI v1] (M) _
    refine k_if_ne (t := 10) i_170_4 rfl (fun h4 => ?_) (fun h4 => ?_)
    · refine k_iload_n i_170_10 rfl ?_
      refine k_i2l i_170_11 ?_
      refine k_lconst (z := 0) i_170_12 rfl ?_
      refine k_ldc2 (z := 60) i_170_13 o_170 rfl (by decide) ?_
      refine k_invS (n := 3) (av := [vL n, vL 0, vL 60]) (rest := []) (el := [some (vL n), none, some (vL 0), none, some (vL 60), none]) i_170_16 o_170 rfl v_122 rfl rfl rfl rfl rfl rfl ?_
      refine c_122 (fun v16 hv16 => ?_)
      show Ok _ 170 19 [some (vR (some 273)), some (vI n), some (vI k), none] [vI v16] (M) _
      refine k_if_eq (t := 26) i_170_19 rfl (fun h19 => ?_) (fun h19 => ?_)
      · refine k_ldc (z := -1000001) i_170_26 o_170 rfl (by decide) ?_
        refine k_iret i_170_28 rfl ?_
        refine ⟨_, rfl, ?_, h⟩
        first
          | exact congrArg (fun z => some (vI z)) (by omega)
          | (exfalso; omega)
      · refine k_iload_n i_170_22 rfl ?_
        refine k_if_ge (t := 29) i_170_23 rfl (fun h23 => ?_) (fun h23 => ?_)
        · refine k_aload_n i_170_29 rfl ?_
          refine k_invV (n := 0) (o' := 8) (av := [vR (some 273)]) (rest := []) (el := [some (vR (some 273)), none]) i_170_30 o_170 rfl v_165 rfl (s_273) rfl rfl rfl rfl rfl ?_
          refine c_165 ?_
          show Ok _ 170 33 [some (vR (some 273)), some (vI n), some (vI k), none] [] (cpn M 274 278 232) _
          refine k_aload_n i_170_33 rfl ?_
          refine k_iload_n i_170_34 rfl ?_
          refine k_invV (n := 1) (o' := 8) (av := [vR (some 273), vI n]) (rest := []) (el := [some (vR (some 273)), some (vI n), none]) i_170_35 o_170 rfl v_167 rfl (s_273) rfl rfl rfl rfl rfl ?_
          refine c_167 hKo ((Wk.st M).k hKR) hT (by omega) (by omega) ((Wk.st M).r hRR) (fun M2 hR2 ho2 => ?_)
          show Ok _ 170 38 [some (vR (some 273)), some (vI n), some (vI k), none] [] (M2) _
          refine k_iload_n i_170_38 rfl ?_
          refine k_aload_n i_170_39 rfl ?_
          refine k_getR (r := 274) i_170_40 o_170 rfl (by decide) (s_273) rfl ?_
          refine k_sipush i_170_43 (by decide) ?_
          refine k_iald i_170_46 (s_274) (by omega) ?_
          refine k_icmp_ge (t := 62) i_170_47 rfl (fun h47 => ?_) (fun h47 => ?_)
          · refine k_ldc (z := -1000000) i_170_62 o_170 rfl (by decide) ?_
            refine k_istore_n (ls' := [some (vR (some 273)), some (vI n), some (vI k), some (vI (-1000000))]) i_170_64 rfl ?_
            refine k_aload_n i_170_65 rfl ?_
            refine k_invV (n := 0) (o' := 8) (av := [vR (some 273)]) (rest := []) (el := [some (vR (some 273)), none]) i_170_66 o_170 rfl v_166 rfl (s_273) rfl rfl rfl rfl rfl ?_
            refine c_166 ?_
            show Ok _ 170 69 [some (vR (some 273)), some (vI n), some (vI k), some (vI (-1000000))] [] (cpn M2 278 274 232) _
            refine k_iload_n i_170_69 rfl ?_
            refine k_iret i_170_70 rfl ?_
            exfalso
            omega
          · refine k_aload_n i_170_50 rfl ?_
            refine k_getR (r := 274) i_170_51 o_170 rfl (by decide) (s_273) rfl ?_
            refine k_bipush i_170_54 (by decide) ?_
            refine k_iload_n i_170_56 rfl ?_
            refine k_iadd i_170_57 (by have := hR2.2.2.2.1; have := (hT.it hKo n.toNat (by omega)).2.2.1; omega) ?_
            refine k_iald i_170_58 (s_274) (by have := hR2.2.2.2.1; have := (hT.it hKo n.toNat (by omega)).2.2.1; omega) ?_
            refine k_goto (t := 64) i_170_59 rfl ?_
            refine k_istore_n (ls' := [some (vR (some 273)), some (vI n), some (vI k), some (vI (M2 274 (112 + k)))]) i_170_64 rfl ?_
            refine k_aload_n i_170_65 rfl ?_
            refine k_invV (n := 0) (o' := 8) (av := [vR (some 273)]) (rest := []) (el := [some (vR (some 273)), none]) i_170_66 o_170 rfl v_166 rfl (s_273) rfl rfl rfl rfl rfl ?_
            refine c_166 ?_
            show Ok _ 170 69 [some (vR (some 273)), some (vI n), some (vI k), some (vI (M2 274 (112 + k)))] [] (cpn M2 278 274 232) _
            refine k_iload_n i_170_69 rfl ?_
            refine k_iret i_170_70 rfl ?_
            exfalso
            omega
        · refine k_ldc (z := -1000001) i_170_26 o_170 rfl (by decide) ?_
          refine k_iret i_170_28 rfl ?_
          refine ⟨_, rfl, ?_, h⟩
          first
            | exact congrArg (fun z => some (vI z)) (by omega)
            | (exfalso; omega)
    · refine k_ldc (z := -1000002) i_170_7 o_170 rfl (by decide) ?_
      refine k_iret i_170_9 rfl ?_
      refine ⟨_, rfl, ?_, h⟩
      first
        | exact congrArg (fun z => some (vI z)) (by omega)
        | (exfalso; omega)
