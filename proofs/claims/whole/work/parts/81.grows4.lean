set_option maxRecDepth 100000 in
theorem tp_grows {d : Nat} {M : Mem} {k n c w : Int} (h : Rel M)  : Two (d + 24) 106 183 [some (vR (some 0)), some (vI k), some (vI n), some (vI c), some (vI w)] [some (vR (some 273)), some (vI k), some (vI n), some (vI c), some (vI w), none, none, none, none, none] M := by
  obtain ⟨K, T, L, hW⟩ := h.2.2.2.2.1
  obtain ⟨hE, hKo, hS, hK12, hR, hKR, hRR, hA, hAR, hL, hti⟩ := id hW
  have hT := hS.1
  have hK : RepK M 20 K 0 := hK12.mono (by decide)
  have g0 := hKo.1
  have u3 := hT.2.2.1
  have mi9 := hS.2.2
  have k1 : M 20 7 = kPe K := hK.1
  have k2 : M 20 6 = kWt K := hK.2.1
  have q1 : M 274 229 = kPe K := hKR.1
  have q2 : M 274 230 = kPe K - kWt K := hKR.2.1
  obtain ⟨x6, x7, x8, x9, x10, xq, xp⟩ := id hR
  obtain ⟨y6, y7, y8, y9, y10, yq, yp⟩ := id hRR
  have hl28 := q28 hKo hT
  have hl16 : ((tQ T).length : Int) ≤ 16 := by omega
  show Ok (d + 24) 106 0 [some (vR (some 0)), some (vI k), some (vI n), some (vI c), some (vI w)] [] M _
  refine k_aload_n i_106_0 rfl ?_
  refine k_getI (kz := 11) i_106_1 o_106 rfl (by decide) (s_0) rfl ?_
  refine k_if_ne (t := 10) i_106_4 rfl (fun h4 => ?_) (fun h4 => ?_)
  · refine k_iload_n i_106_10 rfl ?_
    refine k_bipush i_106_11 (by decide) ?_
    refine k_invS (n := 2) (av := [vI k, vI 16]) (rest := []) (el := [some (vI k), some (vI 16)]) i_106_13 o_106 rfl v_117 rfl rfl rfl rfl rfl rfl ?_
    refine c_117 (fun v13 hv13 => ?_)
    show Ok _ 106 16 [some (vR (some 0)), some (vI k), some (vI n), some (vI c), some (vI w)] [vI v13] (M) _
    refine k_if_eq (t := 46) i_106_16 rfl (fun h16 => ?_) (fun h16 => ?_)
    · refine k_ldc (z := -1000001) i_106_46 o_106 rfl (by decide) ?_
      refine k_iret i_106_48 rfl ?_
      show Ok (d + 24) 183 0 [some (vR (some 273)), some (vI k), some (vI n), some (vI c), some (vI w), none, none, none, none, none] [] M _
      refine k_aload_n i_183_0 rfl ?_
      refine k_invV (n := 0) (o' := 8) (av := [vR (some 273)]) (rest := []) (el := [some (vR (some 273))]) i_183_1 o_183 rfl v_144 rfl (s_273) rfl rfl rfl rfl rfl ?_
      refine c_144 (fun v1 hv1 => ?_)
      show Ok _ 183 4 [some (vR (some 273)), some (vI k), some (vI n), some (vI c), some (vI w), none, none, none, none, none] [vI v1] (M) _
      refine k_if_ne (t := 10) i_183_4 rfl (fun h4 => ?_) (fun h4 => ?_)
      · refine k_iload_n i_183_10 rfl ?_
        refine k_i2l i_183_11 ?_
        refine k_lconst (z := 0) i_183_12 rfl ?_
        refine k_ldc2 (z := 16) i_183_13 o_183 rfl (by decide) ?_
        refine k_invS (n := 3) (av := [vL k, vL 0, vL 16]) (rest := []) (el := [some (vL k), none, some (vL 0), none, some (vL 16), none]) i_183_16 o_183 rfl v_122 rfl rfl rfl rfl rfl rfl ?_
        refine c_122 (fun v16 hv16 => ?_)
        show Ok _ 183 19 [some (vR (some 273)), some (vI k), some (vI n), some (vI c), some (vI w), none, none, none, none, none] [vI v16] (M) _
        refine k_if_eq (t := 57) i_183_19 rfl (fun h19 => ?_) (fun h19 => ?_)
        · refine k_ldc (z := -1000001) i_183_57 o_183 rfl (by decide) ?_
          refine k_iret i_183_59 rfl ?_
          refine ⟨_, rfl, ?_, h⟩
          first
            | exact congrArg (fun z => some (vI z)) (by omega)
            | (exfalso; omega)
        · refine k_iload_n i_183_22 rfl ?_
          refine k_i2l i_183_23 ?_
          refine k_lconst (z := 0) i_183_24 rfl ?_
          refine k_ldc2 (z := 8) i_183_25 o_183 rfl (by decide) ?_
          refine k_invS (n := 3) (av := [vL n, vL 0, vL 8]) (rest := []) (el := [some (vL n), none, some (vL 0), none, some (vL 8), none]) i_183_28 o_183 rfl v_122 rfl rfl rfl rfl rfl rfl ?_
          refine c_122 (fun v28 hv28 => ?_)
          show Ok _ 183 31 [some (vR (some 273)), some (vI k), some (vI n), some (vI c), some (vI w), none, none, none, none, none] [vI v28] (M) _
          refine k_if_eq (t := 57) i_183_31 rfl (fun h31 => ?_) (fun h31 => ?_)
          · refine k_ldc (z := -1000001) i_183_57 o_183 rfl (by decide) ?_
            refine k_iret i_183_59 rfl ?_
            refine ⟨_, rfl, ?_, h⟩
            first
              | exact congrArg (fun z => some (vI z)) (by omega)
              | (exfalso; omega)
          · refine k_iload_n i_183_34 rfl ?_
            refine k_i2l i_183_35 ?_
            refine k_lconst (z := 0) i_183_36 rfl ?_
            refine k_ldc2 (z := 10) i_183_37 o_183 rfl (by decide) ?_
            refine k_invS (n := 3) (av := [vL c, vL 0, vL 10]) (rest := []) (el := [some (vL c), none, some (vL 0), none, some (vL 10), none]) i_183_40 o_183 rfl v_122 rfl rfl rfl rfl rfl rfl ?_
            refine c_122 (fun v40 hv40 => ?_)
            show Ok _ 183 43 [some (vR (some 273)), some (vI k), some (vI n), some (vI c), some (vI w), none, none, none, none, none] [vI v40] (M) _
            refine k_if_eq (t := 57) i_183_43 rfl (fun h43 => ?_) (fun h43 => ?_)
            · refine k_ldc (z := -1000001) i_183_57 o_183 rfl (by decide) ?_
              refine k_iret i_183_59 rfl ?_
              refine ⟨_, rfl, ?_, h⟩
              first
                | exact congrArg (fun z => some (vI z)) (by omega)
                | (exfalso; omega)
            · refine k_iload i_183_46 rfl ?_
              refine k_i2l i_183_48 ?_
              refine k_lconst (z := 0) i_183_49 rfl ?_
              refine k_lconst (z := 1) i_183_50 rfl ?_
              refine k_invS (n := 3) (av := [vL w, vL 0, vL 1]) (rest := []) (el := [some (vL w), none, some (vL 0), none, some (vL 1), none]) i_183_51 o_183 rfl v_122 rfl rfl rfl rfl rfl rfl ?_
              refine c_122 (fun v51 hv51 => ?_)
              show Ok _ 183 54 [some (vR (some 273)), some (vI k), some (vI n), some (vI c), some (vI w), none, none, none, none, none] [vI v51] (M) _
              refine k_if_ne (t := 60) i_183_54 rfl (fun h54 => ?_) (fun h54 => ?_)
              · refine k_aload_n i_183_60 rfl ?_
                refine k_invV (n := 0) (o' := 8) (av := [vR (some 273)]) (rest := []) (el := [some (vR (some 273))]) i_183_61 o_183 rfl v_142 rfl (s_273) rfl rfl rfl rfl rfl ?_
                refine c_142 ?_
                show Ok _ 183 64 [some (vR (some 273)), some (vI k), some (vI n), some (vI c), some (vI w), none, none, none, none, none] [vI (M 274 229)] (M) _
                refine k_aload_n i_183_64 rfl ?_
                refine k_getR (r := 274) i_183_65 o_183 rfl (by decide) (s_273) rfl ?_
                refine k_sipush i_183_68 (by decide) ?_
                refine k_iald i_183_71 (s_274) (by omega) ?_
                refine k_isub i_183_72 (by omega) ?_
                refine k_istore (ls' := [some (vR (some 273)), some (vI k), some (vI n), some (vI c), some (vI w), some (vI ((M 274 229) - (M 274 141))), none, none, none, none]) i_183_73 rfl ?_
                refine k_iload i_183_75 rfl ?_
                refine k_iload_n i_183_77 rfl ?_
                refine k_icmp_ge (t := 86) i_183_78 rfl (fun h78 => ?_) (fun h78 => ?_)
                · refine k_iload_n i_183_86 rfl ?_
                  refine k_istore (ls' := [some (vR (some 273)), some (vI k), some (vI n), some (vI c), some (vI w), some (vI ((M 274 229) - (M 274 141))), some (vI n), none, none, none]) i_183_87 rfl ?_
                  refine k_iconst i_183_89 (by decide) ?_
                  refine k_istore (ls' := [some (vR (some 273)), some (vI k), some (vI n), some (vI c), some (vI w), some (vI ((M 274 229) - (M 274 141))), some (vI n), some (vI 0), none, none]) i_183_90 rfl ?_
                  refine k_aload_n i_183_92 rfl ?_
                  refine k_invV (n := 0) (o' := 8) (av := [vR (some 273)]) (rest := []) (el := [some (vR (some 273)), none]) i_183_93 o_183 rfl v_165 rfl (s_273) rfl rfl rfl rfl rfl ?_
                  refine c_165 ?_
                  show Ok _ 183 96 [some (vR (some 273)), some (vI k), some (vI n), some (vI c), some (vI w), some (vI ((M 274 229) - (M 274 141))), some (vI n), some (vI 0), none, none] [] (cpn M 274 278 232) _
                  refine k_iconst i_183_96 (by decide) ?_
                  refine k_istore (ls' := [some (vR (some 273)), some (vI k), some (vI n), some (vI c), some (vI w), some (vI ((M 274 229) - (M 274 141))), some (vI n), some (vI 0), some (vI 0), none]) i_183_97 rfl ?_
                  exfalso
                  omega
                · refine k_iload i_183_81 rfl ?_
                  refine k_goto (t := 87) i_183_83 rfl ?_
                  refine k_istore (ls' := [some (vR (some 273)), some (vI k), some (vI n), some (vI c), some (vI w), some (vI ((M 274 229) - (M 274 141))), some (vI ((M 274 229) - (M 274 141))), none, none, none]) i_183_87 rfl ?_
                  refine k_iconst i_183_89 (by decide) ?_
                  refine k_istore (ls' := [some (vR (some 273)), some (vI k), some (vI n), some (vI c), some (vI w), some (vI ((M 274 229) - (M 274 141))), some (vI ((M 274 229) - (M 274 141))), some (vI 0), none, none]) i_183_90 rfl ?_
                  refine k_aload_n i_183_92 rfl ?_
                  refine k_invV (n := 0) (o' := 8) (av := [vR (some 273)]) (rest := []) (el := [some (vR (some 273)), none]) i_183_93 o_183 rfl v_165 rfl (s_273) rfl rfl rfl rfl rfl ?_
                  refine c_165 ?_
                  show Ok _ 183 96 [some (vR (some 273)), some (vI k), some (vI n), some (vI c), some (vI w), some (vI ((M 274 229) - (M 274 141))), some (vI ((M 274 229) - (M 274 141))), some (vI 0), none, none] [] (cpn M 274 278 232) _
                  refine k_iconst i_183_96 (by decide) ?_
                  refine k_istore (ls' := [some (vR (some 273)), some (vI k), some (vI n), some (vI c), some (vI w), some (vI ((M 274 229) - (M 274 141))), some (vI ((M 274 229) - (M 274 141))), some (vI 0), some (vI 0), none]) i_183_97 rfl ?_
                  exfalso
                  omega
              · refine k_ldc (z := -1000001) i_183_57 o_183 rfl (by decide) ?_
                refine k_iret i_183_59 rfl ?_
                refine ⟨_, rfl, ?_, h⟩
                first
                  | exact congrArg (fun z => some (vI z)) (by omega)
                  | (exfalso; omega)
      · refine k_ldc (z := -1000002) i_183_7 o_183 rfl (by decide) ?_
        refine k_iret i_183_9 rfl ?_
        refine ⟨_, rfl, ?_, h⟩
        first
          | exact congrArg (fun z => some (vI z)) (by omega)
          | (exfalso; omega)
    · refine k_iload_n i_106_19 rfl ?_
      refine k_bipush i_106_20 (by decide) ?_
      refine k_invS (n := 2) (av := [vI n, vI 8]) (rest := []) (el := [some (vI n), some (vI 8)]) i_106_22 o_106 rfl v_117 rfl rfl rfl rfl rfl rfl ?_
      refine c_117 (fun v22 hv22 => ?_)
      show Ok _ 106 25 [some (vR (some 0)), some (vI k), some (vI n), some (vI c), some (vI w)] [vI v22] (M) _
      refine k_if_eq (t := 46) i_106_25 rfl (fun h25 => ?_) (fun h25 => ?_)
      · refine k_ldc (z := -1000001) i_106_46 o_106 rfl (by decide) ?_
        refine k_iret i_106_48 rfl ?_
        show Ok (d + 24) 183 0 [some (vR (some 273)), some (vI k), some (vI n), some (vI c), some (vI w), none, none, none, none, none] [] M _
        refine k_aload_n i_183_0 rfl ?_
        refine k_invV (n := 0) (o' := 8) (av := [vR (some 273)]) (rest := []) (el := [some (vR (some 273))]) i_183_1 o_183 rfl v_144 rfl (s_273) rfl rfl rfl rfl rfl ?_
        refine c_144 (fun v1 hv1 => ?_)
        show Ok _ 183 4 [some (vR (some 273)), some (vI k), some (vI n), some (vI c), some (vI w), none, none, none, none, none] [vI v1] (M) _
        refine k_if_ne (t := 10) i_183_4 rfl (fun h4 => ?_) (fun h4 => ?_)
        · refine k_iload_n i_183_10 rfl ?_
          refine k_i2l i_183_11 ?_
          refine k_lconst (z := 0) i_183_12 rfl ?_
          refine k_ldc2 (z := 16) i_183_13 o_183 rfl (by decide) ?_
          refine k_invS (n := 3) (av := [vL k, vL 0, vL 16]) (rest := []) (el := [some (vL k), none, some (vL 0), none, some (vL 16), none]) i_183_16 o_183 rfl v_122 rfl rfl rfl rfl rfl rfl ?_
          refine c_122 (fun v16 hv16 => ?_)
          show Ok _ 183 19 [some (vR (some 273)), some (vI k), some (vI n), some (vI c), some (vI w), none, none, none, none, none] [vI v16] (M) _
          refine k_if_eq (t := 57) i_183_19 rfl (fun h19 => ?_) (fun h19 => ?_)
          · refine k_ldc (z := -1000001) i_183_57 o_183 rfl (by decide) ?_
            refine k_iret i_183_59 rfl ?_
            refine ⟨_, rfl, ?_, h⟩
            first
              | exact congrArg (fun z => some (vI z)) (by omega)
              | (exfalso; omega)
          · refine k_iload_n i_183_22 rfl ?_
            refine k_i2l i_183_23 ?_
            refine k_lconst (z := 0) i_183_24 rfl ?_
            refine k_ldc2 (z := 8) i_183_25 o_183 rfl (by decide) ?_
            refine k_invS (n := 3) (av := [vL n, vL 0, vL 8]) (rest := []) (el := [some (vL n), none, some (vL 0), none, some (vL 8), none]) i_183_28 o_183 rfl v_122 rfl rfl rfl rfl rfl rfl ?_
            refine c_122 (fun v28 hv28 => ?_)
            show Ok _ 183 31 [some (vR (some 273)), some (vI k), some (vI n), some (vI c), some (vI w), none, none, none, none, none] [vI v28] (M) _
            refine k_if_eq (t := 57) i_183_31 rfl (fun h31 => ?_) (fun h31 => ?_)
            · refine k_ldc (z := -1000001) i_183_57 o_183 rfl (by decide) ?_
              refine k_iret i_183_59 rfl ?_
              refine ⟨_, rfl, ?_, h⟩
              first
                | exact congrArg (fun z => some (vI z)) (by omega)
                | (exfalso; omega)
            · refine k_iload_n i_183_34 rfl ?_
              refine k_i2l i_183_35 ?_
              refine k_lconst (z := 0) i_183_36 rfl ?_
              refine k_ldc2 (z := 10) i_183_37 o_183 rfl (by decide) ?_
              refine k_invS (n := 3) (av := [vL c, vL 0, vL 10]) (rest := []) (el := [some (vL c), none, some (vL 0), none, some (vL 10), none]) i_183_40 o_183 rfl v_122 rfl rfl rfl rfl rfl rfl ?_
              refine c_122 (fun v40 hv40 => ?_)
              show Ok _ 183 43 [some (vR (some 273)), some (vI k), some (vI n), some (vI c), some (vI w), none, none, none, none, none] [vI v40] (M) _
              refine k_if_eq (t := 57) i_183_43 rfl (fun h43 => ?_) (fun h43 => ?_)
              · refine k_ldc (z := -1000001) i_183_57 o_183 rfl (by decide) ?_
                refine k_iret i_183_59 rfl ?_
                refine ⟨_, rfl, ?_, h⟩
                first
                  | exact congrArg (fun z => some (vI z)) (by omega)
                  | (exfalso; omega)
              · refine k_iload i_183_46 rfl ?_
                refine k_i2l i_183_48 ?_
                refine k_lconst (z := 0) i_183_49 rfl ?_
                refine k_lconst (z := 1) i_183_50 rfl ?_
                refine k_invS (n := 3) (av := [vL w, vL 0, vL 1]) (rest := []) (el := [some (vL w), none, some (vL 0), none, some (vL 1), none]) i_183_51 o_183 rfl v_122 rfl rfl rfl rfl rfl rfl ?_
                refine c_122 (fun v51 hv51 => ?_)
                show Ok _ 183 54 [some (vR (some 273)), some (vI k), some (vI n), some (vI c), some (vI w), none, none, none, none, none] [vI v51] (M) _
                refine k_if_ne (t := 60) i_183_54 rfl (fun h54 => ?_) (fun h54 => ?_)
                · refine k_aload_n i_183_60 rfl ?_
                  refine k_invV (n := 0) (o' := 8) (av := [vR (some 273)]) (rest := []) (el := [some (vR (some 273))]) i_183_61 o_183 rfl v_142 rfl (s_273) rfl rfl rfl rfl rfl ?_
                  refine c_142 ?_
                  show Ok _ 183 64 [some (vR (some 273)), some (vI k), some (vI n), some (vI c), some (vI w), none, none, none, none, none] [vI (M 274 229)] (M) _
                  refine k_aload_n i_183_64 rfl ?_
                  refine k_getR (r := 274) i_183_65 o_183 rfl (by decide) (s_273) rfl ?_
                  refine k_sipush i_183_68 (by decide) ?_
                  refine k_iald i_183_71 (s_274) (by omega) ?_
                  refine k_isub i_183_72 (by omega) ?_
                  refine k_istore (ls' := [some (vR (some 273)), some (vI k), some (vI n), some (vI c), some (vI w), some (vI ((M 274 229) - (M 274 141))), none, none, none, none]) i_183_73 rfl ?_
                  refine k_iload i_183_75 rfl ?_
                  refine k_iload_n i_183_77 rfl ?_
                  refine k_icmp_ge (t := 86) i_183_78 rfl (fun h78 => ?_) (fun h78 => ?_)
                  · refine k_iload_n i_183_86 rfl ?_
                    refine k_istore (ls' := [some (vR (some 273)), some (vI k), some (vI n), some (vI c), some (vI w), some (vI ((M 274 229) - (M 274 141))), some (vI n), none, none, none]) i_183_87 rfl ?_
                    refine k_iconst i_183_89 (by decide) ?_
                    refine k_istore (ls' := [some (vR (some 273)), some (vI k), some (vI n), some (vI c), some (vI w), some (vI ((M 274 229) - (M 274 141))), some (vI n), some (vI 0), none, none]) i_183_90 rfl ?_
                    refine k_aload_n i_183_92 rfl ?_
                    refine k_invV (n := 0) (o' := 8) (av := [vR (some 273)]) (rest := []) (el := [some (vR (some 273)), none]) i_183_93 o_183 rfl v_165 rfl (s_273) rfl rfl rfl rfl rfl ?_
                    refine c_165 ?_
                    show Ok _ 183 96 [some (vR (some 273)), some (vI k), some (vI n), some (vI c), some (vI w), some (vI ((M 274 229) - (M 274 141))), some (vI n), some (vI 0), none, none] [] (cpn M 274 278 232) _
                    refine k_iconst i_183_96 (by decide) ?_
                    refine k_istore (ls' := [some (vR (some 273)), some (vI k), some (vI n), some (vI c), some (vI w), some (vI ((M 274 229) - (M 274 141))), some (vI n), some (vI 0), some (vI 0), none]) i_183_97 rfl ?_
                    exfalso
                    omega
                  · refine k_iload i_183_81 rfl ?_
                    refine k_goto (t := 87) i_183_83 rfl ?_
                    refine k_istore (ls' := [some (vR (some 273)), some (vI k), some (vI n), some (vI c), some (vI w), some (vI ((M 274 229) - (M 274 141))), some (vI ((M 274 229) - (M 274 141))), none, none, none]) i_183_87 rfl ?_
                    refine k_iconst i_183_89 (by decide) ?_
                    refine k_istore (ls' := [some (vR (some 273)), some (vI k), some (vI n), some (vI c), some (vI w), some (vI ((M 274 229) - (M 274 141))), some (vI ((M 274 229) - (M 274 141))), some (vI 0), none, none]) i_183_90 rfl ?_
                    refine k_aload_n i_183_92 rfl ?_
                    refine k_invV (n := 0) (o' := 8) (av := [vR (some 273)]) (rest := []) (el := [some (vR (some 273)), none]) i_183_93 o_183 rfl v_165 rfl (s_273) rfl rfl rfl rfl rfl ?_
                    refine c_165 ?_
                    show Ok _ 183 96 [some (vR (some 273)), some (vI k), some (vI n), some (vI c), some (vI w), some (vI ((M 274 229) - (M 274 141))), some (vI ((M 274 229) - (M 274 141))), some (vI 0), none, none] [] (cpn M 274 278 232) _
                    refine k_iconst i_183_96 (by decide) ?_
                    refine k_istore (ls' := [some (vR (some 273)), some (vI k), some (vI n), some (vI c), some (vI w), some (vI ((M 274 229) - (M 274 141))), some (vI ((M 274 229) - (M 274 141))), some (vI 0), some (vI 0), none]) i_183_97 rfl ?_
                    exfalso
                    omega
                · refine k_ldc (z := -1000001) i_183_57 o_183 rfl (by decide) ?_
                  refine k_iret i_183_59 rfl ?_
                  refine ⟨_, rfl, ?_, h⟩
                  first
                    | exact congrArg (fun z => some (vI z)) (by omega)
                    | (exfalso; omega)
        · refine k_ldc (z := -1000002) i_183_7 o_183 rfl (by decide) ?_
          refine k_iret i_183_9 rfl ?_
          refine ⟨_, rfl, ?_, h⟩
          first
            | exact congrArg (fun z => some (vI z)) (by omega)
            | (exfalso; omega)
      · refine k_iload_n i_106_28 rfl ?_
        refine k_bipush i_106_29 (by decide) ?_
        refine k_invS (n := 2) (av := [vI c, vI 10]) (rest := []) (el := [some (vI c), some (vI 10)]) i_106_31 o_106 rfl v_117 rfl rfl rfl rfl rfl rfl ?_
        refine c_117 (fun v31 hv31 => ?_)
        show Ok _ 106 34 [some (vR (some 0)), some (vI k), some (vI n), some (vI c), some (vI w)] [vI v31] (M) _
        refine k_if_eq (t := 46) i_106_34 rfl (fun h34 => ?_) (fun h34 => ?_)
        · refine k_ldc (z := -1000001) i_106_46 o_106 rfl (by decide) ?_
          refine k_iret i_106_48 rfl ?_
          show Ok (d + 24) 183 0 [some (vR (some 273)), some (vI k), some (vI n), some (vI c), some (vI w), none, none, none, none, none] [] M _
          refine k_aload_n i_183_0 rfl ?_
          refine k_invV (n := 0) (o' := 8) (av := [vR (some 273)]) (rest := []) (el := [some (vR (some 273))]) i_183_1 o_183 rfl v_144 rfl (s_273) rfl rfl rfl rfl rfl ?_
          refine c_144 (fun v1 hv1 => ?_)
          show Ok _ 183 4 [some (vR (some 273)), some (vI k), some (vI n), some (vI c), some (vI w), none, none, none, none, none] [vI v1] (M) _
          refine k_if_ne (t := 10) i_183_4 rfl (fun h4 => ?_) (fun h4 => ?_)
          · refine k_iload_n i_183_10 rfl ?_
            refine k_i2l i_183_11 ?_
            refine k_lconst (z := 0) i_183_12 rfl ?_
            refine k_ldc2 (z := 16) i_183_13 o_183 rfl (by decide) ?_
            refine k_invS (n := 3) (av := [vL k, vL 0, vL 16]) (rest := []) (el := [some (vL k), none, some (vL 0), none, some (vL 16), none]) i_183_16 o_183 rfl v_122 rfl rfl rfl rfl rfl rfl ?_
            refine c_122 (fun v16 hv16 => ?_)
            show Ok _ 183 19 [some (vR (some 273)), some (vI k), some (vI n), some (vI c), some (vI w), none, none, none, none, none] [vI v16] (M) _
            refine k_if_eq (t := 57) i_183_19 rfl (fun h19 => ?_) (fun h19 => ?_)
            · refine k_ldc (z := -1000001) i_183_57 o_183 rfl (by decide) ?_
              refine k_iret i_183_59 rfl ?_
              refine ⟨_, rfl, ?_, h⟩
              first
                | exact congrArg (fun z => some (vI z)) (by omega)
                | (exfalso; omega)
            · refine k_iload_n i_183_22 rfl ?_
              refine k_i2l i_183_23 ?_
              refine k_lconst (z := 0) i_183_24 rfl ?_
              refine k_ldc2 (z := 8) i_183_25 o_183 rfl (by decide) ?_
              refine k_invS (n := 3) (av := [vL n, vL 0, vL 8]) (rest := []) (el := [some (vL n), none, some (vL 0), none, some (vL 8), none]) i_183_28 o_183 rfl v_122 rfl rfl rfl rfl rfl rfl ?_
              refine c_122 (fun v28 hv28 => ?_)
              show Ok _ 183 31 [some (vR (some 273)), some (vI k), some (vI n), some (vI c), some (vI w), none, none, none, none, none] [vI v28] (M) _
              refine k_if_eq (t := 57) i_183_31 rfl (fun h31 => ?_) (fun h31 => ?_)
              · refine k_ldc (z := -1000001) i_183_57 o_183 rfl (by decide) ?_
                refine k_iret i_183_59 rfl ?_
                refine ⟨_, rfl, ?_, h⟩
                first
                  | exact congrArg (fun z => some (vI z)) (by omega)
                  | (exfalso; omega)
              · refine k_iload_n i_183_34 rfl ?_
                refine k_i2l i_183_35 ?_
                refine k_lconst (z := 0) i_183_36 rfl ?_
                refine k_ldc2 (z := 10) i_183_37 o_183 rfl (by decide) ?_
                refine k_invS (n := 3) (av := [vL c, vL 0, vL 10]) (rest := []) (el := [some (vL c), none, some (vL 0), none, some (vL 10), none]) i_183_40 o_183 rfl v_122 rfl rfl rfl rfl rfl rfl ?_
                refine c_122 (fun v40 hv40 => ?_)
                show Ok _ 183 43 [some (vR (some 273)), some (vI k), some (vI n), some (vI c), some (vI w), none, none, none, none, none] [vI v40] (M) _
                refine k_if_eq (t := 57) i_183_43 rfl (fun h43 => ?_) (fun h43 => ?_)
                · refine k_ldc (z := -1000001) i_183_57 o_183 rfl (by decide) ?_
                  refine k_iret i_183_59 rfl ?_
                  refine ⟨_, rfl, ?_, h⟩
                  first
                    | exact congrArg (fun z => some (vI z)) (by omega)
                    | (exfalso; omega)
                · refine k_iload i_183_46 rfl ?_
                  refine k_i2l i_183_48 ?_
                  refine k_lconst (z := 0) i_183_49 rfl ?_
                  refine k_lconst (z := 1) i_183_50 rfl ?_
                  refine k_invS (n := 3) (av := [vL w, vL 0, vL 1]) (rest := []) (el := [some (vL w), none, some (vL 0), none, some (vL 1), none]) i_183_51 o_183 rfl v_122 rfl rfl rfl rfl rfl rfl ?_
                  refine c_122 (fun v51 hv51 => ?_)
                  show Ok _ 183 54 [some (vR (some 273)), some (vI k), some (vI n), some (vI c), some (vI w), none, none, none, none, none] [vI v51] (M) _
                  refine k_if_ne (t := 60) i_183_54 rfl (fun h54 => ?_) (fun h54 => ?_)
                  · refine k_aload_n i_183_60 rfl ?_
                    refine k_invV (n := 0) (o' := 8) (av := [vR (some 273)]) (rest := []) (el := [some (vR (some 273))]) i_183_61 o_183 rfl v_142 rfl (s_273) rfl rfl rfl rfl rfl ?_
                    refine c_142 ?_
                    show Ok _ 183 64 [some (vR (some 273)), some (vI k), some (vI n), some (vI c), some (vI w), none, none, none, none, none] [vI (M 274 229)] (M) _
                    refine k_aload_n i_183_64 rfl ?_
                    refine k_getR (r := 274) i_183_65 o_183 rfl (by decide) (s_273) rfl ?_
                    refine k_sipush i_183_68 (by decide) ?_
                    refine k_iald i_183_71 (s_274) (by omega) ?_
                    refine k_isub i_183_72 (by omega) ?_
                    refine k_istore (ls' := [some (vR (some 273)), some (vI k), some (vI n), some (vI c), some (vI w), some (vI ((M 274 229) - (M 274 141))), none, none, none, none]) i_183_73 rfl ?_
                    refine k_iload i_183_75 rfl ?_
                    refine k_iload_n i_183_77 rfl ?_
                    refine k_icmp_ge (t := 86) i_183_78 rfl (fun h78 => ?_) (fun h78 => ?_)
                    · refine k_iload_n i_183_86 rfl ?_
                      refine k_istore (ls' := [some (vR (some 273)), some (vI k), some (vI n), some (vI c), some (vI w), some (vI ((M 274 229) - (M 274 141))), some (vI n), none, none, none]) i_183_87 rfl ?_
                      refine k_iconst i_183_89 (by decide) ?_
                      refine k_istore (ls' := [some (vR (some 273)), some (vI k), some (vI n), some (vI c), some (vI w), some (vI ((M 274 229) - (M 274 141))), some (vI n), some (vI 0), none, none]) i_183_90 rfl ?_
                      refine k_aload_n i_183_92 rfl ?_
                      refine k_invV (n := 0) (o' := 8) (av := [vR (some 273)]) (rest := []) (el := [some (vR (some 273)), none]) i_183_93 o_183 rfl v_165 rfl (s_273) rfl rfl rfl rfl rfl ?_
                      refine c_165 ?_
                      show Ok _ 183 96 [some (vR (some 273)), some (vI k), some (vI n), some (vI c), some (vI w), some (vI ((M 274 229) - (M 274 141))), some (vI n), some (vI 0), none, none] [] (cpn M 274 278 232) _
                      refine k_iconst i_183_96 (by decide) ?_
                      refine k_istore (ls' := [some (vR (some 273)), some (vI k), some (vI n), some (vI c), some (vI w), some (vI ((M 274 229) - (M 274 141))), some (vI n), some (vI 0), some (vI 0), none]) i_183_97 rfl ?_
                      exfalso
                      omega
                    · refine k_iload i_183_81 rfl ?_
                      refine k_goto (t := 87) i_183_83 rfl ?_
                      refine k_istore (ls' := [some (vR (some 273)), some (vI k), some (vI n), some (vI c), some (vI w), some (vI ((M 274 229) - (M 274 141))), some (vI ((M 274 229) - (M 274 141))), none, none, none]) i_183_87 rfl ?_
                      refine k_iconst i_183_89 (by decide) ?_
                      refine k_istore (ls' := [some (vR (some 273)), some (vI k), some (vI n), some (vI c), some (vI w), some (vI ((M 274 229) - (M 274 141))), some (vI ((M 274 229) - (M 274 141))), some (vI 0), none, none]) i_183_90 rfl ?_
                      refine k_aload_n i_183_92 rfl ?_
                      refine k_invV (n := 0) (o' := 8) (av := [vR (some 273)]) (rest := []) (el := [some (vR (some 273)), none]) i_183_93 o_183 rfl v_165 rfl (s_273) rfl rfl rfl rfl rfl ?_
                      refine c_165 ?_
                      show Ok _ 183 96 [some (vR (some 273)), some (vI k), some (vI n), some (vI c), some (vI w), some (vI ((M 274 229) - (M 274 141))), some (vI ((M 274 229) - (M 274 141))), some (vI 0), none, none] [] (cpn M 274 278 232) _
                      refine k_iconst i_183_96 (by decide) ?_
                      refine k_istore (ls' := [some (vR (some 273)), some (vI k), some (vI n), some (vI c), some (vI w), some (vI ((M 274 229) - (M 274 141))), some (vI ((M 274 229) - (M 274 141))), some (vI 0), some (vI 0), none]) i_183_97 rfl ?_
                      exfalso
                      omega
                  · refine k_ldc (z := -1000001) i_183_57 o_183 rfl (by decide) ?_
                    refine k_iret i_183_59 rfl ?_
                    refine ⟨_, rfl, ?_, h⟩
                    first
                      | exact congrArg (fun z => some (vI z)) (by omega)
                      | (exfalso; omega)
          · refine k_ldc (z := -1000002) i_183_7 o_183 rfl (by decide) ?_
            refine k_iret i_183_9 rfl ?_
            refine ⟨_, rfl, ?_, h⟩
            first
              | exact congrArg (fun z => some (vI z)) (by omega)
              | (exfalso; omega)
        · refine k_iload i_106_37 rfl ?_
          refine k_iconst i_106_39 (by decide) ?_
          refine k_invS (n := 2) (av := [vI w, vI 1]) (rest := []) (el := [some (vI w), some (vI 1)]) i_106_40 o_106 rfl v_117 rfl rfl rfl rfl rfl rfl ?_
          refine c_117 (fun v40 hv40 => ?_)
          show Ok _ 106 43 [some (vR (some 0)), some (vI k), some (vI n), some (vI c), some (vI w)] [vI v40] (M) _
          refine k_if_ne (t := 49) i_106_43 rfl (fun h43 => ?_) (fun h43 => ?_)
          · refine k_aload_n i_106_49 rfl ?_
            refine k_getR (r := 177) i_106_50 o_106 rfl (by decide) (s_0) rfl ?_
            refine k_iload_n i_106_53 rfl ?_
            refine k_iload_n i_106_54 rfl ?_
            refine k_iload_n i_106_55 rfl ?_
            refine k_iload i_106_56 rfl ?_
            refine k_if_ne (t := 65) i_106_58 rfl (fun h58 => ?_) (fun h58 => ?_)
            · refine k_iconst i_106_65 (by decide) ?_
              refine k_invV (n := 4) (o' := 2) (av := [vR (some 177), vI k, vI n, vI c, vI 0]) (rest := []) (el := [some (vR (some 177)), some (vI k), some (vI n), some (vI c), some (vI 0), none, none, none, none, none, none]) i_106_66 o_106 rfl v_24 rfl (s_177) rfl rfl rfl rfl rfl ?_
              refine c_24 (ab := 0) hKo hK hT (by omega) hR (by omega) (by omega) (fun M1 ho1 => ?_)
              show Ok _ 106 69 [some (vR (some 0)), some (vI k), some (vI n), some (vI c), some (vI w)] [vI (if (0 : Int) = 0 then ((10 ^ n.toNat / (Nat.gcd (10 ^ n.toNat) (fitN K k c.toNat n.toNat T)) : Nat) : Int) else ((fitN K k c.toNat n.toNat T / (Nat.gcd (10 ^ n.toNat) (fitN K k c.toNat n.toNat T)) : Nat) : Int))] (M1) _
              refine k_iret i_106_69 rfl ?_
              show Ok (d + 24) 183 0 [some (vR (some 273)), some (vI k), some (vI n), some (vI c), some (vI w), none, none, none, none, none] [] M1 _
              have hRR1 : RepR M1 K 0 T := hRR.off (fun j => ho1 274 j (by omega))
              have hKR1 : RepKR M1 K 0 := hKR.fr (fun j => ho1 274 j (by omega))
              have z1 : M1 274 231 = M 274 231 := ho1 _ _ (by omega)
              have z2 : M1 274 229 = kPe K := hKR1.1
              have z3 : M1 274 141 = tNx T := hRR1.2.2.2.2.1
              refine k_aload_n i_183_0 rfl ?_
              refine k_invV (n := 0) (o' := 8) (av := [vR (some 273)]) (rest := []) (el := [some (vR (some 273))]) i_183_1 o_183 rfl v_144 rfl (s_273) rfl rfl rfl rfl rfl ?_
              refine c_144 (fun v1 hv1 => ?_)
              show Ok _ 183 4 [some (vR (some 273)), some (vI k), some (vI n), some (vI c), some (vI w), none, none, none, none, none] [vI v1] (M1) _
              refine k_if_ne (t := 10) i_183_4 rfl (fun h4 => ?_) (fun h4 => ?_)
              · refine k_iload_n i_183_10 rfl ?_
                refine k_i2l i_183_11 ?_
                refine k_lconst (z := 0) i_183_12 rfl ?_
                refine k_ldc2 (z := 16) i_183_13 o_183 rfl (by decide) ?_
                refine k_invS (n := 3) (av := [vL k, vL 0, vL 16]) (rest := []) (el := [some (vL k), none, some (vL 0), none, some (vL 16), none]) i_183_16 o_183 rfl v_122 rfl rfl rfl rfl rfl rfl ?_
                refine c_122 (fun v16 hv16 => ?_)
                show Ok _ 183 19 [some (vR (some 273)), some (vI k), some (vI n), some (vI c), some (vI w), none, none, none, none, none] [vI v16] (M1) _
                refine k_if_eq (t := 57) i_183_19 rfl (fun h19 => ?_) (fun h19 => ?_)
                · refine k_ldc (z := -1000001) i_183_57 o_183 rfl (by decide) ?_
                  refine k_iret i_183_59 rfl ?_
                  exfalso
                  omega
                · refine k_iload_n i_183_22 rfl ?_
                  refine k_i2l i_183_23 ?_
                  refine k_lconst (z := 0) i_183_24 rfl ?_
                  refine k_ldc2 (z := 8) i_183_25 o_183 rfl (by decide) ?_
                  refine k_invS (n := 3) (av := [vL n, vL 0, vL 8]) (rest := []) (el := [some (vL n), none, some (vL 0), none, some (vL 8), none]) i_183_28 o_183 rfl v_122 rfl rfl rfl rfl rfl rfl ?_
                  refine c_122 (fun v28 hv28 => ?_)
                  show Ok _ 183 31 [some (vR (some 273)), some (vI k), some (vI n), some (vI c), some (vI w), none, none, none, none, none] [vI v28] (M1) _
                  refine k_if_eq (t := 57) i_183_31 rfl (fun h31 => ?_) (fun h31 => ?_)
                  · refine k_ldc (z := -1000001) i_183_57 o_183 rfl (by decide) ?_
                    refine k_iret i_183_59 rfl ?_
                    exfalso
                    omega
                  · refine k_iload_n i_183_34 rfl ?_
                    refine k_i2l i_183_35 ?_
                    refine k_lconst (z := 0) i_183_36 rfl ?_
                    refine k_ldc2 (z := 10) i_183_37 o_183 rfl (by decide) ?_
                    refine k_invS (n := 3) (av := [vL c, vL 0, vL 10]) (rest := []) (el := [some (vL c), none, some (vL 0), none, some (vL 10), none]) i_183_40 o_183 rfl v_122 rfl rfl rfl rfl rfl rfl ?_
                    refine c_122 (fun v40 hv40 => ?_)
                    show Ok _ 183 43 [some (vR (some 273)), some (vI k), some (vI n), some (vI c), some (vI w), none, none, none, none, none] [vI v40] (M1) _
                    refine k_if_eq (t := 57) i_183_43 rfl (fun h43 => ?_) (fun h43 => ?_)
                    · refine k_ldc (z := -1000001) i_183_57 o_183 rfl (by decide) ?_
                      refine k_iret i_183_59 rfl ?_
                      exfalso
                      omega
                    · refine k_iload i_183_46 rfl ?_
                      refine k_i2l i_183_48 ?_
                      refine k_lconst (z := 0) i_183_49 rfl ?_
                      refine k_lconst (z := 1) i_183_50 rfl ?_
                      refine k_invS (n := 3) (av := [vL w, vL 0, vL 1]) (rest := []) (el := [some (vL w), none, some (vL 0), none, some (vL 1), none]) i_183_51 o_183 rfl v_122 rfl rfl rfl rfl rfl rfl ?_
                      refine c_122 (fun v51 hv51 => ?_)
                      show Ok _ 183 54 [some (vR (some 273)), some (vI k), some (vI n), some (vI c), some (vI w), none, none, none, none, none] [vI v51] (M1) _
                      refine k_if_ne (t := 60) i_183_54 rfl (fun h54 => ?_) (fun h54 => ?_)
                      · refine k_aload_n i_183_60 rfl ?_
                        refine k_invV (n := 0) (o' := 8) (av := [vR (some 273)]) (rest := []) (el := [some (vR (some 273))]) i_183_61 o_183 rfl v_142 rfl (s_273) rfl rfl rfl rfl rfl ?_
                        refine c_142 ?_
                        show Ok _ 183 64 [some (vR (some 273)), some (vI k), some (vI n), some (vI c), some (vI w), none, none, none, none, none] [vI (M1 274 229)] (M1) _
                        refine k_aload_n i_183_64 rfl ?_
                        refine k_getR (r := 274) i_183_65 o_183 rfl (by decide) (s_273) rfl ?_
                        refine k_sipush i_183_68 (by decide) ?_
                        refine k_iald i_183_71 (s_274) (by omega) ?_
                        refine k_isub i_183_72 (by omega) ?_
                        refine k_istore (ls' := [some (vR (some 273)), some (vI k), some (vI n), some (vI c), some (vI w), some (vI ((M1 274 229) - (M1 274 141))), none, none, none, none]) i_183_73 rfl ?_
                        refine k_iload i_183_75 rfl ?_
                        refine k_iload_n i_183_77 rfl ?_
                        refine k_icmp_ge (t := 86) i_183_78 rfl (fun h78 => ?_) (fun h78 => ?_)
                        · refine k_iload_n i_183_86 rfl ?_
                          refine k_istore (ls' := [some (vR (some 273)), some (vI k), some (vI n), some (vI c), some (vI w), some (vI ((M1 274 229) - (M1 274 141))), some (vI n), none, none, none]) i_183_87 rfl ?_
                          refine k_iconst i_183_89 (by decide) ?_
                          refine k_istore (ls' := [some (vR (some 273)), some (vI k), some (vI n), some (vI c), some (vI w), some (vI ((M1 274 229) - (M1 274 141))), some (vI n), some (vI 0), none, none]) i_183_90 rfl ?_
                          refine k_aload_n i_183_92 rfl ?_
                          refine k_invV (n := 0) (o' := 8) (av := [vR (some 273)]) (rest := []) (el := [some (vR (some 273)), none]) i_183_93 o_183 rfl v_165 rfl (s_273) rfl rfl rfl rfl rfl ?_
                          refine c_165 ?_
                          show Ok _ 183 96 [some (vR (some 273)), some (vI k), some (vI n), some (vI c), some (vI w), some (vI ((M1 274 229) - (M1 274 141))), some (vI n), some (vI 0), none, none] [] (cpn M1 274 278 232) _
                          refine k_iconst i_183_96 (by decide) ?_
                          refine k_istore (ls' := [some (vR (some 273)), some (vI k), some (vI n), some (vI c), some (vI w), some (vI ((M1 274 229) - (M1 274 141))), some (vI n), some (vI 0), some (vI 0), none]) i_183_97 rfl ?_
                          first
                            | (exfalso; omega)
                            | (refine l_183 (M0 := M1) (K := K) (T := T) hKo hKR1 hRR1 hT (by omega) (by omega) (by omega) (by unfold cmN; omega) (fun v2 M2 hv2 hw => ?_) 257 0 _ _ (Nat.zero_le _) (Wk.st M1) (by have := p2_b (show cmN K T n.toNat ≤ 8 by unfold cmN; omega); omega)
                               refine ⟨_, rfl, ?_, h.scr (fun b j b0 b1 b2 b3 b4 => (hw.1 b j b1 b3 b4).trans (ho1 b j (by omega)))⟩
                               refine congrArg (fun z => some (vI z)) ?_
                               have oe := odds_eq K k c.toNat n.toNat T
                               rw [hv2, if_neg (by omega), if_pos rfl, oe.1])
                        · refine k_iload i_183_81 rfl ?_
                          refine k_goto (t := 87) i_183_83 rfl ?_
                          refine k_istore (ls' := [some (vR (some 273)), some (vI k), some (vI n), some (vI c), some (vI w), some (vI ((M1 274 229) - (M1 274 141))), some (vI ((M1 274 229) - (M1 274 141))), none, none, none]) i_183_87 rfl ?_
                          refine k_iconst i_183_89 (by decide) ?_
                          refine k_istore (ls' := [some (vR (some 273)), some (vI k), some (vI n), some (vI c), some (vI w), some (vI ((M1 274 229) - (M1 274 141))), some (vI ((M1 274 229) - (M1 274 141))), some (vI 0), none, none]) i_183_90 rfl ?_
                          refine k_aload_n i_183_92 rfl ?_
                          refine k_invV (n := 0) (o' := 8) (av := [vR (some 273)]) (rest := []) (el := [some (vR (some 273)), none]) i_183_93 o_183 rfl v_165 rfl (s_273) rfl rfl rfl rfl rfl ?_
                          refine c_165 ?_
                          show Ok _ 183 96 [some (vR (some 273)), some (vI k), some (vI n), some (vI c), some (vI w), some (vI ((M1 274 229) - (M1 274 141))), some (vI ((M1 274 229) - (M1 274 141))), some (vI 0), none, none] [] (cpn M1 274 278 232) _
                          refine k_iconst i_183_96 (by decide) ?_
                          refine k_istore (ls' := [some (vR (some 273)), some (vI k), some (vI n), some (vI c), some (vI w), some (vI ((M1 274 229) - (M1 274 141))), some (vI ((M1 274 229) - (M1 274 141))), some (vI 0), some (vI 0), none]) i_183_97 rfl ?_
                          first
                            | (exfalso; omega)
                            | (refine l_183 (M0 := M1) (K := K) (T := T) hKo hKR1 hRR1 hT (by omega) (by omega) (by omega) (by unfold cmN; omega) (fun v2 M2 hv2 hw => ?_) 257 0 _ _ (Nat.zero_le _) (Wk.st M1) (by have := p2_b (show cmN K T n.toNat ≤ 8 by unfold cmN; omega); omega)
                               refine ⟨_, rfl, ?_, h.scr (fun b j b0 b1 b2 b3 b4 => (hw.1 b j b1 b3 b4).trans (ho1 b j (by omega)))⟩
                               refine congrArg (fun z => some (vI z)) ?_
                               have oe := odds_eq K k c.toNat n.toNat T
                               rw [hv2, if_neg (by omega), if_pos rfl, oe.1])
                      · refine k_ldc (z := -1000001) i_183_57 o_183 rfl (by decide) ?_
                        refine k_iret i_183_59 rfl ?_
                        exfalso
                        omega
              · refine k_ldc (z := -1000002) i_183_7 o_183 rfl (by decide) ?_
                refine k_iret i_183_9 rfl ?_
                exfalso
                omega
            · refine k_iconst i_106_61 (by decide) ?_
              refine k_goto (t := 66) i_106_62 rfl ?_
              refine k_invV (n := 4) (o' := 2) (av := [vR (some 177), vI k, vI n, vI c, vI 1]) (rest := []) (el := [some (vR (some 177)), some (vI k), some (vI n), some (vI c), some (vI 1), none, none, none, none, none, none]) i_106_66 o_106 rfl v_24 rfl (s_177) rfl rfl rfl rfl rfl ?_
              refine c_24 (ab := 1) hKo hK hT (by omega) hR (by omega) (by omega) (fun M1 ho1 => ?_)
              show Ok _ 106 69 [some (vR (some 0)), some (vI k), some (vI n), some (vI c), some (vI w)] [vI (if (1 : Int) = 0 then ((10 ^ n.toNat / (Nat.gcd (10 ^ n.toNat) (fitN K k c.toNat n.toNat T)) : Nat) : Int) else ((fitN K k c.toNat n.toNat T / (Nat.gcd (10 ^ n.toNat) (fitN K k c.toNat n.toNat T)) : Nat) : Int))] (M1) _
              refine k_iret i_106_69 rfl ?_
              show Ok (d + 24) 183 0 [some (vR (some 273)), some (vI k), some (vI n), some (vI c), some (vI w), none, none, none, none, none] [] M1 _
              have hRR1 : RepR M1 K 0 T := hRR.off (fun j => ho1 274 j (by omega))
              have hKR1 : RepKR M1 K 0 := hKR.fr (fun j => ho1 274 j (by omega))
              have z1 : M1 274 231 = M 274 231 := ho1 _ _ (by omega)
              have z2 : M1 274 229 = kPe K := hKR1.1
              have z3 : M1 274 141 = tNx T := hRR1.2.2.2.2.1
              refine k_aload_n i_183_0 rfl ?_
              refine k_invV (n := 0) (o' := 8) (av := [vR (some 273)]) (rest := []) (el := [some (vR (some 273))]) i_183_1 o_183 rfl v_144 rfl (s_273) rfl rfl rfl rfl rfl ?_
              refine c_144 (fun v1 hv1 => ?_)
              show Ok _ 183 4 [some (vR (some 273)), some (vI k), some (vI n), some (vI c), some (vI w), none, none, none, none, none] [vI v1] (M1) _
              refine k_if_ne (t := 10) i_183_4 rfl (fun h4 => ?_) (fun h4 => ?_)
              · refine k_iload_n i_183_10 rfl ?_
                refine k_i2l i_183_11 ?_
                refine k_lconst (z := 0) i_183_12 rfl ?_
                refine k_ldc2 (z := 16) i_183_13 o_183 rfl (by decide) ?_
                refine k_invS (n := 3) (av := [vL k, vL 0, vL 16]) (rest := []) (el := [some (vL k), none, some (vL 0), none, some (vL 16), none]) i_183_16 o_183 rfl v_122 rfl rfl rfl rfl rfl rfl ?_
                refine c_122 (fun v16 hv16 => ?_)
                show Ok _ 183 19 [some (vR (some 273)), some (vI k), some (vI n), some (vI c), some (vI w), none, none, none, none, none] [vI v16] (M1) _
                refine k_if_eq (t := 57) i_183_19 rfl (fun h19 => ?_) (fun h19 => ?_)
                · refine k_ldc (z := -1000001) i_183_57 o_183 rfl (by decide) ?_
                  refine k_iret i_183_59 rfl ?_
                  exfalso
                  omega
                · refine k_iload_n i_183_22 rfl ?_
                  refine k_i2l i_183_23 ?_
                  refine k_lconst (z := 0) i_183_24 rfl ?_
                  refine k_ldc2 (z := 8) i_183_25 o_183 rfl (by decide) ?_
                  refine k_invS (n := 3) (av := [vL n, vL 0, vL 8]) (rest := []) (el := [some (vL n), none, some (vL 0), none, some (vL 8), none]) i_183_28 o_183 rfl v_122 rfl rfl rfl rfl rfl rfl ?_
                  refine c_122 (fun v28 hv28 => ?_)
                  show Ok _ 183 31 [some (vR (some 273)), some (vI k), some (vI n), some (vI c), some (vI w), none, none, none, none, none] [vI v28] (M1) _
                  refine k_if_eq (t := 57) i_183_31 rfl (fun h31 => ?_) (fun h31 => ?_)
                  · refine k_ldc (z := -1000001) i_183_57 o_183 rfl (by decide) ?_
                    refine k_iret i_183_59 rfl ?_
                    exfalso
                    omega
                  · refine k_iload_n i_183_34 rfl ?_
                    refine k_i2l i_183_35 ?_
                    refine k_lconst (z := 0) i_183_36 rfl ?_
                    refine k_ldc2 (z := 10) i_183_37 o_183 rfl (by decide) ?_
                    refine k_invS (n := 3) (av := [vL c, vL 0, vL 10]) (rest := []) (el := [some (vL c), none, some (vL 0), none, some (vL 10), none]) i_183_40 o_183 rfl v_122 rfl rfl rfl rfl rfl rfl ?_
                    refine c_122 (fun v40 hv40 => ?_)
                    show Ok _ 183 43 [some (vR (some 273)), some (vI k), some (vI n), some (vI c), some (vI w), none, none, none, none, none] [vI v40] (M1) _
                    refine k_if_eq (t := 57) i_183_43 rfl (fun h43 => ?_) (fun h43 => ?_)
                    · refine k_ldc (z := -1000001) i_183_57 o_183 rfl (by decide) ?_
                      refine k_iret i_183_59 rfl ?_
                      exfalso
                      omega
                    · refine k_iload i_183_46 rfl ?_
                      refine k_i2l i_183_48 ?_
                      refine k_lconst (z := 0) i_183_49 rfl ?_
                      refine k_lconst (z := 1) i_183_50 rfl ?_
                      refine k_invS (n := 3) (av := [vL w, vL 0, vL 1]) (rest := []) (el := [some (vL w), none, some (vL 0), none, some (vL 1), none]) i_183_51 o_183 rfl v_122 rfl rfl rfl rfl rfl rfl ?_
                      refine c_122 (fun v51 hv51 => ?_)
                      show Ok _ 183 54 [some (vR (some 273)), some (vI k), some (vI n), some (vI c), some (vI w), none, none, none, none, none] [vI v51] (M1) _
                      refine k_if_ne (t := 60) i_183_54 rfl (fun h54 => ?_) (fun h54 => ?_)
                      · refine k_aload_n i_183_60 rfl ?_
                        refine k_invV (n := 0) (o' := 8) (av := [vR (some 273)]) (rest := []) (el := [some (vR (some 273))]) i_183_61 o_183 rfl v_142 rfl (s_273) rfl rfl rfl rfl rfl ?_
                        refine c_142 ?_
                        show Ok _ 183 64 [some (vR (some 273)), some (vI k), some (vI n), some (vI c), some (vI w), none, none, none, none, none] [vI (M1 274 229)] (M1) _
                        refine k_aload_n i_183_64 rfl ?_
                        refine k_getR (r := 274) i_183_65 o_183 rfl (by decide) (s_273) rfl ?_
                        refine k_sipush i_183_68 (by decide) ?_
                        refine k_iald i_183_71 (s_274) (by omega) ?_
                        refine k_isub i_183_72 (by omega) ?_
                        refine k_istore (ls' := [some (vR (some 273)), some (vI k), some (vI n), some (vI c), some (vI w), some (vI ((M1 274 229) - (M1 274 141))), none, none, none, none]) i_183_73 rfl ?_
                        refine k_iload i_183_75 rfl ?_
                        refine k_iload_n i_183_77 rfl ?_
                        refine k_icmp_ge (t := 86) i_183_78 rfl (fun h78 => ?_) (fun h78 => ?_)
                        · refine k_iload_n i_183_86 rfl ?_
                          refine k_istore (ls' := [some (vR (some 273)), some (vI k), some (vI n), some (vI c), some (vI w), some (vI ((M1 274 229) - (M1 274 141))), some (vI n), none, none, none]) i_183_87 rfl ?_
                          refine k_iconst i_183_89 (by decide) ?_
                          refine k_istore (ls' := [some (vR (some 273)), some (vI k), some (vI n), some (vI c), some (vI w), some (vI ((M1 274 229) - (M1 274 141))), some (vI n), some (vI 0), none, none]) i_183_90 rfl ?_
                          refine k_aload_n i_183_92 rfl ?_
                          refine k_invV (n := 0) (o' := 8) (av := [vR (some 273)]) (rest := []) (el := [some (vR (some 273)), none]) i_183_93 o_183 rfl v_165 rfl (s_273) rfl rfl rfl rfl rfl ?_
                          refine c_165 ?_
                          show Ok _ 183 96 [some (vR (some 273)), some (vI k), some (vI n), some (vI c), some (vI w), some (vI ((M1 274 229) - (M1 274 141))), some (vI n), some (vI 0), none, none] [] (cpn M1 274 278 232) _
                          refine k_iconst i_183_96 (by decide) ?_
                          refine k_istore (ls' := [some (vR (some 273)), some (vI k), some (vI n), some (vI c), some (vI w), some (vI ((M1 274 229) - (M1 274 141))), some (vI n), some (vI 0), some (vI 0), none]) i_183_97 rfl ?_
                          first
                            | (exfalso; omega)
                            | (refine l_183 (M0 := M1) (K := K) (T := T) hKo hKR1 hRR1 hT (by omega) (by omega) (by omega) (by unfold cmN; omega) (fun v2 M2 hv2 hw => ?_) 257 0 _ _ (Nat.zero_le _) (Wk.st M1) (by have := p2_b (show cmN K T n.toNat ≤ 8 by unfold cmN; omega); omega)
                               refine ⟨_, rfl, ?_, h.scr (fun b j b0 b1 b2 b3 b4 => (hw.1 b j b1 b3 b4).trans (ho1 b j (by omega)))⟩
                               refine congrArg (fun z => some (vI z)) ?_
                               have oe := odds_eq K k c.toNat n.toNat T
                               rw [hv2, if_pos (by omega), if_neg (by decide), oe.2])
                        · refine k_iload i_183_81 rfl ?_
                          refine k_goto (t := 87) i_183_83 rfl ?_
                          refine k_istore (ls' := [some (vR (some 273)), some (vI k), some (vI n), some (vI c), some (vI w), some (vI ((M1 274 229) - (M1 274 141))), some (vI ((M1 274 229) - (M1 274 141))), none, none, none]) i_183_87 rfl ?_
                          refine k_iconst i_183_89 (by decide) ?_
                          refine k_istore (ls' := [some (vR (some 273)), some (vI k), some (vI n), some (vI c), some (vI w), some (vI ((M1 274 229) - (M1 274 141))), some (vI ((M1 274 229) - (M1 274 141))), some (vI 0), none, none]) i_183_90 rfl ?_
                          refine k_aload_n i_183_92 rfl ?_
                          refine k_invV (n := 0) (o' := 8) (av := [vR (some 273)]) (rest := []) (el := [some (vR (some 273)), none]) i_183_93 o_183 rfl v_165 rfl (s_273) rfl rfl rfl rfl rfl ?_
                          refine c_165 ?_
                          show Ok _ 183 96 [some (vR (some 273)), some (vI k), some (vI n), some (vI c), some (vI w), some (vI ((M1 274 229) - (M1 274 141))), some (vI ((M1 274 229) - (M1 274 141))), some (vI 0), none, none] [] (cpn M1 274 278 232) _
                          refine k_iconst i_183_96 (by decide) ?_
                          refine k_istore (ls' := [some (vR (some 273)), some (vI k), some (vI n), some (vI c), some (vI w), some (vI ((M1 274 229) - (M1 274 141))), some (vI ((M1 274 229) - (M1 274 141))), some (vI 0), some (vI 0), none]) i_183_97 rfl ?_
                          first
                            | (exfalso; omega)
                            | (refine l_183 (M0 := M1) (K := K) (T := T) hKo hKR1 hRR1 hT (by omega) (by omega) (by omega) (by unfold cmN; omega) (fun v2 M2 hv2 hw => ?_) 257 0 _ _ (Nat.zero_le _) (Wk.st M1) (by have := p2_b (show cmN K T n.toNat ≤ 8 by unfold cmN; omega); omega)
                               refine ⟨_, rfl, ?_, h.scr (fun b j b0 b1 b2 b3 b4 => (hw.1 b j b1 b3 b4).trans (ho1 b j (by omega)))⟩
                               refine congrArg (fun z => some (vI z)) ?_
                               have oe := odds_eq K k c.toNat n.toNat T
                               rw [hv2, if_pos (by omega), if_neg (by decide), oe.2])
                      · refine k_ldc (z := -1000001) i_183_57 o_183 rfl (by decide) ?_
                        refine k_iret i_183_59 rfl ?_
                        exfalso
                        omega
              · refine k_ldc (z := -1000002) i_183_7 o_183 rfl (by decide) ?_
                refine k_iret i_183_9 rfl ?_
                exfalso
                omega
          · refine k_ldc (z := -1000001) i_106_46 o_106 rfl (by decide) ?_
            refine k_iret i_106_48 rfl ?_
            show Ok (d + 24) 183 0 [some (vR (some 273)), some (vI k), some (vI n), some (vI c), some (vI w), none, none, none, none, none] [] M _
            refine k_aload_n i_183_0 rfl ?_
            refine k_invV (n := 0) (o' := 8) (av := [vR (some 273)]) (rest := []) (el := [some (vR (some 273))]) i_183_1 o_183 rfl v_144 rfl (s_273) rfl rfl rfl rfl rfl ?_
            refine c_144 (fun v1 hv1 => ?_)
            show Ok _ 183 4 [some (vR (some 273)), some (vI k), some (vI n), some (vI c), some (vI w), none, none, none, none, none] [vI v1] (M) _
            refine k_if_ne (t := 10) i_183_4 rfl (fun h4 => ?_) (fun h4 => ?_)
            · refine k_iload_n i_183_10 rfl ?_
              refine k_i2l i_183_11 ?_
              refine k_lconst (z := 0) i_183_12 rfl ?_
              refine k_ldc2 (z := 16) i_183_13 o_183 rfl (by decide) ?_
              refine k_invS (n := 3) (av := [vL k, vL 0, vL 16]) (rest := []) (el := [some (vL k), none, some (vL 0), none, some (vL 16), none]) i_183_16 o_183 rfl v_122 rfl rfl rfl rfl rfl rfl ?_
              refine c_122 (fun v16 hv16 => ?_)
              show Ok _ 183 19 [some (vR (some 273)), some (vI k), some (vI n), some (vI c), some (vI w), none, none, none, none, none] [vI v16] (M) _
              refine k_if_eq (t := 57) i_183_19 rfl (fun h19 => ?_) (fun h19 => ?_)
              · refine k_ldc (z := -1000001) i_183_57 o_183 rfl (by decide) ?_
                refine k_iret i_183_59 rfl ?_
                refine ⟨_, rfl, ?_, h⟩
                first
                  | exact congrArg (fun z => some (vI z)) (by omega)
                  | (exfalso; omega)
              · refine k_iload_n i_183_22 rfl ?_
                refine k_i2l i_183_23 ?_
                refine k_lconst (z := 0) i_183_24 rfl ?_
                refine k_ldc2 (z := 8) i_183_25 o_183 rfl (by decide) ?_
                refine k_invS (n := 3) (av := [vL n, vL 0, vL 8]) (rest := []) (el := [some (vL n), none, some (vL 0), none, some (vL 8), none]) i_183_28 o_183 rfl v_122 rfl rfl rfl rfl rfl rfl ?_
                refine c_122 (fun v28 hv28 => ?_)
                show Ok _ 183 31 [some (vR (some 273)), some (vI k), some (vI n), some (vI c), some (vI w), none, none, none, none, none] [vI v28] (M) _
                refine k_if_eq (t := 57) i_183_31 rfl (fun h31 => ?_) (fun h31 => ?_)
                · refine k_ldc (z := -1000001) i_183_57 o_183 rfl (by decide) ?_
                  refine k_iret i_183_59 rfl ?_
                  refine ⟨_, rfl, ?_, h⟩
                  first
                    | exact congrArg (fun z => some (vI z)) (by omega)
                    | (exfalso; omega)
                · refine k_iload_n i_183_34 rfl ?_
                  refine k_i2l i_183_35 ?_
                  refine k_lconst (z := 0) i_183_36 rfl ?_
                  refine k_ldc2 (z := 10) i_183_37 o_183 rfl (by decide) ?_
                  refine k_invS (n := 3) (av := [vL c, vL 0, vL 10]) (rest := []) (el := [some (vL c), none, some (vL 0), none, some (vL 10), none]) i_183_40 o_183 rfl v_122 rfl rfl rfl rfl rfl rfl ?_
                  refine c_122 (fun v40 hv40 => ?_)
                  show Ok _ 183 43 [some (vR (some 273)), some (vI k), some (vI n), some (vI c), some (vI w), none, none, none, none, none] [vI v40] (M) _
                  refine k_if_eq (t := 57) i_183_43 rfl (fun h43 => ?_) (fun h43 => ?_)
                  · refine k_ldc (z := -1000001) i_183_57 o_183 rfl (by decide) ?_
                    refine k_iret i_183_59 rfl ?_
                    refine ⟨_, rfl, ?_, h⟩
                    first
                      | exact congrArg (fun z => some (vI z)) (by omega)
                      | (exfalso; omega)
                  · refine k_iload i_183_46 rfl ?_
                    refine k_i2l i_183_48 ?_
                    refine k_lconst (z := 0) i_183_49 rfl ?_
                    refine k_lconst (z := 1) i_183_50 rfl ?_
                    refine k_invS (n := 3) (av := [vL w, vL 0, vL 1]) (rest := []) (el := [some (vL w), none, some (vL 0), none, some (vL 1), none]) i_183_51 o_183 rfl v_122 rfl rfl rfl rfl rfl rfl ?_
                    refine c_122 (fun v51 hv51 => ?_)
                    show Ok _ 183 54 [some (vR (some 273)), some (vI k), some (vI n), some (vI c), some (vI w), none, none, none, none, none] [vI v51] (M) _
                    refine k_if_ne (t := 60) i_183_54 rfl (fun h54 => ?_) (fun h54 => ?_)
                    · refine k_aload_n i_183_60 rfl ?_
                      refine k_invV (n := 0) (o' := 8) (av := [vR (some 273)]) (rest := []) (el := [some (vR (some 273))]) i_183_61 o_183 rfl v_142 rfl (s_273) rfl rfl rfl rfl rfl ?_
                      refine c_142 ?_
                      show Ok _ 183 64 [some (vR (some 273)), some (vI k), some (vI n), some (vI c), some (vI w), none, none, none, none, none] [vI (M 274 229)] (M) _
                      refine k_aload_n i_183_64 rfl ?_
                      refine k_getR (r := 274) i_183_65 o_183 rfl (by decide) (s_273) rfl ?_
                      refine k_sipush i_183_68 (by decide) ?_
                      refine k_iald i_183_71 (s_274) (by omega) ?_
                      refine k_isub i_183_72 (by omega) ?_
                      refine k_istore (ls' := [some (vR (some 273)), some (vI k), some (vI n), some (vI c), some (vI w), some (vI ((M 274 229) - (M 274 141))), none, none, none, none]) i_183_73 rfl ?_
                      refine k_iload i_183_75 rfl ?_
                      refine k_iload_n i_183_77 rfl ?_
                      refine k_icmp_ge (t := 86) i_183_78 rfl (fun h78 => ?_) (fun h78 => ?_)
                      · refine k_iload_n i_183_86 rfl ?_
                        refine k_istore (ls' := [some (vR (some 273)), some (vI k), some (vI n), some (vI c), some (vI w), some (vI ((M 274 229) - (M 274 141))), some (vI n), none, none, none]) i_183_87 rfl ?_
                        refine k_iconst i_183_89 (by decide) ?_
                        refine k_istore (ls' := [some (vR (some 273)), some (vI k), some (vI n), some (vI c), some (vI w), some (vI ((M 274 229) - (M 274 141))), some (vI n), some (vI 0), none, none]) i_183_90 rfl ?_
                        refine k_aload_n i_183_92 rfl ?_
                        refine k_invV (n := 0) (o' := 8) (av := [vR (some 273)]) (rest := []) (el := [some (vR (some 273)), none]) i_183_93 o_183 rfl v_165 rfl (s_273) rfl rfl rfl rfl rfl ?_
                        refine c_165 ?_
                        show Ok _ 183 96 [some (vR (some 273)), some (vI k), some (vI n), some (vI c), some (vI w), some (vI ((M 274 229) - (M 274 141))), some (vI n), some (vI 0), none, none] [] (cpn M 274 278 232) _
                        refine k_iconst i_183_96 (by decide) ?_
                        refine k_istore (ls' := [some (vR (some 273)), some (vI k), some (vI n), some (vI c), some (vI w), some (vI ((M 274 229) - (M 274 141))), some (vI n), some (vI 0), some (vI 0), none]) i_183_97 rfl ?_
                        exfalso
                        omega
                      · refine k_iload i_183_81 rfl ?_
                        refine k_goto (t := 87) i_183_83 rfl ?_
                        refine k_istore (ls' := [some (vR (some 273)), some (vI k), some (vI n), some (vI c), some (vI w), some (vI ((M 274 229) - (M 274 141))), some (vI ((M 274 229) - (M 274 141))), none, none, none]) i_183_87 rfl ?_
                        refine k_iconst i_183_89 (by decide) ?_
                        refine k_istore (ls' := [some (vR (some 273)), some (vI k), some (vI n), some (vI c), some (vI w), some (vI ((M 274 229) - (M 274 141))), some (vI ((M 274 229) - (M 274 141))), some (vI 0), none, none]) i_183_90 rfl ?_
                        refine k_aload_n i_183_92 rfl ?_
                        refine k_invV (n := 0) (o' := 8) (av := [vR (some 273)]) (rest := []) (el := [some (vR (some 273)), none]) i_183_93 o_183 rfl v_165 rfl (s_273) rfl rfl rfl rfl rfl ?_
                        refine c_165 ?_
                        show Ok _ 183 96 [some (vR (some 273)), some (vI k), some (vI n), some (vI c), some (vI w), some (vI ((M 274 229) - (M 274 141))), some (vI ((M 274 229) - (M 274 141))), some (vI 0), none, none] [] (cpn M 274 278 232) _
                        refine k_iconst i_183_96 (by decide) ?_
                        refine k_istore (ls' := [some (vR (some 273)), some (vI k), some (vI n), some (vI c), some (vI w), some (vI ((M 274 229) - (M 274 141))), some (vI ((M 274 229) - (M 274 141))), some (vI 0), some (vI 0), none]) i_183_97 rfl ?_
                        exfalso
                        omega
                    · refine k_ldc (z := -1000001) i_183_57 o_183 rfl (by decide) ?_
                      refine k_iret i_183_59 rfl ?_
                      refine ⟨_, rfl, ?_, h⟩
                      first
                        | exact congrArg (fun z => some (vI z)) (by omega)
                        | (exfalso; omega)
            · refine k_ldc (z := -1000002) i_183_7 o_183 rfl (by decide) ?_
              refine k_iret i_183_9 rfl ?_
              refine ⟨_, rfl, ?_, h⟩
              first
                | exact congrArg (fun z => some (vI z)) (by omega)
                | (exfalso; omega)
  · refine k_ldc (z := -1000002) i_106_7 o_106 rfl (by decide) ?_
    refine k_iret i_106_9 rfl ?_
    show Ok (d + 24) 183 0 [some (vR (some 273)), some (vI k), some (vI n), some (vI c), some (vI w), none, none, none, none, none] [] M _
    refine k_aload_n i_183_0 rfl ?_
    refine k_invV (n := 0) (o' := 8) (av := [vR (some 273)]) (rest := []) (el := [some (vR (some 273))]) i_183_1 o_183 rfl v_144 rfl (s_273) rfl rfl rfl rfl rfl ?_
    refine c_144 (fun v1 hv1 => ?_)
    show Ok _ 183 4 [some (vR (some 273)), some (vI k), some (vI n), some (vI c), some (vI w), none, none, none, none, none] [vI v1] (M) _
    refine k_if_ne (t := 10) i_183_4 rfl (fun h4 => ?_) (fun h4 => ?_)
    · refine k_iload_n i_183_10 rfl ?_
      refine k_i2l i_183_11 ?_
      refine k_lconst (z := 0) i_183_12 rfl ?_
      refine k_ldc2 (z := 16) i_183_13 o_183 rfl (by decide) ?_
      refine k_invS (n := 3) (av := [vL k, vL 0, vL 16]) (rest := []) (el := [some (vL k), none, some (vL 0), none, some (vL 16), none]) i_183_16 o_183 rfl v_122 rfl rfl rfl rfl rfl rfl ?_
      refine c_122 (fun v16 hv16 => ?_)
      show Ok _ 183 19 [some (vR (some 273)), some (vI k), some (vI n), some (vI c), some (vI w), none, none, none, none, none] [vI v16] (M) _
      refine k_if_eq (t := 57) i_183_19 rfl (fun h19 => ?_) (fun h19 => ?_)
      · refine k_ldc (z := -1000001) i_183_57 o_183 rfl (by decide) ?_
        refine k_iret i_183_59 rfl ?_
        refine ⟨_, rfl, ?_, h⟩
        first
          | exact congrArg (fun z => some (vI z)) (by omega)
          | (exfalso; omega)
      · refine k_iload_n i_183_22 rfl ?_
        refine k_i2l i_183_23 ?_
        refine k_lconst (z := 0) i_183_24 rfl ?_
        refine k_ldc2 (z := 8) i_183_25 o_183 rfl (by decide) ?_
        refine k_invS (n := 3) (av := [vL n, vL 0, vL 8]) (rest := []) (el := [some (vL n), none, some (vL 0), none, some (vL 8), none]) i_183_28 o_183 rfl v_122 rfl rfl rfl rfl rfl rfl ?_
        refine c_122 (fun v28 hv28 => ?_)
        show Ok _ 183 31 [some (vR (some 273)), some (vI k), some (vI n), some (vI c), some (vI w), none, none, none, none, none] [vI v28] (M) _
        refine k_if_eq (t := 57) i_183_31 rfl (fun h31 => ?_) (fun h31 => ?_)
        · refine k_ldc (z := -1000001) i_183_57 o_183 rfl (by decide) ?_
          refine k_iret i_183_59 rfl ?_
          refine ⟨_, rfl, ?_, h⟩
          first
            | exact congrArg (fun z => some (vI z)) (by omega)
            | (exfalso; omega)
        · refine k_iload_n i_183_34 rfl ?_
          refine k_i2l i_183_35 ?_
          refine k_lconst (z := 0) i_183_36 rfl ?_
          refine k_ldc2 (z := 10) i_183_37 o_183 rfl (by decide) ?_
          refine k_invS (n := 3) (av := [vL c, vL 0, vL 10]) (rest := []) (el := [some (vL c), none, some (vL 0), none, some (vL 10), none]) i_183_40 o_183 rfl v_122 rfl rfl rfl rfl rfl rfl ?_
          refine c_122 (fun v40 hv40 => ?_)
          show Ok _ 183 43 [some (vR (some 273)), some (vI k), some (vI n), some (vI c), some (vI w), none, none, none, none, none] [vI v40] (M) _
          refine k_if_eq (t := 57) i_183_43 rfl (fun h43 => ?_) (fun h43 => ?_)
          · refine k_ldc (z := -1000001) i_183_57 o_183 rfl (by decide) ?_
            refine k_iret i_183_59 rfl ?_
            refine ⟨_, rfl, ?_, h⟩
            first
              | exact congrArg (fun z => some (vI z)) (by omega)
              | (exfalso; omega)
          · refine k_iload i_183_46 rfl ?_
            refine k_i2l i_183_48 ?_
            refine k_lconst (z := 0) i_183_49 rfl ?_
            refine k_lconst (z := 1) i_183_50 rfl ?_
            refine k_invS (n := 3) (av := [vL w, vL 0, vL 1]) (rest := []) (el := [some (vL w), none, some (vL 0), none, some (vL 1), none]) i_183_51 o_183 rfl v_122 rfl rfl rfl rfl rfl rfl ?_
            refine c_122 (fun v51 hv51 => ?_)
            show Ok _ 183 54 [some (vR (some 273)), some (vI k), some (vI n), some (vI c), some (vI w), none, none, none, none, none] [vI v51] (M) _
            refine k_if_ne (t := 60) i_183_54 rfl (fun h54 => ?_) (fun h54 => ?_)
            · refine k_aload_n i_183_60 rfl ?_
              refine k_invV (n := 0) (o' := 8) (av := [vR (some 273)]) (rest := []) (el := [some (vR (some 273))]) i_183_61 o_183 rfl v_142 rfl (s_273) rfl rfl rfl rfl rfl ?_
              refine c_142 ?_
              show Ok _ 183 64 [some (vR (some 273)), some (vI k), some (vI n), some (vI c), some (vI w), none, none, none, none, none] [vI (M 274 229)] (M) _
              refine k_aload_n i_183_64 rfl ?_
              refine k_getR (r := 274) i_183_65 o_183 rfl (by decide) (s_273) rfl ?_
              refine k_sipush i_183_68 (by decide) ?_
              refine k_iald i_183_71 (s_274) (by omega) ?_
              refine k_isub i_183_72 (by omega) ?_
              refine k_istore (ls' := [some (vR (some 273)), some (vI k), some (vI n), some (vI c), some (vI w), some (vI ((M 274 229) - (M 274 141))), none, none, none, none]) i_183_73 rfl ?_
              refine k_iload i_183_75 rfl ?_
              refine k_iload_n i_183_77 rfl ?_
              refine k_icmp_ge (t := 86) i_183_78 rfl (fun h78 => ?_) (fun h78 => ?_)
              · refine k_iload_n i_183_86 rfl ?_
                refine k_istore (ls' := [some (vR (some 273)), some (vI k), some (vI n), some (vI c), some (vI w), some (vI ((M 274 229) - (M 274 141))), some (vI n), none, none, none]) i_183_87 rfl ?_
                refine k_iconst i_183_89 (by decide) ?_
                refine k_istore (ls' := [some (vR (some 273)), some (vI k), some (vI n), some (vI c), some (vI w), some (vI ((M 274 229) - (M 274 141))), some (vI n), some (vI 0), none, none]) i_183_90 rfl ?_
                refine k_aload_n i_183_92 rfl ?_
                refine k_invV (n := 0) (o' := 8) (av := [vR (some 273)]) (rest := []) (el := [some (vR (some 273)), none]) i_183_93 o_183 rfl v_165 rfl (s_273) rfl rfl rfl rfl rfl ?_
                refine c_165 ?_
                show Ok _ 183 96 [some (vR (some 273)), some (vI k), some (vI n), some (vI c), some (vI w), some (vI ((M 274 229) - (M 274 141))), some (vI n), some (vI 0), none, none] [] (cpn M 274 278 232) _
                refine k_iconst i_183_96 (by decide) ?_
                refine k_istore (ls' := [some (vR (some 273)), some (vI k), some (vI n), some (vI c), some (vI w), some (vI ((M 274 229) - (M 274 141))), some (vI n), some (vI 0), some (vI 0), none]) i_183_97 rfl ?_
                exfalso
                omega
              · refine k_iload i_183_81 rfl ?_
                refine k_goto (t := 87) i_183_83 rfl ?_
                refine k_istore (ls' := [some (vR (some 273)), some (vI k), some (vI n), some (vI c), some (vI w), some (vI ((M 274 229) - (M 274 141))), some (vI ((M 274 229) - (M 274 141))), none, none, none]) i_183_87 rfl ?_
                refine k_iconst i_183_89 (by decide) ?_
                refine k_istore (ls' := [some (vR (some 273)), some (vI k), some (vI n), some (vI c), some (vI w), some (vI ((M 274 229) - (M 274 141))), some (vI ((M 274 229) - (M 274 141))), some (vI 0), none, none]) i_183_90 rfl ?_
                refine k_aload_n i_183_92 rfl ?_
                refine k_invV (n := 0) (o' := 8) (av := [vR (some 273)]) (rest := []) (el := [some (vR (some 273)), none]) i_183_93 o_183 rfl v_165 rfl (s_273) rfl rfl rfl rfl rfl ?_
                refine c_165 ?_
                show Ok _ 183 96 [some (vR (some 273)), some (vI k), some (vI n), some (vI c), some (vI w), some (vI ((M 274 229) - (M 274 141))), some (vI ((M 274 229) - (M 274 141))), some (vI 0), none, none] [] (cpn M 274 278 232) _
                refine k_iconst i_183_96 (by decide) ?_
                refine k_istore (ls' := [some (vR (some 273)), some (vI k), some (vI n), some (vI c), some (vI w), some (vI ((M 274 229) - (M 274 141))), some (vI ((M 274 229) - (M 274 141))), some (vI 0), some (vI 0), none]) i_183_97 rfl ?_
                exfalso
                omega
            · refine k_ldc (z := -1000001) i_183_57 o_183 rfl (by decide) ?_
              refine k_iret i_183_59 rfl ?_
              refine ⟨_, rfl, ?_, h⟩
              first
                | exact congrArg (fun z => some (vI z)) (by omega)
                | (exfalso; omega)
    · refine k_ldc (z := -1000002) i_183_7 o_183 rfl (by decide) ?_
      refine k_iret i_183_9 rfl ?_
      refine ⟨_, rfl, ?_, h⟩
      first
        | exact congrArg (fun z => some (vI z)) (by omega)
        | (exfalso; omega)
