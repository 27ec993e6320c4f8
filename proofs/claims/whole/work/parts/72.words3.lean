set_option maxRecDepth 100000 in
theorem tp_words {d : Nat} {M : Mem} {k w : Int} (h : Rel M)  : Two (d + 24) 102 173 [some (vR (some 0)), some (vI k), some (vI w), none] [some (vR (some 273)), some (vI k), some (vI w), none, none, none, none, none] M := by
  obtain ⟨K, T, L, hW⟩ := h.2.2.2.2.1
  obtain ⟨hE, hKo, hS, hK12, hR, hKR, hRR, hA, hAR, hL, hti⟩ := id hW
  have hT := hS.1
  have hK : RepK M 20 K 0 := hK12.mono (by decide)
  have g0 := hKo.1
  have u3 := hT.2.2.1
  have mi9 := hS.2.2
  have k1 : M 20 7 = kPe K := hK.1
  have k2 : M 20 6 = kWt K := hK.2.1
  have q1 : M 274 229 = kPe K := hKR.1
  have q2 : M 274 230 = kPe K - kWt K := hKR.2.1
  obtain ⟨x6, x7, x8, x9, x10, xq, xp⟩ := id hR
  obtain ⟨y6, y7, y8, y9, y10, yq, yp⟩ := id hRR
  have hl28 := q28 hKo hT
  have hl16 : ((tQ T).length : Int) ≤ 16 := by omega
  show Ok (d + 24) 102 0 [some (vR (some 0)), some (vI k), some (vI w), none] [] M _
  refine k_aload_n i_102_0 rfl ?_
  refine k_getI (kz := 11) i_102_1 o_102 rfl (by decide) (s_0) rfl ?_
  refine k_if_ne (t := 10) i_102_4 rfl (fun h4 => ?_) (fun h4 => ?_)
  · refine k_iload_n i_102_10 rfl ?_
    refine k_if_lt (t := 22) i_102_11 rfl (fun h11 => ?_) (fun h11 => ?_)
    · refine k_ldc (z := -1000001) i_102_22 o_102 rfl (by decide) ?_
      refine k_iret i_102_24 rfl ?_
      show Ok (d + 24) 173 0 [some (vR (some 273)), some (vI k), some (vI w), none, none, none, none, none] [] M _
      refine k_aload_n i_173_0 rfl ?_
      refine k_invV (n := 0) (o' := 8) (av := [vR (some 273)]) (rest := []) (el := [some (vR (some 273))]) i_173_1 o_173 rfl v_144 rfl (s_273) rfl rfl rfl rfl rfl ?_
      refine c_144 (fun v1 hv1 => ?_)
      show Ok _ 173 4 [some (vR (some 273)), some (vI k), some (vI w), none, none, none, none, none] [vI v1] (M) _
      refine k_if_ne (t := 10) i_173_4 rfl (fun h4 => ?_) (fun h4 => ?_)
      · refine k_iload_n i_173_10 rfl ?_
        refine k_if_lt (t := 24) i_173_11 rfl (fun h11 => ?_) (fun h11 => ?_)
        · refine k_ldc (z := -1000001) i_173_24 o_173 rfl (by decide) ?_
          refine k_iret i_173_26 rfl ?_
          refine ⟨_, rfl, ?_, h⟩
          first
            | exact congrArg (fun z => some (vI z)) (by omega)
            | (exfalso; omega)
        · refine k_iload_n i_173_14 rfl ?_
          refine k_i2l i_173_15 ?_
          refine k_lconst (z := 0) i_173_16 rfl ?_
          refine k_lconst (z := 1) i_173_17 rfl ?_
          refine k_invS (n := 3) (av := [vL w, vL 0, vL 1]) (rest := []) (el := [some (vL w), none, some (vL 0), none, some (vL 1), none]) i_173_18 o_173 rfl v_122 rfl rfl rfl rfl rfl rfl ?_
          refine c_122 (fun v18 hv18 => ?_)
          show Ok _ 173 21 [some (vR (some 273)), some (vI k), some (vI w), none, none, none, none, none] [vI v18] (M) _
          refine k_if_ne (t := 27) i_173_21 rfl (fun h21 => ?_) (fun h21 => ?_)
          · refine k_iload_n i_173_27 rfl ?_
            refine k_aload_n i_173_28 rfl ?_
            refine k_getR (r := 274) i_173_29 o_173 rfl (by decide) (s_273) rfl ?_
            refine k_sipush i_173_32 (by decide) ?_
            refine k_iald i_173_35 (s_274) (by omega) ?_
            refine k_icmp_lt (t := 42) i_173_36 rfl (fun h36 => ?_) (fun h36 => ?_)
            · refine k_iconst i_173_42 (by decide) ?_
              refine k_istore_n (ls' := [some (vR (some 273)), some (vI k), some (vI w), some (vI 0), none, none, none, none]) i_173_43 rfl ?_
              refine k_iload_n i_173_44 rfl ?_
              refine k_if_ne (t := 52) i_173_45 rfl (fun h45 => ?_) (fun h45 => ?_)
              · refine k_sipush i_173_52 (by decide) ?_
                refine k_istore (ls' := [some (vR (some 273)), some (vI k), some (vI w), some (vI 0), some (vI 2000), none, none, none]) i_173_55 rfl ?_
                refine k_aload_n i_173_57 rfl ?_
                refine k_invV (n := 0) (o' := 8) (av := [vR (some 273)]) (rest := []) (el := [some (vR (some 273)), none]) i_173_58 o_173 rfl v_165 rfl (s_273) rfl rfl rfl rfl rfl ?_
                refine c_165 ?_
                show Ok _ 173 61 [some (vR (some 273)), some (vI k), some (vI w), some (vI 0), some (vI 2000), none, none, none] [] (cpn M 274 278 232) _
                refine k_iconst i_173_61 (by decide) ?_
                refine k_istore (ls' := [some (vR (some 273)), some (vI k), some (vI w), some (vI 0), some (vI 2000), some (vI 0), none, none]) i_173_62 rfl ?_
                exfalso
                omega
              · refine k_iconst i_173_48 (by decide) ?_
                refine k_goto (t := 55) i_173_49 rfl ?_
                refine k_istore (ls' := [some (vR (some 273)), some (vI k), some (vI w), some (vI 0), some (vI (-1)), none, none, none]) i_173_55 rfl ?_
                refine k_aload_n i_173_57 rfl ?_
                refine k_invV (n := 0) (o' := 8) (av := [vR (some 273)]) (rest := []) (el := [some (vR (some 273)), none]) i_173_58 o_173 rfl v_165 rfl (s_273) rfl rfl rfl rfl rfl ?_
                refine c_165 ?_
                show Ok _ 173 61 [some (vR (some 273)), some (vI k), some (vI w), some (vI 0), some (vI (-1)), none, none, none] [] (cpn M 274 278 232) _
                refine k_iconst i_173_61 (by decide) ?_
                refine k_istore (ls' := [some (vR (some 273)), some (vI k), some (vI w), some (vI 0), some (vI (-1)), some (vI 0), none, none]) i_173_62 rfl ?_
                exfalso
                omega
            · refine k_ldc (z := -1000000) i_173_39 o_173 rfl (by decide) ?_
              refine k_iret i_173_41 rfl ?_
              refine ⟨_, rfl, ?_, h⟩
              first
                | exact congrArg (fun z => some (vI z)) (by omega)
                | (exfalso; omega)
          · refine k_ldc (z := -1000001) i_173_24 o_173 rfl (by decide) ?_
            refine k_iret i_173_26 rfl ?_
            refine ⟨_, rfl, ?_, h⟩
            first
              | exact congrArg (fun z => some (vI z)) (by omega)
              | (exfalso; omega)
      · refine k_ldc (z := -1000002) i_173_7 o_173 rfl (by decide) ?_
        refine k_iret i_173_9 rfl ?_
        refine ⟨_, rfl, ?_, h⟩
        first
          | exact congrArg (fun z => some (vI z)) (by omega)
          | (exfalso; omega)
    · refine k_iload_n i_102_14 rfl ?_
      refine k_iconst i_102_15 (by decide) ?_
      refine k_invS (n := 2) (av := [vI w, vI 1]) (rest := []) (el := [some (vI w), some (vI 1)]) i_102_16 o_102 rfl v_117 rfl rfl rfl rfl rfl rfl ?_
      refine c_117 (fun v16 hv16 => ?_)
      show Ok _ 102 19 [some (vR (some 0)), some (vI k), some (vI w), none] [vI v16] (M) _
      refine k_if_ne (t := 25) i_102_19 rfl (fun h19 => ?_) (fun h19 => ?_)
      · refine k_aload_n i_102_25 rfl ?_
        refine k_getR (r := 25) i_102_26 o_102 rfl (by decide) (s_0) rfl ?_
        refine k_iload_n i_102_29 rfl ?_
        refine k_invV (n := 1) (o' := 6) (av := [vR (some 25), vI k]) (rest := []) (el := [some (vR (some 25)), some (vI k)]) i_102_30 o_102 rfl v_65 rfl (s_25) rfl rfl rfl rfl rfl ?_
        refine c_65 tw_25 hR (by omega) (fun vo hvo => ?_)
        show Ok _ 102 33 [some (vR (some 0)), some (vI k), some (vI w), none] [vI vo] (M) _
        have hwo : (k < (tQ T).length ∧ vo = (tQ T).getD k.toNat 0 ∧ Va K 0 vo ∧ 0 ≤ vo) ∨ (¬ k < (tQ T).length ∧ vo = -1000000) := by
          unfold whoF at hvo
          by_cases q : k < ((tQ T).length : Int)
          · rw [if_pos (by omega)] at hvo
            have hva : Va K 0 vo := by rw [hvo]; exact hT.va (q_mem (by omega))
            exact Or.inl ⟨q, hvo, hva, (va_b hKo hva).1⟩
          · rw [if_neg (by omega)] at hvo
            exact Or.inr ⟨q, hvo⟩
        refine k_istore_n (ls' := [some (vR (some 0)), some (vI k), some (vI w), some (vI vo)]) i_102_33 rfl ?_
        refine k_iload_n i_102_34 rfl ?_
        refine k_ldc (z := -1000000) i_102_35 o_102 rfl (by decide) ?_
        refine k_icmp_ne (t := 45) i_102_37 rfl (fun h37 => ?_) (fun h37 => ?_)
        · refine k_aload_n i_102_45 rfl ?_
          refine k_getR (r := 177) i_102_46 o_102 rfl (by decide) (s_0) rfl ?_
          refine k_iload_n i_102_49 rfl ?_
          refine k_iload_n i_102_50 rfl ?_
          refine k_if_ne (t := 58) i_102_51 rfl (fun h51 => ?_) (fun h51 => ?_)
          · refine k_iconst i_102_58 (by decide) ?_
            refine k_invV (n := 2) (o' := 2) (av := [vR (some 177), vI vo, vI 0]) (rest := []) (el := [some (vR (some 177)), some (vI vo), some (vI 0), none, none, none, none]) i_102_59 o_102 rfl v_22 rfl (s_177) rfl rfl rfl rfl rfl ?_
            refine c_22 hKo hK hT hR (by omega) ((hwo.resolve_right (fun q => by omega)).2.2.1) (fun vA M1 hvA ho1 => ?_)
            show Ok _ 102 62 [some (vR (some 0)), some (vI k), some (vI w), some (vI vo)] [vI vA] (M1) _
            refine k_iret i_102_62 rfl ?_
            show Ok (d + 24) 173 0 [some (vR (some 273)), some (vI k), some (vI w), none, none, none, none, none] [] M1 _
            have hRR1 : RepR M1 K 0 T := hRR.off (fun j => ho1 274 j (by omega))
            have hKR1 : RepKR M1 K 0 := hKR.fr (fun j => ho1 274 j (by omega))
            have z1 : M1 274 231 = M 274 231 := ho1 _ _ (by omega)
            have z2 : M1 274 229 = kPe K := hKR1.1
            have z3 : M1 274 140 = (tQ T).length := hRR1.2.2.2.1
            refine k_aload_n i_173_0 rfl ?_
            refine k_invV (n := 0) (o' := 8) (av := [vR (some 273)]) (rest := []) (el := [some (vR (some 273))]) i_173_1 o_173 rfl v_144 rfl (s_273) rfl rfl rfl rfl rfl ?_
            refine c_144 (fun v1 hv1 => ?_)
            show Ok _ 173 4 [some (vR (some 273)), some (vI k), some (vI w), none, none, none, none, none] [vI v1] (M1) _
            refine k_if_ne (t := 10) i_173_4 rfl (fun h4 => ?_) (fun h4 => ?_)
            · refine k_iload_n i_173_10 rfl ?_
              refine k_if_lt (t := 24) i_173_11 rfl (fun h11 => ?_) (fun h11 => ?_)
              · refine k_ldc (z := -1000001) i_173_24 o_173 rfl (by decide) ?_
                refine k_iret i_173_26 rfl ?_
                exfalso
                omega
              · refine k_iload_n i_173_14 rfl ?_
                refine k_i2l i_173_15 ?_
                refine k_lconst (z := 0) i_173_16 rfl ?_
                refine k_lconst (z := 1) i_173_17 rfl ?_
                refine k_invS (n := 3) (av := [vL w, vL 0, vL 1]) (rest := []) (el := [some (vL w), none, some (vL 0), none, some (vL 1), none]) i_173_18 o_173 rfl v_122 rfl rfl rfl rfl rfl rfl ?_
                refine c_122 (fun v18 hv18 => ?_)
                show Ok _ 173 21 [some (vR (some 273)), some (vI k), some (vI w), none, none, none, none, none] [vI v18] (M1) _
                refine k_if_ne (t := 27) i_173_21 rfl (fun h21 => ?_) (fun h21 => ?_)
                · refine k_iload_n i_173_27 rfl ?_
                  refine k_aload_n i_173_28 rfl ?_
                  refine k_getR (r := 274) i_173_29 o_173 rfl (by decide) (s_273) rfl ?_
                  refine k_sipush i_173_32 (by decide) ?_
                  refine k_iald i_173_35 (s_274) (by omega) ?_
                  refine k_icmp_lt (t := 42) i_173_36 rfl (fun h36 => ?_) (fun h36 => ?_)
                  · refine k_iconst i_173_42 (by decide) ?_
                    refine k_istore_n (ls' := [some (vR (some 273)), some (vI k), some (vI w), some (vI 0), none, none, none, none]) i_173_43 rfl ?_
                    refine k_iload_n i_173_44 rfl ?_
                    refine k_if_ne (t := 52) i_173_45 rfl (fun h45 => ?_) (fun h45 => ?_)
                    · refine k_sipush i_173_52 (by decide) ?_
                      refine k_istore (ls' := [some (vR (some 273)), some (vI k), some (vI w), some (vI 0), some (vI 2000), none, none, none]) i_173_55 rfl ?_
                      refine k_aload_n i_173_57 rfl ?_
                      refine k_invV (n := 0) (o' := 8) (av := [vR (some 273)]) (rest := []) (el := [some (vR (some 273)), none]) i_173_58 o_173 rfl v_165 rfl (s_273) rfl rfl rfl rfl rfl ?_
                      refine c_165 ?_
                      show Ok _ 173 61 [some (vR (some 273)), some (vI k), some (vI w), some (vI 0), some (vI 2000), none, none, none] [] (cpn M1 274 278 232) _
                      refine k_iconst i_173_61 (by decide) ?_
                      refine k_istore (ls' := [some (vR (some 273)), some (vI k), some (vI w), some (vI 0), some (vI 2000), some (vI 0), none, none]) i_173_62 rfl ?_
                      have hw1 := hwo.resolve_right (fun q => by omega)
                      first
                        | (exfalso; omega)
                        | (refine l_173 (M0 := M1) (p := vo) (lg := 0) hKo hKR1 hRR1 hT (by omega) (by omega) hw1.2.1 (by omega) (fun v2 M2 hv2 hw => ?_) 5 0 0 _ _ _ _ (by omega) (Or.inl ⟨rfl, rfl, by omega⟩) (Wk.st M1) (by omega)
                           refine ⟨_, rfl, ?_, h.scr (fun b j b0 b1 b2 b3 b4 => (hw.1 b j b1 b3 b4).trans (ho1 b j (by omega)))⟩
                           refine congrArg (fun z => some (vI z)) ?_
                           rw [hv2, hvA]
                           exact (bw_nv (f := fun w : Nat => lifeN K 200 (hearF T vo w)) (fun w => life_b K 200 _) _ 3).1.symm)
                    · refine k_iconst i_173_48 (by decide) ?_
                      refine k_goto (t := 55) i_173_49 rfl ?_
                      refine k_istore (ls' := [some (vR (some 273)), some (vI k), some (vI w), some (vI 0), some (vI (-1)), none, none, none]) i_173_55 rfl ?_
                      refine k_aload_n i_173_57 rfl ?_
                      refine k_invV (n := 0) (o' := 8) (av := [vR (some 273)]) (rest := []) (el := [some (vR (some 273)), none]) i_173_58 o_173 rfl v_165 rfl (s_273) rfl rfl rfl rfl rfl ?_
                      refine c_165 ?_
                      show Ok _ 173 61 [some (vR (some 273)), some (vI k), some (vI w), some (vI 0), some (vI (-1)), none, none, none] [] (cpn M1 274 278 232) _
                      refine k_iconst i_173_61 (by decide) ?_
                      refine k_istore (ls' := [some (vR (some 273)), some (vI k), some (vI w), some (vI 0), some (vI (-1)), some (vI 0), none, none]) i_173_62 rfl ?_
                      have hw1 := hwo.resolve_right (fun q => by omega)
                      first
                        | (exfalso; omega)
                        | (refine l_173 (M0 := M1) (p := vo) (lg := 1) hKo hKR1 hRR1 hT (by omega) (by omega) hw1.2.1 (by omega) (fun v2 M2 hv2 hw => ?_) 5 0 0 _ _ _ _ (by omega) (Or.inl ⟨rfl, rfl, by omega⟩) (Wk.st M1) (by omega)
                           refine ⟨_, rfl, ?_, h.scr (fun b j b0 b1 b2 b3 b4 => (hw.1 b j b1 b3 b4).trans (ho1 b j (by omega)))⟩
                           refine congrArg (fun z => some (vI z)) ?_
                           rw [hv2, hvA]
                           exact (bw_nv (f := fun w : Nat => lifeN K 200 (hearF T vo w)) (fun w => life_b K 200 _) _ 3).1.symm)
                  · refine k_ldc (z := -1000000) i_173_39 o_173 rfl (by decide) ?_
                    refine k_iret i_173_41 rfl ?_
                    exfalso
                    omega
                · refine k_ldc (z := -1000001) i_173_24 o_173 rfl (by decide) ?_
                  refine k_iret i_173_26 rfl ?_
                  exfalso
                  omega
            · refine k_ldc (z := -1000002) i_173_7 o_173 rfl (by decide) ?_
              refine k_iret i_173_9 rfl ?_
              exfalso
              omega
          · refine k_iconst i_102_54 (by decide) ?_
            refine k_goto (t := 59) i_102_55 rfl ?_
            refine k_invV (n := 2) (o' := 2) (av := [vR (some 177), vI vo, vI 1]) (rest := []) (el := [some (vR (some 177)), some (vI vo), some (vI 1), none, none, none, none]) i_102_59 o_102 rfl v_22 rfl (s_177) rfl rfl rfl rfl rfl ?_
            refine c_22 hKo hK hT hR (by omega) ((hwo.resolve_right (fun q => by omega)).2.2.1) (fun vA M1 hvA ho1 => ?_)
            show Ok _ 102 62 [some (vR (some 0)), some (vI k), some (vI w), some (vI vo)] [vI vA] (M1) _
            refine k_iret i_102_62 rfl ?_
            show Ok (d + 24) 173 0 [some (vR (some 273)), some (vI k), some (vI w), none, none, none, none, none] [] M1 _
            have hRR1 : RepR M1 K 0 T := hRR.off (fun j => ho1 274 j (by omega))
            have hKR1 : RepKR M1 K 0 := hKR.fr (fun j => ho1 274 j (by omega))
            have z1 : M1 274 231 = M 274 231 := ho1 _ _ (by omega)
            have z2 : M1 274 229 = kPe K := hKR1.1
            have z3 : M1 274 140 = (tQ T).length := hRR1.2.2.2.1
            refine k_aload_n i_173_0 rfl ?_
            refine k_invV (n := 0) (o' := 8) (av := [vR (some 273)]) (rest := []) (el := [some (vR (some 273))]) i_173_1 o_173 rfl v_144 rfl (s_273) rfl rfl rfl rfl rfl ?_
            refine c_144 (fun v1 hv1 => ?_)
            show Ok _ 173 4 [some (vR (some 273)), some (vI k), some (vI w), none, none, none, none, none] [vI v1] (M1) _
            refine k_if_ne (t := 10) i_173_4 rfl (fun h4 => ?_) (fun h4 => ?_)
            · refine k_iload_n i_173_10 rfl ?_
              refine k_if_lt (t := 24) i_173_11 rfl (fun h11 => ?_) (fun h11 => ?_)
              · refine k_ldc (z := -1000001) i_173_24 o_173 rfl (by decide) ?_
                refine k_iret i_173_26 rfl ?_
                exfalso
                omega
              · refine k_iload_n i_173_14 rfl ?_
                refine k_i2l i_173_15 ?_
                refine k_lconst (z := 0) i_173_16 rfl ?_
                refine k_lconst (z := 1) i_173_17 rfl ?_
                refine k_invS (n := 3) (av := [vL w, vL 0, vL 1]) (rest := []) (el := [some (vL w), none, some (vL 0), none, some (vL 1), none]) i_173_18 o_173 rfl v_122 rfl rfl rfl rfl rfl rfl ?_
                refine c_122 (fun v18 hv18 => ?_)
                show Ok _ 173 21 [some (vR (some 273)), some (vI k), some (vI w), none, none, none, none, none] [vI v18] (M1) _
                refine k_if_ne (t := 27) i_173_21 rfl (fun h21 => ?_) (fun h21 => ?_)
                · refine k_iload_n i_173_27 rfl ?_
                  refine k_aload_n i_173_28 rfl ?_
                  refine k_getR (r := 274) i_173_29 o_173 rfl (by decide) (s_273) rfl ?_
                  refine k_sipush i_173_32 (by decide) ?_
                  refine k_iald i_173_35 (s_274) (by omega) ?_
                  refine k_icmp_lt (t := 42) i_173_36 rfl (fun h36 => ?_) (fun h36 => ?_)
                  · refine k_iconst i_173_42 (by decide) ?_
                    refine k_istore_n (ls' := [some (vR (some 273)), some (vI k), some (vI w), some (vI 0), none, none, none, none]) i_173_43 rfl ?_
                    refine k_iload_n i_173_44 rfl ?_
                    refine k_if_ne (t := 52) i_173_45 rfl (fun h45 => ?_) (fun h45 => ?_)
                    · refine k_sipush i_173_52 (by decide) ?_
                      refine k_istore (ls' := [some (vR (some 273)), some (vI k), some (vI w), some (vI 0), some (vI 2000), none, none, none]) i_173_55 rfl ?_
                      refine k_aload_n i_173_57 rfl ?_
                      refine k_invV (n := 0) (o' := 8) (av := [vR (some 273)]) (rest := []) (el := [some (vR (some 273)), none]) i_173_58 o_173 rfl v_165 rfl (s_273) rfl rfl rfl rfl rfl ?_
                      refine c_165 ?_
                      show Ok _ 173 61 [some (vR (some 273)), some (vI k), some (vI w), some (vI 0), some (vI 2000), none, none, none] [] (cpn M1 274 278 232) _
                      refine k_iconst i_173_61 (by decide) ?_
                      refine k_istore (ls' := [some (vR (some 273)), some (vI k), some (vI w), some (vI 0), some (vI 2000), some (vI 0), none, none]) i_173_62 rfl ?_
                      have hw1 := hwo.resolve_right (fun q => by omega)
                      first
                        | (exfalso; omega)
                        | (refine l_173 (M0 := M1) (p := vo) (lg := 0) hKo hKR1 hRR1 hT (by omega) (by omega) hw1.2.1 (by omega) (fun v2 M2 hv2 hw => ?_) 5 0 0 _ _ _ _ (by omega) (Or.inl ⟨rfl, rfl, by omega⟩) (Wk.st M1) (by omega)
                           refine ⟨_, rfl, ?_, h.scr (fun b j b0 b1 b2 b3 b4 => (hw.1 b j b1 b3 b4).trans (ho1 b j (by omega)))⟩
                           refine congrArg (fun z => some (vI z)) ?_
                           rw [hv2, hvA]
                           exact (bw_nv (f := fun w : Nat => lifeN K 200 (hearF T vo w)) (fun w => life_b K 200 _) _ 3).1.symm)
                    · refine k_iconst i_173_48 (by decide) ?_
                      refine k_goto (t := 55) i_173_49 rfl ?_
                      refine k_istore (ls' := [some (vR (some 273)), some (vI k), some (vI w), some (vI 0), some (vI (-1)), none, none, none]) i_173_55 rfl ?_
                      refine k_aload_n i_173_57 rfl ?_
                      refine k_invV (n := 0) (o' := 8) (av := [vR (some 273)]) (rest := []) (el := [some (vR (some 273)), none]) i_173_58 o_173 rfl v_165 rfl (s_273) rfl rfl rfl rfl rfl ?_
                      refine c_165 ?_
                      show Ok _ 173 61 [some (vR (some 273)), some (vI k), some (vI w), some (vI 0), some (vI (-1)), none, none, none] [] (cpn M1 274 278 232) _
                      refine k_iconst i_173_61 (by decide) ?_
                      refine k_istore (ls' := [some (vR (some 273)), some (vI k), some (vI w), some (vI 0), some (vI (-1)), some (vI 0), none, none]) i_173_62 rfl ?_
                      have hw1 := hwo.resolve_right (fun q => by omega)
                      first
                        | (exfalso; omega)
                        | (refine l_173 (M0 := M1) (p := vo) (lg := 1) hKo hKR1 hRR1 hT (by omega) (by omega) hw1.2.1 (by omega) (fun v2 M2 hv2 hw => ?_) 5 0 0 _ _ _ _ (by omega) (Or.inl ⟨rfl, rfl, by omega⟩) (Wk.st M1) (by omega)
                           refine ⟨_, rfl, ?_, h.scr (fun b j b0 b1 b2 b3 b4 => (hw.1 b j b1 b3 b4).trans (ho1 b j (by omega)))⟩
                           refine congrArg (fun z => some (vI z)) ?_
                           rw [hv2, hvA]
                           exact (bw_nv (f := fun w : Nat => lifeN K 200 (hearF T vo w)) (fun w => life_b K 200 _) _ 3).1.symm)
                  · refine k_ldc (z := -1000000) i_173_39 o_173 rfl (by decide) ?_
                    refine k_iret i_173_41 rfl ?_
                    exfalso
                    omega
                · refine k_ldc (z := -1000001) i_173_24 o_173 rfl (by decide) ?_
                  refine k_iret i_173_26 rfl ?_
                  exfalso
                  omega
            · refine k_ldc (z := -1000002) i_173_7 o_173 rfl (by decide) ?_
              refine k_iret i_173_9 rfl ?_
              exfalso
              omega
        · refine k_ldc (z := -1000000) i_102_40 o_102 rfl (by decide) ?_
          refine k_goto (t := 62) i_102_42 rfl ?_
          refine k_iret i_102_62 rfl ?_
          show Ok (d + 24) 173 0 [some (vR (some 273)), some (vI k), some (vI w), none, none, none, none, none] [] M _
          refine k_aload_n i_173_0 rfl ?_
          refine k_invV (n := 0) (o' := 8) (av := [vR (some 273)]) (rest := []) (el := [some (vR (some 273))]) i_173_1 o_173 rfl v_144 rfl (s_273) rfl rfl rfl rfl rfl ?_
          refine c_144 (fun v1 hv1 => ?_)
          show Ok _ 173 4 [some (vR (some 273)), some (vI k), some (vI w), none, none, none, none, none] [vI v1] (M) _
          refine k_if_ne (t := 10) i_173_4 rfl (fun h4 => ?_) (fun h4 => ?_)
          · refine k_iload_n i_173_10 rfl ?_
            refine k_if_lt (t := 24) i_173_11 rfl (fun h11 => ?_) (fun h11 => ?_)
            · refine k_ldc (z := -1000001) i_173_24 o_173 rfl (by decide) ?_
              refine k_iret i_173_26 rfl ?_
              refine ⟨_, rfl, ?_, h⟩
              first
                | exact congrArg (fun z => some (vI z)) (by omega)
                | (exfalso; omega)
            · refine k_iload_n i_173_14 rfl ?_
              refine k_i2l i_173_15 ?_
              refine k_lconst (z := 0) i_173_16 rfl ?_
              refine k_lconst (z := 1) i_173_17 rfl ?_
              refine k_invS (n := 3) (av := [vL w, vL 0, vL 1]) (rest := []) (el := [some (vL w), none, some (vL 0), none, some (vL 1), none]) i_173_18 o_173 rfl v_122 rfl rfl rfl rfl rfl rfl ?_
              refine c_122 (fun v18 hv18 => ?_)
              show Ok _ 173 21 [some (vR (some 273)), some (vI k), some (vI w), none, none, none, none, none] [vI v18] (M) _
              refine k_if_ne (t := 27) i_173_21 rfl (fun h21 => ?_) (fun h21 => ?_)
              · refine k_iload_n i_173_27 rfl ?_
                refine k_aload_n i_173_28 rfl ?_
                refine k_getR (r := 274) i_173_29 o_173 rfl (by decide) (s_273) rfl ?_
                refine k_sipush i_173_32 (by decide) ?_
                refine k_iald i_173_35 (s_274) (by omega) ?_
                refine k_icmp_lt (t := 42) i_173_36 rfl (fun h36 => ?_) (fun h36 => ?_)
                · refine k_iconst i_173_42 (by decide) ?_
                  refine k_istore_n (ls' := [some (vR (some 273)), some (vI k), some (vI w), some (vI 0), none, none, none, none]) i_173_43 rfl ?_
                  refine k_iload_n i_173_44 rfl ?_
                  refine k_if_ne (t := 52) i_173_45 rfl (fun h45 => ?_) (fun h45 => ?_)
                  · refine k_sipush i_173_52 (by decide) ?_
                    refine k_istore (ls' := [some (vR (some 273)), some (vI k), some (vI w), some (vI 0), some (vI 2000), none, none, none]) i_173_55 rfl ?_
                    refine k_aload_n i_173_57 rfl ?_
                    refine k_invV (n := 0) (o' := 8) (av := [vR (some 273)]) (rest := []) (el := [some (vR (some 273)), none]) i_173_58 o_173 rfl v_165 rfl (s_273) rfl rfl rfl rfl rfl ?_
                    refine c_165 ?_
                    show Ok _ 173 61 [some (vR (some 273)), some (vI k), some (vI w), some (vI 0), some (vI 2000), none, none, none] [] (cpn M 274 278 232) _
                    refine k_iconst i_173_61 (by decide) ?_
                    refine k_istore (ls' := [some (vR (some 273)), some (vI k), some (vI w), some (vI 0), some (vI 2000), some (vI 0), none, none]) i_173_62 rfl ?_
                    exfalso
                    omega
                  · refine k_iconst i_173_48 (by decide) ?_
                    refine k_goto (t := 55) i_173_49 rfl ?_
                    refine k_istore (ls' := [some (vR (some 273)), some (vI k), some (vI w), some (vI 0), some (vI (-1)), none, none, none]) i_173_55 rfl ?_
                    refine k_aload_n i_173_57 rfl ?_
                    refine k_invV (n := 0) (o' := 8) (av := [vR (some 273)]) (rest := []) (el := [some (vR (some 273)), none]) i_173_58 o_173 rfl v_165 rfl (s_273) rfl rfl rfl rfl rfl ?_
                    refine c_165 ?_
                    show Ok _ 173 61 [some (vR (some 273)), some (vI k), some (vI w), some (vI 0), some (vI (-1)), none, none, none] [] (cpn M 274 278 232) _
                    refine k_iconst i_173_61 (by decide) ?_
                    refine k_istore (ls' := [some (vR (some 273)), some (vI k), some (vI w), some (vI 0), some (vI (-1)), some (vI 0), none, none]) i_173_62 rfl ?_
                    exfalso
                    omega
                · refine k_ldc (z := -1000000) i_173_39 o_173 rfl (by decide) ?_
                  refine k_iret i_173_41 rfl ?_
                  refine ⟨_, rfl, ?_, h⟩
                  first
                    | exact congrArg (fun z => some (vI z)) (by omega)
                    | (exfalso; omega)
              · refine k_ldc (z := -1000001) i_173_24 o_173 rfl (by decide) ?_
                refine k_iret i_173_26 rfl ?_
                refine ⟨_, rfl, ?_, h⟩
                first
                  | exact congrArg (fun z => some (vI z)) (by omega)
                  | (exfalso; omega)
          · refine k_ldc (z := -1000002) i_173_7 o_173 rfl (by decide) ?_
            refine k_iret i_173_9 rfl ?_
            refine ⟨_, rfl, ?_, h⟩
            first
              | exact congrArg (fun z => some (vI z)) (by omega)
              | (exfalso; omega)
      · refine k_ldc (z := -1000001) i_102_22 o_102 rfl (by decide) ?_
        refine k_iret i_102_24 rfl ?_
        show Ok (d + 24) 173 0 [some (vR (some 273)), some (vI k), some (vI w), none, none, none, none, none] [] M _
        refine k_aload_n i_173_0 rfl ?_
        refine k_invV (n := 0) (o' := 8) (av := [vR (some 273)]) (rest := []) (el := [some (vR (some 273))]) i_173_1 o_173 rfl v_144 rfl (s_273) rfl rfl rfl rfl rfl ?_
        refine c_144 (fun v1 hv1 => ?_)
        show Ok _ 173 4 [some (vR (some 273)), some (vI k), some (vI w), none, none, none, none, none] [vI v1] (M) _
        refine k_if_ne (t := 10) i_173_4 rfl (fun h4 => ?_) (fun h4 => ?_)
        · refine k_iload_n i_173_10 rfl ?_
          refine k_if_lt (t := 24) i_173_11 rfl (fun h11 => ?_) (fun h11 => ?_)
          · refine k_ldc (z := -1000001) i_173_24 o_173 rfl (by decide) ?_
            refine k_iret i_173_26 rfl ?_
            refine ⟨_, rfl, ?_, h⟩
            first
              | exact congrArg (fun z => some (vI z)) (by omega)
              | (exfalso; omega)
          · refine k_iload_n i_173_14 rfl ?_
            refine k_i2l i_173_15 ?_
            refine k_lconst (z := 0) i_173_16 rfl ?_
            refine k_lconst (z := 1) i_173_17 rfl ?_
            refine k_invS (n := 3) (av := [vL w, vL 0, vL 1]) (rest := []) (el := [some (vL w), none, some (vL 0), none, some (vL 1), none]) i_173_18 o_173 rfl v_122 rfl rfl rfl rfl rfl rfl ?_
            refine c_122 (fun v18 hv18 => ?_)
            show Ok _ 173 21 [some (vR (some 273)), some (vI k), some (vI w), none, none, none, none, none] [vI v18] (M) _
            refine k_if_ne (t := 27) i_173_21 rfl (fun h21 => ?_) (fun h21 => ?_)
            · refine k_iload_n i_173_27 rfl ?_
              refine k_aload_n i_173_28 rfl ?_
              refine k_getR (r := 274) i_173_29 o_173 rfl (by decide) (s_273) rfl ?_
              refine k_sipush i_173_32 (by decide) ?_
              refine k_iald i_173_35 (s_274) (by omega) ?_
              refine k_icmp_lt (t := 42) i_173_36 rfl (fun h36 => ?_) (fun h36 => ?_)
              · refine k_iconst i_173_42 (by decide) ?_
                refine k_istore_n (ls' := [some (vR (some 273)), some (vI k), some (vI w), some (vI 0), none, none, none, none]) i_173_43 rfl ?_
                refine k_iload_n i_173_44 rfl ?_
                refine k_if_ne (t := 52) i_173_45 rfl (fun h45 => ?_) (fun h45 => ?_)
                · refine k_sipush i_173_52 (by decide) ?_
                  refine k_istore (ls' := [some (vR (some 273)), some (vI k), some (vI w), some (vI 0), some (vI 2000), none, none, none]) i_173_55 rfl ?_
                  refine k_aload_n i_173_57 rfl ?_
                  refine k_invV (n := 0) (o' := 8) (av := [vR (some 273)]) (rest := []) (el := [some (vR (some 273)), none]) i_173_58 o_173 rfl v_165 rfl (s_273) rfl rfl rfl rfl rfl ?_
                  refine c_165 ?_
                  show Ok _ 173 61 [some (vR (some 273)), some (vI k), some (vI w), some (vI 0), some (vI 2000), none, none, none] [] (cpn M 274 278 232) _
                  refine k_iconst i_173_61 (by decide) ?_
                  refine k_istore (ls' := [some (vR (some 273)), some (vI k), some (vI w), some (vI 0), some (vI 2000), some (vI 0), none, none]) i_173_62 rfl ?_
                  exfalso
                  omega
                · refine k_iconst i_173_48 (by decide) ?_
                  refine k_goto (t := 55) i_173_49 rfl ?_
                  refine k_istore (ls' := [some (vR (some 273)), some (vI k), some (vI w), some (vI 0), some (vI (-1)), none, none, none]) i_173_55 rfl ?_
                  refine k_aload_n i_173_57 rfl ?_
                  refine k_invV (n := 0) (o' := 8) (av := [vR (some 273)]) (rest := []) (el := [some (vR (some 273)), none]) i_173_58 o_173 rfl v_165 rfl (s_273) rfl rfl rfl rfl rfl ?_
                  refine c_165 ?_
                  show Ok _ 173 61 [some (vR (some 273)), some (vI k), some (vI w), some (vI 0), some (vI (-1)), none, none, none] [] (cpn M 274 278 232) _
                  refine k_iconst i_173_61 (by decide) ?_
                  refine k_istore (ls' := [some (vR (some 273)), some (vI k), some (vI w), some (vI 0), some (vI (-1)), some (vI 0), none, none]) i_173_62 rfl ?_
                  exfalso
                  omega
              · refine k_ldc (z := -1000000) i_173_39 o_173 rfl (by decide) ?_
                refine k_iret i_173_41 rfl ?_
                refine ⟨_, rfl, ?_, h⟩
                first
                  | exact congrArg (fun z => some (vI z)) (by omega)
                  | (exfalso; omega)
            · refine k_ldc (z := -1000001) i_173_24 o_173 rfl (by decide) ?_
              refine k_iret i_173_26 rfl ?_
              refine ⟨_, rfl, ?_, h⟩
              first
                | exact congrArg (fun z => some (vI z)) (by omega)
                | (exfalso; omega)
        · refine k_ldc (z := -1000002) i_173_7 o_173 rfl (by decide) ?_
          refine k_iret i_173_9 rfl ?_
          refine ⟨_, rfl, ?_, h⟩
          first
            | exact congrArg (fun z => some (vI z)) (by omega)
            | (exfalso; omega)
  · refine k_ldc (z := -1000002) i_102_7 o_102 rfl (by decide) ?_
    refine k_iret i_102_9 rfl ?_
    show Ok (d + 24) 173 0 [some (vR (some 273)), some (vI k), some (vI w), none, none, none, none, none] [] M _
    refine k_aload_n i_173_0 rfl ?_
    refine k_invV (n := 0) (o' := 8) (av := [vR (some 273)]) (rest := []) (el := [some (vR (some 273))]) i_173_1 o_173 rfl v_144 rfl (s_273) rfl rfl rfl rfl rfl ?_
    refine c_144 (fun v1 hv1 => ?_)
    show Ok _ 173 4 [some (vR (some 273)), some (vI k), some (vI w), none, none, none, none, none] [vI v1] (M) _
    refine k_if_ne (t := 10) i_173_4 rfl (fun h4 => ?_) (fun h4 => ?_)
    · refine k_iload_n i_173_10 rfl ?_
      refine k_if_lt (t := 24) i_173_11 rfl (fun h11 => ?_) (fun h11 => ?_)
      · refine k_ldc (z := -1000001) i_173_24 o_173 rfl (by decide) ?_
        refine k_iret i_173_26 rfl ?_
        refine ⟨_, rfl, ?_, h⟩
        first
          | exact congrArg (fun z => some (vI z)) (by omega)
          | (exfalso; omega)
      · refine k_iload_n i_173_14 rfl ?_
        refine k_i2l i_173_15 ?_
        refine k_lconst (z := 0) i_173_16 rfl ?_
        refine k_lconst (z := 1) i_173_17 rfl ?_
        refine k_invS (n := 3) (av := [vL w, vL 0, vL 1]) (rest := []) (el := [some (vL w), none, some (vL 0), none, some (vL 1), none]) i_173_18 o_173 rfl v_122 rfl rfl rfl rfl rfl rfl ?_
        refine c_122 (fun v18 hv18 => ?_)
        show Ok _ 173 21 [some (vR (some 273)), some (vI k), some (vI w), none, none, none, none, none] [vI v18] (M) _
        refine k_if_ne (t := 27) i_173_21 rfl (fun h21 => ?_) (fun h21 => ?_)
        · refine k_iload_n i_173_27 rfl ?_
          refine k_aload_n i_173_28 rfl ?_
          refine k_getR (r := 274) i_173_29 o_173 rfl (by decide) (s_273) rfl ?_
          refine k_sipush i_173_32 (by decide) ?_
          refine k_iald i_173_35 (s_274) (by omega) ?_
          refine k_icmp_lt (t := 42) i_173_36 rfl (fun h36 => ?_) (fun h36 => ?_)
          · refine k_iconst i_173_42 (by decide) ?_
            refine k_istore_n (ls' := [some (vR (some 273)), some (vI k), some (vI w), some (vI 0), none, none, none, none]) i_173_43 rfl ?_
            refine k_iload_n i_173_44 rfl ?_
            refine k_if_ne (t := 52) i_173_45 rfl (fun h45 => ?_) (fun h45 => ?_)
            · refine k_sipush i_173_52 (by decide) ?_
              refine k_istore (ls' := [some (vR (some 273)), some (vI k), some (vI w), some (vI 0), some (vI 2000), none, none, none]) i_173_55 rfl ?_
              refine k_aload_n i_173_57 rfl ?_
              refine k_invV (n := 0) (o' := 8) (av := [vR (some 273)]) (rest := []) (el := [some (vR (some 273)), none]) i_173_58 o_173 rfl v_165 rfl (s_273) rfl rfl rfl rfl rfl ?_
              refine c_165 ?_
              show Ok _ 173 61 [some (vR (some 273)), some (vI k), some (vI w), some (vI 0), some (vI 2000), none, none, none] [] (cpn M 274 278 232) _
              refine k_iconst i_173_61 (by decide) ?_
              refine k_istore (ls' := [some (vR (some 273)), some (vI k), some (vI w), some (vI 0), some (vI 2000), some (vI 0), none, none]) i_173_62 rfl ?_
              exfalso
              omega
            · refine k_iconst i_173_48 (by decide) ?_
              refine k_goto (t := 55) i_173_49 rfl ?_
              refine k_istore (ls' := [some (vR (some 273)), some (vI k), some (vI w), some (vI 0), some (vI (-1)), none, none, none]) i_173_55 rfl ?_
              refine k_aload_n i_173_57 rfl ?_
              refine k_invV (n := 0) (o' := 8) (av := [vR (some 273)]) (rest := []) (el := [some (vR (some 273)), none]) i_173_58 o_173 rfl v_165 rfl (s_273) rfl rfl rfl rfl rfl ?_
              refine c_165 ?_
              show Ok _ 173 61 [some (vR (some 273)), some (vI k), some (vI w), some (vI 0), some (vI (-1)), none, none, none] [] (cpn M 274 278 232) _
              refine k_iconst i_173_61 (by decide) ?_
              refine k_istore (ls' := [some (vR (some 273)), some (vI k), some (vI w), some (vI 0), some (vI (-1)), some (vI 0), none, none]) i_173_62 rfl ?_
              exfalso
              omega
          · refine k_ldc (z := -1000000) i_173_39 o_173 rfl (by decide) ?_
            refine k_iret i_173_41 rfl ?_
            refine ⟨_, rfl, ?_, h⟩
            first
              | exact congrArg (fun z => some (vI z)) (by omega)
              | (exfalso; omega)
        · refine k_ldc (z := -1000001) i_173_24 o_173 rfl (by decide) ?_
          refine k_iret i_173_26 rfl ?_
          refine ⟨_, rfl, ?_, h⟩
          first
            | exact congrArg (fun z => some (vI z)) (by omega)
            | (exfalso; omega)
    · refine k_ldc (z := -1000002) i_173_7 o_173 rfl (by decide) ?_
      refine k_iret i_173_9 rfl ?_
      refine ⟨_, rfl, ?_, h⟩
      first
        | exact congrArg (fun z => some (vI z)) (by omega)
        | (exfalso; omega)
