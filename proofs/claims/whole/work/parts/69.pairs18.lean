set_option maxRecDepth 100000 in
theorem tp_as {d : Nat} {M : Mem} {i o : Int} (h : Rel M)  : Two (d + 24) 112 191 [some (vR (some 0)), some (vI i), some (vI o)] [some (vR (some 273)), some (vI i), some (vI o), none] M := by
  obtain ⟨K, T, L, hW⟩ := h.2.2.2.2.1
  obtain ⟨hE, hKo, hS, hK12, hR, hKR, hRR, hA, hAR, hL, hti⟩ := id hW
  have hT := hS.1
  have hK : RepK M 20 K 0 := hK12.mono (by decide)
  have g0 := hKo.1
  have u3 := hT.2.2.1
  have mi9 := hS.2.2
  have k1 : M 20 7 = kPe K := hK.1
  have k2 : M 20 6 = kWt K := hK.2.1
  have q1 : M 274 229 = kPe K := hKR.1
  have q2 : M 274 230 = kPe K - kWt K := hKR.2.1
  obtain ⟨x6, x7, x8, x9, x10, xq, xp⟩ := id hR
  obtain ⟨y6, y7, y8, y9, y10, yq, yp⟩ := id hRR
  have hl28 := q28 hKo hT
  have hl16 : ((tQ T).length : Int) ≤ 16 := by omega
  show Ok (d + 24) 112 0 [some (vR (some 0)), some (vI i), some (vI o)] [] M _
  refine k_aload_n i_112_0 rfl ?_
  refine k_iload_n i_112_1 rfl ?_
  refine k_invV (n := 1) (o' := 7) (av := [vR (some 0), vI i]) (rest := []) (el := [some (vR (some 0)), some (vI i)]) i_112_2 o_112 rfl v_118 rfl (s_0) rfl rfl rfl rfl rfl ?_
  refine c_118 (fun v2 hv2 => ?_)
  show Ok _ 112 5 [some (vR (some 0)), some (vI i), some (vI o)] [vI v2] (M) _
  refine k_if_eq (t := 16) i_112_5 rfl (fun h5 => ?_) (fun h5 => ?_)
  · refine k_ldc (z := -1000001) i_112_16 o_112 rfl (by decide) ?_
    refine k_iret i_112_18 rfl ?_
    show Ok (d + 24) 191 0 [some (vR (some 273)), some (vI i), some (vI o), none] [] M _
    refine k_aload_n i_191_0 rfl ?_
    refine k_iload_n i_191_1 rfl ?_
    refine k_invV (n := 1) (o' := 8) (av := [vR (some 273), vI i]) (rest := []) (el := [some (vR (some 273)), some (vI i)]) i_191_2 o_191 rfl v_143 rfl (s_273) rfl rfl rfl rfl rfl ?_
    refine c_143 (by omega) (fun v2 hv2 => ?_)
    show Ok _ 191 5 [some (vR (some 273)), some (vI i), some (vI o), none] [vI v2] (M) _
    refine k_if_eq (t := 20) i_191_5 rfl (fun h5 => ?_) (fun h5 => ?_)
    · refine k_ldc (z := -1000001) i_191_20 o_191 rfl (by decide) ?_
      refine k_iret i_191_22 rfl ?_
      refine ⟨_, rfl, ?_, h⟩
      first
        | exact congrArg (fun z => some (vI z)) (by omega)
        | (exfalso; omega)
    · refine k_iload_n i_191_8 rfl ?_
      refine k_i2l i_191_9 ?_
      refine k_lconst (z := 0) i_191_10 rfl ?_
      refine k_ldc2 (z := 5) i_191_11 o_191 rfl (by decide) ?_
      refine k_invS (n := 3) (av := [vL o, vL 0, vL 5]) (rest := []) (el := [some (vL o), none, some (vL 0), none, some (vL 5), none]) i_191_14 o_191 rfl v_122 rfl rfl rfl rfl rfl rfl ?_
      refine c_122 (fun v14 hv14 => ?_)
      show Ok _ 191 17 [some (vR (some 273)), some (vI i), some (vI o), none] [vI v14] (M) _
      refine k_if_ne (t := 23) i_191_17 rfl (fun h17 => ?_) (fun h17 => ?_)
      · refine k_aload_n i_191_23 rfl ?_
        refine k_getR (r := 274) i_191_24 o_191 rfl (by decide) (s_273) rfl ?_
        refine k_sipush i_191_27 (by decide) ?_
        refine k_iload_n i_191_30 rfl ?_
        refine k_iadd i_191_31 (by omega) ?_
        refine k_iald i_191_32 (s_274) (by omega) ?_
        refine k_istore_n (ls' := [some (vR (some 273)), some (vI i), some (vI o), some (vI (M 274 (145 + i)))]) i_191_33 rfl ?_
        exfalso
        omega
      · refine k_ldc (z := -1000001) i_191_20 o_191 rfl (by decide) ?_
        refine k_iret i_191_22 rfl ?_
        refine ⟨_, rfl, ?_, h⟩
        first
          | exact congrArg (fun z => some (vI z)) (by omega)
          | (exfalso; omega)
  · refine k_iload_n i_112_8 rfl ?_
    refine k_iconst i_112_9 (by decide) ?_
    refine k_invS (n := 2) (av := [vI o, vI 5]) (rest := []) (el := [some (vI o), some (vI 5)]) i_112_10 o_112 rfl v_117 rfl rfl rfl rfl rfl rfl ?_
    refine c_117 (fun v10 hv10 => ?_)
    show Ok _ 112 13 [some (vR (some 0)), some (vI i), some (vI o)] [vI v10] (M) _
    refine k_if_ne (t := 19) i_112_13 rfl (fun h13 => ?_) (fun h13 => ?_)
    · refine k_aload_n i_112_19 rfl ?_
      refine k_getR (r := 20) i_112_20 o_112 rfl (by decide) (s_0) rfl ?_
      refine k_getR (r := 21) i_112_23 o_112 rfl (by decide) (s_20) rfl ?_
      refine k_iload_n i_112_26 rfl ?_
      refine k_iald i_112_27 (s_21) (by omega) ?_
      have e21 : M 21 i = kKd K i := (hK.2.2 i (Or.inl (by omega))).1
      have ekd := hKo.2 i (Or.inl (by omega))
      refine k_iload_n i_112_28 rfl ?_
      refine k_invS (n := 2) (av := [vI (M 21 i), vI o]) (rest := []) (el := [some (vI (M 21 i)), some (vI o), none, none]) i_112_29 o_112 rfl v_6 rfl rfl rfl rfl rfl rfl ?_
      refine c_6 (by omega) (by omega) (fun va hva => ?_)
      show Ok _ 112 32 [some (vR (some 0)), some (vI i), some (vI o)] [vI va] (M) _
      refine k_if_eq (t := 43) i_112_32 rfl (fun h32 => ?_) (fun h32 => ?_)
      · refine k_aload_n i_112_43 rfl ?_
        refine k_iconst i_112_44 (by decide) ?_
        refine k_invV (n := 1) (o' := 7) (av := [vR (some 0), vI 3]) (rest := []) (el := [some (vR (some 0)), some (vI 3)]) i_112_45 o_112 rfl v_119 rfl (s_0) rfl rfl rfl rfl rfl ?_
        refine c_119 (by omega) ?_
        show Ok _ 112 48 [some (vR (some 0)), some (vI i), some (vI o)] [vI (-1000010 - 3)] (mu M 0 13 3) _
        refine k_iret i_112_48 rfl ?_
        show Ok (d + 24) 191 0 [some (vR (some 273)), some (vI i), some (vI o), none] [] (mu M 0 13 3) _
        obtain ⟨N, hN⟩ : ∃ N : Mem, N = mu M 0 13 3 := ⟨_, rfl⟩
        rw [← hN]
        have z2 : N 274 229 = M 274 229 := by rw [hN, mu_ne (by decide)]
        refine k_aload_n i_191_0 rfl ?_
        refine k_iload_n i_191_1 rfl ?_
        refine k_invV (n := 1) (o' := 8) (av := [vR (some 273), vI i]) (rest := []) (el := [some (vR (some 273)), some (vI i)]) i_191_2 o_191 rfl v_143 rfl (s_273) rfl rfl rfl rfl rfl ?_
        refine c_143 (by omega) (fun v2 hv2 => ?_)
        show Ok _ 191 5 [some (vR (some 273)), some (vI i), some (vI o), none] [vI v2] (N) _
        refine k_if_eq (t := 20) i_191_5 rfl (fun h5 => ?_) (fun h5 => ?_)
        · refine k_ldc (z := -1000001) i_191_20 o_191 rfl (by decide) ?_
          refine k_iret i_191_22 rfl ?_
          exfalso
          omega
        · refine k_iload_n i_191_8 rfl ?_
          refine k_i2l i_191_9 ?_
          refine k_lconst (z := 0) i_191_10 rfl ?_
          refine k_ldc2 (z := 5) i_191_11 o_191 rfl (by decide) ?_
          refine k_invS (n := 3) (av := [vL o, vL 0, vL 5]) (rest := []) (el := [some (vL o), none, some (vL 0), none, some (vL 5), none]) i_191_14 o_191 rfl v_122 rfl rfl rfl rfl rfl rfl ?_
          refine c_122 (fun v14 hv14 => ?_)
          show Ok _ 191 17 [some (vR (some 273)), some (vI i), some (vI o), none] [vI v14] (N) _
          refine k_if_ne (t := 23) i_191_17 rfl (fun h17 => ?_) (fun h17 => ?_)
          · refine k_aload_n i_191_23 rfl ?_
            refine k_getR (r := 274) i_191_24 o_191 rfl (by decide) (s_273) rfl ?_
            refine k_sipush i_191_27 (by decide) ?_
            refine k_iload_n i_191_30 rfl ?_
            refine k_iadd i_191_31 (by omega) ?_
            refine k_iald i_191_32 (s_274) (by omega) ?_
            refine k_istore_n (ls' := [some (vR (some 273)), some (vI i), some (vI o), some (vI (N 274 (145 + i)))]) i_191_33 rfl ?_
            have e74 : N 274 (145 + i) = kKd K i := by
              rw [hN, mu_ne (by decide)]
              exact (hKR.2.2 i (Or.inl (by omega))).1
            rw [e74]
            rw [e21] at hva
            rcases (show kKd K i = 1 ∨ kKd K i = 2 ∨ kKd K i = 3 ∨ kKd K i = 4 ∨ kKd K i = 5 by omega) with q | q | q | q | q
            · rw [q] at hva ⊢
              refine l_191_1 (d := d + 23) (by omega) (fun k1 => ?_) (fun k2 => ?_)
              · first
                  | (exfalso; rcases hva with z | z <;> first | omega | exact z.2 k1)
                  | exact ⟨_, rfl, rfl, by rw [hN]; exact h.st2 0⟩
              · first
                  | (exfalso; rcases hva with z | z <;> first | omega | exact k2 z.2)
                  | exact ⟨_, rfl, rfl, by rw [hN]; exact h.st2 3⟩
            · rw [q] at hva ⊢
              refine l_191_2 (d := d + 23) (by omega) (fun k1 => ?_) (fun k2 => ?_)
              · first
                  | (exfalso; rcases hva with z | z <;> first | omega | exact z.2 k1)
                  | exact ⟨_, rfl, rfl, by rw [hN]; exact h.st2 0⟩
              · first
                  | (exfalso; rcases hva with z | z <;> first | omega | exact k2 z.2)
                  | exact ⟨_, rfl, rfl, by rw [hN]; exact h.st2 3⟩
            · rw [q] at hva ⊢
              refine l_191_3 (d := d + 23) (by omega) (fun k1 => ?_) (fun k2 => ?_)
              · first
                  | (exfalso; rcases hva with z | z <;> first | omega | exact z.2 k1)
                  | exact ⟨_, rfl, rfl, by rw [hN]; exact h.st2 0⟩
              · first
                  | (exfalso; rcases hva with z | z <;> first | omega | exact k2 z.2)
                  | exact ⟨_, rfl, rfl, by rw [hN]; exact h.st2 3⟩
            · rw [q] at hva ⊢
              refine l_191_4 (d := d + 23) (by omega) (fun k1 => ?_) (fun k2 => ?_)
              · first
                  | (exfalso; rcases hva with z | z <;> first | omega | exact z.2 k1)
                  | exact ⟨_, rfl, rfl, by rw [hN]; exact h.st2 0⟩
              · first
                  | (exfalso; rcases hva with z | z <;> first | omega | exact k2 z.2)
                  | exact ⟨_, rfl, rfl, by rw [hN]; exact h.st2 3⟩
            · rw [q] at hva ⊢
              refine l_191_5 (d := d + 23) (by omega) (fun k1 => ?_) (fun k2 => ?_)
              · first
                  | (exfalso; rcases hva with z | z <;> first | omega | exact z.2 k1)
                  | exact ⟨_, rfl, rfl, by rw [hN]; exact h.st2 0⟩
              · first
                  | (exfalso; rcases hva with z | z <;> first | omega | exact k2 z.2)
                  | exact ⟨_, rfl, rfl, by rw [hN]; exact h.st2 3⟩
          · refine k_ldc (z := -1000001) i_191_20 o_191 rfl (by decide) ?_
            refine k_iret i_191_22 rfl ?_
            exfalso
            omega
      · refine k_aload_n i_112_35 rfl ?_
        refine k_iload_n i_112_36 rfl ?_
        refine k_invV (n := 1) (o' := 7) (av := [vR (some 0), vI i]) (rest := []) (el := [some (vR (some 0)), some (vI i)]) i_112_37 o_112 rfl v_120 rfl (s_0) rfl rfl rfl rfl rfl ?_
        refine c_120 ?_
        show Ok _ 112 40 [some (vR (some 0)), some (vI i), some (vI o)] [vI i] (mu M 0 13 0) _
        refine k_goto (t := 48) i_112_40 rfl ?_
        refine k_iret i_112_48 rfl ?_
        show Ok (d + 24) 191 0 [some (vR (some 273)), some (vI i), some (vI o), none] [] (mu M 0 13 0) _
        obtain ⟨N, hN⟩ : ∃ N : Mem, N = mu M 0 13 0 := ⟨_, rfl⟩
        rw [← hN]
        have z2 : N 274 229 = M 274 229 := by rw [hN, mu_ne (by decide)]
        refine k_aload_n i_191_0 rfl ?_
        refine k_iload_n i_191_1 rfl ?_
        refine k_invV (n := 1) (o' := 8) (av := [vR (some 273), vI i]) (rest := []) (el := [some (vR (some 273)), some (vI i)]) i_191_2 o_191 rfl v_143 rfl (s_273) rfl rfl rfl rfl rfl ?_
        refine c_143 (by omega) (fun v2 hv2 => ?_)
        show Ok _ 191 5 [some (vR (some 273)), some (vI i), some (vI o), none] [vI v2] (N) _
        refine k_if_eq (t := 20) i_191_5 rfl (fun h5 => ?_) (fun h5 => ?_)
        · refine k_ldc (z := -1000001) i_191_20 o_191 rfl (by decide) ?_
          refine k_iret i_191_22 rfl ?_
          exfalso
          omega
        · refine k_iload_n i_191_8 rfl ?_
          refine k_i2l i_191_9 ?_
          refine k_lconst (z := 0) i_191_10 rfl ?_
          refine k_ldc2 (z := 5) i_191_11 o_191 rfl (by decide) ?_
          refine k_invS (n := 3) (av := [vL o, vL 0, vL 5]) (rest := []) (el := [some (vL o), none, some (vL 0), none, some (vL 5), none]) i_191_14 o_191 rfl v_122 rfl rfl rfl rfl rfl rfl ?_
          refine c_122 (fun v14 hv14 => ?_)
          show Ok _ 191 17 [some (vR (some 273)), some (vI i), some (vI o), none] [vI v14] (N) _
          refine k_if_ne (t := 23) i_191_17 rfl (fun h17 => ?_) (fun h17 => ?_)
          · refine k_aload_n i_191_23 rfl ?_
            refine k_getR (r := 274) i_191_24 o_191 rfl (by decide) (s_273) rfl ?_
            refine k_sipush i_191_27 (by decide) ?_
            refine k_iload_n i_191_30 rfl ?_
            refine k_iadd i_191_31 (by omega) ?_
            refine k_iald i_191_32 (s_274) (by omega) ?_
            refine k_istore_n (ls' := [some (vR (some 273)), some (vI i), some (vI o), some (vI (N 274 (145 + i)))]) i_191_33 rfl ?_
            have e74 : N 274 (145 + i) = kKd K i := by
              rw [hN, mu_ne (by decide)]
              exact (hKR.2.2 i (Or.inl (by omega))).1
            rw [e74]
            rw [e21] at hva
            rcases (show kKd K i = 1 ∨ kKd K i = 2 ∨ kKd K i = 3 ∨ kKd K i = 4 ∨ kKd K i = 5 by omega) with q | q | q | q | q
            · rw [q] at hva ⊢
              refine l_191_1 (d := d + 23) (by omega) (fun k1 => ?_) (fun k2 => ?_)
              · first
                  | (exfalso; rcases hva with z | z <;> first | omega | exact z.2 k1)
                  | exact ⟨_, rfl, rfl, by rw [hN]; exact h.st2 0⟩
              · first
                  | (exfalso; rcases hva with z | z <;> first | omega | exact k2 z.2)
                  | exact ⟨_, rfl, rfl, by rw [hN]; exact h.st2 3⟩
            · rw [q] at hva ⊢
              refine l_191_2 (d := d + 23) (by omega) (fun k1 => ?_) (fun k2 => ?_)
              · first
                  | (exfalso; rcases hva with z | z <;> first | omega | exact z.2 k1)
                  | exact ⟨_, rfl, rfl, by rw [hN]; exact h.st2 0⟩
              · first
                  | (exfalso; rcases hva with z | z <;> first | omega | exact k2 z.2)
                  | exact ⟨_, rfl, rfl, by rw [hN]; exact h.st2 3⟩
            · rw [q] at hva ⊢
              refine l_191_3 (d := d + 23) (by omega) (fun k1 => ?_) (fun k2 => ?_)
              · first
                  | (exfalso; rcases hva with z | z <;> first | omega | exact z.2 k1)
                  | exact ⟨_, rfl, rfl, by rw [hN]; exact h.st2 0⟩
              · first
                  | (exfalso; rcases hva with z | z <;> first | omega | exact k2 z.2)
                  | exact ⟨_, rfl, rfl, by rw [hN]; exact h.st2 3⟩
            · rw [q] at hva ⊢
              refine l_191_4 (d := d + 23) (by omega) (fun k1 => ?_) (fun k2 => ?_)
              · first
                  | (exfalso; rcases hva with z | z <;> first | omega | exact z.2 k1)
                  | exact ⟨_, rfl, rfl, by rw [hN]; exact h.st2 0⟩
              · first
                  | (exfalso; rcases hva with z | z <;> first | omega | exact k2 z.2)
                  | exact ⟨_, rfl, rfl, by rw [hN]; exact h.st2 3⟩
            · rw [q] at hva ⊢
              refine l_191_5 (d := d + 23) (by omega) (fun k1 => ?_) (fun k2 => ?_)
              · first
                  | (exfalso; rcases hva with z | z <;> first | omega | exact z.2 k1)
                  | exact ⟨_, rfl, rfl, by rw [hN]; exact h.st2 0⟩
              · first
                  | (exfalso; rcases hva with z | z <;> first | omega | exact k2 z.2)
                  | exact ⟨_, rfl, rfl, by rw [hN]; exact h.st2 3⟩
          · refine k_ldc (z := -1000001) i_191_20 o_191 rfl (by decide) ?_
            refine k_iret i_191_22 rfl ?_
            exfalso
            omega
    · refine k_ldc (z := -1000001) i_112_16 o_112 rfl (by decide) ?_
      refine k_iret i_112_18 rfl ?_
      show Ok (d + 24) 191 0 [some (vR (some 273)), some (vI i), some (vI o), none] [] M _
      refine k_aload_n i_191_0 rfl ?_
      refine k_iload_n i_191_1 rfl ?_
      refine k_invV (n := 1) (o' := 8) (av := [vR (some 273), vI i]) (rest := []) (el := [some (vR (some 273)), some (vI i)]) i_191_2 o_191 rfl v_143 rfl (s_273) rfl rfl rfl rfl rfl ?_
      refine c_143 (by omega) (fun v2 hv2 => ?_)
      show Ok _ 191 5 [some (vR (some 273)), some (vI i), some (vI o), none] [vI v2] (M) _
      refine k_if_eq (t := 20) i_191_5 rfl (fun h5 => ?_) (fun h5 => ?_)
      · refine k_ldc (z := -1000001) i_191_20 o_191 rfl (by decide) ?_
        refine k_iret i_191_22 rfl ?_
        refine ⟨_, rfl, ?_, h⟩
        first
          | exact congrArg (fun z => some (vI z)) (by omega)
          | (exfalso; omega)
      · refine k_iload_n i_191_8 rfl ?_
        refine k_i2l i_191_9 ?_
        refine k_lconst (z := 0) i_191_10 rfl ?_
        refine k_ldc2 (z := 5) i_191_11 o_191 rfl (by decide) ?_
        refine k_invS (n := 3) (av := [vL o, vL 0, vL 5]) (rest := []) (el := [some (vL o), none, some (vL 0), none, some (vL 5), none]) i_191_14 o_191 rfl v_122 rfl rfl rfl rfl rfl rfl ?_
        refine c_122 (fun v14 hv14 => ?_)
        show Ok _ 191 17 [some (vR (some 273)), some (vI i), some (vI o), none] [vI v14] (M) _
        refine k_if_ne (t := 23) i_191_17 rfl (fun h17 => ?_) (fun h17 => ?_)
        · refine k_aload_n i_191_23 rfl ?_
          refine k_getR (r := 274) i_191_24 o_191 rfl (by decide) (s_273) rfl ?_
          refine k_sipush i_191_27 (by decide) ?_
          refine k_iload_n i_191_30 rfl ?_
          refine k_iadd i_191_31 (by omega) ?_
          refine k_iald i_191_32 (s_274) (by omega) ?_
          refine k_istore_n (ls' := [some (vR (some 273)), some (vI i), some (vI o), some (vI (M 274 (145 + i)))]) i_191_33 rfl ?_
          exfalso
          omega
        · refine k_ldc (z := -1000001) i_191_20 o_191 rfl (by decide) ?_
          refine k_iret i_191_22 rfl ?_
          refine ⟨_, rfl, ?_, h⟩
          first
            | exact congrArg (fun z => some (vI z)) (by omega)
            | (exfalso; omega)
