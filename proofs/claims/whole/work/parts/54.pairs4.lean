set_option maxRecDepth 100000 in
theorem tp_fault {d : Nat} {M : Mem}  (h : Rel M)  : Two (d + 24) 91 141 [some (vR (some 0))] [some (vR (some 273))] M := by
  obtain ⟨K, T, L, hW⟩ := h.2.2.2.2.1
  obtain ⟨hE, hKo, hS, hK12, hR, hKR, hRR, hA, hAR, hL, hti⟩ := id hW
  have hT := hS.1
  have hK : RepK M 20 K 0 := hK12.mono (by decide)
  have g0 := hKo.1
  have u3 := hT.2.2.1
  have mi9 := hS.2.2
  have k1 : M 20 7 = kPe K := hK.1
  have k2 : M 20 6 = kWt K := hK.2.1
  have q1 : M 274 229 = kPe K := hKR.1
  have q2 : M 274 230 = kPe K - kWt K := hKR.2.1
  obtain ⟨x6, x7, x8, x9, x10, xq, xp⟩ := id hR
  obtain ⟨y6, y7, y8, y9, y10, yq, yp⟩ := id hRR
  have hl28 := q28 hKo hT
  have hl16 : ((tQ T).length : Int) ≤ 16 := by omega
  have hf : M 0 12 = M 273 14 := h.2.2.1
  show Ok (d + 24) 91 0 [some (vR (some 0))] [] M _
  refine k_aload_n i_91_0 rfl ?_
  refine k_getI (kz := 12) i_91_1 o_91 rfl (by decide) (s_0) rfl ?_
  refine k_iret i_91_4 rfl ?_
  show Ok (d + 24) 141 0 [some (vR (some 273))] [] M _
  refine k_aload_n i_141_0 rfl ?_
  refine k_getI (kz := 14) i_141_1 o_141 rfl (by decide) (s_273) rfl ?_
  refine k_iret i_141_4 rfl ?_
  refine ⟨_, rfl, ?_, h⟩
  first
    | exact congrArg (fun z => some (vI z)) (by omega)
    | (exfalso; omega)

set_option maxRecDepth 100000 in
theorem tp_status {d : Nat} {M : Mem}  (h : Rel M)  : Two (d + 24) 116 205 [some (vR (some 0))] [some (vR (some 273))] M := by
  obtain ⟨K, T, L, hW⟩ := h.2.2.2.2.1
  obtain ⟨hE, hKo, hS, hK12, hR, hKR, hRR, hA, hAR, hL, hti⟩ := id hW
  have hT := hS.1
  have hK : RepK M 20 K 0 := hK12.mono (by decide)
  have g0 := hKo.1
  have u3 := hT.2.2.1
  have mi9 := hS.2.2
  have k1 : M 20 7 = kPe K := hK.1
  have k2 : M 20 6 = kWt K := hK.2.1
  have q1 : M 274 229 = kPe K := hKR.1
  have q2 : M 274 230 = kPe K - kWt K := hKR.2.1
  obtain ⟨x6, x7, x8, x9, x10, xq, xp⟩ := id hR
  obtain ⟨y6, y7, y8, y9, y10, yq, yp⟩ := id hRR
  have hl28 := q28 hKo hT
  have hl16 : ((tQ T).length : Int) ≤ 16 := by omega
  have hf : M 0 13 = M 273 6 := h.2.1
  show Ok (d + 24) 116 0 [some (vR (some 0))] [] M _
  refine k_aload_n i_116_0 rfl ?_
  refine k_getI (kz := 13) i_116_1 o_116 rfl (by decide) (s_0) rfl ?_
  refine k_iret i_116_4 rfl ?_
  show Ok (d + 24) 205 0 [some (vR (some 273))] [] M _
  refine k_aload_n i_205_0 rfl ?_
  refine k_getI (kz := 6) i_205_1 o_205 rfl (by decide) (s_273) rfl ?_
  refine k_iret i_205_4 rfl ?_
  refine ⟨_, rfl, ?_, h⟩
  first
    | exact congrArg (fun z => some (vI z)) (by omega)
    | (exfalso; omega)

set_option maxRecDepth 100000 in
theorem tp_place {d : Nat} {M : Mem} {i : Int} (h : Rel M)  : Two (d + 24) 98 164 [some (vR (some 0)), some (vI i)] [some (vR (some 273)), some (vI i)] M := by
  obtain ⟨K, T, L, hW⟩ := h.2.2.2.2.1
  obtain ⟨hE, hKo, hS, hK12, hR, hKR, hRR, hA, hAR, hL, hti⟩ := id hW
  have hT := hS.1
  have hK : RepK M 20 K 0 := hK12.mono (by decide)
  have g0 := hKo.1
  have u3 := hT.2.2.1
  have mi9 := hS.2.2
  have k1 : M 20 7 = kPe K := hK.1
  have k2 : M 20 6 = kWt K := hK.2.1
  have q1 : M 274 229 = kPe K := hKR.1
  have q2 : M 274 230 = kPe K - kWt K := hKR.2.1
  obtain ⟨x6, x7, x8, x9, x10, xq, xp⟩ := id hR
  obtain ⟨y6, y7, y8, y9, y10, yq, yp⟩ := id hRR
  have hl28 := q28 hKo hT
  have hl16 : ((tQ T).length : Int) ≤ 16 := by omega
  show Ok (d + 24) 98 0 [some (vR (some 0)), some (vI i)] [] M _
  refine k_iload_n i_98_0 rfl ?_
  refine k_if_ge (t := 9) i_98_1 rfl (fun h1 => ?_) (fun h1 => ?_)
  · refine k_aload_n i_98_9 rfl ?_
    refine k_getR (r := 25) i_98_10 o_98 rfl (by decide) (s_0) rfl ?_
    refine k_iload_n i_98_13 rfl ?_
    refine k_invV (n := 1) (o' := 6) (av := [vR (some 25), vI i]) (rest := []) (el := [some (vR (some 25)), some (vI i)]) i_98_14 o_98 rfl v_65 rfl (s_25) rfl rfl rfl rfl rfl ?_
    refine c_65 tw_25 hR (by omega) (fun v1 hv1 => ?_)
    show Ok _ 98 17 [some (vR (some 0)), some (vI i)] [vI v1] (M) _
    refine k_iret i_98_17 rfl ?_
    show Ok (d + 24) 164 0 [some (vR (some 273)), some (vI i)] [] M _
    refine k_iload_n i_164_0 rfl ?_
    refine k_if_ge (t := 9) i_164_1 rfl (fun h1 => ?_) (fun h1 => ?_)
    · refine k_iload_n i_164_9 rfl ?_
      refine k_aload_n i_164_10 rfl ?_
      refine k_getR (r := 274) i_164_11 o_164 rfl (by decide) (s_273) rfl ?_
      refine k_sipush i_164_14 (by decide) ?_
      refine k_iald i_164_17 (s_274) (by omega) ?_
      refine k_icmp_ge (t := 33) i_164_18 rfl (fun h18 => ?_) (fun h18 => ?_)
      · refine k_ldc (z := -1000000) i_164_33 o_164 rfl (by decide) ?_
        refine k_iret i_164_35 rfl ?_
        refine ⟨_, rfl, ?_, h⟩
        first
          | exact congrArg (fun z => some (vI z)) (by omega)
          | (unfold whoF at hv1
             first
               | (rw [if_pos (by omega)] at hv1
                  exact congrArg (fun z => some (vI z)) (by rw [hv1]; exact hRR.q (by omega) (by omega)))
               | (rw [if_neg (by omega)] at hv1
                  exact congrArg (fun z => some (vI z)) hv1.symm))
          | (exfalso; omega)
      · refine k_aload_n i_164_21 rfl ?_
        refine k_getR (r := 274) i_164_22 o_164 rfl (by decide) (s_273) rfl ?_
        refine k_bipush i_164_25 (by decide) ?_
        refine k_iload_n i_164_27 rfl ?_
        refine k_iadd i_164_28 (by omega) ?_
        refine k_iald i_164_29 (s_274) (by omega) ?_
        refine k_goto (t := 35) i_164_30 rfl ?_
        refine k_iret i_164_35 rfl ?_
        refine ⟨_, rfl, ?_, h⟩
        first
          | exact congrArg (fun z => some (vI z)) (by omega)
          | (unfold whoF at hv1
             first
               | (rw [if_pos (by omega)] at hv1
                  exact congrArg (fun z => some (vI z)) (by rw [hv1]; exact hRR.q (by omega) (by omega)))
               | (rw [if_neg (by omega)] at hv1
                  exact congrArg (fun z => some (vI z)) hv1.symm))
          | (exfalso; omega)
    · refine k_ldc (z := -1000001) i_164_4 o_164 rfl (by decide) ?_
      refine k_goto (t := 35) i_164_6 rfl ?_
      refine k_iret i_164_35 rfl ?_
      refine ⟨_, rfl, ?_, h⟩
      first
        | exact congrArg (fun z => some (vI z)) (by omega)
        | (unfold whoF at hv1
           first
             | (rw [if_pos (by omega)] at hv1
                exact congrArg (fun z => some (vI z)) (by rw [hv1]; exact hRR.q (by omega) (by omega)))
             | (rw [if_neg (by omega)] at hv1
                exact congrArg (fun z => some (vI z)) hv1.symm))
        | (exfalso; omega)
  · refine k_ldc (z := -1000001) i_98_4 o_98 rfl (by decide) ?_
    refine k_goto (t := 17) i_98_6 rfl ?_
    refine k_iret i_98_17 rfl ?_
    show Ok (d + 24) 164 0 [some (vR (some 273)), some (vI i)] [] M _
    refine k_iload_n i_164_0 rfl ?_
    refine k_if_ge (t := 9) i_164_1 rfl (fun h1 => ?_) (fun h1 => ?_)
    · refine k_iload_n i_164_9 rfl ?_
      refine k_aload_n i_164_10 rfl ?_
      refine k_getR (r := 274) i_164_11 o_164 rfl (by decide) (s_273) rfl ?_
      refine k_sipush i_164_14 (by decide) ?_
      refine k_iald i_164_17 (s_274) (by omega) ?_
      refine k_icmp_ge (t := 33) i_164_18 rfl (fun h18 => ?_) (fun h18 => ?_)
      · refine k_ldc (z := -1000000) i_164_33 o_164 rfl (by decide) ?_
        refine k_iret i_164_35 rfl ?_
        refine ⟨_, rfl, ?_, h⟩
        first
          | exact congrArg (fun z => some (vI z)) (by omega)
          | (unfold whoF at hv1
             first
               | (rw [if_pos (by omega)] at hv1
                  exact congrArg (fun z => some (vI z)) (by rw [hv1]; exact hRR.q (by omega) (by omega)))
               | (rw [if_neg (by omega)] at hv1
                  exact congrArg (fun z => some (vI z)) hv1.symm))
          | (exfalso; omega)
      · refine k_aload_n i_164_21 rfl ?_
        refine k_getR (r := 274) i_164_22 o_164 rfl (by decide) (s_273) rfl ?_
        refine k_bipush i_164_25 (by decide) ?_
        refine k_iload_n i_164_27 rfl ?_
        refine k_iadd i_164_28 (by omega) ?_
        refine k_iald i_164_29 (s_274) (by omega) ?_
        refine k_goto (t := 35) i_164_30 rfl ?_
        refine k_iret i_164_35 rfl ?_
        refine ⟨_, rfl, ?_, h⟩
        first
          | exact congrArg (fun z => some (vI z)) (by omega)
          | (unfold whoF at hv1
             first
               | (rw [if_pos (by omega)] at hv1
                  exact congrArg (fun z => some (vI z)) (by rw [hv1]; exact hRR.q (by omega) (by omega)))
               | (rw [if_neg (by omega)] at hv1
                  exact congrArg (fun z => some (vI z)) hv1.symm))
          | (exfalso; omega)
    · refine k_ldc (z := -1000001) i_164_4 o_164 rfl (by decide) ?_
      refine k_goto (t := 35) i_164_6 rfl ?_
      refine k_iret i_164_35 rfl ?_
      refine ⟨_, rfl, ?_, h⟩
      first
        | exact congrArg (fun z => some (vI z)) (by omega)
        | (unfold whoF at hv1
           first
             | (rw [if_pos (by omega)] at hv1
                exact congrArg (fun z => some (vI z)) (by rw [hv1]; exact hRR.q (by omega) (by omega)))
             | (rw [if_neg (by omega)] at hv1
                exact congrArg (fun z => some (vI z)) hv1.symm))
        | (exfalso; omega)

set_option maxRecDepth 100000 in
theorem tp_kind {d : Nat} {M : Mem} {i : Int} (h : Rel M)  : Two (d + 24) 111 189 [some (vR (some 0)), some (vI i)] [some (vR (some 273)), some (vI i)] M := by
  obtain ⟨K, T, L, hW⟩ := h.2.2.2.2.1
  obtain ⟨hE, hKo, hS, hK12, hR, hKR, hRR, hA, hAR, hL, hti⟩ := id hW
  have hT := hS.1
  have hK : RepK M 20 K 0 := hK12.mono (by decide)
  have g0 := hKo.1
  have u3 := hT.2.2.1
  have mi9 := hS.2.2
  have k1 : M 20 7 = kPe K := hK.1
  have k2 : M 20 6 = kWt K := hK.2.1
  have q1 : M 274 229 = kPe K := hKR.1
  have q2 : M 274 230 = kPe K - kWt K := hKR.2.1
  obtain ⟨x6, x7, x8, x9, x10, xq, xp⟩ := id hR
  obtain ⟨y6, y7, y8, y9, y10, yq, yp⟩ := id hRR
  have hl28 := q28 hKo hT
  have hl16 : ((tQ T).length : Int) ≤ 16 := by omega
  show Ok (d + 24) 111 0 [some (vR (some 0)), some (vI i)] [] M _
  refine k_aload_n i_111_0 rfl ?_
  refine k_iload_n i_111_1 rfl ?_
  refine k_invV (n := 1) (o' := 7) (av := [vR (some 0), vI i]) (rest := []) (el := [some (vR (some 0)), some (vI i)]) i_111_2 o_111 rfl v_118 rfl (s_0) rfl rfl rfl rfl rfl ?_
  refine c_118 (fun v2 hv2 => ?_)
  show Ok _ 111 5 [some (vR (some 0)), some (vI i)] [vI v2] (M) _
  refine k_if_eq (t := 20) i_111_5 rfl (fun h5 => ?_) (fun h5 => ?_)
  · refine k_ldc (z := -1000001) i_111_20 o_111 rfl (by decide) ?_
    refine k_iret i_111_22 rfl ?_
    show Ok (d + 24) 189 0 [some (vR (some 273)), some (vI i)] [] M _
    refine k_aload_n i_189_0 rfl ?_
    refine k_iload_n i_189_1 rfl ?_
    refine k_invV (n := 1) (o' := 8) (av := [vR (some 273), vI i]) (rest := []) (el := [some (vR (some 273)), some (vI i)]) i_189_2 o_189 rfl v_143 rfl (s_273) rfl rfl rfl rfl rfl ?_
    refine c_143 (by omega) (fun v2 hv2 => ?_)
    show Ok _ 189 5 [some (vR (some 273)), some (vI i)] [vI v2] (M) _
    refine k_if_eq (t := 21) i_189_5 rfl (fun h5 => ?_) (fun h5 => ?_)
    · refine k_ldc (z := -1000001) i_189_21 o_189 rfl (by decide) ?_
      refine k_iret i_189_23 rfl ?_
      refine ⟨_, rfl, ?_, h⟩
      first
        | exact congrArg (fun z => some (vI z)) (by omega)
        | (exfalso; omega)
        | (have hv : Va K 0 i := Or.inl (by omega)
           have e1 := (hK.2.2 i hv).1
           have e2 := (hKR.2.2 i hv).1
           exact congrArg (fun z => some (vI z)) (e2.trans e1.symm))
    · refine k_aload_n i_189_8 rfl ?_
      refine k_getR (r := 274) i_189_9 o_189 rfl (by decide) (s_273) rfl ?_
      refine k_sipush i_189_12 (by decide) ?_
      refine k_iload_n i_189_15 rfl ?_
      refine k_iadd i_189_16 (by omega) ?_
      refine k_iald i_189_17 (s_274) (by omega) ?_
      refine k_goto (t := 23) i_189_18 rfl ?_
      refine k_iret i_189_23 rfl ?_
      refine ⟨_, rfl, ?_, h⟩
      first
        | exact congrArg (fun z => some (vI z)) (by omega)
        | (exfalso; omega)
        | (have hv : Va K 0 i := Or.inl (by omega)
           have e1 := (hK.2.2 i hv).1
           have e2 := (hKR.2.2 i hv).1
           exact congrArg (fun z => some (vI z)) (e2.trans e1.symm))
  · refine k_aload_n i_111_8 rfl ?_
    refine k_getR (r := 20) i_111_9 o_111 rfl (by decide) (s_0) rfl ?_
    refine k_getR (r := 21) i_111_12 o_111 rfl (by decide) (s_20) rfl ?_
    refine k_iload_n i_111_15 rfl ?_
    refine k_iald i_111_16 (s_21) (by omega) ?_
    refine k_goto (t := 22) i_111_17 rfl ?_
    refine k_iret i_111_22 rfl ?_
    show Ok (d + 24) 189 0 [some (vR (some 273)), some (vI i)] [] M _
    refine k_aload_n i_189_0 rfl ?_
    refine k_iload_n i_189_1 rfl ?_
    refine k_invV (n := 1) (o' := 8) (av := [vR (some 273), vI i]) (rest := []) (el := [some (vR (some 273)), some (vI i)]) i_189_2 o_189 rfl v_143 rfl (s_273) rfl rfl rfl rfl rfl ?_
    refine c_143 (by omega) (fun v2 hv2 => ?_)
    show Ok _ 189 5 [some (vR (some 273)), some (vI i)] [vI v2] (M) _
    refine k_if_eq (t := 21) i_189_5 rfl (fun h5 => ?_) (fun h5 => ?_)
    · refine k_ldc (z := -1000001) i_189_21 o_189 rfl (by decide) ?_
      refine k_iret i_189_23 rfl ?_
      refine ⟨_, rfl, ?_, h⟩
      first
        | exact congrArg (fun z => some (vI z)) (by omega)
        | (exfalso; omega)
        | (have hv : Va K 0 i := Or.inl (by omega)
           have e1 := (hK.2.2 i hv).1
           have e2 := (hKR.2.2 i hv).1
           exact congrArg (fun z => some (vI z)) (e2.trans e1.symm))
    · refine k_aload_n i_189_8 rfl ?_
      refine k_getR (r := 274) i_189_9 o_189 rfl (by decide) (s_273) rfl ?_
      refine k_sipush i_189_12 (by decide) ?_
      refine k_iload_n i_189_15 rfl ?_
      refine k_iadd i_189_16 (by omega) ?_
      refine k_iald i_189_17 (s_274) (by omega) ?_
      refine k_goto (t := 23) i_189_18 rfl ?_
      refine k_iret i_189_23 rfl ?_
      refine ⟨_, rfl, ?_, h⟩
      first
        | exact congrArg (fun z => some (vI z)) (by omega)
        | (exfalso; omega)
        | (have hv : Va K 0 i := Or.inl (by omega)
           have e1 := (hK.2.2 i hv).1
           have e2 := (hKR.2.2 i hv).1
           exact congrArg (fun z => some (vI z)) (e2.trans e1.symm))
