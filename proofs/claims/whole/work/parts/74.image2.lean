set_option maxRecDepth 100000 in
theorem tp_image_b {d : Nat} {M : Mem} {k : Int} (h : Rel M) (hb : k < 0 ∨ 1 < k) : Two (d + 24) 109 187 [some (vR (some 0)), some (vI k)] [some (vR (some 273)), some (vI k), none] M := by
  obtain ⟨K, T, L, hW⟩ := h.2.2.2.2.1
  obtain ⟨hE, hKo, hS, hK12, hR, hKR, hRR, hA, hAR, hL, hti⟩ := id hW
  have hT := hS.1
  have hK : RepK M 20 K 0 := hK12.mono (by decide)
  have g0 := hKo.1
  have u3 := hT.2.2.1
  have mi9 := hS.2.2
  have k1 : M 20 7 = kPe K := hK.1
  have k2 : M 20 6 = kWt K := hK.2.1
  have q1 : M 274 229 = kPe K := hKR.1
  have q2 : M 274 230 = kPe K - kWt K := hKR.2.1
  obtain ⟨x6, x7, x8, x9, x10, xq, xp⟩ := id hR
  obtain ⟨y6, y7, y8, y9, y10, yq, yp⟩ := id hRR
  have hl28 := q28 hKo hT
  have hl16 : ((tQ T).length : Int) ≤ 16 := by omega
  show Ok (d + 24) 109 0 [some (vR (some 0)), some (vI k)] [] M _
  refine k_iload_n i_109_0 rfl ?_
  refine k_iconst i_109_1 (by decide) ?_
  refine k_invS (n := 2) (av := [vI k, vI 1]) (rest := []) (el := [some (vI k), some (vI 1)]) i_109_2 o_109 rfl v_117 rfl rfl rfl rfl rfl rfl ?_
  refine c_117 (fun v2 hv2 => ?_)
  show Ok _ 109 5 [some (vR (some 0)), some (vI k)] [vI v2] (M) _
  refine k_if_ne (t := 11) i_109_5 rfl (fun h5 => (by exfalso; omega)) (fun h5 => ?_)
  refine k_ldc (z := -1000001) i_109_8 o_109 rfl (by decide) ?_
  refine k_iret i_109_10 rfl ?_
  show Ok (d + 24) 187 0 [some (vR (some 273)), some (vI k), none] [] M _
  refine k_iload_n i_187_0 rfl ?_
  refine k_i2l i_187_1 ?_
  refine k_lconst (z := 0) i_187_2 rfl ?_
  refine k_lconst (z := 1) i_187_3 rfl ?_
  refine k_invS (n := 3) (av := [vL k, vL 0, vL 1]) (rest := []) (el := [some (vL k), none, some (vL 0), none, some (vL 1), none]) i_187_4 o_187 rfl v_122 rfl rfl rfl rfl rfl rfl ?_
  refine c_122 (fun v4 hv4 => ?_)
  show Ok _ 187 7 [some (vR (some 273)), some (vI k), none] [vI v4] (M) _
  refine k_if_ne (t := 13) i_187_7 rfl (fun h7 => (by exfalso; omega)) (fun h7 => ?_)
  refine k_ldc (z := -1000001) i_187_10 o_187 rfl (by decide) ?_
  refine k_iret i_187_12 rfl ?_
  refine ⟨_, rfl, ?_, h⟩
  first
    | exact congrArg (fun z => some (vI z)) (by omega)
    | (exfalso; omega)

set_option maxRecDepth 100000 in
theorem tp_restore_b {d : Nat} {M : Mem} {k : Int} (h : Rel M) (hb : k < 0 ∨ 1 < k) : Two (d + 24) 110 188 [some (vR (some 0)), some (vI k)] [some (vR (some 273)), some (vI k), none] M := by
  obtain ⟨K, T, L, hW⟩ := h.2.2.2.2.1
  obtain ⟨hE, hKo, hS, hK12, hR, hKR, hRR, hA, hAR, hL, hti⟩ := id hW
  have hT := hS.1
  have hK : RepK M 20 K 0 := hK12.mono (by decide)
  have g0 := hKo.1
  have u3 := hT.2.2.1
  have mi9 := hS.2.2
  have k1 : M 20 7 = kPe K := hK.1
  have k2 : M 20 6 = kWt K := hK.2.1
  have q1 : M 274 229 = kPe K := hKR.1
  have q2 : M 274 230 = kPe K - kWt K := hKR.2.1
  obtain ⟨x6, x7, x8, x9, x10, xq, xp⟩ := id hR
  obtain ⟨y6, y7, y8, y9, y10, yq, yp⟩ := id hRR
  have hl28 := q28 hKo hT
  have hl16 : ((tQ T).length : Int) ≤ 16 := by omega
  show Ok (d + 24) 110 0 [some (vR (some 0)), some (vI k)] [] M _
  refine k_iload_n i_110_0 rfl ?_
  refine k_iconst i_110_1 (by decide) ?_
  refine k_invS (n := 2) (av := [vI k, vI 1]) (rest := []) (el := [some (vI k), some (vI 1)]) i_110_2 o_110 rfl v_117 rfl rfl rfl rfl rfl rfl ?_
  refine c_117 (fun v2 hv2 => ?_)
  show Ok _ 110 5 [some (vR (some 0)), some (vI k)] [vI v2] (M) _
  refine k_if_ne (t := 11) i_110_5 rfl (fun h5 => (by exfalso; omega)) (fun h5 => ?_)
  refine k_ldc (z := -1000001) i_110_8 o_110 rfl (by decide) ?_
  refine k_iret i_110_10 rfl ?_
  show Ok (d + 24) 188 0 [some (vR (some 273)), some (vI k), none] [] M _
  refine k_iload_n i_188_0 rfl ?_
  refine k_i2l i_188_1 ?_
  refine k_lconst (z := 0) i_188_2 rfl ?_
  refine k_lconst (z := 1) i_188_3 rfl ?_
  refine k_invS (n := 3) (av := [vL k, vL 0, vL 1]) (rest := []) (el := [some (vL k), none, some (vL 0), none, some (vL 1), none]) i_188_4 o_188 rfl v_122 rfl rfl rfl rfl rfl rfl ?_
  refine c_122 (fun v4 hv4 => ?_)
  show Ok _ 188 7 [some (vR (some 273)), some (vI k), none] [vI v4] (M) _
  refine k_if_ne (t := 13) i_188_7 rfl (fun h7 => (by exfalso; omega)) (fun h7 => ?_)
  refine k_ldc (z := -1000001) i_188_10 o_188 rfl (by decide) ?_
  refine k_iret i_188_12 rfl ?_
  refine ⟨_, rfl, ?_, h⟩
  first
    | exact congrArg (fun z => some (vI z)) (by omega)
    | (exfalso; omega)

set_option maxRecDepth 100000 in
theorem tp_image_0 {d : Nat} {M : Mem}  (h : Rel M)  : Two (d + 24) 109 187 [some (vR (some 0)), some (vI 0)] [some (vR (some 273)), some (vI 0), none] M := by
  obtain ⟨K, T, L, hW⟩ := h.2.2.2.2.1
  obtain ⟨hE, hKo, hS, hK12, hR, hKR, hRR, hA, hAR, hL, hti⟩ := id hW
  have hT := hS.1
  have hK : RepK M 20 K 0 := hK12.mono (by decide)
  have g0 := hKo.1
  have u3 := hT.2.2.1
  have mi9 := hS.2.2
  have k1 : M 20 7 = kPe K := hK.1
  have k2 : M 20 6 = kWt K := hK.2.1
  have q1 : M 274 229 = kPe K := hKR.1
  have q2 : M 274 230 = kPe K - kWt K := hKR.2.1
  obtain ⟨x6, x7, x8, x9, x10, xq, xp⟩ := id hR
  obtain ⟨y6, y7, y8, y9, y10, yq, yp⟩ := id hRR
  have hl28 := q28 hKo hT
  have hl16 : ((tQ T).length : Int) ≤ 16 := by omega
  show Ok (d + 24) 109 0 [some (vR (some 0)), some (vI 0)] [] M _
  refine k_iload_n i_109_0 rfl ?_
  refine k_iconst i_109_1 (by decide) ?_
  refine k_invS (n := 2) (av := [vI 0, vI 1]) (rest := []) (el := [some (vI 0), some (vI 1)]) i_109_2 o_109 rfl v_117 rfl rfl rfl rfl rfl rfl ?_
  refine c_117 (fun v2 hv2 => ?_)
  show Ok _ 109 5 [some (vR (some 0)), some (vI 0)] [vI v2] (M) _
  refine k_if_ne (t := 11) i_109_5 rfl (fun h5 => ?_) (fun h5 => ?_)
  · refine k_aload_n i_109_11 rfl ?_
    refine k_getI (kz := 11) i_109_12 o_109 rfl (by decide) (s_0) rfl ?_
    refine k_if_ne (t := 21) i_109_15 rfl (fun h15 => ?_) (fun h15 => ?_)
    · refine k_aload_n i_109_21 rfl ?_
      refine k_getR (r := 248) i_109_22 o_109 rfl (by decide) (s_0) rfl ?_
      refine k_iload_n i_109_25 rfl ?_
      refine k_aald (r := 251) i_109_26 (s_248) (by decide) (by decide) rfl ?_
      refine k_aload_n i_109_27 rfl ?_
      refine k_getR (r := 20) i_109_28 o_109 rfl (by decide) (s_0) rfl ?_
      refine k_invV (n := 1) (o' := 5) (av := [vR (some 251), vR (some 20)]) (rest := []) (el := [some (vR (some 251)), some (vR (some 20))]) i_109_31 o_109 rfl v_59 rfl (s_251) rfl rfl rfl rfl rfl ?_
      refine c_59 td_251 td_20 (by omega) (fun M1 hc1 => ?_)
      show Ok _ 109 34 [some (vR (some 0)), some (vI 0)] [] (M1) _
      refine k_aload_n i_109_34 rfl ?_
      refine k_getR (r := 249) i_109_35 o_109 rfl (by decide) (s_0) rfl ?_
      refine k_iload_n i_109_38 rfl ?_
      refine k_aald (r := 256) i_109_39 (s_249) (by decide) (by decide) rfl ?_
      refine k_aload_n i_109_40 rfl ?_
      refine k_getR (r := 25) i_109_41 o_109 rfl (by decide) (s_0) rfl ?_
      refine k_invV (n := 1) (o' := 6) (av := [vR (some 256), vR (some 25)]) (rest := []) (el := [some (vR (some 256)), some (vR (some 25)), none]) i_109_44 o_109 rfl v_62 rfl (s_256) rfl rfl rfl rfl rfl ?_
      refine c_62 (a := 256) (b := 25) tw_256 tw_25 (Or.inl ⟨rfl, rfl⟩) (by omega) hKo (hR.fr (fun b j h0 h1 => hc1.2.2.2.2.2.2 b j (by omega))) hl16 (fun M2 hC2 ho2 => ?_)
      show Ok _ 109 47 [some (vR (some 0)), some (vI 0)] [] (M2) _
      refine k_aload_n i_109_47 rfl ?_
      refine k_getR (r := 250) i_109_48 o_109 rfl (by decide) (s_0) rfl ?_
      refine k_iload_n i_109_51 rfl ?_
      refine k_iconst i_109_52 (by decide) ?_
      refine k_bast i_109_53 (s_250) (by omega) (by omega) ?_
      refine k_iconst i_109_54 (by decide) ?_
      refine k_iret i_109_55 rfl ?_
      show Ok (d + 24) 187 0 [some (vR (some 273)), some (vI 0), none] [] (mu M2 250 (0) (1)) _
      obtain ⟨N, hN⟩ : ∃ N : Mem, N = mu M2 250 (0) (1) := ⟨_, rfl⟩
      rw [← hN]
      have hnb : ∀ (b : Nat) (j : Int), ¬ (251 ≤ b ∧ b ≤ 261) → ¬ (b = 250 ∧ j = 0) → N b j = M b j := fun b j hb hb2 => by
        rw [hN]
        refine (if_neg hb2).trans ?_
        rw [ho2 b j (by omega)]
        exact hc1.2.2.2.2.2.2 b j (by omega)
      have z1 : N 274 231 = M 274 231 := hnb _ _ (by omega) (by omega)
      refine k_iload_n i_187_0 rfl ?_
      refine k_i2l i_187_1 ?_
      refine k_lconst (z := 0) i_187_2 rfl ?_
      refine k_lconst (z := 1) i_187_3 rfl ?_
      refine k_invS (n := 3) (av := [vL 0, vL 0, vL 1]) (rest := []) (el := [some (vL 0), none, some (vL 0), none, some (vL 1), none]) i_187_4 o_187 rfl v_122 rfl rfl rfl rfl rfl rfl ?_
      refine c_122 (fun v4 hv4 => ?_)
      show Ok _ 187 7 [some (vR (some 273)), some (vI 0), none] [vI v4] (N) _
      refine k_if_ne (t := 13) i_187_7 rfl (fun h7 => ?_) (fun h7 => ?_)
      · refine k_aload_n i_187_13 rfl ?_
        refine k_invV (n := 0) (o' := 8) (av := [vR (some 273)]) (rest := []) (el := [some (vR (some 273))]) i_187_14 o_187 rfl v_144 rfl (s_273) rfl rfl rfl rfl rfl ?_
        refine c_144 (fun v14 hv14 => ?_)
        show Ok _ 187 17 [some (vR (some 273)), some (vI 0), none] [vI v14] (N) _
        refine k_if_ne (t := 23) i_187_17 rfl (fun h17 => ?_) (fun h17 => ?_)
        · refine k_iconst i_187_23 (by decide) ?_
          refine k_istore_n (ls' := [some (vR (some 273)), some (vI 0), some (vI 0)]) i_187_24 rfl ?_
          rw [← cpk_0 N (232 * 0)]
          have e0 : M 0 11 = 1 ∧ M 274 231 = 1 := by
            rcases hti with q | q
            · omega
            · exact q
          refine l_187 (k := 0) (by omega) ⟨_, rfl, rfl, h.img (k := 0) (by omega) hE hKo hS hKR hRR e0.1 e0.2 (fun b j h0 h1 h2 => ?_) ?_ ?_ ?_ ?_ (fun j j0 j1 => ?_)⟩ 233 0 (by omega) (by omega)
          · have e1 : ¬ (b = 276 ∧ j = 0) := by omega
            have e2 : ¬ (b = 275 ∧ 232 * 0 ≤ j ∧ j < 232 * 0 + 232) := by omega
            refine (if_neg e1).trans ((if_neg e2).trans (hnb b j (by omega) (by omega)))
          · show mu (cpk N (232 * 0) 232) 276 0 1 250 0 = 1
            rw [mu_ne (by decide)]
            refine (if_neg (by omega)).trans ?_
            rw [hN, mu_s]
          · exact mu_s _ _ _ _
          · refine ((hc1.k hKo hK).fr (M' := N) (fun b j h0 h1 => ?_)).fr (fun b j h0 h1 => ?_)
            · rw [hN, mu_ne (by omega), ho2 b j (by omega)]
            · have h2 : b ≤ 255 := h1
              have h3 : 251 ≤ b := h0
              rw [mu_ne (by omega)]
              exact if_neg (by omega)
          · refine hC2.fr (fun b j h0 h1 => ?_)
            have h2 : b ≤ 261 := h1
            have h3 : 256 ≤ b := h0
            rw [mu_ne (by omega)]
            refine (if_neg (by omega)).trans ?_
            rw [hN, mu_ne (by omega)]
          · show mu (cpk N (232 * 0) 232) 276 0 1 275 (232 * 0 + j) = _
            rw [mu_ne (by decide)]
            refine (if_pos (by omega)).trans ?_
            rw [hnb _ _ (by omega) (by omega)]
            congr 1
            omega
        · refine k_ldc (z := -1000002) i_187_20 o_187 rfl (by decide) ?_
          refine k_iret i_187_22 rfl ?_
          exfalso
          omega
      · refine k_ldc (z := -1000001) i_187_10 o_187 rfl (by decide) ?_
        refine k_iret i_187_12 rfl ?_
        exfalso
        omega
    · refine k_ldc (z := -1000002) i_109_18 o_109 rfl (by decide) ?_
      refine k_iret i_109_20 rfl ?_
      show Ok (d + 24) 187 0 [some (vR (some 273)), some (vI 0), none] [] M _
      refine k_iload_n i_187_0 rfl ?_
      refine k_i2l i_187_1 ?_
      refine k_lconst (z := 0) i_187_2 rfl ?_
      refine k_lconst (z := 1) i_187_3 rfl ?_
      refine k_invS (n := 3) (av := [vL 0, vL 0, vL 1]) (rest := []) (el := [some (vL 0), none, some (vL 0), none, some (vL 1), none]) i_187_4 o_187 rfl v_122 rfl rfl rfl rfl rfl rfl ?_
      refine c_122 (fun v4 hv4 => ?_)
      show Ok _ 187 7 [some (vR (some 273)), some (vI 0), none] [vI v4] (M) _
      refine k_if_ne (t := 13) i_187_7 rfl (fun h7 => ?_) (fun h7 => ?_)
      · refine k_aload_n i_187_13 rfl ?_
        refine k_invV (n := 0) (o' := 8) (av := [vR (some 273)]) (rest := []) (el := [some (vR (some 273))]) i_187_14 o_187 rfl v_144 rfl (s_273) rfl rfl rfl rfl rfl ?_
        refine c_144 (fun v14 hv14 => ?_)
        show Ok _ 187 17 [some (vR (some 273)), some (vI 0), none] [vI v14] (M) _
        refine k_if_ne (t := 23) i_187_17 rfl (fun h17 => ?_) (fun h17 => ?_)
        · refine k_iconst i_187_23 (by decide) ?_
          refine k_istore_n (ls' := [some (vR (some 273)), some (vI 0), some (vI 0)]) i_187_24 rfl ?_
          exfalso
          omega
        · refine k_ldc (z := -1000002) i_187_20 o_187 rfl (by decide) ?_
          refine k_iret i_187_22 rfl ?_
          refine ⟨_, rfl, ?_, h⟩
          first
            | exact congrArg (fun z => some (vI z)) (by omega)
            | (exfalso; omega)
      · refine k_ldc (z := -1000001) i_187_10 o_187 rfl (by decide) ?_
        refine k_iret i_187_12 rfl ?_
        refine ⟨_, rfl, ?_, h⟩
        first
          | exact congrArg (fun z => some (vI z)) (by omega)
          | (exfalso; omega)
  · refine k_ldc (z := -1000001) i_109_8 o_109 rfl (by decide) ?_
    refine k_iret i_109_10 rfl ?_
    show Ok (d + 24) 187 0 [some (vR (some 273)), some (vI 0), none] [] M _
    refine k_iload_n i_187_0 rfl ?_
    refine k_i2l i_187_1 ?_
    refine k_lconst (z := 0) i_187_2 rfl ?_
    refine k_lconst (z := 1) i_187_3 rfl ?_
    refine k_invS (n := 3) (av := [vL 0, vL 0, vL 1]) (rest := []) (el := [some (vL 0), none, some (vL 0), none, some (vL 1), none]) i_187_4 o_187 rfl v_122 rfl rfl rfl rfl rfl rfl ?_
    refine c_122 (fun v4 hv4 => ?_)
    show Ok _ 187 7 [some (vR (some 273)), some (vI 0), none] [vI v4] (M) _
    refine k_if_ne (t := 13) i_187_7 rfl (fun h7 => ?_) (fun h7 => ?_)
    · refine k_aload_n i_187_13 rfl ?_
      refine k_invV (n := 0) (o' := 8) (av := [vR (some 273)]) (rest := []) (el := [some (vR (some 273))]) i_187_14 o_187 rfl v_144 rfl (s_273) rfl rfl rfl rfl rfl ?_
      refine c_144 (fun v14 hv14 => ?_)
      show Ok _ 187 17 [some (vR (some 273)), some (vI 0), none] [vI v14] (M) _
      refine k_if_ne (t := 23) i_187_17 rfl (fun h17 => ?_) (fun h17 => ?_)
      · refine k_iconst i_187_23 (by decide) ?_
        refine k_istore_n (ls' := [some (vR (some 273)), some (vI 0), some (vI 0)]) i_187_24 rfl ?_
        exfalso
        omega
      · refine k_ldc (z := -1000002) i_187_20 o_187 rfl (by decide) ?_
        refine k_iret i_187_22 rfl ?_
        refine ⟨_, rfl, ?_, h⟩
        first
          | exact congrArg (fun z => some (vI z)) (by omega)
          | (exfalso; omega)
    · refine k_ldc (z := -1000001) i_187_10 o_187 rfl (by decide) ?_
      refine k_iret i_187_12 rfl ?_
      refine ⟨_, rfl, ?_, h⟩
      first
        | exact congrArg (fun z => some (vI z)) (by omega)
        | (exfalso; omega)

set_option maxRecDepth 100000 in
theorem tp_image_1 {d : Nat} {M : Mem}  (h : Rel M)  : Two (d + 24) 109 187 [some (vR (some 0)), some (vI 1)] [some (vR (some 273)), some (vI 1), none] M := by
  obtain ⟨K, T, L, hW⟩ := h.2.2.2.2.1
  obtain ⟨hE, hKo, hS, hK12, hR, hKR, hRR, hA, hAR, hL, hti⟩ := id hW
  have hT := hS.1
  have hK : RepK M 20 K 0 := hK12.mono (by decide)
  have g0 := hKo.1
  have u3 := hT.2.2.1
  have mi9 := hS.2.2
  have k1 : M 20 7 = kPe K := hK.1
  have k2 : M 20 6 = kWt K := hK.2.1
  have q1 : M 274 229 = kPe K := hKR.1
  have q2 : M 274 230 = kPe K - kWt K := hKR.2.1
  obtain ⟨x6, x7, x8, x9, x10, xq, xp⟩ := id hR
  obtain ⟨y6, y7, y8, y9, y10, yq, yp⟩ := id hRR
  have hl28 := q28 hKo hT
  have hl16 : ((tQ T).length : Int) ≤ 16 := by omega
  show Ok (d + 24) 109 0 [some (vR (some 0)), some (vI 1)] [] M _
  refine k_iload_n i_109_0 rfl ?_
  refine k_iconst i_109_1 (by decide) ?_
  refine k_invS (n := 2) (av := [vI 1, vI 1]) (rest := []) (el := [some (vI 1), some (vI 1)]) i_109_2 o_109 rfl v_117 rfl rfl rfl rfl rfl rfl ?_
  refine c_117 (fun v2 hv2 => ?_)
  show Ok _ 109 5 [some (vR (some 0)), some (vI 1)] [vI v2] (M) _
  refine k_if_ne (t := 11) i_109_5 rfl (fun h5 => ?_) (fun h5 => ?_)
  · refine k_aload_n i_109_11 rfl ?_
    refine k_getI (kz := 11) i_109_12 o_109 rfl (by decide) (s_0) rfl ?_
    refine k_if_ne (t := 21) i_109_15 rfl (fun h15 => ?_) (fun h15 => ?_)
    · refine k_aload_n i_109_21 rfl ?_
      refine k_getR (r := 248) i_109_22 o_109 rfl (by decide) (s_0) rfl ?_
      refine k_iload_n i_109_25 rfl ?_
      refine k_aald (r := 262) i_109_26 (s_248) (by decide) (by decide) rfl ?_
      refine k_aload_n i_109_27 rfl ?_
      refine k_getR (r := 20) i_109_28 o_109 rfl (by decide) (s_0) rfl ?_
      refine k_invV (n := 1) (o' := 5) (av := [vR (some 262), vR (some 20)]) (rest := []) (el := [some (vR (some 262)), some (vR (some 20))]) i_109_31 o_109 rfl v_59 rfl (s_262) rfl rfl rfl rfl rfl ?_
      refine c_59 td_262 td_20 (by omega) (fun M1 hc1 => ?_)
      show Ok _ 109 34 [some (vR (some 0)), some (vI 1)] [] (M1) _
      refine k_aload_n i_109_34 rfl ?_
      refine k_getR (r := 249) i_109_35 o_109 rfl (by decide) (s_0) rfl ?_
      refine k_iload_n i_109_38 rfl ?_
      refine k_aald (r := 267) i_109_39 (s_249) (by decide) (by decide) rfl ?_
      refine k_aload_n i_109_40 rfl ?_
      refine k_getR (r := 25) i_109_41 o_109 rfl (by decide) (s_0) rfl ?_
      refine k_invV (n := 1) (o' := 6) (av := [vR (some 267), vR (some 25)]) (rest := []) (el := [some (vR (some 267)), some (vR (some 25)), none]) i_109_44 o_109 rfl v_62 rfl (s_267) rfl rfl rfl rfl rfl ?_
      refine c_62 (a := 267) (b := 25) tw_267 tw_25 (Or.inl ⟨rfl, rfl⟩) (by omega) hKo (hR.fr (fun b j h0 h1 => hc1.2.2.2.2.2.2 b j (by omega))) hl16 (fun M2 hC2 ho2 => ?_)
      show Ok _ 109 47 [some (vR (some 0)), some (vI 1)] [] (M2) _
      refine k_aload_n i_109_47 rfl ?_
      refine k_getR (r := 250) i_109_48 o_109 rfl (by decide) (s_0) rfl ?_
      refine k_iload_n i_109_51 rfl ?_
      refine k_iconst i_109_52 (by decide) ?_
      refine k_bast i_109_53 (s_250) (by omega) (by omega) ?_
      refine k_iconst i_109_54 (by decide) ?_
      refine k_iret i_109_55 rfl ?_
      show Ok (d + 24) 187 0 [some (vR (some 273)), some (vI 1), none] [] (mu M2 250 (1) (1)) _
      obtain ⟨N, hN⟩ : ∃ N : Mem, N = mu M2 250 (1) (1) := ⟨_, rfl⟩
      rw [← hN]
      have hnb : ∀ (b : Nat) (j : Int), ¬ (262 ≤ b ∧ b ≤ 272) → ¬ (b = 250 ∧ j = 1) → N b j = M b j := fun b j hb hb2 => by
        rw [hN]
        refine (if_neg hb2).trans ?_
        rw [ho2 b j (by omega)]
        exact hc1.2.2.2.2.2.2 b j (by omega)
      have z1 : N 274 231 = M 274 231 := hnb _ _ (by omega) (by omega)
      refine k_iload_n i_187_0 rfl ?_
      refine k_i2l i_187_1 ?_
      refine k_lconst (z := 0) i_187_2 rfl ?_
      refine k_lconst (z := 1) i_187_3 rfl ?_
      refine k_invS (n := 3) (av := [vL 1, vL 0, vL 1]) (rest := []) (el := [some (vL 1), none, some (vL 0), none, some (vL 1), none]) i_187_4 o_187 rfl v_122 rfl rfl rfl rfl rfl rfl ?_
      refine c_122 (fun v4 hv4 => ?_)
      show Ok _ 187 7 [some (vR (some 273)), some (vI 1), none] [vI v4] (N) _
      refine k_if_ne (t := 13) i_187_7 rfl (fun h7 => ?_) (fun h7 => ?_)
      · refine k_aload_n i_187_13 rfl ?_
        refine k_invV (n := 0) (o' := 8) (av := [vR (some 273)]) (rest := []) (el := [some (vR (some 273))]) i_187_14 o_187 rfl v_144 rfl (s_273) rfl rfl rfl rfl rfl ?_
        refine c_144 (fun v14 hv14 => ?_)
        show Ok _ 187 17 [some (vR (some 273)), some (vI 1), none] [vI v14] (N) _
        refine k_if_ne (t := 23) i_187_17 rfl (fun h17 => ?_) (fun h17 => ?_)
        · refine k_iconst i_187_23 (by decide) ?_
          refine k_istore_n (ls' := [some (vR (some 273)), some (vI 1), some (vI 0)]) i_187_24 rfl ?_
          rw [← cpk_0 N (232 * 1)]
          have e0 : M 0 11 = 1 ∧ M 274 231 = 1 := by
            rcases hti with q | q
            · omega
            · exact q
          refine l_187 (k := 1) (by omega) ⟨_, rfl, rfl, h.img (k := 1) (by omega) hE hKo hS hKR hRR e0.1 e0.2 (fun b j h0 h1 h2 => ?_) ?_ ?_ ?_ ?_ (fun j j0 j1 => ?_)⟩ 233 0 (by omega) (by omega)
          · have e1 : ¬ (b = 276 ∧ j = 1) := by omega
            have e2 : ¬ (b = 275 ∧ 232 * 1 ≤ j ∧ j < 232 * 1 + 232) := by omega
            refine (if_neg e1).trans ((if_neg e2).trans (hnb b j (by omega) (by omega)))
          · show mu (cpk N (232 * 1) 232) 276 1 1 250 1 = 1
            rw [mu_ne (by decide)]
            refine (if_neg (by omega)).trans ?_
            rw [hN, mu_s]
          · exact mu_s _ _ _ _
          · refine ((hc1.k hKo hK).fr (M' := N) (fun b j h0 h1 => ?_)).fr (fun b j h0 h1 => ?_)
            · rw [hN, mu_ne (by omega), ho2 b j (by omega)]
            · have h2 : b ≤ 266 := h1
              have h3 : 262 ≤ b := h0
              rw [mu_ne (by omega)]
              exact if_neg (by omega)
          · refine hC2.fr (fun b j h0 h1 => ?_)
            have h2 : b ≤ 272 := h1
            have h3 : 267 ≤ b := h0
            rw [mu_ne (by omega)]
            refine (if_neg (by omega)).trans ?_
            rw [hN, mu_ne (by omega)]
          · show mu (cpk N (232 * 1) 232) 276 1 1 275 (232 * 1 + j) = _
            rw [mu_ne (by decide)]
            refine (if_pos (by omega)).trans ?_
            rw [hnb _ _ (by omega) (by omega)]
            congr 1
            omega
        · refine k_ldc (z := -1000002) i_187_20 o_187 rfl (by decide) ?_
          refine k_iret i_187_22 rfl ?_
          exfalso
          omega
      · refine k_ldc (z := -1000001) i_187_10 o_187 rfl (by decide) ?_
        refine k_iret i_187_12 rfl ?_
        exfalso
        omega
    · refine k_ldc (z := -1000002) i_109_18 o_109 rfl (by decide) ?_
      refine k_iret i_109_20 rfl ?_
      show Ok (d + 24) 187 0 [some (vR (some 273)), some (vI 1), none] [] M _
      refine k_iload_n i_187_0 rfl ?_
      refine k_i2l i_187_1 ?_
      refine k_lconst (z := 0) i_187_2 rfl ?_
      refine k_lconst (z := 1) i_187_3 rfl ?_
      refine k_invS (n := 3) (av := [vL 1, vL 0, vL 1]) (rest := []) (el := [some (vL 1), none, some (vL 0), none, some (vL 1), none]) i_187_4 o_187 rfl v_122 rfl rfl rfl rfl rfl rfl ?_
      refine c_122 (fun v4 hv4 => ?_)
      show Ok _ 187 7 [some (vR (some 273)), some (vI 1), none] [vI v4] (M) _
      refine k_if_ne (t := 13) i_187_7 rfl (fun h7 => ?_) (fun h7 => ?_)
      · refine k_aload_n i_187_13 rfl ?_
        refine k_invV (n := 0) (o' := 8) (av := [vR (some 273)]) (rest := []) (el := [some (vR (some 273))]) i_187_14 o_187 rfl v_144 rfl (s_273) rfl rfl rfl rfl rfl ?_
        refine c_144 (fun v14 hv14 => ?_)
        show Ok _ 187 17 [some (vR (some 273)), some (vI 1), none] [vI v14] (M) _
        refine k_if_ne (t := 23) i_187_17 rfl (fun h17 => ?_) (fun h17 => ?_)
        · refine k_iconst i_187_23 (by decide) ?_
          refine k_istore_n (ls' := [some (vR (some 273)), some (vI 1), some (vI 0)]) i_187_24 rfl ?_
          exfalso
          omega
        · refine k_ldc (z := -1000002) i_187_20 o_187 rfl (by decide) ?_
          refine k_iret i_187_22 rfl ?_
          refine ⟨_, rfl, ?_, h⟩
          first
            | exact congrArg (fun z => some (vI z)) (by omega)
            | (exfalso; omega)
      · refine k_ldc (z := -1000001) i_187_10 o_187 rfl (by decide) ?_
        refine k_iret i_187_12 rfl ?_
        refine ⟨_, rfl, ?_, h⟩
        first
          | exact congrArg (fun z => some (vI z)) (by omega)
          | (exfalso; omega)
  · refine k_ldc (z := -1000001) i_109_8 o_109 rfl (by decide) ?_
    refine k_iret i_109_10 rfl ?_
    show Ok (d + 24) 187 0 [some (vR (some 273)), some (vI 1), none] [] M _
    refine k_iload_n i_187_0 rfl ?_
    refine k_i2l i_187_1 ?_
    refine k_lconst (z := 0) i_187_2 rfl ?_
    refine k_lconst (z := 1) i_187_3 rfl ?_
    refine k_invS (n := 3) (av := [vL 1, vL 0, vL 1]) (rest := []) (el := [some (vL 1), none, some (vL 0), none, some (vL 1), none]) i_187_4 o_187 rfl v_122 rfl rfl rfl rfl rfl rfl ?_
    refine c_122 (fun v4 hv4 => ?_)
    show Ok _ 187 7 [some (vR (some 273)), some (vI 1), none] [vI v4] (M) _
    refine k_if_ne (t := 13) i_187_7 rfl (fun h7 => ?_) (fun h7 => ?_)
    · refine k_aload_n i_187_13 rfl ?_
      refine k_invV (n := 0) (o' := 8) (av := [vR (some 273)]) (rest := []) (el := [some (vR (some 273))]) i_187_14 o_187 rfl v_144 rfl (s_273) rfl rfl rfl rfl rfl ?_
      refine c_144 (fun v14 hv14 => ?_)
      show Ok _ 187 17 [some (vR (some 273)), some (vI 1), none] [vI v14] (M) _
      refine k_if_ne (t := 23) i_187_17 rfl (fun h17 => ?_) (fun h17 => ?_)
      · refine k_iconst i_187_23 (by decide) ?_
        refine k_istore_n (ls' := [some (vR (some 273)), some (vI 1), some (vI 0)]) i_187_24 rfl ?_
        exfalso
        omega
      · refine k_ldc (z := -1000002) i_187_20 o_187 rfl (by decide) ?_
        refine k_iret i_187_22 rfl ?_
        refine ⟨_, rfl, ?_, h⟩
        first
          | exact congrArg (fun z => some (vI z)) (by omega)
          | (exfalso; omega)
    · refine k_ldc (z := -1000001) i_187_10 o_187 rfl (by decide) ?_
      refine k_iret i_187_12 rfl ?_
      refine ⟨_, rfl, ?_, h⟩
      first
        | exact congrArg (fun z => some (vI z)) (by omega)
        | (exfalso; omega)
