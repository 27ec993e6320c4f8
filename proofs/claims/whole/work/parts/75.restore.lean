set_option maxRecDepth 100000 in
theorem tp_restore_0 {d : Nat} {M : Mem}  (h : Rel M)  : Two (d + 24) 110 188 [some (vR (some 0)), some (vI 0)] [some (vR (some 273)), some (vI 0), none] M := by
  obtain ⟨K, T, L, hW⟩ := h.2.2.2.2.1
  obtain ⟨hE, hKo, hS, hK12, hR, hKR, hRR, hA, hAR, hL, hti⟩ := id hW
  have hT := hS.1
  have hK : RepK M 20 K 0 := hK12.mono (by decide)
  have g0 := hKo.1
  have u3 := hT.2.2.1
  have mi9 := hS.2.2
  have k1 : M 20 7 = kPe K := hK.1
  have k2 : M 20 6 = kWt K := hK.2.1
  have q1 : M 274 229 = kPe K := hKR.1
  have q2 : M 274 230 = kPe K - kWt K := hKR.2.1
  obtain ⟨x6, x7, x8, x9, x10, xq, xp⟩ := id hR
  obtain ⟨y6, y7, y8, y9, y10, yq, yp⟩ := id hRR
  have hl28 := q28 hKo hT
  have hl16 : ((tQ T).length : Int) ≤ 16 := by omega
  have hI : ImR M 0 := h.2.2.2.2.2.1.1
  have hI1 : M 250 0 = M 276 0 := hI.1
  show Ok (d + 24) 110 0 [some (vR (some 0)), some (vI 0)] [] M _
  refine k_iload_n i_110_0 rfl ?_
  refine k_iconst i_110_1 (by decide) ?_
  refine k_invS (n := 2) (av := [vI 0, vI 1]) (rest := []) (el := [some (vI 0), some (vI 1)]) i_110_2 o_110 rfl v_117 rfl rfl rfl rfl rfl rfl ?_
  refine c_117 (fun v2 hv2 => ?_)
  show Ok _ 110 5 [some (vR (some 0)), some (vI 0)] [vI v2] (M) _
  refine k_if_ne (t := 11) i_110_5 rfl (fun h5 => ?_) (fun h5 => ?_)
  · refine k_aload_n i_110_11 rfl ?_
    refine k_getR (r := 250) i_110_12 o_110 rfl (by decide) (s_0) rfl ?_
    refine k_iload_n i_110_15 rfl ?_
    refine k_bald i_110_16 (s_250) (by omega) ?_
    refine k_if_ne (t := 23) i_110_17 rfl (fun h17 => ?_) (fun h17 => ?_)
    · obtain ⟨K1, T1, p1, p2, p3, p4, p5, p6, p7, p8⟩ := (hI.2.resolve_left h17).2.2
      have p0 := (hI.2.resolve_left h17).2.1
      refine k_aload_n i_110_23 rfl ?_
      refine k_getR (r := 20) i_110_24 o_110 rfl (by decide) (s_0) rfl ?_
      refine k_aload_n i_110_27 rfl ?_
      refine k_getR (r := 248) i_110_28 o_110 rfl (by decide) (s_0) rfl ?_
      refine k_iload_n i_110_31 rfl ?_
      refine k_aald (r := 251) i_110_32 (s_248) (by decide) (by decide) rfl ?_
      refine k_invV (n := 1) (o' := 5) (av := [vR (some 20), vR (some 251)]) (rest := []) (el := [some (vR (some 20)), some (vR (some 251))]) i_110_33 o_110 rfl v_59 rfl (s_20) rfl rfl rfl rfl rfl ?_
      refine c_59 td_20 td_251 (by omega) (fun M1 hc1 => ?_)
      show Ok _ 110 36 [some (vR (some 0)), some (vI 0)] [] (M1) _
      refine k_aload_n i_110_36 rfl ?_
      refine k_getR (r := 25) i_110_37 o_110 rfl (by decide) (s_0) rfl ?_
      refine k_aload_n i_110_40 rfl ?_
      refine k_getR (r := 249) i_110_41 o_110 rfl (by decide) (s_0) rfl ?_
      refine k_iload_n i_110_44 rfl ?_
      refine k_aald (r := 256) i_110_45 (s_249) (by decide) (by decide) rfl ?_
      refine k_invV (n := 1) (o' := 6) (av := [vR (some 25), vR (some 256)]) (rest := []) (el := [some (vR (some 25)), some (vR (some 256)), none]) i_110_46 o_110 rfl v_62 rfl (s_25) rfl rfl rfl rfl rfl ?_
      refine c_62 (a := 25) (b := 256) tw_25 tw_256 (Or.inl ⟨rfl, rfl⟩) (by omega) p2 (p5.fr (fun b j h0 h1 => hc1.2.2.2.2.2.2 b j (by omega))) (sane_len p2 p3) (fun M2 hC2 ho2 => ?_)
      show Ok _ 110 49 [some (vR (some 0)), some (vI 0)] [] (M2) _
      refine k_aload_n i_110_49 rfl ?_
      refine k_getR (r := 31) i_110_50 o_110 rfl (by decide) (s_0) rfl ?_
      refine k_invV (n := 0) (o' := 0) (av := [vR (some 31)]) (rest := []) (el := [some (vR (some 31))]) i_110_53 o_110 rfl v_2 rfl (s_31) rfl rfl rfl rfl rfl ?_
      refine c_2 ?_
      show Ok _ 110 56 [some (vR (some 0)), some (vI 0)] [] (mu M2 31 (2) (0)) _
      refine k_iconst i_110_56 (by decide) ?_
      refine k_iret i_110_57 rfl ?_
      show Ok (d + 24) 188 0 [some (vR (some 273)), some (vI 0), none] [] (mu M2 31 (2) (0)) _
      obtain ⟨N, hN⟩ : ∃ N : Mem, N = mu M2 31 (2) (0) := ⟨_, rfl⟩
      rw [← hN]
      have hnb : ∀ (b : Nat) (j : Int), ¬ (20 ≤ b ∧ b ≤ 31) → N b j = M b j := fun b j hb => by
        rw [hN, mu_ne (by omega), ho2 b j (by omega)]
        exact hc1.2.2.2.2.2.2 b j (by omega)
      have z1 : N 276 0 = M 276 0 := hnb _ _ (by omega)
      refine k_iload_n i_188_0 rfl ?_
      refine k_i2l i_188_1 ?_
      refine k_lconst (z := 0) i_188_2 rfl ?_
      refine k_lconst (z := 1) i_188_3 rfl ?_
      refine k_invS (n := 3) (av := [vL 0, vL 0, vL 1]) (rest := []) (el := [some (vL 0), none, some (vL 0), none, some (vL 1), none]) i_188_4 o_188 rfl v_122 rfl rfl rfl rfl rfl rfl ?_
      refine c_122 (fun v4 hv4 => ?_)
      show Ok _ 188 7 [some (vR (some 273)), some (vI 0), none] [vI v4] (N) _
      refine k_if_ne (t := 13) i_188_7 rfl (fun h7 => ?_) (fun h7 => ?_)
      · refine k_aload_n i_188_13 rfl ?_
        refine k_getR (r := 276) i_188_14 o_188 rfl (by decide) (s_273) rfl ?_
        refine k_iload_n i_188_17 rfl ?_
        refine k_bald i_188_18 (s_276) (by omega) ?_
        refine k_if_ne (t := 25) i_188_19 rfl (fun h19 => ?_) (fun h19 => ?_)
        · refine k_iconst i_188_25 (by decide) ?_
          refine k_istore_n (ls' := [some (vR (some 273)), some (vI 0), some (vI 0)]) i_188_26 rfl ?_
          rw [← cpr_0 N (232 * 0)]
          obtain ⟨P, hP⟩ : ∃ P : Mem, P = mu (cpr N (232 * 0) 232) 273 4 0 := ⟨_, rfl⟩
          have hf : ∀ (b : Nat) (j : Int), ¬ (20 ≤ b ∧ b ≤ 31) → ¬ (b = 274 ∧ 0 ≤ j ∧ j < 232) → ¬ (b = 273 ∧ j = 4) → P b j = M b j := fun b j h0 h1 h2 => by
            rw [hP]
            exact (if_neg h2).trans ((if_neg h1).trans (hnb b j h0))
          have hf2 : ∀ (b : Nat) (j : Int), b < 200 → P b j = N b j := fun b j h0 => by
            rw [hP, mu_ne (by omega)]
            exact if_neg (by omega)
          have h74 : ∀ j : Int, 0 ≤ j → j < 232 → P 274 j = M 275 (232 * 0 + j) := fun j j0 j1 => by
            rw [hP, mu_ne (by decide)]
            refine (if_pos ⟨rfl, j0, j1⟩).trans (hnb _ _ (by omega))
          refine l_188 (k := 0) (by omega) ⟨_, rfl, rfl, ?_⟩ 233 0 (by omega) (by omega)
          rw [← hP]
          refine h.tw (K := K1) (T := T1) (L := []) (fun b j h0 h1 h2 => hf b j (by omega) h1 h2) ⟨p1, p2, p3, ?_, ?_, ?_, ?_, ?_, ?_, fun U hU => absurd hU (List.not_mem_nil), Or.inr ⟨?_, ?_⟩⟩
          · refine ((hc1.k12 p2 p1 hE p4 hK12).fr (M' := N) (fun b j h0 h1 => ?_)).fr (fun b j h0 h1 => hf2 b j (by omega))
            rw [hN, mu_ne (by omega), ho2 b j (by omega)]
          · refine hC2.fr (fun b j h0 h1 => ?_)
            rw [hf2 b j (by omega), hN, mu_ne (by omega)]
          · exact RepKR.cg p2 p6 h74
          · exact RepR.cg p2 (sane_len p2 p3) p7 (fun j j0 j1 => h74 j j0 (by omega))
          · have e1 : P 31 1 = M 31 1 := by
              rw [hf2 _ _ (by omega), hN, mu_j (by decide), ho2 _ _ (by omega)]
              exact hc1.2.2.2.2.2.2 _ _ (by omega)
            have e2 : P 31 2 = 0 := by rw [hf2 _ _ (by omega), hN, mu_s]
            have e3 := hA.1
            have e4 := hA.2.1
            exact ⟨by omega, by omega, e2, by decide, fun i U hi => absurd hi (by simp)⟩
          · exact ⟨by rw [hP, mu_s]; rfl, by decide, fun i U hi => absurd hi (by simp)⟩
          · rw [hf _ _ (by omega) (by omega) (by omega)]; exact p0
          · rw [h74 231 (by omega) (by omega)]; exact p8
        · refine k_ldc (z := -1000002) i_188_22 o_188 rfl (by decide) ?_
          refine k_iret i_188_24 rfl ?_
          exfalso
          omega
      · refine k_ldc (z := -1000001) i_188_10 o_188 rfl (by decide) ?_
        refine k_iret i_188_12 rfl ?_
        exfalso
        omega
    · refine k_ldc (z := -1000002) i_110_20 o_110 rfl (by decide) ?_
      refine k_iret i_110_22 rfl ?_
      show Ok (d + 24) 188 0 [some (vR (some 273)), some (vI 0), none] [] M _
      refine k_iload_n i_188_0 rfl ?_
      refine k_i2l i_188_1 ?_
      refine k_lconst (z := 0) i_188_2 rfl ?_
      refine k_lconst (z := 1) i_188_3 rfl ?_
      refine k_invS (n := 3) (av := [vL 0, vL 0, vL 1]) (rest := []) (el := [some (vL 0), none, some (vL 0), none, some (vL 1), none]) i_188_4 o_188 rfl v_122 rfl rfl rfl rfl rfl rfl ?_
      refine c_122 (fun v4 hv4 => ?_)
      show Ok _ 188 7 [some (vR (some 273)), some (vI 0), none] [vI v4] (M) _
      refine k_if_ne (t := 13) i_188_7 rfl (fun h7 => ?_) (fun h7 => ?_)
      · refine k_aload_n i_188_13 rfl ?_
        refine k_getR (r := 276) i_188_14 o_188 rfl (by decide) (s_273) rfl ?_
        refine k_iload_n i_188_17 rfl ?_
        refine k_bald i_188_18 (s_276) (by omega) ?_
        refine k_if_ne (t := 25) i_188_19 rfl (fun h19 => ?_) (fun h19 => ?_)
        · refine k_iconst i_188_25 (by decide) ?_
          refine k_istore_n (ls' := [some (vR (some 273)), some (vI 0), some (vI 0)]) i_188_26 rfl ?_
          exfalso
          omega
        · refine k_ldc (z := -1000002) i_188_22 o_188 rfl (by decide) ?_
          refine k_iret i_188_24 rfl ?_
          refine ⟨_, rfl, ?_, h⟩
          first
            | exact congrArg (fun z => some (vI z)) (by omega)
            | (exfalso; omega)
      · refine k_ldc (z := -1000001) i_188_10 o_188 rfl (by decide) ?_
        refine k_iret i_188_12 rfl ?_
        refine ⟨_, rfl, ?_, h⟩
        first
          | exact congrArg (fun z => some (vI z)) (by omega)
          | (exfalso; omega)
  · refine k_ldc (z := -1000001) i_110_8 o_110 rfl (by decide) ?_
    refine k_iret i_110_10 rfl ?_
    show Ok (d + 24) 188 0 [some (vR (some 273)), some (vI 0), none] [] M _
    refine k_iload_n i_188_0 rfl ?_
    refine k_i2l i_188_1 ?_
    refine k_lconst (z := 0) i_188_2 rfl ?_
    refine k_lconst (z := 1) i_188_3 rfl ?_
    refine k_invS (n := 3) (av := [vL 0, vL 0, vL 1]) (rest := []) (el := [some (vL 0), none, some (vL 0), none, some (vL 1), none]) i_188_4 o_188 rfl v_122 rfl rfl rfl rfl rfl rfl ?_
    refine c_122 (fun v4 hv4 => ?_)
    show Ok _ 188 7 [some (vR (some 273)), some (vI 0), none] [vI v4] (M) _
    refine k_if_ne (t := 13) i_188_7 rfl (fun h7 => ?_) (fun h7 => ?_)
    · refine k_aload_n i_188_13 rfl ?_
      refine k_getR (r := 276) i_188_14 o_188 rfl (by decide) (s_273) rfl ?_
      refine k_iload_n i_188_17 rfl ?_
      refine k_bald i_188_18 (s_276) (by omega) ?_
      refine k_if_ne (t := 25) i_188_19 rfl (fun h19 => ?_) (fun h19 => ?_)
      · refine k_iconst i_188_25 (by decide) ?_
        refine k_istore_n (ls' := [some (vR (some 273)), some (vI 0), some (vI 0)]) i_188_26 rfl ?_
        exfalso
        omega
      · refine k_ldc (z := -1000002) i_188_22 o_188 rfl (by decide) ?_
        refine k_iret i_188_24 rfl ?_
        refine ⟨_, rfl, ?_, h⟩
        first
          | exact congrArg (fun z => some (vI z)) (by omega)
          | (exfalso; omega)
    · refine k_ldc (z := -1000001) i_188_10 o_188 rfl (by decide) ?_
      refine k_iret i_188_12 rfl ?_
      refine ⟨_, rfl, ?_, h⟩
      first
        | exact congrArg (fun z => some (vI z)) (by omega)
        | (exfalso; omega)

set_option maxRecDepth 100000 in
theorem tp_restore_1 {d : Nat} {M : Mem}  (h : Rel M)  : Two (d + 24) 110 188 [some (vR (some 0)), some (vI 1)] [some (vR (some 273)), some (vI 1), none] M := by
  obtain ⟨K, T, L, hW⟩ := h.2.2.2.2.1
  obtain ⟨hE, hKo, hS, hK12, hR, hKR, hRR, hA, hAR, hL, hti⟩ := id hW
  have hT := hS.1
  have hK : RepK M 20 K 0 := hK12.mono (by decide)
  have g0 := hKo.1
  have u3 := hT.2.2.1
  have mi9 := hS.2.2
  have k1 : M 20 7 = kPe K := hK.1
  have k2 : M 20 6 = kWt K := hK.2.1
  have q1 : M 274 229 = kPe K := hKR.1
  have q2 : M 274 230 = kPe K - kWt K := hKR.2.1
  obtain ⟨x6, x7, x8, x9, x10, xq, xp⟩ := id hR
  obtain ⟨y6, y7, y8, y9, y10, yq, yp⟩ := id hRR
  have hl28 := q28 hKo hT
  have hl16 : ((tQ T).length : Int) ≤ 16 := by omega
  have hI : ImR M 1 := h.2.2.2.2.2.1.2
  have hI1 : M 250 1 = M 276 1 := hI.1
  show Ok (d + 24) 110 0 [some (vR (some 0)), some (vI 1)] [] M _
  refine k_iload_n i_110_0 rfl ?_
  refine k_iconst i_110_1 (by decide) ?_
  refine k_invS (n := 2) (av := [vI 1, vI 1]) (rest := []) (el := [some (vI 1), some (vI 1)]) i_110_2 o_110 rfl v_117 rfl rfl rfl rfl rfl rfl ?_
  refine c_117 (fun v2 hv2 => ?_)
  show Ok _ 110 5 [some (vR (some 0)), some (vI 1)] [vI v2] (M) _
  refine k_if_ne (t := 11) i_110_5 rfl (fun h5 => ?_) (fun h5 => ?_)
  · refine k_aload_n i_110_11 rfl ?_
    refine k_getR (r := 250) i_110_12 o_110 rfl (by decide) (s_0) rfl ?_
    refine k_iload_n i_110_15 rfl ?_
    refine k_bald i_110_16 (s_250) (by omega) ?_
    refine k_if_ne (t := 23) i_110_17 rfl (fun h17 => ?_) (fun h17 => ?_)
    · obtain ⟨K1, T1, p1, p2, p3, p4, p5, p6, p7, p8⟩ := (hI.2.resolve_left h17).2.2
      have p0 := (hI.2.resolve_left h17).2.1
      refine k_aload_n i_110_23 rfl ?_
      refine k_getR (r := 20) i_110_24 o_110 rfl (by decide) (s_0) rfl ?_
      refine k_aload_n i_110_27 rfl ?_
      refine k_getR (r := 248) i_110_28 o_110 rfl (by decide) (s_0) rfl ?_
      refine k_iload_n i_110_31 rfl ?_
      refine k_aald (r := 262) i_110_32 (s_248) (by decide) (by decide) rfl ?_
      refine k_invV (n := 1) (o' := 5) (av := [vR (some 20), vR (some 262)]) (rest := []) (el := [some (vR (some 20)), some (vR (some 262))]) i_110_33 o_110 rfl v_59 rfl (s_20) rfl rfl rfl rfl rfl ?_
      refine c_59 td_20 td_262 (by omega) (fun M1 hc1 => ?_)
      show Ok _ 110 36 [some (vR (some 0)), some (vI 1)] [] (M1) _
      refine k_aload_n i_110_36 rfl ?_
      refine k_getR (r := 25) i_110_37 o_110 rfl (by decide) (s_0) rfl ?_
      refine k_aload_n i_110_40 rfl ?_
      refine k_getR (r := 249) i_110_41 o_110 rfl (by decide) (s_0) rfl ?_
      refine k_iload_n i_110_44 rfl ?_
      refine k_aald (r := 267) i_110_45 (s_249) (by decide) (by decide) rfl ?_
      refine k_invV (n := 1) (o' := 6) (av := [vR (some 25), vR (some 267)]) (rest := []) (el := [some (vR (some 25)), some (vR (some 267)), none]) i_110_46 o_110 rfl v_62 rfl (s_25) rfl rfl rfl rfl rfl ?_
      refine c_62 (a := 25) (b := 267) tw_25 tw_267 (Or.inl ⟨rfl, rfl⟩) (by omega) p2 (p5.fr (fun b j h0 h1 => hc1.2.2.2.2.2.2 b j (by omega))) (sane_len p2 p3) (fun M2 hC2 ho2 => ?_)
      show Ok _ 110 49 [some (vR (some 0)), some (vI 1)] [] (M2) _
      refine k_aload_n i_110_49 rfl ?_
      refine k_getR (r := 31) i_110_50 o_110 rfl (by decide) (s_0) rfl ?_
      refine k_invV (n := 0) (o' := 0) (av := [vR (some 31)]) (rest := []) (el := [some (vR (some 31))]) i_110_53 o_110 rfl v_2 rfl (s_31) rfl rfl rfl rfl rfl ?_
      refine c_2 ?_
      show Ok _ 110 56 [some (vR (some 0)), some (vI 1)] [] (mu M2 31 (2) (0)) _
      refine k_iconst i_110_56 (by decide) ?_
      refine k_iret i_110_57 rfl ?_
      show Ok (d + 24) 188 0 [some (vR (some 273)), some (vI 1), none] [] (mu M2 31 (2) (0)) _
      obtain ⟨N, hN⟩ : ∃ N : Mem, N = mu M2 31 (2) (0) := ⟨_, rfl⟩
      rw [← hN]
      have hnb : ∀ (b : Nat) (j : Int), ¬ (20 ≤ b ∧ b ≤ 31) → N b j = M b j := fun b j hb => by
        rw [hN, mu_ne (by omega), ho2 b j (by omega)]
        exact hc1.2.2.2.2.2.2 b j (by omega)
      have z1 : N 276 1 = M 276 1 := hnb _ _ (by omega)
      refine k_iload_n i_188_0 rfl ?_
      refine k_i2l i_188_1 ?_
      refine k_lconst (z := 0) i_188_2 rfl ?_
      refine k_lconst (z := 1) i_188_3 rfl ?_
      refine k_invS (n := 3) (av := [vL 1, vL 0, vL 1]) (rest := []) (el := [some (vL 1), none, some (vL 0), none, some (vL 1), none]) i_188_4 o_188 rfl v_122 rfl rfl rfl rfl rfl rfl ?_
      refine c_122 (fun v4 hv4 => ?_)
      show Ok _ 188 7 [some (vR (some 273)), some (vI 1), none] [vI v4] (N) _
      refine k_if_ne (t := 13) i_188_7 rfl (fun h7 => ?_) (fun h7 => ?_)
      · refine k_aload_n i_188_13 rfl ?_
        refine k_getR (r := 276) i_188_14 o_188 rfl (by decide) (s_273) rfl ?_
        refine k_iload_n i_188_17 rfl ?_
        refine k_bald i_188_18 (s_276) (by omega) ?_
        refine k_if_ne (t := 25) i_188_19 rfl (fun h19 => ?_) (fun h19 => ?_)
        · refine k_iconst i_188_25 (by decide) ?_
          refine k_istore_n (ls' := [some (vR (some 273)), some (vI 1), some (vI 0)]) i_188_26 rfl ?_
          rw [← cpr_0 N (232 * 1)]
          obtain ⟨P, hP⟩ : ∃ P : Mem, P = mu (cpr N (232 * 1) 232) 273 4 0 := ⟨_, rfl⟩
          have hf : ∀ (b : Nat) (j : Int), ¬ (20 ≤ b ∧ b ≤ 31) → ¬ (b = 274 ∧ 0 ≤ j ∧ j < 232) → ¬ (b = 273 ∧ j = 4) → P b j = M b j := fun b j h0 h1 h2 => by
            rw [hP]
            exact (if_neg h2).trans ((if_neg h1).trans (hnb b j h0))
          have hf2 : ∀ (b : Nat) (j : Int), b < 200 → P b j = N b j := fun b j h0 => by
            rw [hP, mu_ne (by omega)]
            exact if_neg (by omega)
          have h74 : ∀ j : Int, 0 ≤ j → j < 232 → P 274 j = M 275 (232 * 1 + j) := fun j j0 j1 => by
            rw [hP, mu_ne (by decide)]
            refine (if_pos ⟨rfl, j0, j1⟩).trans (hnb _ _ (by omega))
          refine l_188 (k := 1) (by omega) ⟨_, rfl, rfl, ?_⟩ 233 0 (by omega) (by omega)
          rw [← hP]
          refine h.tw (K := K1) (T := T1) (L := []) (fun b j h0 h1 h2 => hf b j (by omega) h1 h2) ⟨p1, p2, p3, ?_, ?_, ?_, ?_, ?_, ?_, fun U hU => absurd hU (List.not_mem_nil), Or.inr ⟨?_, ?_⟩⟩
          · refine ((hc1.k12 p2 p1 hE p4 hK12).fr (M' := N) (fun b j h0 h1 => ?_)).fr (fun b j h0 h1 => hf2 b j (by omega))
            rw [hN, mu_ne (by omega), ho2 b j (by omega)]
          · refine hC2.fr (fun b j h0 h1 => ?_)
            rw [hf2 b j (by omega), hN, mu_ne (by omega)]
          · exact RepKR.cg p2 p6 h74
          · exact RepR.cg p2 (sane_len p2 p3) p7 (fun j j0 j1 => h74 j j0 (by omega))
          · have e1 : P 31 1 = M 31 1 := by
              rw [hf2 _ _ (by omega), hN, mu_j (by decide), ho2 _ _ (by omega)]
              exact hc1.2.2.2.2.2.2 _ _ (by omega)
            have e2 : P 31 2 = 0 := by rw [hf2 _ _ (by omega), hN, mu_s]
            have e3 := hA.1
            have e4 := hA.2.1
            exact ⟨by omega, by omega, e2, by decide, fun i U hi => absurd hi (by simp)⟩
          · exact ⟨by rw [hP, mu_s]; rfl, by decide, fun i U hi => absurd hi (by simp)⟩
          · rw [hf _ _ (by omega) (by omega) (by omega)]; exact p0
          · rw [h74 231 (by omega) (by omega)]; exact p8
        · refine k_ldc (z := -1000002) i_188_22 o_188 rfl (by decide) ?_
          refine k_iret i_188_24 rfl ?_
          exfalso
          omega
      · refine k_ldc (z := -1000001) i_188_10 o_188 rfl (by decide) ?_
        refine k_iret i_188_12 rfl ?_
        exfalso
        omega
    · refine k_ldc (z := -1000002) i_110_20 o_110 rfl (by decide) ?_
      refine k_iret i_110_22 rfl ?_
      show Ok (d + 24) 188 0 [some (vR (some 273)), some (vI 1), none] [] M _
      refine k_iload_n i_188_0 rfl ?_
      refine k_i2l i_188_1 ?_
      refine k_lconst (z := 0) i_188_2 rfl ?_
      refine k_lconst (z := 1) i_188_3 rfl ?_
      refine k_invS (n := 3) (av := [vL 1, vL 0, vL 1]) (rest := []) (el := [some (vL 1), none, some (vL 0), none, some (vL 1), none]) i_188_4 o_188 rfl v_122 rfl rfl rfl rfl rfl rfl ?_
      refine c_122 (fun v4 hv4 => ?_)
      show Ok _ 188 7 [some (vR (some 273)), some (vI 1), none] [vI v4] (M) _
      refine k_if_ne (t := 13) i_188_7 rfl (fun h7 => ?_) (fun h7 => ?_)
      · refine k_aload_n i_188_13 rfl ?_
        refine k_getR (r := 276) i_188_14 o_188 rfl (by decide) (s_273) rfl ?_
        refine k_iload_n i_188_17 rfl ?_
        refine k_bald i_188_18 (s_276) (by omega) ?_
        refine k_if_ne (t := 25) i_188_19 rfl (fun h19 => ?_) (fun h19 => ?_)
        · refine k_iconst i_188_25 (by decide) ?_
          refine k_istore_n (ls' := [some (vR (some 273)), some (vI 1), some (vI 0)]) i_188_26 rfl ?_
          exfalso
          omega
        · refine k_ldc (z := -1000002) i_188_22 o_188 rfl (by decide) ?_
          refine k_iret i_188_24 rfl ?_
          refine ⟨_, rfl, ?_, h⟩
          first
            | exact congrArg (fun z => some (vI z)) (by omega)
            | (exfalso; omega)
      · refine k_ldc (z := -1000001) i_188_10 o_188 rfl (by decide) ?_
        refine k_iret i_188_12 rfl ?_
        refine ⟨_, rfl, ?_, h⟩
        first
          | exact congrArg (fun z => some (vI z)) (by omega)
          | (exfalso; omega)
  · refine k_ldc (z := -1000001) i_110_8 o_110 rfl (by decide) ?_
    refine k_iret i_110_10 rfl ?_
    show Ok (d + 24) 188 0 [some (vR (some 273)), some (vI 1), none] [] M _
    refine k_iload_n i_188_0 rfl ?_
    refine k_i2l i_188_1 ?_
    refine k_lconst (z := 0) i_188_2 rfl ?_
    refine k_lconst (z := 1) i_188_3 rfl ?_
    refine k_invS (n := 3) (av := [vL 1, vL 0, vL 1]) (rest := []) (el := [some (vL 1), none, some (vL 0), none, some (vL 1), none]) i_188_4 o_188 rfl v_122 rfl rfl rfl rfl rfl rfl ?_
    refine c_122 (fun v4 hv4 => ?_)
    show Ok _ 188 7 [some (vR (some 273)), some (vI 1), none] [vI v4] (M) _
    refine k_if_ne (t := 13) i_188_7 rfl (fun h7 => ?_) (fun h7 => ?_)
    · refine k_aload_n i_188_13 rfl ?_
      refine k_getR (r := 276) i_188_14 o_188 rfl (by decide) (s_273) rfl ?_
      refine k_iload_n i_188_17 rfl ?_
      refine k_bald i_188_18 (s_276) (by omega) ?_
      refine k_if_ne (t := 25) i_188_19 rfl (fun h19 => ?_) (fun h19 => ?_)
      · refine k_iconst i_188_25 (by decide) ?_
        refine k_istore_n (ls' := [some (vR (some 273)), some (vI 1), some (vI 0)]) i_188_26 rfl ?_
        exfalso
        omega
      · refine k_ldc (z := -1000002) i_188_22 o_188 rfl (by decide) ?_
        refine k_iret i_188_24 rfl ?_
        refine ⟨_, rfl, ?_, h⟩
        first
          | exact congrArg (fun z => some (vI z)) (by omega)
          | (exfalso; omega)
    · refine k_ldc (z := -1000001) i_188_10 o_188 rfl (by decide) ?_
      refine k_iret i_188_12 rfl ?_
      refine ⟨_, rfl, ?_, h⟩
      first
        | exact congrArg (fun z => some (vI z)) (by omega)
        | (exfalso; omega)
