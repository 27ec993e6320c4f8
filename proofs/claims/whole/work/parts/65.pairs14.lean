set_option maxRecDepth 100000 in
theorem tp_go {d : Nat} {M : Mem} {i : Int} (h : Rel M)  : Two (d + 24) 94 160 [some (vR (some 0)), some (vI i), none] [some (vR (some 273)), some (vI i)] M := by
  obtain ⟨K, T, L, hW⟩ := h.2.2.2.2.1
  obtain ⟨hE, hKo, hS, hK12, hR, hKR, hRR, hA, hAR, hL, hti⟩ := id hW
  have hT := hS.1
  have hK : RepK M 20 K 0 := hK12.mono (by decide)
  have g0 := hKo.1
  have u3 := hT.2.2.1
  have mi9 := hS.2.2
  have k1 : M 20 7 = kPe K := hK.1
  have k2 : M 20 6 = kWt K := hK.2.1
  have q1 : M 274 229 = kPe K := hKR.1
  have q2 : M 274 230 = kPe K - kWt K := hKR.2.1
  obtain ⟨x6, x7, x8, x9, x10, xq, xp⟩ := id hR
  obtain ⟨y6, y7, y8, y9, y10, yq, yp⟩ := id hRR
  have hl28 := q28 hKo hT
  have hl16 : ((tQ T).length : Int) ≤ 16 := by omega
  show Ok (d + 24) 94 0 [some (vR (some 0)), some (vI i), none] [] M _
  refine k_aload_n i_94_0 rfl ?_
  refine k_iload_n i_94_1 rfl ?_
  refine k_invV (n := 1) (o' := 7) (av := [vR (some 0), vI i]) (rest := []) (el := [some (vR (some 0)), some (vI i)]) i_94_2 o_94 rfl v_118 rfl (s_0) rfl rfl rfl rfl rfl ?_
  refine c_118 (fun v2 hv2 => ?_)
  show Ok _ 94 5 [some (vR (some 0)), some (vI i), none] [vI v2] (M) _
  refine k_if_ne (t := 11) i_94_5 rfl (fun h5 => ?_) (fun h5 => ?_)
  · refine k_aload_n i_94_11 rfl ?_
    refine k_getR (r := 25) i_94_12 o_94 rfl (by decide) (s_0) rfl ?_
    refine k_iload_n i_94_15 rfl ?_
    refine k_invV (n := 1) (o' := 6) (av := [vR (some 25), vI i]) (rest := []) (el := [some (vR (some 25)), some (vI i), none]) i_94_16 o_94 rfl v_66 rfl (s_25) rfl rfl rfl rfl rfl ?_
    refine c_66 tw_25 hR (by omega) hT.1 (by omega) (fun vp hvp => ?_)
    show Ok _ 94 19 [some (vR (some 0)), some (vI i), none] [vI vp] (M) _
    have hpl : (tW T i = 1 ∧ 0 ≤ vp ∧ vp < (tQ T).length ∧ (tQ T).getD vp.toNat 0 = i) ∨ (¬ tW T i = 1 ∧ vp = -1000000) := by
      have u5 := hT.2.2.2.2.1 i (Or.inl (by omega))
      unfold placeF at hvp
      by_cases q : i ∈ tQ T
      · rw [if_pos q] at hvp
        have ql := List.idxOf_lt_length_of_mem q
        exact Or.inl ⟨u5.mpr q, by omega, by omega, by rw [hvp, Int.toNat_natCast]; exact q_get q⟩
      · rw [if_neg q] at hvp
        exact Or.inr ⟨fun w => q (u5.mp w), hvp⟩
    refine k_istore_n (ls' := [some (vR (some 0)), some (vI i), some (vI vp)]) i_94_19 rfl ?_
    refine k_iload_n i_94_20 rfl ?_
    refine k_ldc (z := -1000000) i_94_21 o_94 rfl (by decide) ?_
    refine k_icmp_ne (t := 29) i_94_23 rfl (fun h23 => ?_) (fun h23 => ?_)
    · refine k_aload_n i_94_29 rfl ?_
      refine k_getR (r := 31) i_94_30 o_94 rfl (by decide) (s_0) rfl ?_
      refine k_aload_n i_94_33 rfl ?_
      refine k_getR (r := 25) i_94_34 o_94 rfl (by decide) (s_0) rfl ?_
      refine k_invV (n := 1) (o' := 0) (av := [vR (some 31), vR (some 25)]) (rest := []) (el := [some (vR (some 31)), some (vR (some 25))]) i_94_37 o_94 rfl v_3 rfl (s_31) rfl rfl rfl rfl rfl ?_
      refine c_3 hKo hR hl16 hA (fun M1 hA1 ho1 => ?_)
      show Ok _ 94 40 [some (vR (some 0)), some (vI i), some (vI vp)] [] (M1) _
      refine k_aload_n i_94_40 rfl ?_
      refine k_getR (r := 25) i_94_41 o_94 rfl (by decide) (s_0) rfl ?_
      refine k_iload_n i_94_44 rfl ?_
      refine k_iconst i_94_45 (by decide) ?_
      refine k_invV (n := 2) (o' := 6) (av := [vR (some 25), vI vp, vI 3]) (rest := []) (el := [some (vR (some 25)), some (vI vp), some (vI 3), none]) i_94_46 o_94 rfl v_75 rfl (s_25) rfl rfl rfl rfl rfl ?_
      refine c_75 (k := vp) (w := 3) tw_25 (by omega) hKo hT (hR.fr (fun b j h0 h1 => ho1 b j (by omega))) (by omega) (fun M2 hC2 ho2 => ?_)
      show Ok _ 94 49 [some (vR (some 0)), some (vI i), some (vI vp)] [] (M2) _
      refine k_aload_n i_94_49 rfl ?_
      refine k_getR (r := 25) i_94_50 o_94 rfl (by decide) (s_0) rfl ?_
      refine k_getI (kz := 9) i_94_53 o_94 rfl (by decide) (s_25) rfl ?_
      refine k_iret i_94_56 rfl ?_
      show Ok (d + 24) 160 0 [some (vR (some 273)), some (vI i)] [] M2 _
      obtain ⟨N, hN⟩ : ∃ N : Mem, N = M2 := ⟨_, rfl⟩
      rw [← hN]
      have hnb : ∀ (b : Nat) (j : Int), ¬ (25 ≤ b ∧ b ≤ 176) → N b j = M b j := fun b j hb => by
        rw [hN, ho2 b j (by omega)]
        exact ho1 b j (by omega)
      have hRN : RepR N K 0 T := hRR.off (fun j => hnb 274 j (by omega))
      have hKN : RepKR N K 0 := hKR.fr (fun j => hnb 274 j (by omega))
      have hAN : ActsR N K L := hAR.fr (hnb _ _ (by omega)) (fun j => hnb _ _ (by omega))
      have z1 : N 274 231 = M 274 231 := hnb _ _ (by omega)
      have z2 : N 274 229 = M 274 229 := hnb _ _ (by omega)
      refine k_aload_n i_160_0 rfl ?_
      refine k_iload_n i_160_1 rfl ?_
      refine k_invV (n := 1) (o' := 8) (av := [vR (some 273), vI i]) (rest := []) (el := [some (vR (some 273)), some (vI i)]) i_160_2 o_160 rfl v_143 rfl (s_273) rfl rfl rfl rfl rfl ?_
      refine c_143 (by omega) (fun v2 hv2 => ?_)
      show Ok _ 160 5 [some (vR (some 273)), some (vI i)] [vI v2] (N) _
      refine k_if_ne (t := 11) i_160_5 rfl (fun h5 => ?_) (fun h5 => ?_)
      · refine k_aload_n i_160_11 rfl ?_
        refine k_iload_n i_160_12 rfl ?_
        refine k_invV (n := 1) (o' := 8) (av := [vR (some 273), vI i]) (rest := []) (el := [some (vR (some 273)), some (vI i)]) i_160_13 o_160 rfl v_156 rfl (s_273) rfl rfl rfl rfl rfl ?_
        refine c_156 hKo hKN hRN (Or.inl (by omega)) (fun vq hvq => ?_)
        show Ok _ 160 16 [some (vR (some 273)), some (vI i)] [vI vq] (N) _
        refine k_if_ne (t := 22) i_160_16 rfl (fun h16 => ?_) (fun h16 => ?_)
        · refine k_aload_n i_160_22 rfl ?_
          refine k_invV (n := 0) (o' := 8) (av := [vR (some 273)]) (rest := []) (el := [some (vR (some 273)), none]) i_160_23 o_160 rfl v_154 rfl (s_273) rfl rfl rfl rfl rfl ?_
          refine c_154 hKo hRN hl16 (fun U hU => sane_len hKo (hL U hU)) hAN (fun M3 hA3 ho3 => ?_)
          show Ok _ 160 26 [some (vR (some 273)), some (vI i)] [] (M3) _
          refine k_aload_n i_160_26 rfl ?_
          refine k_aload_n i_160_27 rfl ?_
          refine k_iload_n i_160_28 rfl ?_
          refine k_invV (n := 1) (o' := 8) (av := [vR (some 273), vI i]) (rest := [vR (some 273)]) (el := [some (vR (some 273)), some (vI i), none, none]) i_160_29 o_160 rfl v_159 rfl (s_273) rfl rfl rfl rfl rfl ?_
          refine c_159 hKo (hKN.fr (fun j => ho3 274 j (by decide) (by omega))) (hRN.off (fun j => ho3 274 j (by decide) (by omega))) hT (fun vr hvr => ?_)
          show Ok _ 160 32 [some (vR (some 273)), some (vI i)] [vI vr, vR (some 273)] (M3) _
          refine k_invV (n := 1) (o' := 8) (av := [vR (some 273), vI vr]) (rest := []) (el := [some (vR (some 273)), some (vI vr), none]) i_160_32 o_160 rfl v_149 rfl (s_273) rfl rfl rfl rfl rfl ?_
          refine c_149 (k := vr) hKo (hRN.off (fun j => ho3 274 j (by decide) (by omega))) hl28 (by first | (exfalso; omega) | (have e9 : vr = vp := hvr.trans hvp.symm; omega)) (fun M4 hR4 ho4 => ?_)
          show Ok _ 160 35 [some (vR (some 273)), some (vI i)] [] (M4) _
          refine k_aload_n i_160_35 rfl ?_
          refine k_getR (r := 274) i_160_36 o_160 rfl (by decide) (s_273) rfl ?_
          refine k_iconst i_160_39 (by decide) ?_
          refine k_iload_n i_160_40 rfl ?_
          refine k_iadd i_160_41 (by omega) ?_
          rw [show (0 : Int) + i = i from Int.zero_add i]
          refine k_iconst i_160_42 (by decide) ?_
          refine k_iast i_160_43 (s_274) (by omega) ?_
          refine k_aload_n i_160_44 rfl ?_
          refine k_getR (r := 274) i_160_45 o_160 rfl (by decide) (s_273) rfl ?_
          refine k_sipush i_160_48 (by decide) ?_
          refine k_iald i_160_51 (s_274) (by omega) ?_
          rw [mu_j (M := M4) (a := 274) (b := 274) (i := i) (j := 140) (v := 3) (by omega)]
          refine k_iret i_160_52 rfl ?_
          have evr : vr = vp := by rw [hvr, hvp]
          subst evr
          have hpl2 := hpl.resolve_right (fun q => by omega)
          have hvi : Va K 0 i := Or.inl (by omega)
          have hC2N : RepC N 25 K 0 (outF T vr.toNat 3) := by rw [hN]; exact hC2
          have l4 : ((tQ (eraF T vr.toNat)).length : Int) ≤ 28 := by
            show (((tQ T).eraseIdx vr.toNat).length : Int) ≤ 28
            rw [List.length_eraseIdx]
            split <;> omega
          have hR5 : RepR (mu M4 274 i 3) K 0 (outF T vr.toNat 3) := by
            have q := RepR.setW hKo l4 hR4 3 hvi
            unfold outF
            rw [hpl2.2.2.2]
            exact q
          have n9 : N 25 9 = (tQ (outF T vr.toNat 3)).length := hC2N.2.2.2.1
          have n4 : M4 274 140 = (tQ (outF T vr.toNat 3)).length := hR4.2.2.2.1
          refine ⟨_, rfl, congrArg (fun z => some (vI z)) (by omega), h.act (K := K) (T := outF T vr.toNat 3) (L := keepL L T) (fun c j h0 h1 h2 h3 h4 h5 => ?_) ⟨hE, hKo, ⟨hT.out hKo (by omega) (by decide), hS.2.1, hS.2.2⟩, ?_, ?_, ?_, hR5, ?_, ?_, sane_keep hS hL, ?_⟩⟩
          · have e1 : ¬ (c = 274 ∧ j = i) := by omega
            refine (if_neg e1).trans ?_
            rw [ho4 c j h1 h4 h5, ho3 c j h3 h2, hnb c j h0]
          · exact hK12.fr (fun c j h0 h1 => by rw [mu_ne (by omega), ho4 _ _ (by omega) (by omega) (by omega), ho3 _ _ (by omega) (by omega), hnb _ _ (by omega)])
          · exact hC2N.fr (fun c j h0 h1 => by rw [mu_ne (by omega), ho4 _ _ (by omega) (by omega) (by omega), ho3 _ _ (by omega) (by omega)])
          · have hk3 : RepKR M3 K 0 := hKN.fr (fun j => ho3 274 j (by decide) (by omega))
            exact hk3.out hKo (ho4.mu (by omega))
          · refine hA1.fr (fun c j h0 h1 => ?_)
            rw [mu_ne (by omega), ho4 _ _ (by omega) (by omega) (by omega), ho3 _ _ (by omega) (by omega), hN, ho2 _ _ (by omega)]
          · exact hA3.fr (by rw [mu_ne (by decide)]; exact ho4 _ _ (by omega) (by decide) (by decide)) (fun j => by rw [mu_ne (by decide)]; exact ho4 _ _ (by omega) (by decide) (by decide))
          · have e0 : M 0 11 = 1 ∧ M 274 231 = 1 := by
              rcases hti with q | q
              · omega
              · exact q
            refine Or.inr ⟨?_, ?_⟩
            · rw [mu_ne (by decide), ho4 _ _ (by omega) (by decide) (by decide), ho3 _ _ (by decide) (by omega), hnb _ _ (by omega)]; exact e0.1
            · rw [mu_j (by omega), ho4 _ _ (by omega) (by decide) (by decide), ho3 _ _ (by decide) (by omega), hnb _ _ (by omega)]; exact e0.2
        · refine k_ldc (z := -1000002) i_160_19 o_160 rfl (by decide) ?_
          refine k_iret i_160_21 rfl ?_
          exfalso
          omega
      · refine k_ldc (z := -1000001) i_160_8 o_160 rfl (by decide) ?_
        refine k_iret i_160_10 rfl ?_
        exfalso
        omega
    · refine k_ldc (z := -1000002) i_94_26 o_94 rfl (by decide) ?_
      refine k_iret i_94_28 rfl ?_
      show Ok (d + 24) 160 0 [some (vR (some 273)), some (vI i)] [] M _
      refine k_aload_n i_160_0 rfl ?_
      refine k_iload_n i_160_1 rfl ?_
      refine k_invV (n := 1) (o' := 8) (av := [vR (some 273), vI i]) (rest := []) (el := [some (vR (some 273)), some (vI i)]) i_160_2 o_160 rfl v_143 rfl (s_273) rfl rfl rfl rfl rfl ?_
      refine c_143 (by omega) (fun v2 hv2 => ?_)
      show Ok _ 160 5 [some (vR (some 273)), some (vI i)] [vI v2] (M) _
      refine k_if_ne (t := 11) i_160_5 rfl (fun h5 => ?_) (fun h5 => ?_)
      · refine k_aload_n i_160_11 rfl ?_
        refine k_iload_n i_160_12 rfl ?_
        refine k_invV (n := 1) (o' := 8) (av := [vR (some 273), vI i]) (rest := []) (el := [some (vR (some 273)), some (vI i)]) i_160_13 o_160 rfl v_156 rfl (s_273) rfl rfl rfl rfl rfl ?_
        refine c_156 hKo hKR hRR (Or.inl (by omega)) (fun vq hvq => ?_)
        show Ok _ 160 16 [some (vR (some 273)), some (vI i)] [vI vq] (M) _
        refine k_if_ne (t := 22) i_160_16 rfl (fun h16 => ?_) (fun h16 => ?_)
        · refine k_aload_n i_160_22 rfl ?_
          refine k_invV (n := 0) (o' := 8) (av := [vR (some 273)]) (rest := []) (el := [some (vR (some 273)), none]) i_160_23 o_160 rfl v_154 rfl (s_273) rfl rfl rfl rfl rfl ?_
          refine c_154 hKo hRR hl16 (fun U hU => sane_len hKo (hL U hU)) hAR (fun M3 hA3 ho3 => ?_)
          show Ok _ 160 26 [some (vR (some 273)), some (vI i)] [] (M3) _
          refine k_aload_n i_160_26 rfl ?_
          refine k_aload_n i_160_27 rfl ?_
          refine k_iload_n i_160_28 rfl ?_
          refine k_invV (n := 1) (o' := 8) (av := [vR (some 273), vI i]) (rest := [vR (some 273)]) (el := [some (vR (some 273)), some (vI i), none, none]) i_160_29 o_160 rfl v_159 rfl (s_273) rfl rfl rfl rfl rfl ?_
          refine c_159 hKo (hKR.fr (fun j => ho3 274 j (by decide) (by omega))) (hRR.off (fun j => ho3 274 j (by decide) (by omega))) hT (fun vr hvr => ?_)
          show Ok _ 160 32 [some (vR (some 273)), some (vI i)] [vI vr, vR (some 273)] (M3) _
          refine k_invV (n := 1) (o' := 8) (av := [vR (some 273), vI vr]) (rest := []) (el := [some (vR (some 273)), some (vI vr), none]) i_160_32 o_160 rfl v_149 rfl (s_273) rfl rfl rfl rfl rfl ?_
          refine c_149 (k := vr) hKo (hRR.off (fun j => ho3 274 j (by decide) (by omega))) hl28 (by first | (exfalso; omega) | (have e9 : vr = vp := hvr.trans hvp.symm; omega)) (fun M4 hR4 ho4 => ?_)
          show Ok _ 160 35 [some (vR (some 273)), some (vI i)] [] (M4) _
          refine k_aload_n i_160_35 rfl ?_
          refine k_getR (r := 274) i_160_36 o_160 rfl (by decide) (s_273) rfl ?_
          refine k_iconst i_160_39 (by decide) ?_
          refine k_iload_n i_160_40 rfl ?_
          refine k_iadd i_160_41 (by omega) ?_
          rw [show (0 : Int) + i = i from Int.zero_add i]
          refine k_iconst i_160_42 (by decide) ?_
          refine k_iast i_160_43 (s_274) (by omega) ?_
          refine k_aload_n i_160_44 rfl ?_
          refine k_getR (r := 274) i_160_45 o_160 rfl (by decide) (s_273) rfl ?_
          refine k_sipush i_160_48 (by decide) ?_
          refine k_iald i_160_51 (s_274) (by omega) ?_
          rw [mu_j (M := M4) (a := 274) (b := 274) (i := i) (j := 140) (v := 3) (by omega)]
          refine k_iret i_160_52 rfl ?_
          exfalso
          omega
        · refine k_ldc (z := -1000002) i_160_19 o_160 rfl (by decide) ?_
          refine k_iret i_160_21 rfl ?_
          refine ⟨_, rfl, ?_, h⟩
          first
            | exact congrArg (fun z => some (vI z)) (by omega)
            | (exfalso; omega)
      · refine k_ldc (z := -1000001) i_160_8 o_160 rfl (by decide) ?_
        refine k_iret i_160_10 rfl ?_
        refine ⟨_, rfl, ?_, h⟩
        first
          | exact congrArg (fun z => some (vI z)) (by omega)
          | (exfalso; omega)
  · refine k_ldc (z := -1000001) i_94_8 o_94 rfl (by decide) ?_
    refine k_iret i_94_10 rfl ?_
    show Ok (d + 24) 160 0 [some (vR (some 273)), some (vI i)] [] M _
    refine k_aload_n i_160_0 rfl ?_
    refine k_iload_n i_160_1 rfl ?_
    refine k_invV (n := 1) (o' := 8) (av := [vR (some 273), vI i]) (rest := []) (el := [some (vR (some 273)), some (vI i)]) i_160_2 o_160 rfl v_143 rfl (s_273) rfl rfl rfl rfl rfl ?_
    refine c_143 (by omega) (fun v2 hv2 => ?_)
    show Ok _ 160 5 [some (vR (some 273)), some (vI i)] [vI v2] (M) _
    refine k_if_ne (t := 11) i_160_5 rfl (fun h5 => ?_) (fun h5 => ?_)
    · refine k_aload_n i_160_11 rfl ?_
      refine k_iload_n i_160_12 rfl ?_
      refine k_invV (n := 1) (o' := 8) (av := [vR (some 273), vI i]) (rest := []) (el := [some (vR (some 273)), some (vI i)]) i_160_13 o_160 rfl v_156 rfl (s_273) rfl rfl rfl rfl rfl ?_
      refine c_156 hKo hKR hRR (Or.inl (by omega)) (fun vq hvq => ?_)
      show Ok _ 160 16 [some (vR (some 273)), some (vI i)] [vI vq] (M) _
      refine k_if_ne (t := 22) i_160_16 rfl (fun h16 => ?_) (fun h16 => ?_)
      · refine k_aload_n i_160_22 rfl ?_
        refine k_invV (n := 0) (o' := 8) (av := [vR (some 273)]) (rest := []) (el := [some (vR (some 273)), none]) i_160_23 o_160 rfl v_154 rfl (s_273) rfl rfl rfl rfl rfl ?_
        refine c_154 hKo hRR hl16 (fun U hU => sane_len hKo (hL U hU)) hAR (fun M3 hA3 ho3 => ?_)
        show Ok _ 160 26 [some (vR (some 273)), some (vI i)] [] (M3) _
        refine k_aload_n i_160_26 rfl ?_
        refine k_aload_n i_160_27 rfl ?_
        refine k_iload_n i_160_28 rfl ?_
        refine k_invV (n := 1) (o' := 8) (av := [vR (some 273), vI i]) (rest := [vR (some 273)]) (el := [some (vR (some 273)), some (vI i), none, none]) i_160_29 o_160 rfl v_159 rfl (s_273) rfl rfl rfl rfl rfl ?_
        refine c_159 hKo (hKR.fr (fun j => ho3 274 j (by decide) (by omega))) (hRR.off (fun j => ho3 274 j (by decide) (by omega))) hT (fun vr hvr => ?_)
        show Ok _ 160 32 [some (vR (some 273)), some (vI i)] [vI vr, vR (some 273)] (M3) _
        refine k_invV (n := 1) (o' := 8) (av := [vR (some 273), vI vr]) (rest := []) (el := [some (vR (some 273)), some (vI vr), none]) i_160_32 o_160 rfl v_149 rfl (s_273) rfl rfl rfl rfl rfl ?_
        refine c_149 (k := vr) hKo (hRR.off (fun j => ho3 274 j (by decide) (by omega))) hl28 (by first | (exfalso; omega) | (have e9 : vr = vp := hvr.trans hvp.symm; omega)) (fun M4 hR4 ho4 => ?_)
        show Ok _ 160 35 [some (vR (some 273)), some (vI i)] [] (M4) _
        refine k_aload_n i_160_35 rfl ?_
        refine k_getR (r := 274) i_160_36 o_160 rfl (by decide) (s_273) rfl ?_
        refine k_iconst i_160_39 (by decide) ?_
        refine k_iload_n i_160_40 rfl ?_
        refine k_iadd i_160_41 (by omega) ?_
        rw [show (0 : Int) + i = i from Int.zero_add i]
        refine k_iconst i_160_42 (by decide) ?_
        refine k_iast i_160_43 (s_274) (by omega) ?_
        refine k_aload_n i_160_44 rfl ?_
        refine k_getR (r := 274) i_160_45 o_160 rfl (by decide) (s_273) rfl ?_
        refine k_sipush i_160_48 (by decide) ?_
        refine k_iald i_160_51 (s_274) (by omega) ?_
        rw [mu_j (M := M4) (a := 274) (b := 274) (i := i) (j := 140) (v := 3) (by omega)]
        refine k_iret i_160_52 rfl ?_
        exfalso
        omega
      · refine k_ldc (z := -1000002) i_160_19 o_160 rfl (by decide) ?_
        refine k_iret i_160_21 rfl ?_
        refine ⟨_, rfl, ?_, h⟩
        first
          | exact congrArg (fun z => some (vI z)) (by omega)
          | (exfalso; omega)
    · refine k_ldc (z := -1000001) i_160_8 o_160 rfl (by decide) ?_
      refine k_iret i_160_10 rfl ?_
      refine ⟨_, rfl, ?_, h⟩
      first
        | exact congrArg (fun z => some (vI z)) (by omega)
        | (exfalso; omega)
