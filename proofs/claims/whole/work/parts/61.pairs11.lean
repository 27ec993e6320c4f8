theorem Rel.feed {M : Mem} (h : Rel M) {x : Int} (hx : 0 ≤ x ∧ x ≤ 255) (hl : M 13 1 < 160) {M' : Mem} (hM : M' = mu (mu (mu (mu M 14 (M 13 1) x) 13 1 (M 13 1 + 1)) 284 (M 273 13) x) 273 13 (M 273 13 + 1)) : Rel M' := by
  obtain ⟨a1, a2, a3, ⟨b1, b2, b3, b4⟩, ⟨K, T, L, a5⟩, ⟨a6, a7⟩, a8⟩ := h
  have hs : ∀ (b : Nat) (j : Int), b ≠ 14 → b ≠ 13 → b ≠ 284 → ¬ (b = 273 ∧ j = 13) → M' b j = M b j := fun b j b0 b1 b2 b3 => by
    rw [hM]
    refine (if_neg b3).trans ?_
    rw [mu_ne b2, mu_ne b1, mu_ne b0]
  have e1 : M' 13 1 = M 13 1 + 1 := by rw [hM, mu_ne (by decide), mu_ne (by decide), mu_s]
  have e2 : M' 273 13 = M 273 13 + 1 := by rw [hM, mu_s]
  refine ⟨a1.fr (fun b j hb => hs b j (by omega) (by omega) (by omega) (by omega)), a2.fr (hs _ _ (by omega) (by omega) (by omega) (by omega)) (hs _ _ (by omega) (by omega) (by omega) (by omega)), a3.fr (hs _ _ (by omega) (by omega) (by omega) (by omega)) (hs _ _ (by omega) (by omega) (by omega) (by omega)), ⟨by omega, by omega, by omega, fun i i0 i1 => ?_⟩, ⟨K, T, L, a5.fr (fun b j hb => hs b j (by omega) (by omega) (by omega) (by omega)) (hs _ _ (by omega) (by omega) (by omega) (by omega)) (hs _ _ (by omega) (by omega) (by omega) (by omega))⟩, ⟨a6.fr (by decide) (fun b j hb => hs b j (by omega) (by omega) (by omega) (by omega)), a7.fr (by decide) (fun b j hb => hs b j (by omega) (by omega) (by omega) (by omega))⟩, a8.fr (fun j => hs _ _ (by omega) (by omega) (by omega) (by omega)) (fun j => hs _ _ (by omega) (by omega) (by omega) (by omega)) (hs _ _ (by omega) (by omega) (by omega) (by omega)) (fun j => hs _ _ (by omega) (by omega) (by omega) (by omega))⟩
  have f1 : M' 14 i = mu M 14 (M 13 1) x 14 i := by rw [hM, mu_ne (by decide), mu_ne (by decide), mu_ne (by decide)]
  have f2 : M' 284 i = mu M 284 (M 273 13) x 284 i := by
    rw [hM, mu_ne (by decide)]
    by_cases e : i = M 273 13
    · rw [e, mu_s, mu_s]
    · rw [mu_j e, mu_j e, mu_ne (by decide), mu_ne (by decide)]
  rw [f1, f2]
  by_cases e : i = M 13 1
  · rw [e, mu_s, b1, mu_s]
    exact ⟨rfl, hx⟩
  · rw [mu_j e, mu_j (by omega)]
    exact b4 i i0 (by omega)

set_option maxRecDepth 100000 in
/-- ElbowQueue$Reader.isFull -/
theorem c_30 {d : Nat} {M : Mem} {Q : Option Vv → Mem → Prop}   (k : ∀ v : Int, (v = 1 ∧ (160 ≤ M 13 1)) ∨ (v = 0 ∧ ¬ (160 ≤ M 13 1)) → Q (some (vI v)) M) : Ok d 30 0 [some (vR (some 13))] [] M Q := by
  refine k_aload_n i_30_0 rfl ?_
  refine k_getI (kz := 1) i_30_1 o_30 rfl (by decide) (s_13) rfl ?_
  refine k_sipush i_30_4 (by decide) ?_
  refine k_icmp_lt (t := 14) i_30_7 rfl (fun h7 => ?_) (fun h7 => ?_)
  · refine k_iconst i_30_14 (by decide) ?_
    refine k_zret i_30_15 rfl (by omega) ?_
    exact k _ (by omega)
  · refine k_iconst i_30_10 (by decide) ?_
    refine k_goto (t := 15) i_30_11 rfl ?_
    refine k_zret i_30_15 rfl (by omega) ?_
    exact k _ (by omega)

set_option maxRecDepth 100000 in
/-- ElbowQueue$Reader.take -/
theorem c_31 {d : Nat} {M : Mem} {Q : Option Vv → Mem → Prop} {x : Int} (hl : 0 ≤ M 13 1 ∧ M 13 1 < 160) (k : Q (some (vI (M 13 1 + 1))) (mu (mu M 14 (M 13 1) x) 13 1 (M 13 1 + 1))) : Ok d 31 0 [some (vR (some 13)), some (vI x)] [] M Q := by
  refine k_aload_n i_31_0 rfl ?_
  refine k_getR (r := 14) i_31_1 o_31 rfl (by decide) (s_13) rfl ?_
  refine k_aload_n i_31_4 rfl ?_
  refine k_getI (kz := 1) i_31_5 o_31 rfl (by decide) (s_13) rfl ?_
  refine k_iload_n i_31_8 rfl ?_
  refine k_iast i_31_9 (s_14) (by omega) ?_
  refine k_aload_n i_31_10 rfl ?_
  refine k_dupR i_31_11 ?_
  refine k_getI (kz := 1) i_31_12 o_31 rfl (by decide) (s_13) rfl ?_
  rw [mu_ne (M := M) (a := 14) (b := 13) (i := M 13 1) (x := x) (by omega)]
  refine k_iconst i_31_15 (by decide) ?_
  refine k_iadd i_31_16 (by omega) ?_
  refine k_putI (kz := 1) i_31_17 o_31 rfl (by decide) (s_13) rfl ?_
  refine k_aload_n i_31_20 rfl ?_
  refine k_getI (kz := 1) i_31_21 o_31 rfl (by decide) (s_13) rfl ?_
  rw [mu_s (mu M 14 (M 13 1) (x)) 13 (1) ((M 13 1) + 1)]
  refine k_iret i_31_24 rfl ?_
  exact k

set_option maxRecDepth 100000 in
theorem tp_feed {d : Nat} {M : Mem} {x : Int} (h : Rel M)  : Two (d + 24) 89 130 [some (vR (some 0)), some (vI x)] [some (vR (some 273)), some (vI x)] M := by
  obtain ⟨K, T, L, hW⟩ := h.2.2.2.2.1
  obtain ⟨hE, hKo, hS, hK12, hR, hKR, hRR, hA, hAR, hL, hti⟩ := id hW
  have hT := hS.1
  have hK : RepK M 20 K 0 := hK12.mono (by decide)
  have g0 := hKo.1
  have u3 := hT.2.2.1
  have mi9 := hS.2.2
  have k1 : M 20 7 = kPe K := hK.1
  have k2 : M 20 6 = kWt K := hK.2.1
  have q1 : M 274 229 = kPe K := hKR.1
  have q2 : M 274 230 = kPe K - kWt K := hKR.2.1
  obtain ⟨x6, x7, x8, x9, x10, xq, xp⟩ := id hR
  obtain ⟨y6, y7, y8, y9, y10, yq, yp⟩ := id hRR
  have hl28 := q28 hKo hT
  have hl16 : ((tQ T).length : Int) ≤ 16 := by omega
  obtain ⟨b1, b2, b3, b4⟩ := h.2.2.2.1
  show Ok (d + 24) 89 0 [some (vR (some 0)), some (vI x)] [] M _
  refine k_iload_n i_89_0 rfl ?_
  refine k_sipush i_89_1 (by decide) ?_
  refine k_invS (n := 2) (av := [vI x, vI 255]) (rest := []) (el := [some (vI x), some (vI 255)]) i_89_4 o_89 rfl v_117 rfl rfl rfl rfl rfl rfl ?_
  refine c_117 (fun v4 hv4 => ?_)
  show Ok _ 89 7 [some (vR (some 0)), some (vI x)] [vI v4] (M) _
  refine k_if_ne (t := 13) i_89_7 rfl (fun h7 => ?_) (fun h7 => ?_)
  · refine k_aload_n i_89_13 rfl ?_
    refine k_getR (r := 13) i_89_14 o_89 rfl (by decide) (s_0) rfl ?_
    refine k_invV (n := 0) (o' := 3) (av := [vR (some 13)]) (rest := []) (el := [some (vR (some 13))]) i_89_17 o_89 rfl v_30 rfl (s_13) rfl rfl rfl rfl rfl ?_
    refine c_30 (fun vf hvf => ?_)
    show Ok _ 89 20 [some (vR (some 0)), some (vI x)] [vI vf] (M) _
    refine k_if_eq (t := 28) i_89_20 rfl (fun h20 => ?_) (fun h20 => ?_)
    · refine k_aload_n i_89_28 rfl ?_
      refine k_getR (r := 13) i_89_29 o_89 rfl (by decide) (s_0) rfl ?_
      refine k_iload_n i_89_32 rfl ?_
      refine k_invV (n := 1) (o' := 3) (av := [vR (some 13), vI x]) (rest := []) (el := [some (vR (some 13)), some (vI x)]) i_89_33 o_89 rfl v_31 rfl (s_13) rfl rfl rfl rfl rfl ?_
      refine c_31 (by omega) ?_
      show Ok _ 89 36 [some (vR (some 0)), some (vI x)] [vI (M 13 1 + 1)] (mu (mu M 14 (M 13 1) (x)) 13 (1) (M 13 1 + 1)) _
      refine k_iret i_89_36 rfl ?_
      show Ok (d + 24) 130 0 [some (vR (some 273)), some (vI x)] [] (mu (mu M 14 (M 13 1) (x)) 13 (1) (M 13 1 + 1)) _
      refine k_iload_n i_130_0 rfl ?_
      refine k_i2l i_130_1 ?_
      refine k_lconst (z := 0) i_130_2 rfl ?_
      refine k_ldc2 (z := 255) i_130_3 o_130 rfl (by decide) ?_
      refine k_invS (n := 3) (av := [vL x, vL 0, vL 255]) (rest := []) (el := [some (vL x), none, some (vL 0), none, some (vL 255), none]) i_130_6 o_130 rfl v_122 rfl rfl rfl rfl rfl rfl ?_
      refine c_122 (fun v6 hv6 => ?_)
      show Ok _ 130 9 [some (vR (some 273)), some (vI x)] [vI v6] (mu (mu M 14 (M 13 1) (x)) 13 (1) (M 13 1 + 1)) _
      refine k_if_ne (t := 15) i_130_9 rfl (fun h9 => ?_) (fun h9 => ?_)
      · refine k_aload_n i_130_15 rfl ?_
        refine k_getI (kz := 13) i_130_16 o_130 rfl (by decide) (s_273) rfl ?_
        rw [mu_ne (M := mu M 14 (M 13 1) (x)) (a := 13) (b := 273) (i := 1) (x := M 13 1 + 1) (by omega)]
        rw [mu_ne (M := M) (a := 14) (b := 273) (i := M 13 1) (x := x) (by omega)]
        refine k_sipush i_130_19 (by decide) ?_
        refine k_icmp_ne (t := 28) i_130_22 rfl (fun h22 => ?_) (fun h22 => ?_)
        · refine k_aload_n i_130_28 rfl ?_
          refine k_getR (r := 284) i_130_29 o_130 rfl (by decide) (s_273) rfl ?_
          refine k_aload_n i_130_32 rfl ?_
          refine k_getI (kz := 13) i_130_33 o_130 rfl (by decide) (s_273) rfl ?_
          rw [mu_ne (M := mu M 14 (M 13 1) (x)) (a := 13) (b := 273) (i := 1) (x := M 13 1 + 1) (by omega)]
          rw [mu_ne (M := M) (a := 14) (b := 273) (i := M 13 1) (x := x) (by omega)]
          refine k_iload_n i_130_36 rfl ?_
          refine k_iast i_130_37 (s_284) (by omega) ?_
          refine k_aload_n i_130_38 rfl ?_
          refine k_dupR i_130_39 ?_
          refine k_getI (kz := 13) i_130_40 o_130 rfl (by decide) (s_273) rfl ?_
          rw [mu_ne (M := mu (mu M 14 (M 13 1) (x)) 13 (1) (M 13 1 + 1)) (a := 284) (b := 273) (i := M 273 13) (x := x) (by omega)]
          rw [mu_ne (M := mu M 14 (M 13 1) (x)) (a := 13) (b := 273) (i := 1) (x := M 13 1 + 1) (by omega)]
          rw [mu_ne (M := M) (a := 14) (b := 273) (i := M 13 1) (x := x) (by omega)]
          refine k_iconst i_130_43 (by decide) ?_
          refine k_iadd i_130_44 (by omega) ?_
          refine k_putI (kz := 13) i_130_45 o_130 rfl (by decide) (s_273) rfl ?_
          refine k_aload_n i_130_48 rfl ?_
          refine k_getI (kz := 13) i_130_49 o_130 rfl (by decide) (s_273) rfl ?_
          rw [mu_s (mu (mu (mu M 14 (M 13 1) (x)) 13 (1) (M 13 1 + 1)) 284 (M 273 13) (x)) 273 (13) ((M 273 13) + 1)]
          refine k_iret i_130_52 rfl ?_
          exact ⟨_, rfl, congrArg (fun z => some (vI z)) (by omega), h.feed (by omega) (by omega) rfl⟩
        · refine k_ldc (z := -1000003) i_130_25 o_130 rfl (by decide) ?_
          refine k_iret i_130_27 rfl ?_
          exfalso
          omega
      · refine k_ldc (z := -1000001) i_130_12 o_130 rfl (by decide) ?_
        refine k_iret i_130_14 rfl ?_
        exfalso
        omega
    · refine k_ldc (z := -1000003) i_89_23 o_89 rfl (by decide) ?_
      refine k_goto (t := 36) i_89_25 rfl ?_
      refine k_iret i_89_36 rfl ?_
      show Ok (d + 24) 130 0 [some (vR (some 273)), some (vI x)] [] M _
      refine k_iload_n i_130_0 rfl ?_
      refine k_i2l i_130_1 ?_
      refine k_lconst (z := 0) i_130_2 rfl ?_
      refine k_ldc2 (z := 255) i_130_3 o_130 rfl (by decide) ?_
      refine k_invS (n := 3) (av := [vL x, vL 0, vL 255]) (rest := []) (el := [some (vL x), none, some (vL 0), none, some (vL 255), none]) i_130_6 o_130 rfl v_122 rfl rfl rfl rfl rfl rfl ?_
      refine c_122 (fun v6 hv6 => ?_)
      show Ok _ 130 9 [some (vR (some 273)), some (vI x)] [vI v6] (M) _
      refine k_if_ne (t := 15) i_130_9 rfl (fun h9 => ?_) (fun h9 => ?_)
      · refine k_aload_n i_130_15 rfl ?_
        refine k_getI (kz := 13) i_130_16 o_130 rfl (by decide) (s_273) rfl ?_
        refine k_sipush i_130_19 (by decide) ?_
        refine k_icmp_ne (t := 28) i_130_22 rfl (fun h22 => ?_) (fun h22 => ?_)
        · refine k_aload_n i_130_28 rfl ?_
          refine k_getR (r := 284) i_130_29 o_130 rfl (by decide) (s_273) rfl ?_
          refine k_aload_n i_130_32 rfl ?_
          refine k_getI (kz := 13) i_130_33 o_130 rfl (by decide) (s_273) rfl ?_
          refine k_iload_n i_130_36 rfl ?_
          refine k_iast i_130_37 (s_284) (by omega) ?_
          refine k_aload_n i_130_38 rfl ?_
          refine k_dupR i_130_39 ?_
          refine k_getI (kz := 13) i_130_40 o_130 rfl (by decide) (s_273) rfl ?_
          rw [mu_ne (M := M) (a := 284) (b := 273) (i := M 273 13) (x := x) (by omega)]
          refine k_iconst i_130_43 (by decide) ?_
          refine k_iadd i_130_44 (by omega) ?_
          refine k_putI (kz := 13) i_130_45 o_130 rfl (by decide) (s_273) rfl ?_
          refine k_aload_n i_130_48 rfl ?_
          refine k_getI (kz := 13) i_130_49 o_130 rfl (by decide) (s_273) rfl ?_
          rw [mu_s (mu M 284 (M 273 13) (x)) 273 (13) ((M 273 13) + 1)]
          refine k_iret i_130_52 rfl ?_
          exfalso
          omega
        · refine k_ldc (z := -1000003) i_130_25 o_130 rfl (by decide) ?_
          refine k_iret i_130_27 rfl ?_
          refine ⟨_, rfl, ?_, h⟩
          first
            | exact congrArg (fun z => some (vI z)) (by omega)
            | (exfalso; omega)
      · refine k_ldc (z := -1000001) i_130_12 o_130 rfl (by decide) ?_
        refine k_iret i_130_14 rfl ?_
        refine ⟨_, rfl, ?_, h⟩
        first
          | exact congrArg (fun z => some (vI z)) (by omega)
          | (exfalso; omega)
  · refine k_ldc (z := -1000001) i_89_10 o_89 rfl (by decide) ?_
    refine k_iret i_89_12 rfl ?_
    show Ok (d + 24) 130 0 [some (vR (some 273)), some (vI x)] [] M _
    refine k_iload_n i_130_0 rfl ?_
    refine k_i2l i_130_1 ?_
    refine k_lconst (z := 0) i_130_2 rfl ?_
    refine k_ldc2 (z := 255) i_130_3 o_130 rfl (by decide) ?_
    refine k_invS (n := 3) (av := [vL x, vL 0, vL 255]) (rest := []) (el := [some (vL x), none, some (vL 0), none, some (vL 255), none]) i_130_6 o_130 rfl v_122 rfl rfl rfl rfl rfl rfl ?_
    refine c_122 (fun v6 hv6 => ?_)
    show Ok _ 130 9 [some (vR (some 273)), some (vI x)] [vI v6] (M) _
    refine k_if_ne (t := 15) i_130_9 rfl (fun h9 => ?_) (fun h9 => ?_)
    · refine k_aload_n i_130_15 rfl ?_
      refine k_getI (kz := 13) i_130_16 o_130 rfl (by decide) (s_273) rfl ?_
      refine k_sipush i_130_19 (by decide) ?_
      refine k_icmp_ne (t := 28) i_130_22 rfl (fun h22 => ?_) (fun h22 => ?_)
      · refine k_aload_n i_130_28 rfl ?_
        refine k_getR (r := 284) i_130_29 o_130 rfl (by decide) (s_273) rfl ?_
        refine k_aload_n i_130_32 rfl ?_
        refine k_getI (kz := 13) i_130_33 o_130 rfl (by decide) (s_273) rfl ?_
        refine k_iload_n i_130_36 rfl ?_
        refine k_iast i_130_37 (s_284) (by omega) ?_
        refine k_aload_n i_130_38 rfl ?_
        refine k_dupR i_130_39 ?_
        refine k_getI (kz := 13) i_130_40 o_130 rfl (by decide) (s_273) rfl ?_
        rw [mu_ne (M := M) (a := 284) (b := 273) (i := M 273 13) (x := x) (by omega)]
        refine k_iconst i_130_43 (by decide) ?_
        refine k_iadd i_130_44 (by omega) ?_
        refine k_putI (kz := 13) i_130_45 o_130 rfl (by decide) (s_273) rfl ?_
        refine k_aload_n i_130_48 rfl ?_
        refine k_getI (kz := 13) i_130_49 o_130 rfl (by decide) (s_273) rfl ?_
        rw [mu_s (mu M 284 (M 273 13) (x)) 273 (13) ((M 273 13) + 1)]
        refine k_iret i_130_52 rfl ?_
        exfalso
        omega
      · refine k_ldc (z := -1000003) i_130_25 o_130 rfl (by decide) ?_
        refine k_iret i_130_27 rfl ?_
        refine ⟨_, rfl, ?_, h⟩
        first
          | exact congrArg (fun z => some (vI z)) (by omega)
          | (exfalso; omega)
    · refine k_ldc (z := -1000001) i_130_12 o_130 rfl (by decide) ?_
      refine k_iret i_130_14 rfl ?_
      refine ⟨_, rfl, ?_, h⟩
      first
        | exact congrArg (fun z => some (vI z)) (by omega)
        | (exfalso; omega)
