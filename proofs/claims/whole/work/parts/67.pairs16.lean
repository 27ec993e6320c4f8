set_option maxRecDepth 100000 in
theorem tp_undo {d : Nat} {M : Mem}  (h : Rel M)  : Two (d + 24) 96 162 [some (vR (some 0))] [some (vR (some 273)), none] M := by
  obtain ⟨K, T, L, hW⟩ := h.2.2.2.2.1
  obtain ⟨hE, hKo, hS, hK12, hR, hKR, hRR, hA, hAR, hL, hti⟩ := id hW
  have hT := hS.1
  have hK : RepK M 20 K 0 := hK12.mono (by decide)
  have g0 := hKo.1
  have u3 := hT.2.2.1
  have mi9 := hS.2.2
  have k1 : M 20 7 = kPe K := hK.1
  have k2 : M 20 6 = kWt K := hK.2.1
  have q1 : M 274 229 = kPe K := hKR.1
  have q2 : M 274 230 = kPe K - kWt K := hKR.2.1
  obtain ⟨x6, x7, x8, x9, x10, xq, xp⟩ := id hR
  obtain ⟨y6, y7, y8, y9, y10, yq, yp⟩ := id hRR
  have hl28 := q28 hKo hT
  have hl16 : ((tQ T).length : Int) ≤ 16 := by omega
  have ha1 : M 31 2 = L.length := hA.2.2.1
  have ha2 : M 273 4 = L.length := hAR.1
  show Ok (d + 24) 96 0 [some (vR (some 0))] [] M _
  refine k_aload_n i_96_0 rfl ?_
  refine k_getR (r := 31) i_96_1 o_96 rfl (by decide) (s_0) rfl ?_
  refine k_invV (n := 0) (o' := 0) (av := [vR (some 31)]) (rest := []) (el := [some (vR (some 31))]) i_96_4 o_96 rfl v_1 rfl (s_31) rfl rfl rfl rfl rfl ?_
  refine c_1 ?_
  show Ok _ 96 7 [some (vR (some 0))] [vI (M 31 2)] (M) _
  refine k_if_ne (t := 13) i_96_7 rfl (fun h7 => ?_) (fun h7 => ?_)
  · obtain ⟨T0, L0, hL0⟩ : ∃ T0 L0, L = T0 :: L0 := by
      cases L with
      | nil => exact absurd (show M 31 2 = 0 from ha1) (by omega)
      | cons a l => exact ⟨a, l, rfl⟩
    subst hL0
    refine k_aload_n i_96_13 rfl ?_
    refine k_getR (r := 31) i_96_14 o_96 rfl (by decide) (s_0) rfl ?_
    refine k_aload_n i_96_17 rfl ?_
    refine k_getR (r := 25) i_96_18 o_96 rfl (by decide) (s_0) rfl ?_
    refine k_invV (n := 1) (o' := 0) (av := [vR (some 31), vR (some 25)]) (rest := []) (el := [some (vR (some 31)), some (vR (some 25))]) i_96_21 o_96 rfl v_4 rfl (s_31) rfl rfl rfl rfl rfl ?_
    refine c_4 hKo (sane_len hKo (hL T0 (List.mem_cons_self ..))) hA (fun M1 hC1 hA1 ho1 => ?_)
    show Ok _ 96 24 [some (vR (some 0))] [] (M1) _
    refine k_aload_n i_96_24 rfl ?_
    refine k_getR (r := 31) i_96_25 o_96 rfl (by decide) (s_0) rfl ?_
    refine k_invV (n := 0) (o' := 0) (av := [vR (some 31)]) (rest := []) (el := [some (vR (some 31))]) i_96_28 o_96 rfl v_1 rfl (s_31) rfl rfl rfl rfl rfl ?_
    refine c_1 ?_
    show Ok _ 96 31 [some (vR (some 0))] [vI (M1 31 2)] (M1) _
    refine k_iret i_96_31 rfl ?_
    show Ok (d + 24) 162 0 [some (vR (some 273)), none] [] M1 _
    obtain ⟨N, hN⟩ : ∃ N : Mem, N = M1 := ⟨_, rfl⟩
    rw [← hN]
    have hnb : ∀ (b : Nat) (j : Int), ¬ (25 ≤ b ∧ b ≤ 31) → N b j = M b j := fun b j hb => by rw [hN]; exact ho1 b j hb
    have z4 : N 273 4 = M 273 4 := hnb _ _ (by omega)
    have hAN : ActsR N K (T0 :: L0) := hAR.fr z4 (fun j => hnb _ _ (by omega))
    have n31 : N 31 2 = L0.length := by rw [hN]; exact hA1.2.2.1
    have n4 : N 273 4 = L0.length + 1 := by rw [hAN.1, List.length_cons]; omega
    have l24 : L0.length + 1 ≤ 24 := by have := hAN.2.1; rw [List.length_cons] at this; exact this
    refine k_aload_n i_162_0 rfl ?_
    refine k_getI (kz := 4) i_162_1 o_162 rfl (by decide) (s_273) rfl ?_
    refine k_if_ne (t := 10) i_162_4 rfl (fun h4 => ?_) (fun h4 => ?_)
    · refine k_aload_n i_162_10 rfl ?_
      refine k_dupR i_162_11 ?_
      refine k_getI (kz := 4) i_162_12 o_162 rfl (by decide) (s_273) rfl ?_
      refine k_iconst i_162_15 (by decide) ?_
      refine k_isub i_162_16 (by omega) ?_
      refine k_putI (kz := 4) i_162_17 o_162 rfl (by decide) (s_273) rfl ?_
      refine k_iconst i_162_20 (by decide) ?_
      refine k_istore_n (ls' := [some (vR (some 273)), some (vI 0)]) i_162_21 rfl ?_
      obtain ⟨P, hP⟩ : ∃ P : Mem, P = mu N 273 4 (N 273 4 - 1) := ⟨_, rfl⟩
      rw [← hP]
      have p4 : P 273 4 = L0.length := by rw [hP, mu_s]; omega
      have hp : ∀ (b : Nat) (j : Int), ¬ (b = 273 ∧ j = 4) → P b j = N b j := fun b j hb => by rw [hP]; exact if_neg hb
      rw [← cpb_0 P (145 * P 273 4)]
      refine l_162 (by omega) ⟨_, rfl, congrArg (fun z => some (vI z)) (by omega), h.act (K := K) (T := T0) (L := L0) (fun c j h0 h1 h2 h3 h4 h5 => ?_) ⟨hE, hKo, hL T0 (List.mem_cons_self ..), ?_, ?_, ?_, ?_, ?_, ?_, fun U hU => hL U (List.mem_cons_of_mem _ hU), ?_⟩⟩ 146 0 (by omega) (by omega)
      · refine (if_neg (by omega)).trans ?_
        rw [hp c j h2, hnb c j (by omega)]
      · exact hK12.fr (fun c j h0 h1 => (if_neg (by omega)).trans (by rw [hp _ _ (by omega), hnb _ _ (by omega)]))
      · have q : RepC N 25 K 0 T0 := by rw [hN]; exact hC1
        exact q.fr (fun c j h0 h1 => (if_neg (by omega)).trans (hp _ _ (by omega)))
      · have hk : RepKR P K 0 := (hKR.fr (fun j => hnb 274 j (by omega))).fr (fun j => hp 274 j (by omega))
        exact hk.out hKo (fun c j h0 h1 h2 => if_neg (by omega))
      · refine RepR.cg hKo (sane_len hKo (hL T0 (List.mem_cons_self ..))) (hAN.2.2 0 T0 rfl) (fun j q0 q1 => ?_)
        refine (if_pos ⟨rfl, q0, q1⟩).trans ?_
        rw [hp _ _ (by omega)]
        show N 277 _ = N 277 _
        congr 1
        rw [List.length_cons]
        omega
      · have q : ActsC N K L0 := by rw [hN]; exact hA1
        exact q.fr (fun c j h0 h1 => (if_neg (by omega)).trans (hp _ _ (by omega)))
      · refine ⟨(if_neg (by omega)).trans p4, by omega, fun i U hi => ?_⟩
        refine (hAN.2.2 (i + 1) U (by rw [List.getElem?_cons_succ]; exact hi)).off (fun j => ?_)
        refine (if_neg (by omega)).trans ?_
        rw [hp _ _ (by omega)]
        show N 277 _ = N 277 _
        congr 1
        rw [List.length_cons]
        omega
      · have e0 : M 0 11 = 1 ∧ M 274 231 = 1 := by
          rcases hti with q | q
          · exact absurd q.2.2.2 (by simp)
          · exact q
        refine Or.inr ⟨?_, ?_⟩
        · exact (if_neg (by omega)).trans ((hp _ _ (by omega)).trans ((hnb _ _ (by omega)).trans e0.1))
        · exact (if_neg (by omega)).trans ((hp _ _ (by omega)).trans ((hnb _ _ (by omega)).trans e0.2))
    · refine k_ldc (z := -1000002) i_162_7 o_162 rfl (by decide) ?_
      refine k_iret i_162_9 rfl ?_
      exfalso
      omega
  · refine k_ldc (z := -1000002) i_96_10 o_96 rfl (by decide) ?_
    refine k_iret i_96_12 rfl ?_
    show Ok (d + 24) 162 0 [some (vR (some 273)), none] [] M _
    refine k_aload_n i_162_0 rfl ?_
    refine k_getI (kz := 4) i_162_1 o_162 rfl (by decide) (s_273) rfl ?_
    refine k_if_ne (t := 10) i_162_4 rfl (fun h4 => ?_) (fun h4 => ?_)
    · refine k_aload_n i_162_10 rfl ?_
      refine k_dupR i_162_11 ?_
      refine k_getI (kz := 4) i_162_12 o_162 rfl (by decide) (s_273) rfl ?_
      refine k_iconst i_162_15 (by decide) ?_
      refine k_isub i_162_16 (by omega) ?_
      refine k_putI (kz := 4) i_162_17 o_162 rfl (by decide) (s_273) rfl ?_
      refine k_iconst i_162_20 (by decide) ?_
      refine k_istore_n (ls' := [some (vR (some 273)), some (vI 0)]) i_162_21 rfl ?_
      exfalso
      omega
    · refine k_ldc (z := -1000002) i_162_7 o_162 rfl (by decide) ?_
      refine k_iret i_162_9 rfl ?_
      refine ⟨_, rfl, ?_, h⟩
      first
        | exact congrArg (fun z => some (vI z)) (by omega)
        | (exfalso; omega)
