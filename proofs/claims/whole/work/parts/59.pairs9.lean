theorem c_197 {d : Nat} {M : Mem} {Q : Option Vv → Mem → Prop} {K : Kt} {T : Tt} {x n : Int} (hKo : KOk K 0) (hT : TOk K 0 T) (hq : AskR M K T n) (hv : Va K 0 x) (hn : n ≤ 8) (k : Q (some (vI (askV (kKd K x) 0 x (tS T x) (bel K T x)))) (apL 273 288 21 M (askL (kKd K x) 0))) : Ok (d + 6) 197 0 [some (vR (some 273)), some (vI x)] [] M Q := by
  have hkd := hKo.2 x hv
  rcases (show kKd K x = 1 ∨ kKd K x = 2 ∨ kKd K x = 3 ∨ kKd K x = 4 ∨ kKd K x = 5 by omega) with q | q | q | q | q
  · rw [q] at k; exact c_197_1 hKo hT hq hv q (by omega) k
  · rw [q] at k; exact c_197_2 hKo hT hq hv q (by omega) k
  · rw [q] at k; exact c_197_3 hKo hT hq hv q (by omega) k
  · rw [q] at k; exact c_197_4 hKo hT hq hv q (by omega) k
  · rw [q] at k; exact c_197_5 hKo hT hq hv q (by omega) k

theorem c_200 {d : Nat} {M : Mem} {Q : Option Vv → Mem → Prop} {K : Kt} {T : Tt} {x n : Int} (hKo : KOk K 0) (hT : TOk K 0 T) (hq : AskR M K T n) (hv : Va K 0 x) (hn : n ≤ 8) (k : Q (some (vI (askV (kKd K x) 1 x (tS T x) (bel K T x)))) (apL 273 288 21 M (askL (kKd K x) 1))) : Ok (d + 4) 200 0 [some (vR (some 273)), some (vI x), none] [] M Q := by
  have hkd := hKo.2 x hv
  rcases (show kKd K x = 1 ∨ kKd K x = 2 ∨ kKd K x = 3 ∨ kKd K x = 4 ∨ kKd K x = 5 by omega) with q | q | q | q | q
  · rw [q] at k; exact c_200_1 hKo hT hq hv q (by omega) k
  · rw [q] at k; exact c_200_2 hKo hT hq hv q (by omega) k
  · rw [q] at k; exact c_200_3 hKo hT hq hv q (by omega) k
  · rw [q] at k; exact c_200_4 hKo hT hq hv q (by omega) k
  · rw [q] at k; exact c_200_5 hKo hT hq hv q (by omega) k

theorem Rel.tr2 {M : Mem} (h : Rel M) (l : List Int) (hl : l.length ≤ 16) : Rel (apL 273 288 21 (mu (apL 246 247 3 (mu M 246 3 0) l) 273 21 0) l) := by
  obtain ⟨a1, a2, a3, a4, ⟨K, T, L, a5⟩, ⟨a6, a7⟩, a8⟩ := h
  obtain ⟨P, hP⟩ : ∃ P : Mem, P = apL 273 288 21 (mu (apL 246 247 3 (mu M 246 3 0) l) 273 21 0) l := ⟨_, rfl⟩
  rw [← hP]
  have hs : ∀ (b : Nat) (j : Int), b ≠ 273 → b ≠ 288 → b ≠ 246 → b ≠ 247 → P b j = M b j := fun b j b0 b1 b2 b3 => by rw [hP, apL_ne b0 b1, mu_ne b0, apL_ne b2 b3, mu_ne b2]
  have ap2 : ∀ (f : Int), f ≠ 21 → ∀ (l : List Int) (N : Mem), apL 273 288 21 N l 273 f = N 273 f := by
    intro f hf l
    induction l with
    | nil => intro N; rfl
    | cons b l ih => intro N; exact (ih _).trans (by unfold ap; rw [mu_j hf, mu_ne (by decide)])
  have h273 : ∀ f : Int, f ≠ 21 → P 273 f = M 273 f := fun f hf => by rw [hP, ap2 f hf, mu_j hf, apL_ne (by decide) (by decide), mu_ne (by decide)]
  have n1 : P 246 3 = l.length := by
    rw [hP, apL_ne (by decide) (by decide), mu_ne (by decide), apL_n, mu_s]
    omega
  have n2 : P 273 21 = l.length := by
    rw [hP, apL_n, mu_s]
    omega
  refine ⟨a1.fr (fun b j hb => hs b j (by omega) (by omega) (by omega) (by omega)), a2.fr (hs _ _ (by omega) (by omega) (by omega) (by omega)) (h273 _ (by decide)), a3.fr (hs _ _ (by omega) (by omega) (by omega) (by omega)) (h273 _ (by decide)), a4.fr (fun j => hs _ _ (by omega) (by omega) (by omega) (by omega)) (fun j => hs _ _ (by omega) (by omega) (by omega) (by omega)) (h273 _ (by decide)) (fun j => hs _ _ (by omega) (by omega) (by omega) (by omega)), ⟨K, T, L, a5.fr (fun b j hb => hs b j (by omega) (by omega) (by omega) (by omega)) (hs _ _ (by omega) (by omega) (by omega) (by omega)) (h273 _ (by decide))⟩, ⟨a6.fr (by decide) (fun b j hb => hs b j (by omega) (by omega) (by omega) (by omega)), a7.fr (by decide) (fun b j hb => hs b j (by omega) (by omega) (by omega) (by omega))⟩, ?_⟩
  refine ⟨by omega, by omega, by omega, fun i i0 i1 => ?_⟩
  have e1 : P 247 i = l.getD i.toNat 0 := by
    rw [hP, apL_ne (by decide) (by decide), mu_ne (by decide)]
    have q := apL_at (c0 := 246) (c1 := 247) (f := 3) (by decide) l (mu M 246 3 0) i.toNat (by omega)
    rw [mu_s, show (0 : Int) + (i.toNat : Int) = i by omega] at q
    exact q
  have e2 : P 288 i = l.getD i.toNat 0 := by
    rw [hP]
    have q := apL_at (c0 := 273) (c1 := 288) (f := 21) (by decide) l (mu (apL 246 247 3 (mu M 246 3 0) l) 273 21 0) i.toNat (by omega)
    rw [mu_s, show (0 : Int) + (i.toNat : Int) = i by omega] at q
    exact q
  rw [e1, e2]

set_option maxRecDepth 100000 in
theorem tp_ask {d : Nat} {M : Mem} {x w : Int} (h : Rel M) : Two (d + 24) 113 201 [some (vR (some 0)), some (vI x), some (vI w)] [some (vR (some 273)), some (vI x), some (vI w)] M := by
  obtain ⟨K, T, L, hW⟩ := h.2.2.2.2.1
  obtain ⟨hE, hKo, hS, hK12, hR, hKR, hRR, hA, hAR, hL, hti⟩ := id hW
  have hT := hS.1
  have hK : RepK M 20 K 0 := hK12.mono (by decide)
  have g0 := hKo.1
  have u3 := hT.2.2.1
  have mi9 := hS.2.2
  have k1 : M 20 7 = kPe K := hK.1
  have k2 : M 20 6 = kWt K := hK.2.1
  have q1 : M 274 229 = kPe K := hKR.1
  have q2 : M 274 230 = kPe K - kWt K := hKR.2.1
  obtain ⟨x6, x7, x8, x9, x10, xq, xp⟩ := id hR
  obtain ⟨y6, y7, y8, y9, y10, yq, yp⟩ := id hRR
  have hl28 := q28 hKo hT
  have hl16 : ((tQ T).length : Int) ≤ 16 := by omega
  show Ok (d + 24) 113 0 [some (vR (some 0)), some (vI x), some (vI w)] [] M _
  refine k_aload_n i_113_0 rfl ?_
  refine k_iload_n i_113_1 rfl ?_
  refine k_invV (n := 1) (o' := 7) (av := [vR (some 0), vI x]) (rest := []) (el := [some (vR (some 0)), some (vI x)]) i_113_2 o_113 rfl v_118 rfl (s_0) rfl rfl rfl rfl rfl ?_
  refine c_118 (fun v2 hv2 => ?_)
  show Ok _ 113 5 [some (vR (some 0)), some (vI x), some (vI w)] [vI v2] (M) _
  refine k_if_eq (t := 16) i_113_5 rfl (fun h5 => ?_) (fun h5 => ?_)
  · refine k_ldc (z := -1000001) i_113_16 o_113 rfl (by decide) ?_
    refine k_iret i_113_18 rfl ?_
    show Ok (d + 24) 201 0 [some (vR (some 273)), some (vI x), some (vI w)] [] M _
    refine k_aload_n i_201_0 rfl ?_
    refine k_iload_n i_201_1 rfl ?_
    refine k_invV (n := 1) (o' := 8) (av := [vR (some 273), vI x]) (rest := []) (el := [some (vR (some 273)), some (vI x)]) i_201_2 o_201 rfl v_143 rfl (s_273) rfl rfl rfl rfl rfl ?_
    refine c_143 (by omega) (fun v2 hv2 => ?_)
    show Ok _ 201 5 [some (vR (some 273)), some (vI x), some (vI w)] [vI v2] (M) _
    refine k_if_eq (t := 18) i_201_5 rfl (fun h5 => ?_) (fun h5 => ?_)
    · refine k_ldc (z := -1000001) i_201_18 o_201 rfl (by decide) ?_
      refine k_iret i_201_20 rfl ?_
      refine ⟨_, rfl, ?_, h⟩
      first
        | exact congrArg (fun z => some (vI z)) (by omega)
        | (exfalso; omega)
    · refine k_iload_n i_201_8 rfl ?_
      refine k_i2l i_201_9 ?_
      refine k_lconst (z := 0) i_201_10 rfl ?_
      refine k_lconst (z := 1) i_201_11 rfl ?_
      refine k_invS (n := 3) (av := [vL w, vL 0, vL 1]) (rest := []) (el := [some (vL w), none, some (vL 0), none, some (vL 1), none]) i_201_12 o_201 rfl v_122 rfl rfl rfl rfl rfl rfl ?_
      refine c_122 (fun v12 hv12 => ?_)
      show Ok _ 201 15 [some (vR (some 273)), some (vI x), some (vI w)] [vI v12] (M) _
      refine k_if_ne (t := 21) i_201_15 rfl (fun h15 => ?_) (fun h15 => ?_)
      · refine k_aload_n i_201_21 rfl ?_
        refine k_iconst i_201_22 (by decide) ?_
        refine k_putI (kz := 21) i_201_23 o_201 rfl (by decide) (s_273) rfl ?_
        exfalso
        omega
      · refine k_ldc (z := -1000001) i_201_18 o_201 rfl (by decide) ?_
        refine k_iret i_201_20 rfl ?_
        refine ⟨_, rfl, ?_, h⟩
        first
          | exact congrArg (fun z => some (vI z)) (by omega)
          | (exfalso; omega)
  · refine k_iload_n i_113_8 rfl ?_
    refine k_iconst i_113_9 (by decide) ?_
    refine k_invS (n := 2) (av := [vI w, vI 1]) (rest := []) (el := [some (vI w), some (vI 1)]) i_113_10 o_113 rfl v_117 rfl rfl rfl rfl rfl rfl ?_
    refine c_117 (fun v10 hv10 => ?_)
    show Ok _ 113 13 [some (vR (some 0)), some (vI x), some (vI w)] [vI v10] (M) _
    refine k_if_ne (t := 19) i_113_13 rfl (fun h13 => ?_) (fun h13 => ?_)
    · refine k_aload_n i_113_19 rfl ?_
      refine k_getR (r := 246) i_113_20 o_113 rfl (by decide) (s_0) rfl ?_
      refine k_iload_n i_113_23 rfl ?_
      refine k_iload_n i_113_24 rfl ?_
      refine k_invV (n := 2) (o' := 1) (av := [vR (some 246), vI x, vI w]) (rest := []) (el := [some (vR (some 246)), some (vI x), some (vI w)]) i_113_25 o_113 rfl v_8 rfl (s_246) rfl rfl rfl rfl rfl ?_
      refine c_8 hKo hT hK hR (Or.inl (by omega)) (by omega) ?_
      show Ok _ 113 28 [some (vR (some 0)), some (vI x), some (vI w)] [vI (askV (kKd K x) w x (tS T x) (bel K T x))] (apL 246 247 3 (mu M 246 3 0) (askL (kKd K x) w)) _
      refine k_iret i_113_28 rfl ?_
      show Ok (d + 24) 201 0 [some (vR (some 273)), some (vI x), some (vI w)] [] (apL 246 247 3 (mu M 246 3 0) (askL (kKd K x) w)) _
      obtain ⟨M1, hM1⟩ : ∃ M1 : Mem, M1 = apL 246 247 3 (mu M 246 3 0) (askL (kKd K x) w) := ⟨_, rfl⟩
      rw [← hM1]
      have hs1 : ∀ j, M1 274 j = M 274 j := fun j => by rw [hM1, apL_ne (by decide) (by decide), mu_ne (by decide)]
      have hRR1 : RepR M1 K 0 T := hRR.off hs1
      have hKR1 : RepKR M1 K 0 := hKR.fr hs1
      have z2 : M1 274 229 = kPe K := hKR1.1
      refine k_aload_n i_201_0 rfl ?_
      refine k_iload_n i_201_1 rfl ?_
      refine k_invV (n := 1) (o' := 8) (av := [vR (some 273), vI x]) (rest := []) (el := [some (vR (some 273)), some (vI x)]) i_201_2 o_201 rfl v_143 rfl (s_273) rfl rfl rfl rfl rfl ?_
      refine c_143 (by omega) (fun v2 hv2 => ?_)
      show Ok _ 201 5 [some (vR (some 273)), some (vI x), some (vI w)] [vI v2] (M1) _
      refine k_if_eq (t := 18) i_201_5 rfl (fun h5 => ?_) (fun h5 => ?_)
      · refine k_ldc (z := -1000001) i_201_18 o_201 rfl (by decide) ?_
        refine k_iret i_201_20 rfl ?_
        exfalso
        omega
      · refine k_iload_n i_201_8 rfl ?_
        refine k_i2l i_201_9 ?_
        refine k_lconst (z := 0) i_201_10 rfl ?_
        refine k_lconst (z := 1) i_201_11 rfl ?_
        refine k_invS (n := 3) (av := [vL w, vL 0, vL 1]) (rest := []) (el := [some (vL w), none, some (vL 0), none, some (vL 1), none]) i_201_12 o_201 rfl v_122 rfl rfl rfl rfl rfl rfl ?_
        refine c_122 (fun v12 hv12 => ?_)
        show Ok _ 201 15 [some (vR (some 273)), some (vI x), some (vI w)] [vI v12] (M1) _
        refine k_if_ne (t := 21) i_201_15 rfl (fun h15 => ?_) (fun h15 => ?_)
        · refine k_aload_n i_201_21 rfl ?_
          refine k_iconst i_201_22 (by decide) ?_
          refine k_putI (kz := 21) i_201_23 o_201 rfl (by decide) (s_273) rfl ?_
          refine k_iload_n i_201_26 rfl ?_
          refine k_if_ne (t := 38) i_201_27 rfl (fun h27 => ?_) (fun h27 => ?_)
          · refine k_aload_n i_201_38 rfl ?_
            refine k_iload_n i_201_39 rfl ?_
            refine k_invV (n := 1) (o' := 8) (av := [vR (some 273), vI x]) (rest := []) (el := [some (vR (some 273)), some (vI x), none]) i_201_40 o_201 rfl v_200 rfl (s_273) rfl rfl rfl rfl rfl ?_
            refine c_200 (n := 0) hKo hT ⟨(hKR1.fr (fun j => mu_ne (by decide) j)), (hRR1.off (fun j => mu_ne (by decide) j)), by rw [mu_s]; exact Int.le_refl _, by rw [mu_s]; exact Int.le_refl _⟩ (Or.inl (by omega)) (by decide) ?_
            show Ok _ 201 43 [some (vR (some 273)), some (vI x), some (vI w)] [vI (askV (kKd K x) 1 x (tS T x) (bel K T x))] (apL 273 288 21 (mu M1 273 (21) (0)) (askL (kKd K x) 1)) _
            refine k_iret i_201_43 rfl ?_
            obtain rfl : w = 1 := by omega
            rw [hM1]
            exact ⟨_, rfl, rfl, h.tr2 _ (Nat.le_trans askL_b (by decide))⟩
          · refine k_aload_n i_201_30 rfl ?_
            refine k_iload_n i_201_31 rfl ?_
            refine k_invV (n := 1) (o' := 8) (av := [vR (some 273), vI x]) (rest := []) (el := [some (vR (some 273)), some (vI x)]) i_201_32 o_201 rfl v_197 rfl (s_273) rfl rfl rfl rfl rfl ?_
            refine c_197 (n := 0) hKo hT ⟨(hKR1.fr (fun j => mu_ne (by decide) j)), (hRR1.off (fun j => mu_ne (by decide) j)), by rw [mu_s]; exact Int.le_refl _, by rw [mu_s]; exact Int.le_refl _⟩ (Or.inl (by omega)) (by decide) ?_
            show Ok _ 201 35 [some (vR (some 273)), some (vI x), some (vI w)] [vI (askV (kKd K x) 0 x (tS T x) (bel K T x))] (apL 273 288 21 (mu M1 273 (21) (0)) (askL (kKd K x) 0)) _
            refine k_goto (t := 43) i_201_35 rfl ?_
            refine k_iret i_201_43 rfl ?_
            obtain rfl : w = 0 := by omega
            rw [hM1]
            exact ⟨_, rfl, rfl, h.tr2 _ (Nat.le_trans askL_b (by decide))⟩
        · refine k_ldc (z := -1000001) i_201_18 o_201 rfl (by decide) ?_
          refine k_iret i_201_20 rfl ?_
          exfalso
          omega
    · refine k_ldc (z := -1000001) i_113_16 o_113 rfl (by decide) ?_
      refine k_iret i_113_18 rfl ?_
      show Ok (d + 24) 201 0 [some (vR (some 273)), some (vI x), some (vI w)] [] M _
      refine k_aload_n i_201_0 rfl ?_
      refine k_iload_n i_201_1 rfl ?_
      refine k_invV (n := 1) (o' := 8) (av := [vR (some 273), vI x]) (rest := []) (el := [some (vR (some 273)), some (vI x)]) i_201_2 o_201 rfl v_143 rfl (s_273) rfl rfl rfl rfl rfl ?_
      refine c_143 (by omega) (fun v2 hv2 => ?_)
      show Ok _ 201 5 [some (vR (some 273)), some (vI x), some (vI w)] [vI v2] (M) _
      refine k_if_eq (t := 18) i_201_5 rfl (fun h5 => ?_) (fun h5 => ?_)
      · refine k_ldc (z := -1000001) i_201_18 o_201 rfl (by decide) ?_
        refine k_iret i_201_20 rfl ?_
        refine ⟨_, rfl, ?_, h⟩
        first
          | exact congrArg (fun z => some (vI z)) (by omega)
          | (exfalso; omega)
      · refine k_iload_n i_201_8 rfl ?_
        refine k_i2l i_201_9 ?_
        refine k_lconst (z := 0) i_201_10 rfl ?_
        refine k_lconst (z := 1) i_201_11 rfl ?_
        refine k_invS (n := 3) (av := [vL w, vL 0, vL 1]) (rest := []) (el := [some (vL w), none, some (vL 0), none, some (vL 1), none]) i_201_12 o_201 rfl v_122 rfl rfl rfl rfl rfl rfl ?_
        refine c_122 (fun v12 hv12 => ?_)
        show Ok _ 201 15 [some (vR (some 273)), some (vI x), some (vI w)] [vI v12] (M) _
        refine k_if_ne (t := 21) i_201_15 rfl (fun h15 => ?_) (fun h15 => ?_)
        · refine k_aload_n i_201_21 rfl ?_
          refine k_iconst i_201_22 (by decide) ?_
          refine k_putI (kz := 21) i_201_23 o_201 rfl (by decide) (s_273) rfl ?_
          exfalso
          omega
        · refine k_ldc (z := -1000001) i_201_18 o_201 rfl (by decide) ?_
          refine k_iret i_201_20 rfl ?_
          refine ⟨_, rfl, ?_, h⟩
          first
            | exact congrArg (fun z => some (vI z)) (by omega)
            | (exfalso; omega)
