set_option maxRecDepth 100000 in
/-- ElbowQueue$Reader.at -/
theorem c_33 {d : Nat} {M : Mem} {Q : Option Vv → Mem → Prop}   (k : Q (some (vI (M 13 2))) M) : Ok d 33 0 [some (vR (some 13))] [] M Q := by
  refine k_aload_n i_33_0 rfl ?_
  refine k_getI (kz := 2) i_33_1 o_33 rfl (by decide) (s_13) rfl ?_
  refine k_iret i_33_4 rfl ?_
  exact k

set_option maxRecDepth 100000 in
theorem tp_town {d : Nat} {M : Mem} (h : Rel M) : Two (d + 24) 90 140 [some (vR (some 0)), none] [some (vR (some 273)), none, none] M := by
  obtain ⟨K, T, L, hW⟩ := h.2.2.2.2.1
  obtain ⟨hE, hKo, hS, hK12, hR, hKR, hRR, hA, hAR, hL, hti⟩ := id hW
  have hT := hS.1
  have hK : RepK M 20 K 0 := hK12.mono (by decide)
  have g0 := hKo.1
  have u3 := hT.2.2.1
  have mi9 := hS.2.2
  have k1 : M 20 7 = kPe K := hK.1
  have k2 : M 20 6 = kWt K := hK.2.1
  have q1 : M 274 229 = kPe K := hKR.1
  have q2 : M 274 230 = kPe K - kWt K := hKR.2.1
  obtain ⟨x6, x7, x8, x9, x10, xq, xp⟩ := id hR
  obtain ⟨y6, y7, y8, y9, y10, yq, yp⟩ := id hRR
  have hl28 := q28 hKo hT
  have hl16 : ((tQ T).length : Int) ≤ 16 := by omega
  obtain ⟨len, hlen⟩ : ∃ z : Int, z = M 13 1 := ⟨_, rfl⟩
  obtain ⟨tp, htp0⟩ : ∃ z : Int → Int, z = fun i => M 14 i := ⟨_, rfl⟩
  obtain ⟨tt1, tt2, tt3, tt4⟩ := h.2.2.2.1
  have htp1 : ∀ i : Int, 0 ≤ i → i < len → M 14 i = tp i := fun i _ _ => by rw [htp0]
  have htp2 : ∀ i : Int, 0 ≤ i → i < len → M 284 i = tp i := fun i i0 i1 => by rw [htp0]; exact (tt4 i i0 (by omega)).1.symm
  have htp : TpB len tp := fun i i0 i1 => by rw [htp0]; exact (tt4 i i0 (by omega)).2
  show Ok (d + 24) 90 0 [some (vR (some 0)), none] [] M _
  refine k_aload_n i_90_0 rfl ?_
  refine k_getR (r := 13) i_90_1 o_90 rfl (by decide) (s_0) rfl ?_
  refine k_aload_n i_90_4 rfl ?_
  refine k_getR (r := 15) i_90_5 o_90 rfl (by decide) (s_0) rfl ?_
  refine k_invV (n := 1) (o' := 3) (av := [vR (some 13), vR (some 15)]) (rest := []) (el := [some (vR (some 13)), some (vR (some 15))]) i_90_8 o_90 rfl v_34 rfl (s_13) rfl rfl rfl rfl rfl ?_
  refine c_34 (len := len) (tp := tp) hlen.symm htp1 (by omega) htp (fun M1 d1 d2 d3 d4 d5 d6 d7 f1 => ?_)
  show Ok _ 90 11 [some (vR (some 0)), none] [vI ((fiS len (rdR (bt len tp)).1).2)] (M1) _
  refine k_istore_n (ls' := [some (vR (some 0)), some (vI ((fiS len (rdR (bt len tp)).1).2))]) i_90_11 rfl ?_
  refine k_iload_n i_90_12 rfl ?_
  refine k_if_eq (t := 32) i_90_13 rfl (fun h13 => ?_) (fun h13 => ?_)
  · have f0 : (rdR (bt len tp)).1.2 = 0 := fi_02 (by omega)
    have lw := wl_len (bt len tp) 8 (rd4 (bt len tp)) []
    have lp := pl_len (bt len tp) 8 (rdW (bt len tp)).1 (rdW (bt len tp)).2
    have lw1 : (rdW (bt len tp)).2.length ≤ 8 := by have q := lw.1; rw [List.length_nil, Nat.zero_add] at q; exact q
    have lr1 : (rdR (bt len tp)).2.length ≤ (rdW (bt len tp)).2.length + 8 := lp.1
    have lr2 : (rdW (bt len tp)).2.length ≤ (rdR (bt len tp)).2.length := lp.2
    have hall : ∀ p ∈ (rdR (bt len tp)).2, PnOk p := pl_ok 8 _ _ f0 (wl_ok 8 _ _ (fun p hp => absurd hp (List.not_mem_nil)))
    have hKo1 : KOk (mkK (rdR (bt len tp)).2 ((rdW (bt len tp)).2.length : Int)) 0 := mkK_ok (by omega) (by omega) hall
    have ca := nv_b (len := len) (tp := tp) (m := 3) (s := rd0 (bt len tp)) (by decide)
    have se := nv_b (len := len) (tp := tp) (m := 9) (s := rd2 (bt len tp)) (by decide)
    refine k_aload_n i_90_32 rfl ?_
    refine k_getR (r := 20) i_90_33 o_90 rfl (by decide) (s_0) rfl ?_
    refine k_aload_n i_90_36 rfl ?_
    refine k_getR (r := 15) i_90_37 o_90 rfl (by decide) (s_0) rfl ?_
    refine k_invV (n := 1) (o' := 5) (av := [vR (some 20), vR (some 15)]) (rest := []) (el := [some (vR (some 20)), some (vR (some 15))]) i_90_40 o_90 rfl v_59 rfl (s_20) rfl rfl rfl rfl rfl ?_
    refine c_59 td_20 td_15 (by omega) (fun M2 hc2 => ?_)
    show Ok _ 90 43 [some (vR (some 0)), some (vI ((fiS len (rdR (bt len tp)).1).2))] [] (M2) _
    have hB2 : ∀ p : Int, 0 ≤ p → p < kPe (mkK (rdR (bt len tp)).2 ((rdW (bt len tp)).2.length : Int)) → M2 23 p = mkB (rdR (bt len tp)).2 p := fun p p0 p1 => by
      have p2 : p < ((rdR (bt len tp)).2.length : Int) := p1
      have q := d1.2 p.toNat _ (pn_at p0 p2)
      rw [show ((p.toNat : Nat) : Int) = p by omega] at q
      exact ((hc2.1 p p0 (by omega)).2.2.1).trans q.2.2.1
    refine k_aload_n i_90_43 rfl ?_
    refine k_getR (r := 25) i_90_44 o_90 rfl (by decide) (s_0) rfl ?_
    refine k_invV (n := 0) (o' := 6) (av := [vR (some 25)]) (rest := []) (el := [some (vR (some 25)), none]) i_90_47 o_90 rfl v_61 rfl (s_25) rfl rfl rfl rfl rfl ?_
    have hK2 : RepK M2 20 (mkK (rdR (bt len tp)).2 ((rdW (bt len tp)).2.length : Int)) 12 := hc2.k12 hKo1 (mkK_e _ _) hE (d1.k d4 (by omega)) (hK12.fr (fun b j h0 h1 => f1 b j (by omega) (by omega)))
    refine c_61 (K := mkK (rdR (bt len tp)).2 ((rdW (bt len tp)).2.length : Int)) (B := mkB (rdR (bt len tp)).2) tw_25 hKo1 (by decide) (hK2.mono (by decide)) hB2 (fun M3 hC3 ho3 => ?_)
    show Ok _ 90 50 [some (vR (some 0)), some (vI ((fiS len (rdR (bt len tp)).1).2))] [] (M3) _
    refine k_aload_n i_90_50 rfl ?_
    refine k_getR (r := 31) i_90_51 o_90 rfl (by decide) (s_0) rfl ?_
    refine k_invV (n := 0) (o' := 0) (av := [vR (some 31)]) (rest := []) (el := [some (vR (some 31))]) i_90_54 o_90 rfl v_2 rfl (s_31) rfl rfl rfl rfl rfl ?_
    refine c_2 ?_
    show Ok _ 90 57 [some (vR (some 0)), some (vI ((fiS len (rdR (bt len tp)).1).2))] [] (mu M3 31 (2) (0)) _
    refine k_aload_n i_90_57 rfl ?_
    refine k_iconst i_90_58 (by decide) ?_
    refine k_putZ (kz := 11) i_90_59 o_90 rfl (by decide) (s_0) rfl (by omega) ?_
    refine k_aload_n i_90_62 rfl ?_
    refine k_getR (r := 20) i_90_63 o_90 rfl (by decide) (s_0) rfl ?_
    refine k_getI (kz := 7) i_90_66 o_90 rfl (by decide) (s_20) rfl ?_
    rw [mu_ne (M := mu M3 31 (2) (0)) (a := 0) (b := 20) (i := 11) (x := 1) (by omega)]
    rw [mu_ne (M := M3) (a := 31) (b := 20) (i := 2) (x := 0) (by omega)]
    refine k_iret i_90_69 rfl ?_
    show Ok (d + 24) 140 0 [some (vR (some 273)), none, none] [] (mu (mu M3 31 (2) (0)) 0 (11) (1)) _
    obtain ⟨N, hN⟩ : ∃ N : Mem, N = mu (mu M3 31 (2) (0)) 0 (11) (1) := ⟨_, rfl⟩
    rw [← hN]
    have hnb : ∀ (b : Nat) (j : Int), ¬ (15 ≤ b ∧ b ≤ 31) → b ≠ 13 → ¬ (b = 0 ∧ j = 11) → N b j = M b j := fun b j h0 h1 h2 => by
      rw [hN]
      refine (if_neg h2).trans ?_
      rw [mu_ne (by omega), ho3 b j (by omega), hc2.2.2.2.2.2.2 b j (by omega)]
      exact f1 b j (by omega) (by omega)
    have t1 : N 273 13 = len := by rw [hnb _ _ (by omega) (by omega) (by omega)]; omega
    have t2 : ∀ i : Int, 0 ≤ i → i < len → N 284 i = tp i := fun i i0 i1 => by rw [hnb _ _ (by omega) (by omega) (by omega)]; exact htp2 i i0 i1
    refine k_aload_n i_140_0 rfl ?_
    refine k_invV (n := 0) (o' := 8) (av := [vR (some 273)]) (rest := []) (el := [some (vR (some 273)), none, none]) i_140_1 o_140 rfl v_139 rfl (s_273) rfl rfl rfl rfl rfl ?_
    refine c_139 (len := len) (tp := tp) t1 t2 (by omega) htp (fun P1 r1 g1 n1 => ?_)
    show Ok _ 140 4 [some (vR (some 273)), none, none] [vI ((fiS len (rdR (bt len tp)).1).2)] (P1) _
    refine k_istore_n (ls' := [some (vR (some 273)), some (vI ((fiS len (rdR (bt len tp)).1).2)), none]) i_140_4 rfl ?_
    refine k_aload_n i_140_5 rfl ?_
    refine k_iconst i_140_6 (by decide) ?_
    refine k_putI (kz := 13) i_140_7 o_140 rfl (by decide) (s_273) rfl ?_
    refine k_iload_n i_140_10 rfl ?_
    refine k_if_eq (t := 27) i_140_11 rfl (fun h11 => ?_) (fun h11 => ?_)
    · refine k_iconst i_140_27 (by decide) ?_
      refine k_istore_n (ls' := [some (vR (some 273)), some (vI ((fiS len (rdR (bt len tp)).1).2)), some (vI 0)]) i_140_28 rfl ?_
      have n2 := n1 (by omega)
      rw [← cpn_0 (mu P1 273 13 0) 285 274]
      refine l_140 ?_ 233 0 (by omega) (by omega)
      obtain ⟨P, hP⟩ : ∃ P : Mem, P = mu (cpn (mu P1 273 13 0) 285 274 232) 273 4 0 := ⟨_, rfl⟩
      rw [← hP]
      have h74 : ∀ j : Int, 0 ≤ j → j < 232 → P 274 j = P1 285 j := fun j j0 j1 => by
        rw [hP, mu_ne (by decide)]
        refine (if_pos ⟨rfl, j0, j1⟩).trans ?_
        rw [mu_ne (by decide)]
      have hf : ∀ (b : Nat) (j : Int), b ≠ 274 → b ≠ 285 → ¬ (b = 273 ∧ (j = 4 ∨ j = 13 ∨ j = 15 ∨ j = 16)) → P b j = N b j := fun b j h0 h1 h2 => by
        rw [hP]
        refine (if_neg (by omega)).trans ((if_neg (by omega)).trans ((if_neg (by omega)).trans ?_))
        exact g1 b j h1 (by omega)
      obtain ⟨q1', q2', q3'⟩ := n2.1.rep (by omega) (by omega) n2.2.1 n2.2.2 h74
      have eC : RepC P 25 (mkK (rdR (bt len tp)).2 ((rdW (bt len tp)).2.length : Int)) 0 (begF (mkK (rdR (bt len tp)).2 ((rdW (bt len tp)).2.length : Int)) (mkB (rdR (bt len tp)).2) (nuV (bt len tp) 3 (rd0 (bt len tp))) (nuV (bt len tp) 9 (rd2 (bt len tp)))) := by
        have q := hC3
        rw [hc2.2.1, hc2.2.2.1, d2, d3] at q
        refine q.fr (fun b j h0 h1 => ?_)
        rw [hf b j (by omega) (by omega) (by omega), hN, mu_ne (by omega), mu_ne (by omega)]
      have e20 : M3 20 7 = ((rdR (bt len tp)).2.length : Int) := by
        rw [ho3 _ _ (by omega), hc2.2.2.2.2.1]
        exact d1.1
      have e229 : mu P1 273 13 0 285 229 = ((rdR (bt len tp)).2.length : Int) := by
        rw [mu_ne (by decide)]
        exact n2.1.1.1
      have e11 : P 0 11 = 1 := by rw [hf _ _ (by omega) (by omega) (by omega), hN, mu_s]
      refine ⟨_, rfl, congrArg (fun z => some (vI z)) (by omega), h.new (K := mkK (rdR (bt len tp)).2 ((rdW (bt len tp)).2.length : Int)) (T := begF (mkK (rdR (bt len tp)).2 ((rdW (bt len tp)).2.length : Int)) (mkB (rdR (bt len tp)).2) (nuV (bt len tp) 3 (rd0 (bt len tp))) (nuV (bt len tp) 9 (rd2 (bt len tp)))) (L := []) (fun b j h0 h1 h2 h3 h4 h5 => ?_) ⟨mkK_e _ _, hKo1, ⟨?_, Int.le_refl _, by show (0 : Int) ≤ 999; decide⟩, ?_, eC, q1', q2', ?_, ?_, fun U hU => absurd hU (List.not_mem_nil), Or.inr ⟨e11, q3'⟩⟩ e11 ?_ ?_⟩
      · rw [hf b j h2 h3 h5, hnb b j (by omega) h1 h4]
      · refine TOk.beg hKo1 (fun p p0 p1 => ?_) ca se
        have q := hall _ (List.mem_of_getElem? (pn_at p0 p1))
        exact ⟨q.2.2.2.2.1, q.2.2.2.2.2⟩
      · refine hK2.fr (fun b j h0 h1 => ?_)
        rw [hf b j (by omega) (by omega) (by omega), hN, mu_ne (by omega), mu_ne (by omega), ho3 b j (by omega)]
      · have x1 : P 31 1 = M 31 1 := by
          rw [hf _ _ (by omega) (by omega) (by omega), hN, mu_ne (by decide), mu_j (by decide), ho3 _ _ (by omega), hc2.2.2.2.2.2.2 _ _ (by omega)]
          exact f1 _ _ (by omega) (by omega)
        have x2 : P 31 2 = 0 := by rw [hf _ _ (by omega) (by omega) (by omega), hN, mu_ne (by decide), mu_s]
        have x3 := hA.1
        have x4 := hA.2.1
        exact ⟨by omega, by omega, x2, by decide, fun i U hi => absurd hi (by simp)⟩
      · exact ⟨by rw [hP, mu_s]; rfl, by decide, fun i U hi => absurd hi (by simp)⟩
      · rw [hf _ _ (by omega) (by omega) (by omega), hN, mu_ne (by decide), mu_ne (by decide), ho3 _ _ (by omega), hc2.2.2.2.2.2.2 _ _ (by omega)]
        exact d6
      · rw [hP, mu_j (by decide)]
        refine (if_neg (by omega)).trans (mu_s _ _ _ _)
    · refine k_aload_n i_140_14 rfl ?_
      refine k_iload_n i_140_15 rfl ?_
      refine k_putI (kz := 14) i_140_16 o_140 rfl (by decide) (s_273) rfl ?_
      refine k_ldc (z := -1000100) i_140_19 o_140 rfl (by decide) ?_
      refine k_aload_n i_140_21 rfl ?_
      refine k_getI (kz := 15) i_140_22 o_140 rfl (by decide) (s_273) rfl ?_
      rw [mu_j (M := mu P1 273 (13) (0)) (a := 273) (b := 273) (i := 14) (j := 15) (v := (fiS len (rdR (bt len tp)).1).2) (by decide)]
      rw [mu_j (M := P1) (a := 273) (b := 273) (i := 13) (j := 15) (v := 0) (by decide)]
      refine k_isub i_140_25 (by have := r1.2.2.1; have := r1.2.2.2.1; have := r1.2.2.2.2.1; omega) ?_
      refine k_iret i_140_26 rfl ?_
      exfalso
      omega
  · refine k_aload_n i_90_16 rfl ?_
    refine k_iload_n i_90_17 rfl ?_
    refine k_putI (kz := 12) i_90_18 o_90 rfl (by decide) (s_0) rfl ?_
    refine k_ldc (z := -1000100) i_90_21 o_90 rfl (by decide) ?_
    refine k_aload_n i_90_23 rfl ?_
    refine k_getR (r := 13) i_90_24 o_90 rfl (by decide) (s_0) rfl ?_
    refine k_invV (n := 0) (o' := 3) (av := [vR (some 13)]) (rest := [vI (-1000100)]) (el := [some (vR (some 13))]) i_90_27 o_90 rfl v_33 rfl (s_13) rfl rfl rfl rfl rfl ?_
    refine c_33 ?_
    show Ok _ 90 30 [some (vR (some 0)), some (vI ((fiS len (rdR (bt len tp)).1).2))] [vI ((mu M1 0 (12) ((fiS len (rdR (bt len tp)).1).2)) 13 2), vI (-1000100)] (mu M1 0 (12) ((fiS len (rdR (bt len tp)).1).2)) _
    rw [mu_ne (by decide), d5]
    refine k_isub i_90_30 (by omega) ?_
    refine k_iret i_90_31 rfl ?_
    show Ok (d + 24) 140 0 [some (vR (some 273)), none, none] [] (mu M1 0 (12) ((fiS len (rdR (bt len tp)).1).2)) _
    obtain ⟨N, hN⟩ : ∃ N : Mem, N = mu M1 0 (12) ((fiS len (rdR (bt len tp)).1).2) := ⟨_, rfl⟩
    rw [← hN]
    have hnb : ∀ (b : Nat) (j : Int), ¬ (15 ≤ b ∧ b ≤ 19) → b ≠ 13 → ¬ (b = 0 ∧ j = 12) → N b j = M b j := fun b j h0 h1 h2 => by
      rw [hN]
      exact (if_neg h2).trans (f1 b j (by omega) (by omega))
    have t1 : N 273 13 = len := by rw [hnb _ _ (by omega) (by omega) (by omega)]; omega
    have t2 : ∀ i : Int, 0 ≤ i → i < len → N 284 i = tp i := fun i i0 i1 => by rw [hnb _ _ (by omega) (by omega) (by omega)]; exact htp2 i i0 i1
    refine k_aload_n i_140_0 rfl ?_
    refine k_invV (n := 0) (o' := 8) (av := [vR (some 273)]) (rest := []) (el := [some (vR (some 273)), none, none]) i_140_1 o_140 rfl v_139 rfl (s_273) rfl rfl rfl rfl rfl ?_
    refine c_139 (len := len) (tp := tp) t1 t2 (by omega) htp (fun P1 r1 g1 n1 => ?_)
    show Ok _ 140 4 [some (vR (some 273)), none, none] [vI ((fiS len (rdR (bt len tp)).1).2)] (P1) _
    refine k_istore_n (ls' := [some (vR (some 273)), some (vI ((fiS len (rdR (bt len tp)).1).2)), none]) i_140_4 rfl ?_
    refine k_aload_n i_140_5 rfl ?_
    refine k_iconst i_140_6 (by decide) ?_
    refine k_putI (kz := 13) i_140_7 o_140 rfl (by decide) (s_273) rfl ?_
    refine k_iload_n i_140_10 rfl ?_
    refine k_if_eq (t := 27) i_140_11 rfl (fun h11 => ?_) (fun h11 => ?_)
    · refine k_iconst i_140_27 (by decide) ?_
      refine k_istore_n (ls' := [some (vR (some 273)), some (vI ((fiS len (rdR (bt len tp)).1).2)), some (vI 0)]) i_140_28 rfl ?_
      exfalso
      omega
    · refine k_aload_n i_140_14 rfl ?_
      refine k_iload_n i_140_15 rfl ?_
      refine k_putI (kz := 14) i_140_16 o_140 rfl (by decide) (s_273) rfl ?_
      refine k_ldc (z := -1000100) i_140_19 o_140 rfl (by decide) ?_
      refine k_aload_n i_140_21 rfl ?_
      refine k_getI (kz := 15) i_140_22 o_140 rfl (by decide) (s_273) rfl ?_
      rw [mu_j (M := mu P1 273 (13) (0)) (a := 273) (b := 273) (i := 14) (j := 15) (v := (fiS len (rdR (bt len tp)).1).2) (by decide)]
      rw [mu_j (M := P1) (a := 273) (b := 273) (i := 13) (j := 15) (v := 0) (by decide)]
      refine k_isub i_140_25 (by have := r1.2.2.1; have := r1.2.2.2.1; have := r1.2.2.2.2.1; omega) ?_
      refine k_iret i_140_26 rfl ?_
      have eat : P1 273 15 = (rdR (bt len tp)).1.1 := by rw [r1.2.2.1]; exact fi_at
      refine ⟨_, rfl, congrArg (fun z => some (vI z)) (by omega), h.fau (fun b j h0 h1 h2 h3 h4 => ?_) ?_ ?_ ?_⟩
      · refine (if_neg (by omega)).trans ((if_neg (by omega)).trans ?_)
        rw [g1 b j h2 (by omega), hnb b j h0 h1 h3]
      · rw [mu_s, mu_ne (by decide), mu_ne (by decide), g1 _ _ (by decide) (by omega), hN, mu_s]
      · rw [mu_ne (by decide), mu_ne (by decide), g1 _ _ (by decide) (by omega), hN, mu_ne (by decide)]
        exact d6
      · rw [mu_j (by decide), mu_s]
