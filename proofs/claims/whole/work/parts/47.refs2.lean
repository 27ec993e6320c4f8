set_option maxRecDepth 100000 in
theorem l_159 {d : Nat} {M : Mem} {Q : Option Vv → Mem → Prop} {K : Kt} {m : Int} {T : Tt} {x : Int} (hKo : KOk K m) (hK : RepKR M K m) (hR : RepR M K m T) (hT : TOk K m T) (kk : ∀ v : Int, v = (placeF T x) → Q (some (vI v)) M) : ∀ (f : Nat) (pl : Int) (i : Int), (0 ≤ i ∧ i ≤ (tQ T).length) → ((∃ j : Nat, (j : Int) < i ∧ (tQ T).getD j 0 = x ∧ pl = j) ∨ (pl = -1000000 ∧ ∀ j : Nat, (j : Int) < i → (tQ T).getD j 0 ≠ x)) → ((tQ T).length - i).toNat < f → Ok d 159 5 [some (vR (some 273)), some (vI x), some (vI pl), some (vI i)] [] M Q := by
  intro f
  induction f with
  | zero => intro pl i hi hj hf; exact absurd hf (Nat.not_lt_zero _)
  | succ f ih =>
    intro pl i hi hj hf
    obtain ⟨⟨g1, g2, g3, g4, g5, g6, g7, g8⟩, hKp⟩ := id hKo
    obtain ⟨r1, r2, r3, r4, r5, rq, rp⟩ := id hR
    have k1 : M 274 229 = kPe K := hK.1
    have k2 : M 274 230 = kPe K - kWt K := hK.2.1
    have hl28 := q28 hKo hT
    refine k_iload_n i_159_5 rfl ?_
    refine k_aload_n i_159_6 rfl ?_
    refine k_getR (r := 274) i_159_7 o_159 rfl (by decide) (s_273) rfl ?_
    refine k_sipush i_159_10 (by decide) ?_
    refine k_iald i_159_13 (s_274) (by omega) ?_
    refine k_icmp_ge (t := 42) i_159_14 rfl (fun h14 => ?_) (fun h14 => ?_)
    · refine k_iload_n i_159_42 rfl ?_
      refine k_iret i_159_43 rfl ?_
      exact kk _ (by
        unfold placeF
        rcases hj with ⟨j, q1, q2, q3⟩ | ⟨q1, q2⟩
        · rw [if_pos (by rw [← q2]; exact q_mem (by omega)), ← q2, q_idx hT.1 (by omega)]; exact q3
        · rw [if_neg (q_not (fun j hj2 => q2 j (by omega)))]; exact q1)
    · refine k_aload_n i_159_17 rfl ?_
      refine k_getR (r := 274) i_159_18 o_159 rfl (by decide) (s_273) rfl ?_
      refine k_bipush i_159_21 (by decide) ?_
      refine k_iload_n i_159_23 rfl ?_
      refine k_iadd i_159_24 (by omega) ?_
      refine k_iald i_159_25 (s_274) (by omega) ?_
      refine k_iload_n i_159_26 rfl ?_
      refine k_icmp_ne (t := 34) i_159_27 rfl (fun h27 => ?_) (fun h27 => ?_)
      · refine k_iload_n i_159_34 rfl ?_
        refine k_istore_n (ls' := [some (vR (some 273)), some (vI x), some (vI pl), some (vI i)]) i_159_35 rfl ?_
        refine k_iinc (ls' := [some (vR (some 273)), some (vI x), some (vI pl), some (vI (i + 1))]) i_159_36 rfl (by omega) rfl ?_
        refine k_goto (t := 5) i_159_39 rfl ?_
        refine ih _ (i + 1) (by omega) ?_ (by omega)
        have e := hR.q (i := i) (by omega) (by omega)
        rcases hj with ⟨j, q1, q2, q3⟩ | ⟨q1, q2⟩
        · exact Or.inl ⟨j, by omega, q2, q3⟩
        · refine Or.inr ⟨q1, fun j hj2 => ?_⟩
          by_cases e2 : (j : Int) < i
          · exact q2 j e2
          · rw [show j = i.toNat by omega, ← e]; exact h27
      · refine k_iload_n i_159_30 rfl ?_
        refine k_goto (t := 35) i_159_31 rfl ?_
        refine k_istore_n (ls' := [some (vR (some 273)), some (vI x), some (vI i), some (vI i)]) i_159_35 rfl ?_
        refine k_iinc (ls' := [some (vR (some 273)), some (vI x), some (vI i), some (vI (i + 1))]) i_159_36 rfl (by omega) rfl ?_
        refine k_goto (t := 5) i_159_39 rfl ?_
        refine ih _ (i + 1) (by omega) ?_ (by omega)
        have e := hR.q (i := i) (by omega) (by omega)
        exact Or.inl ⟨i.toNat, by omega, by rw [← e]; exact h27, by omega⟩

set_option maxRecDepth 100000 in
/-- ElbowQueueModel.placeOf -/
theorem c_159 {d : Nat} {M : Mem} {Q : Option Vv → Mem → Prop} {K : Kt} {m : Int} {T : Tt} {x : Int} (hKo : KOk K m) (hK : RepKR M K m) (hR : RepR M K m T) (hT : TOk K m T) (kk : ∀ v : Int, v = (placeF T x) → Q (some (vI v)) M) : Ok d 159 0 [some (vR (some 273)), some (vI x), none, none] [] M Q := by
  refine k_ldc (z := -1000000) i_159_0 o_159 rfl (by decide) ?_
  refine k_istore_n (ls' := [some (vR (some 273)), some (vI x), some (vI (-1000000)), none]) i_159_2 rfl ?_
  refine k_iconst i_159_3 (by decide) ?_
  refine k_istore_n (ls' := [some (vR (some 273)), some (vI x), some (vI (-1000000)), some (vI 0)]) i_159_4 rfl ?_
  exact l_159 hKo hK hR hT kk ((tQ T).length + 1) (-1000000) 0 (by omega) (Or.inr ⟨rfl, fun j hj => by omega⟩) (by omega)

set_option maxRecDepth 100000 in
/-- ElbowQueueModel.isInQueue -/
theorem c_156 {d : Nat} {M : Mem} {Q : Option Vv → Mem → Prop} {K : Kt} {m : Int} {T : Tt} {i : Int} (hKo : KOk K m) (hK : RepKR M K m) (hR : RepR M K m T) (hv : Va K m i) (kk : ∀ v : Int, (v = 1 ∧ (tW T i = 1)) ∨ (v = 0 ∧ ¬ (tW T i = 1)) → Q (some (vI v)) M) : Ok d 156 0 [some (vR (some 273)), some (vI i)] [] M Q := by
  obtain ⟨⟨g1, g2, g3, g4, g5, g6, g7, g8⟩, hKp⟩ := id hKo
  obtain ⟨r1, r2, r3, r4, r5, rq, rp⟩ := id hR
  have k1 : M 274 229 = kPe K := hK.1
  have k2 : M 274 230 = kPe K - kWt K := hK.2.1
  have hvb := va_b hKo hv
  obtain ⟨e2, e3, e4, e5⟩ := rp i hv
  have e1 : M 274 (145 + i) = kKd K i := (hK.2.2 i hv).1
  have e6 : M 274 (173 + i) = kPa K i := (hK.2.2 i hv).2.1
  have e7 := hKp i hv
  refine k_aload_n i_156_0 rfl ?_
  refine k_getR (r := 274) i_156_1 o_156 rfl (by decide) (s_273) rfl ?_
  refine k_iconst i_156_4 (by decide) ?_
  refine k_iload_n i_156_5 rfl ?_
  refine k_iadd i_156_6 (by omega) ?_
  rw [show (0 : Int) + i = i from Int.zero_add i]
  refine k_iald i_156_7 (s_274) (by omega) ?_
  refine k_iconst i_156_8 (by decide) ?_
  refine k_icmp_ne (t := 16) i_156_9 rfl (fun h9 => ?_) (fun h9 => ?_)
  · refine k_iconst i_156_16 (by decide) ?_
    refine k_zret i_156_17 rfl (by omega) ?_
    exact kk _ (by omega)
  · refine k_iconst i_156_12 (by decide) ?_
    refine k_goto (t := 17) i_156_13 rfl ?_
    refine k_zret i_156_17 rfl (by omega) ?_
    exact kk _ (by omega)

set_option maxRecDepth 100000 in
/-- ElbowQueueModel.tellOne -/
theorem c_157 {d : Nat} {M : Mem} {Q : Option Vv → Mem → Prop} {K : Kt} {m : Int} {T : Tt} {i x : Int} (hKo : KOk K m) (hR : RepR M K m T) (hl : ((tQ T).length : Int) ≤ 28) (hv : Va K m i) (kk : ∀ M', RepR M' K m (hearF T i x) → OutR M M' → Q none M') : Ok d 157 0 [some (vR (some 273)), some (vI i), some (vI x)] [] M Q := by
  have hvb := va_b hKo hv
  refine k_aload_n i_157_0 rfl ?_
  refine k_getR (r := 274) i_157_1 o_157 rfl (by decide) (s_273) rfl ?_
  refine k_bipush i_157_4 (by decide) ?_
  refine k_iload_n i_157_6 rfl ?_
  refine k_iadd i_157_7 (by omega) ?_
  refine k_iload_n i_157_8 rfl ?_
  refine k_iast i_157_9 (s_274) (by omega) ?_
  refine k_aload_n i_157_10 rfl ?_
  refine k_getR (r := 274) i_157_11 o_157 rfl (by decide) (s_273) rfl ?_
  refine k_bipush i_157_14 (by decide) ?_
  refine k_iload_n i_157_16 rfl ?_
  refine k_iadd i_157_17 (by omega) ?_
  refine k_iload_n i_157_18 rfl ?_
  refine k_iast i_157_19 (s_274) (by omega) ?_
  refine k_vret i_157_20 rfl ?_
  exact kk _ (RepR.setO hKo (by exact hl) (RepR.setB hKo hl hR x hv) i hv) (((OutR.rf M).mu (by omega)).mu (by omega))

set_option maxRecDepth 100000 in
theorem l_175 {d : Nat} {M : Mem} {Q : Option Vv → Mem → Prop} {K : Kt} {m : Int} {T : Tt} {x : Int} (hKo : KOk K m) (hK : RepKR M K m) (hR : RepR M K m T) (hT : TOk K m T) (kk : ∀ v : Int, (v = 1 ∧ (allB K T x)) ∨ (v = 0 ∧ ¬ (allB K T x)) → Q (some (vI v)) M) : ∀ (f : Nat) (al : Int) (i : Int), (0 ≤ i ∧ i ≤ (tQ T).length) → ((al = 1 ∧ 0 < (tQ T).length ∧ ∀ j : Nat, (j : Int) < i → bel K T ((tQ T).getD j 0) = x) ∨ (al = 0 ∧ ¬ allB K T x)) → ((tQ T).length - i).toNat < f → Ok (d + 1) 175 19 [some (vR (some 273)), some (vI x), some (vI al), some (vI i)] [] M Q := by
  intro f
  induction f with
  | zero => intro al i hi hj hf; exact absurd hf (Nat.not_lt_zero _)
  | succ f ih =>
    intro al i hi hj hf
    obtain ⟨⟨g1, g2, g3, g4, g5, g6, g7, g8⟩, hKp⟩ := id hKo
    obtain ⟨r1, r2, r3, r4, r5, rq, rp⟩ := id hR
    have k1 : M 274 229 = kPe K := hK.1
    have k2 : M 274 230 = kPe K - kWt K := hK.2.1
    have hl28 := q28 hKo hT
    refine k_iload_n i_175_19 rfl ?_
    refine k_aload_n i_175_20 rfl ?_
    refine k_getR (r := 274) i_175_21 o_175 rfl (by decide) (s_273) rfl ?_
    refine k_sipush i_175_24 (by decide) ?_
    refine k_iald i_175_27 (s_274) (by omega) ?_
    refine k_icmp_ge (t := 64) i_175_28 rfl (fun h28 => ?_) (fun h28 => ?_)
    · refine k_iload_n i_175_64 rfl ?_
      refine k_zret i_175_65 rfl (by omega) ?_
      exact kk _ (by
        rcases hj with ⟨q1, q2, q3⟩ | ⟨q1, q2⟩
        · exact Or.inl ⟨q1, q2, fun j hj2 => q3 j (by omega)⟩
        · exact Or.inr ⟨q1, q2⟩)
    · refine k_iload_n i_175_31 rfl ?_
      refine k_if_eq (t := 56) i_175_32 rfl (fun h32 => ?_) (fun h32 => ?_)
      · refine k_iconst i_175_56 (by decide) ?_
        refine k_istore_n (ls' := [some (vR (some 273)), some (vI x), some (vI 0), some (vI i)]) i_175_57 rfl ?_
        refine k_iinc (ls' := [some (vR (some 273)), some (vI x), some (vI 0), some (vI (i + 1))]) i_175_58 rfl (by omega) rfl ?_
        refine k_goto (t := 19) i_175_61 rfl ?_
        refine ih 0 (i + 1) (by omega) ?_ (by omega)
        refine Or.inr ⟨rfl, ?_⟩
        rcases hj with ⟨q1, q2, q3⟩ | ⟨q1, q2⟩
        · first
            | omega
            | (refine fun q => h49 ?_
               rw [hwd, hR.q (by omega) (by omega)]
               exact q.2 i.toNat (by omega))
        · exact q2
      · refine k_aload_n i_175_35 rfl ?_
        refine k_aload_n i_175_36 rfl ?_
        refine k_getR (r := 274) i_175_37 o_175 rfl (by decide) (s_273) rfl ?_
        refine k_bipush i_175_40 (by decide) ?_
        refine k_iload_n i_175_42 rfl ?_
        refine k_iadd i_175_43 (by omega) ?_
        refine k_iald i_175_44 (s_274) (by omega) ?_
        refine k_invV (n := 1) (o' := 8) (av := [vR (some 273), vI (M 274 (112 + i))]) (rest := []) (el := [some (vR (some 273)), some (vI (M 274 (112 + i)))]) i_175_45 o_175 rfl v_146 rfl (s_273) rfl rfl rfl rfl rfl ?_
        refine c_146 hKo hK hR (hT.va (show M 274 (112 + i) ∈ tQ T by rw [hR.q (by omega) (by omega)]; exact q_mem (by omega))) (fun wd hwd => ?_)
        show Ok _ 175 48 [some (vR (some 273)), some (vI x), some (vI al), some (vI i)] [vI wd] (M) _
        refine k_iload_n i_175_48 rfl ?_
        refine k_icmp_ne (t := 56) i_175_49 rfl (fun h49 => ?_) (fun h49 => ?_)
        · refine k_iconst i_175_56 (by decide) ?_
          refine k_istore_n (ls' := [some (vR (some 273)), some (vI x), some (vI 0), some (vI i)]) i_175_57 rfl ?_
          refine k_iinc (ls' := [some (vR (some 273)), some (vI x), some (vI 0), some (vI (i + 1))]) i_175_58 rfl (by omega) rfl ?_
          refine k_goto (t := 19) i_175_61 rfl ?_
          refine ih 0 (i + 1) (by omega) ?_ (by omega)
          refine Or.inr ⟨rfl, ?_⟩
          rcases hj with ⟨q1, q2, q3⟩ | ⟨q1, q2⟩
          · first
              | omega
              | (refine fun q => h49 ?_
                 rw [hwd, hR.q (by omega) (by omega)]
                 exact q.2 i.toNat (by omega))
          · exact q2
        · refine k_iconst i_175_52 (by decide) ?_
          refine k_goto (t := 57) i_175_53 rfl ?_
          refine k_istore_n (ls' := [some (vR (some 273)), some (vI x), some (vI 1), some (vI i)]) i_175_57 rfl ?_
          refine k_iinc (ls' := [some (vR (some 273)), some (vI x), some (vI 1), some (vI (i + 1))]) i_175_58 rfl (by omega) rfl ?_
          refine k_goto (t := 19) i_175_61 rfl ?_
          refine ih 1 (i + 1) (by omega) ?_ (by omega)
          rcases hj with ⟨q1, q2, q3⟩ | ⟨q1, q2⟩
          · refine Or.inl ⟨rfl, q2, fun j hj2 => ?_⟩
            by_cases e2 : (j : Int) < i
            · exact q3 j e2
            · rw [show j = i.toNat by omega, ← hR.q (by omega) (by omega), ← hwd]; exact h49
          · omega

set_option maxRecDepth 100000 in
/-- ElbowQueueModel.allBelieve -/
theorem c_175 {d : Nat} {M : Mem} {Q : Option Vv → Mem → Prop} {K : Kt} {m : Int} {T : Tt} {x : Int} (hKo : KOk K m) (hK : RepKR M K m) (hR : RepR M K m T) (hT : TOk K m T) (kk : ∀ v : Int, (v = 1 ∧ (allB K T x)) ∨ (v = 0 ∧ ¬ (allB K T x)) → Q (some (vI v)) M) : Ok (d + 1) 175 0 [some (vR (some 273)), some (vI x), none, none] [] M Q := by
  have r4 : M 274 140 = (tQ T).length := hR.2.2.2.1
  refine k_aload_n i_175_0 rfl ?_
  refine k_getR (r := 274) i_175_1 o_175 rfl (by decide) (s_273) rfl ?_
  refine k_sipush i_175_4 (by decide) ?_
  refine k_iald i_175_7 (s_274) (by omega) ?_
  refine k_if_le (t := 15) i_175_8 rfl (fun h8 => ?_) (fun h8 => ?_)
  · refine k_iconst i_175_15 (by decide) ?_
    refine k_istore_n (ls' := [some (vR (some 273)), some (vI x), some (vI 0), none]) i_175_16 rfl ?_
    refine k_iconst i_175_17 (by decide) ?_
    refine k_istore_n (ls' := [some (vR (some 273)), some (vI x), some (vI 0), some (vI 0)]) i_175_18 rfl ?_
    exact l_175 hKo hK hR hT kk ((tQ T).length + 1) 0 0 (by omega) (Or.inr ⟨rfl, fun q => by have := q.1; omega⟩) (by omega)
  · refine k_iconst i_175_11 (by decide) ?_
    refine k_goto (t := 16) i_175_12 rfl ?_
    refine k_istore_n (ls' := [some (vR (some 273)), some (vI x), some (vI 1), none]) i_175_16 rfl ?_
    refine k_iconst i_175_17 (by decide) ?_
    refine k_istore_n (ls' := [some (vR (some 273)), some (vI x), some (vI 1), some (vI 0)]) i_175_18 rfl ?_
    exact l_175 hKo hK hR hT kk ((tQ T).length + 1) 1 0 (by omega) (Or.inl ⟨rfl, by omega, fun j hj => by omega⟩) (by omega)

set_option maxRecDepth 100000 in
theorem l_185 {d : Nat} {M : Mem} {Q : Option Vv → Mem → Prop} {K : Kt} {m : Int} {T : Tt} {row i n : Int} (hKo : KOk K m) (hK : RepKR M K m) (hR : RepR M K m T) (hT : TOk K m T) (hrw : 0 ≤ row ∧ row < 8) (hin : 0 ≤ i ∧ 0 ≤ n ∧ i + n ≤ 40) (kk : ∀ v : Int, (v = 1 ∧ (justF T (fun j => M 282 (40 * row + i + j)) n)) ∨ (v = 0 ∧ ¬ (justF T (fun j => M 282 (40 * row + i + j)) n)) → Q (some (vI v)) M) : ∀ (f : Nat) (al : Int) (k : Int), (0 ≤ k ∧ k ≤ n) → ((al = 1 ∧ ((tQ T).length : Int) = n ∧ ∀ j : Nat, (j : Int) < k → (tQ T).getD j 0 = M 282 (40 * row + i + j)) ∨ (al = 0 ∧ ¬ justF T (fun j => M 282 (40 * row + i + j)) n)) → (n - k).toNat < f → Ok d 185 22 [some (vR (some 273)), some (vI row), some (vI i), some (vI n), some (vI al), some (vI k)] [] M Q := by
  intro f
  induction f with
  | zero => intro al k hi hj hf; exact absurd hf (Nat.not_lt_zero _)
  | succ f ih =>
    intro al k hi hj hf
    obtain ⟨⟨g1, g2, g3, g4, g5, g6, g7, g8⟩, hKp⟩ := id hKo
    obtain ⟨r1, r2, r3, r4, r5, rq, rp⟩ := id hR
    have k1 : M 274 229 = kPe K := hK.1
    have k2 : M 274 230 = kPe K - kWt K := hK.2.1
    have hl28 := q28 hKo hT
    refine k_iload i_185_22 rfl ?_
    refine k_iload_n i_185_24 rfl ?_
    refine k_icmp_ge (t := 73) i_185_25 rfl (fun h25 => ?_) (fun h25 => ?_)
    · refine k_iload i_185_73 rfl ?_
      refine k_zret i_185_75 rfl (by omega) ?_
      exact kk _ (by
        rcases hj with ⟨q1, q2, q3⟩ | ⟨q1, q2⟩
        · first
            | exact Or.inl ⟨q1, q2, fun j hj2 => q3 j (by omega)⟩
            | omega
        · exact Or.inr ⟨q1, q2⟩)
    · refine k_iload i_185_28 rfl ?_
      refine k_if_eq (t := 73) i_185_30 rfl (fun h30 => ?_) (fun h30 => ?_)
      · refine k_iload i_185_73 rfl ?_
        refine k_zret i_185_75 rfl (by omega) ?_
        exact kk _ (by
          rcases hj with ⟨q1, q2, q3⟩ | ⟨q1, q2⟩
          · first
              | exact Or.inl ⟨q1, q2, fun j hj2 => q3 j (by omega)⟩
              | omega
          · exact Or.inr ⟨q1, q2⟩)
      · refine k_aload_n i_185_33 rfl ?_
        refine k_getR (r := 274) i_185_34 o_185 rfl (by decide) (s_273) rfl ?_
        refine k_bipush i_185_37 (by decide) ?_
        refine k_iload i_185_39 rfl ?_
        refine k_iadd i_185_41 (by omega) ?_
        refine k_iald i_185_42 (s_274) (by rcases hj with ⟨q1, q2, q3⟩ | ⟨q1, q2⟩ <;> omega) ?_
        refine k_aload_n i_185_43 rfl ?_
        refine k_getR (r := 282) i_185_44 o_185 rfl (by decide) (s_273) rfl ?_
        refine k_bipush i_185_47 (by decide) ?_
        refine k_iload_n i_185_49 rfl ?_
        refine k_imul i_185_50 (by omega) ?_
        refine k_iload_n i_185_51 rfl ?_
        refine k_iadd i_185_52 (by omega) ?_
        refine k_iload i_185_53 rfl ?_
        refine k_iadd i_185_55 (by omega) ?_
        refine k_iald i_185_56 (s_282) (by omega) ?_
        refine k_icmp_ne (t := 64) i_185_57 rfl (fun h57 => ?_) (fun h57 => ?_)
        · refine k_iconst i_185_64 (by decide) ?_
          refine k_istore (ls' := [some (vR (some 273)), some (vI row), some (vI i), some (vI n), some (vI 0), some (vI k)]) i_185_65 rfl ?_
          refine k_iinc (ls' := [some (vR (some 273)), some (vI row), some (vI i), some (vI n), some (vI 0), some (vI (k + 1))]) i_185_67 rfl (by omega) rfl ?_
          refine k_goto (t := 22) i_185_70 rfl ?_
          refine ih 0 (k + 1) (by omega) ?_ (by omega)
          have e := hR.q (i := k) (by omega) (by rcases hj with ⟨q1, q2, q3⟩ | ⟨q1, q2⟩ <;> omega)
          refine Or.inr ⟨rfl, ?_⟩
          rcases hj with ⟨q1, q2, q3⟩ | ⟨q1, q2⟩
          · refine fun q => h57 ?_
            rw [e, q.2 k.toNat (by omega)]
            show M 282 (40 * row + i + ((k.toNat : Nat) : Int)) = _
            rw [show ((k.toNat : Nat) : Int) = k by omega]
          · exact q2
        · refine k_iconst i_185_60 (by decide) ?_
          refine k_goto (t := 65) i_185_61 rfl ?_
          refine k_istore (ls' := [some (vR (some 273)), some (vI row), some (vI i), some (vI n), some (vI 1), some (vI k)]) i_185_65 rfl ?_
          refine k_iinc (ls' := [some (vR (some 273)), some (vI row), some (vI i), some (vI n), some (vI 1), some (vI (k + 1))]) i_185_67 rfl (by omega) rfl ?_
          refine k_goto (t := 22) i_185_70 rfl ?_
          refine ih 1 (k + 1) (by omega) ?_ (by omega)
          have e := hR.q (i := k) (by omega) (by rcases hj with ⟨q1, q2, q3⟩ | ⟨q1, q2⟩ <;> omega)
          rcases hj with ⟨q1, q2, q3⟩ | ⟨q1, q2⟩
          · refine Or.inl ⟨rfl, q2, fun j hj2 => ?_⟩
            by_cases e2 : (j : Int) < k
            · exact q3 j e2
            · rw [show j = k.toNat by omega, ← e, show ((k.toNat : Nat) : Int) = k by omega]; exact h57
          · omega

set_option maxRecDepth 100000 in
/-- ElbowQueueModel.isSeen -/
theorem c_185 {d : Nat} {M : Mem} {Q : Option Vv → Mem → Prop} {K : Kt} {m : Int} {T : Tt} {row i n : Int} (hKo : KOk K m) (hK : RepKR M K m) (hR : RepR M K m T) (hT : TOk K m T) (hrw : 0 ≤ row ∧ row < 8) (hin : 0 ≤ i ∧ 0 ≤ n ∧ i + n ≤ 40) (kk : ∀ v : Int, (v = 1 ∧ (justF T (fun j => M 282 (40 * row + i + j)) n)) ∨ (v = 0 ∧ ¬ (justF T (fun j => M 282 (40 * row + i + j)) n)) → Q (some (vI v)) M) : Ok d 185 0 [some (vR (some 273)), some (vI row), some (vI i), some (vI n), none, none] [] M Q := by
  have r4 : M 274 140 = (tQ T).length := hR.2.2.2.1
  refine k_aload_n i_185_0 rfl ?_
  refine k_getR (r := 274) i_185_1 o_185 rfl (by decide) (s_273) rfl ?_
  refine k_sipush i_185_4 (by decide) ?_
  refine k_iald i_185_7 (s_274) (by omega) ?_
  refine k_iload_n i_185_8 rfl ?_
  refine k_icmp_ne (t := 16) i_185_9 rfl (fun h9 => ?_) (fun h9 => ?_)
  · refine k_iconst i_185_16 (by decide) ?_
    refine k_istore (ls' := [some (vR (some 273)), some (vI row), some (vI i), some (vI n), some (vI 0), none]) i_185_17 rfl ?_
    refine k_iconst i_185_19 (by decide) ?_
    refine k_istore (ls' := [some (vR (some 273)), some (vI row), some (vI i), some (vI n), some (vI 0), some (vI 0)]) i_185_20 rfl ?_
    exact l_185 hKo hK hR hT hrw hin kk (n.toNat + 1) 0 0 (by omega) (Or.inr ⟨rfl, fun q => by have := q.1; omega⟩) (by omega)
  · refine k_iconst i_185_12 (by decide) ?_
    refine k_goto (t := 17) i_185_13 rfl ?_
    refine k_istore (ls' := [some (vR (some 273)), some (vI row), some (vI i), some (vI n), some (vI 1), none]) i_185_17 rfl ?_
    refine k_iconst i_185_19 (by decide) ?_
    refine k_istore (ls' := [some (vR (some 273)), some (vI row), some (vI i), some (vI n), some (vI 1), some (vI 0)]) i_185_20 rfl ?_
    exact l_185 hKo hK hR hT hrw hin kk (n.toNat + 1) 1 0 (by omega) (Or.inl ⟨rfl, by omega, fun j hj => by omega⟩) (by omega)
