/-- who got it, or left, or went by, stays so -/
theorem min_w {K : Kt} {T : Tt} {p : Int} (hT : TOk K 0 T) (hp : 0 ≤ p ∧ p < kPe K) (h2 : 2 ≤ tW T p) (th : Int) : tW (minF K T th) p = tW T p := by
  obtain ⟨u1, u2, u3, u4, u5, u6, u7⟩ := id hT
  have hni : p ∉ tQ T := fun q => by have := (u5 p (Or.inl hp)).mpr q; omega
  have hlt : p < tNx T := by
    rcases Int.lt_or_le p (tNx T) with q | q
    · exact q
    · have := u6 p q hp.2; omega
  have e1 : tW (servF (tickF (tellF K T))) p = tW T p ∧ p ∉ tQ (servF (tickF (tellF K T))) := by
    unfold servF
    split
    · rename_i hc
      refine ⟨?_, ?_⟩
      · show up (tW T) ((tQ T).getD 0 0) 2 p = _
        rw [up_n _ _ (fun q => hni (by rw [q]; exact q_mem (l := tQ T) (i := 0) hc.2.2))]
      · exact fun q => hni (List.mem_of_mem_eraseIdx q)
    · exact ⟨rfl, hni⟩
  have e2 : tW (standF K (servF (tickF (tellF K T)))) p = tW T p := by
    obtain ⟨U, hU⟩ : ∃ U, U = servF (tickF (tellF K T)) := ⟨_, rfl⟩
    rw [← hU] at e1 ⊢
    rw [← e1.1]
    show leaveW K (olderF U) _ 0 (tQ (olderF U)).length p = _
    unfold leaveW
    rw [if_neg (fun q => e1.2 (List.idxOf_lt_length_iff.mp q.2.1))]
    rfl
  have e3 : tNx (standF K (servF (tickF (tellF K T)))) = tNx T := by
    show tNx (servF (tickF (tellF K T))) = _
    rw [(serv_s _).2.2]
    rfl
  unfold minF meetF
  rw [e3]
  split
  · split
    · show up _ (tNx T) 1 p = _
      rw [up_n _ _ (by omega)]
      exact e2
    · show up _ (tNx T) 4 p = _
      rw [up_n _ _ (by omega)]
      exact e2
  · exact e2
theorem it_w {K : Kt} {p : Int} (hK : KOk K 0) (hp : 0 ≤ p ∧ p < kPe K) (n : Nat) : ∀ {T : Tt}, TOk K 0 T → tMi T + n ≤ 100000 → 2 ≤ tW T p → tW (itF K n T) p = tW T p := by
  induction n with
  | zero => intro T _ _ _; rfl
  | succ n ih =>
    intro T hT hm h2
    have e := min_w hT hp h2 1
    show tW (itF K n (minF K T 1)) p = _
    rw [ih (hT.min hK (by omega) 1) (by rw [min_mi]; omega) (by omega), e]

set_option maxRecDepth 100000 in
theorem tp_lives {d : Nat} {M : Mem}  (h : Rel M)  : Two (d + 24) 101 172 [some (vR (some 0))] [some (vR (some 273)), none] M := by
  obtain ⟨K, T, L, hW⟩ := h.2.2.2.2.1
  obtain ⟨hE, hKo, hS, hK12, hR, hKR, hRR, hA, hAR, hL, hti⟩ := id hW
  have hT := hS.1
  have hK : RepK M 20 K 0 := hK12.mono (by decide)
  have g0 := hKo.1
  have u3 := hT.2.2.1
  have mi9 := hS.2.2
  have k1 : M 20 7 = kPe K := hK.1
  have k2 : M 20 6 = kWt K := hK.2.1
  have q1 : M 274 229 = kPe K := hKR.1
  have q2 : M 274 230 = kPe K - kWt K := hKR.2.1
  obtain ⟨x6, x7, x8, x9, x10, xq, xp⟩ := id hR
  obtain ⟨y6, y7, y8, y9, y10, yq, yp⟩ := id hRR
  have hl28 := q28 hKo hT
  have hl16 : ((tQ T).length : Int) ≤ 16 := by omega
  show Ok (d + 24) 101 0 [some (vR (some 0))] [] M _
  refine k_aload_n i_101_0 rfl ?_
  refine k_getI (kz := 11) i_101_1 o_101 rfl (by decide) (s_0) rfl ?_
  refine k_if_eq (t := 17) i_101_4 rfl (fun h4 => ?_) (fun h4 => ?_)
  · refine k_ldc (z := -1000002) i_101_17 o_101 rfl (by decide) ?_
    refine k_iret i_101_19 rfl ?_
    show Ok (d + 24) 172 0 [some (vR (some 273)), none] [] M _
    refine k_aload_n i_172_0 rfl ?_
    refine k_invV (n := 0) (o' := 8) (av := [vR (some 273)]) (rest := []) (el := [some (vR (some 273))]) i_172_1 o_172 rfl v_144 rfl (s_273) rfl rfl rfl rfl rfl ?_
    refine c_144 (fun v1 hv1 => ?_)
    show Ok _ 172 4 [some (vR (some 273)), none] [vI v1] (M) _
    refine k_if_ne (t := 10) i_172_4 rfl (fun h4 => ?_) (fun h4 => ?_)
    · refine k_aload_n i_172_10 rfl ?_
      refine k_invV (n := 0) (o' := 8) (av := [vR (some 273)]) (rest := []) (el := [some (vR (some 273)), none]) i_172_11 o_172 rfl v_165 rfl (s_273) rfl rfl rfl rfl rfl ?_
      refine c_165 ?_
      show Ok _ 172 14 [some (vR (some 273)), none] [] (cpn M 274 278 232) _
      refine k_aload_n i_172_14 rfl ?_
      refine k_invV (n := 0) (o' := 8) (av := [vR (some 273)]) (rest := []) (el := [some (vR (some 273)), none]) i_172_15 o_172 rfl v_171 rfl (s_273) rfl rfl rfl rfl rfl ?_
      refine c_171 hKo ((Wk.st M).k hKR) hT (by omega) ((Wk.st M).r hRR) (fun v2 M2 hv2 ho2 => ?_)
      show Ok _ 172 18 [some (vR (some 273)), none] [vI v2] (M2) _
      refine k_istore_n (ls' := [some (vR (some 273)), some (vI v2)]) i_172_18 rfl ?_
      refine k_aload_n i_172_19 rfl ?_
      refine k_invV (n := 0) (o' := 8) (av := [vR (some 273)]) (rest := []) (el := [some (vR (some 273)), none]) i_172_20 o_172 rfl v_166 rfl (s_273) rfl rfl rfl rfl rfl ?_
      refine c_166 ?_
      show Ok _ 172 23 [some (vR (some 273)), some (vI v2)] [] (cpn M2 278 274 232) _
      refine k_iload_n i_172_23 rfl ?_
      refine k_sipush i_172_24 (by decide) ?_
      refine k_icmp_ne (t := 35) i_172_27 rfl (fun h27 => ?_) (fun h27 => ?_)
      · refine k_iload_n i_172_35 rfl ?_
        refine k_iret i_172_36 rfl ?_
        exfalso
        omega
      · refine k_ldc (z := -1000000) i_172_30 o_172 rfl (by decide) ?_
        refine k_goto (t := 36) i_172_32 rfl ?_
        refine k_iret i_172_36 rfl ?_
        exfalso
        omega
    · refine k_ldc (z := -1000002) i_172_7 o_172 rfl (by decide) ?_
      refine k_iret i_172_9 rfl ?_
      refine ⟨_, rfl, ?_, h⟩
      first
        | exact congrArg (fun z => some (vI z)) (by omega)
        | (exfalso; omega)
  · refine k_aload_n i_101_7 rfl ?_
    refine k_getR (r := 177) i_101_8 o_101 rfl (by decide) (s_0) rfl ?_
    refine k_invV (n := 0) (o' := 2) (av := [vR (some 177)]) (rest := []) (el := [some (vR (some 177))]) i_101_11 o_101 rfl v_18 rfl (s_177) rfl rfl rfl rfl rfl ?_
    refine c_18 hKo hK hT hR (by omega) (fun vA M1 hvA ho1 => ?_)
    show Ok _ 101 14 [some (vR (some 0))] [vI vA] (M1) _
    refine k_goto (t := 19) i_101_14 rfl ?_
    refine k_iret i_101_19 rfl ?_
    show Ok (d + 24) 172 0 [some (vR (some 273)), none] [] M1 _
    have hRR1 : RepR M1 K 0 T := hRR.off (fun j => ho1 274 j (by omega))
    have hKR1 : RepKR M1 K 0 := hKR.fr (fun j => ho1 274 j (by omega))
    have z1 : M1 274 231 = M 274 231 := ho1 _ _ (by omega)
    have z2 : M1 274 229 = kPe K := hKR1.1
    refine k_aload_n i_172_0 rfl ?_
    refine k_invV (n := 0) (o' := 8) (av := [vR (some 273)]) (rest := []) (el := [some (vR (some 273))]) i_172_1 o_172 rfl v_144 rfl (s_273) rfl rfl rfl rfl rfl ?_
    refine c_144 (fun v1 hv1 => ?_)
    show Ok _ 172 4 [some (vR (some 273)), none] [vI v1] (M1) _
    refine k_if_ne (t := 10) i_172_4 rfl (fun h4 => ?_) (fun h4 => ?_)
    · refine k_aload_n i_172_10 rfl ?_
      refine k_invV (n := 0) (o' := 8) (av := [vR (some 273)]) (rest := []) (el := [some (vR (some 273)), none]) i_172_11 o_172 rfl v_165 rfl (s_273) rfl rfl rfl rfl rfl ?_
      refine c_165 ?_
      show Ok _ 172 14 [some (vR (some 273)), none] [] (cpn M1 274 278 232) _
      refine k_aload_n i_172_14 rfl ?_
      refine k_invV (n := 0) (o' := 8) (av := [vR (some 273)]) (rest := []) (el := [some (vR (some 273)), none]) i_172_15 o_172 rfl v_171 rfl (s_273) rfl rfl rfl rfl rfl ?_
      refine c_171 hKo ((Wk.st M1).k hKR1) hT (by omega) ((Wk.st M1).r hRR1) (fun v2 M2 hv2 ho2 => ?_)
      show Ok _ 172 18 [some (vR (some 273)), none] [vI v2] (M2) _
      refine k_istore_n (ls' := [some (vR (some 273)), some (vI v2)]) i_172_18 rfl ?_
      refine k_aload_n i_172_19 rfl ?_
      refine k_invV (n := 0) (o' := 8) (av := [vR (some 273)]) (rest := []) (el := [some (vR (some 273)), none]) i_172_20 o_172 rfl v_166 rfl (s_273) rfl rfl rfl rfl rfl ?_
      refine c_166 ?_
      show Ok _ 172 23 [some (vR (some 273)), some (vI v2)] [] (cpn M2 278 274 232) _
      refine k_iload_n i_172_23 rfl ?_
      refine k_sipush i_172_24 (by decide) ?_
      refine k_icmp_ne (t := 35) i_172_27 rfl (fun h27 => ?_) (fun h27 => ?_)
      · refine k_iload_n i_172_35 rfl ?_
        refine k_iret i_172_36 rfl ?_
        have hw := (Wk.st M1).bk ho2.w
        refine ⟨_, rfl, ?_, h.scr (fun b j b0 b1 b2 b3 b4 => (hw.1 b j b1 b3 b4).trans (ho1 b j (by omega)))⟩
        refine congrArg (fun z => some (vI z)) ?_
        have e1 : vA = lifeN K 200 T := Fst.uq hvA (life_fst K 200 T) (fun n _ => Iff.rfl)
        have lb := life_b K 200 T
        unfold nv at hv2
        split at hv2 <;> omega
      · refine k_ldc (z := -1000000) i_172_30 o_172 rfl (by decide) ?_
        refine k_goto (t := 36) i_172_32 rfl ?_
        refine k_iret i_172_36 rfl ?_
        have hw := (Wk.st M1).bk ho2.w
        refine ⟨_, rfl, ?_, h.scr (fun b j b0 b1 b2 b3 b4 => (hw.1 b j b1 b3 b4).trans (ho1 b j (by omega)))⟩
        refine congrArg (fun z => some (vI z)) ?_
        have e1 : vA = lifeN K 200 T := Fst.uq hvA (life_fst K 200 T) (fun n _ => Iff.rfl)
        have lb := life_b K 200 T
        unfold nv at hv2
        split at hv2 <;> omega
    · refine k_ldc (z := -1000002) i_172_7 o_172 rfl (by decide) ?_
      refine k_iret i_172_9 rfl ?_
      exfalso
      omega

set_option maxRecDepth 100000 in
theorem l_176 {d : Nat} {M0 : Mem} {Q : Option Vv → Mem → Prop} {K : Kt} {T : Tt} {x : Int} (hKo : KOk K 0) (hK : RepKR M0 K 0) (hT : TOk K 0 T) (hmi : tMi T ≤ 2000) (kk : ∀ v M', Fst (fun n : Nat => allB K (itF K n T) x) 60 v → Wk M0 M' → Q (some (vI v)) M') : ∀ (f : Nat) (i : Int) (M : Mem), (0 ≤ i ∧ i ≤ 60) → (∀ j : Nat, (j : Int) < i → ¬ (fun n : Nat => allB K (itF K n T) x) j) → (RepR M K 0 (itF K i.toNat T)) → (OutR (cpn M0 274 278 232) M) → (60 - i).toNat < f → Ok (d + 4) 176 31 [some (vR (some 273)), some (vI x), some (vI i), none] [] M Q := by
  intro f
  induction f with
  | zero => intro i M hi hj hR1 ho hf; exact absurd hf (Nat.not_lt_zero _)
  | succ f ih =>
    intro i M hi hj hR1 ho hf
    have hKs : RepKR (cpn M0 274 278 232) K 0 := (Wk.st M0).k hK
    have hK1 := hKs.out hKo ho
    have hU := hT.it hKo i.toNat (by omega)
    have hmi2 := it_mi (K := K) i.toNat T
    refine k_iload_n i_176_31 rfl ?_
    refine k_bipush i_176_32 (by decide) ?_
    refine k_icmp_ge (t := 56) i_176_34 rfl (fun h34 => ?_) (fun h34 => ?_)
    · refine k_aload_n i_176_56 rfl ?_
      refine k_iload_n i_176_57 rfl ?_
      refine k_invV (n := 1) (o' := 8) (av := [vR (some 273), vI x]) (rest := []) (el := [some (vR (some 273)), some (vI x), none, none]) i_176_58 o_176 rfl v_175 rfl (s_273) rfl rfl rfl rfl rfl ?_
      refine c_175 hKo hK1 hR1 hU (fun v58 hv58 => ?_)
      show Ok _ 176 61 [some (vR (some 273)), some (vI x), some (vI i), none] [vI v58] (M) _
      refine k_istore_n (ls' := [some (vR (some 273)), some (vI x), some (vI i), some (vI v58)]) i_176_61 rfl ?_
      refine k_aload_n i_176_62 rfl ?_
      refine k_invV (n := 0) (o' := 8) (av := [vR (some 273)]) (rest := []) (el := [some (vR (some 273)), none]) i_176_63 o_176 rfl v_166 rfl (s_273) rfl rfl rfl rfl rfl ?_
      refine c_166 ?_
      show Ok _ 176 66 [some (vR (some 273)), some (vI x), some (vI i), some (vI v58)] [] (cpn M 278 274 232) _
      refine k_iload_n i_176_66 rfl ?_
      refine k_if_eq (t := 74) i_176_67 rfl (fun h67 => ?_) (fun h67 => ?_)
      · refine k_ldc (z := -1000000) i_176_74 o_176 rfl (by decide) ?_
        refine k_iret i_176_76 rfl ?_
        refine kk _ _ ?_ ((Wk.st M0).bk ho.w)
        refine Or.inr ⟨rfl, fun j hj2 => ?_⟩
        by_cases e : (j : Int) < i
        · exact hj j e
        · have hns : ¬ allB K (itF K i.toNat T) x := by
            rcases hv58 with q | q
            · omega
            · exact q.2
          first
            | (rw [show j = i.toNat by omega]; exact hns)
            | (exfalso
               rcases hv39 with q | q
               · exact hns q.2
               · omega)
      · refine k_iload_n i_176_70 rfl ?_
        refine k_goto (t := 76) i_176_71 rfl ?_
        refine k_iret i_176_76 rfl ?_
        refine kk _ _ ?_ ((Wk.st M0).bk ho.w)
        refine Or.inl ⟨i.toNat, by omega, by omega, ?_, fun j hj2 => hj j (by omega)⟩
        rcases hv58 with q | q
        · exact q.2
        · omega
    · refine k_aload_n i_176_37 rfl ?_
      refine k_iload_n i_176_38 rfl ?_
      refine k_invV (n := 1) (o' := 8) (av := [vR (some 273), vI x]) (rest := []) (el := [some (vR (some 273)), some (vI x), none, none]) i_176_39 o_176 rfl v_175 rfl (s_273) rfl rfl rfl rfl rfl ?_
      refine c_175 hKo hK1 hR1 hU (fun v39 hv39 => ?_)
      show Ok _ 176 42 [some (vR (some 273)), some (vI x), some (vI i), none] [vI v39] (M) _
      refine k_if_ne (t := 56) i_176_42 rfl (fun h42 => ?_) (fun h42 => ?_)
      · refine k_aload_n i_176_56 rfl ?_
        refine k_iload_n i_176_57 rfl ?_
        refine k_invV (n := 1) (o' := 8) (av := [vR (some 273), vI x]) (rest := []) (el := [some (vR (some 273)), some (vI x), none, none]) i_176_58 o_176 rfl v_175 rfl (s_273) rfl rfl rfl rfl rfl ?_
        refine c_175 hKo hK1 hR1 hU (fun v58 hv58 => ?_)
        show Ok _ 176 61 [some (vR (some 273)), some (vI x), some (vI i), none] [vI v58] (M) _
        refine k_istore_n (ls' := [some (vR (some 273)), some (vI x), some (vI i), some (vI v58)]) i_176_61 rfl ?_
        refine k_aload_n i_176_62 rfl ?_
        refine k_invV (n := 0) (o' := 8) (av := [vR (some 273)]) (rest := []) (el := [some (vR (some 273)), none]) i_176_63 o_176 rfl v_166 rfl (s_273) rfl rfl rfl rfl rfl ?_
        refine c_166 ?_
        show Ok _ 176 66 [some (vR (some 273)), some (vI x), some (vI i), some (vI v58)] [] (cpn M 278 274 232) _
        refine k_iload_n i_176_66 rfl ?_
        refine k_if_eq (t := 74) i_176_67 rfl (fun h67 => ?_) (fun h67 => ?_)
        · refine k_ldc (z := -1000000) i_176_74 o_176 rfl (by decide) ?_
          refine k_iret i_176_76 rfl ?_
          refine kk _ _ ?_ ((Wk.st M0).bk ho.w)
          refine Or.inr ⟨rfl, fun j hj2 => ?_⟩
          by_cases e : (j : Int) < i
          · exact hj j e
          · have hns : ¬ allB K (itF K i.toNat T) x := by
              rcases hv58 with q | q
              · omega
              · exact q.2
            first
              | (rw [show j = i.toNat by omega]; exact hns)
              | (exfalso
                 rcases hv39 with q | q
                 · exact hns q.2
                 · omega)
        · refine k_iload_n i_176_70 rfl ?_
          refine k_goto (t := 76) i_176_71 rfl ?_
          refine k_iret i_176_76 rfl ?_
          refine kk _ _ ?_ ((Wk.st M0).bk ho.w)
          refine Or.inl ⟨i.toNat, by omega, by omega, ?_, fun j hj2 => hj j (by omega)⟩
          rcases hv58 with q | q
          · exact q.2
          · omega
      · refine k_aload_n i_176_45 rfl ?_
        refine k_iconst i_176_46 (by decide) ?_
        refine k_invV (n := 1) (o' := 8) (av := [vR (some 273), vI 1]) (rest := []) (el := [some (vR (some 273)), some (vI 1), none]) i_176_47 o_176 rfl v_153 rfl (s_273) rfl rfl rfl rfl rfl ?_
        refine c_153 hKo hK1 hR1 hU (by omega) (fun M2 hR2 ho2 => ?_)
        show Ok _ 176 50 [some (vR (some 273)), some (vI x), some (vI i), none] [] (M2) _
        refine k_iinc (ls' := [some (vR (some 273)), some (vI x), some (vI (i + 1)), none]) i_176_50 rfl (by omega) rfl ?_
        refine k_goto (t := 31) i_176_53 rfl ?_
        refine ih (i + 1) M2 (by omega) (fun j hj2 => ?_) ?_ (ho.tr ho2) (by omega)
        · by_cases e : (j : Int) < i
          · exact hj j e
          · rw [show j = i.toNat by omega]
            rcases hv39 with q | q
            · omega
            · exact q.2
        · rw [show (i + 1).toNat = i.toNat + 1 by omega, it_s]
          exact hR2

set_option maxRecDepth 100000 in
theorem tp_spread {d : Nat} {M : Mem} {x : Int} (h : Rel M)  : Two (d + 24) 104 176 [some (vR (some 0)), some (vI x)] [some (vR (some 273)), some (vI x), none, none] M := by
  obtain ⟨K, T, L, hW⟩ := h.2.2.2.2.1
  obtain ⟨hE, hKo, hS, hK12, hR, hKR, hRR, hA, hAR, hL, hti⟩ := id hW
  have hT := hS.1
  have hK : RepK M 20 K 0 := hK12.mono (by decide)
  have g0 := hKo.1
  have u3 := hT.2.2.1
  have mi9 := hS.2.2
  have k1 : M 20 7 = kPe K := hK.1
  have k2 : M 20 6 = kWt K := hK.2.1
  have q1 : M 274 229 = kPe K := hKR.1
  have q2 : M 274 230 = kPe K - kWt K := hKR.2.1
  obtain ⟨x6, x7, x8, x9, x10, xq, xp⟩ := id hR
  obtain ⟨y6, y7, y8, y9, y10, yq, yp⟩ := id hRR
  have hl28 := q28 hKo hT
  have hl16 : ((tQ T).length : Int) ≤ 16 := by omega
  show Ok (d + 24) 104 0 [some (vR (some 0)), some (vI x)] [] M _
  refine k_aload_n i_104_0 rfl ?_
  refine k_getI (kz := 11) i_104_1 o_104 rfl (by decide) (s_0) rfl ?_
  refine k_if_ne (t := 10) i_104_4 rfl (fun h4 => ?_) (fun h4 => ?_)
  · refine k_iload_n i_104_10 rfl ?_
    refine k_iconst i_104_11 (by decide) ?_
    refine k_invS (n := 2) (av := [vI x, vI 3]) (rest := []) (el := [some (vI x), some (vI 3)]) i_104_12 o_104 rfl v_117 rfl rfl rfl rfl rfl rfl ?_
    refine c_117 (fun v12 hv12 => ?_)
    show Ok _ 104 15 [some (vR (some 0)), some (vI x)] [vI v12] (M) _
    refine k_if_eq (t := 29) i_104_15 rfl (fun h15 => ?_) (fun h15 => ?_)
    · refine k_ldc (z := -1000001) i_104_29 o_104 rfl (by decide) ?_
      refine k_iret i_104_31 rfl ?_
      show Ok (d + 24) 176 0 [some (vR (some 273)), some (vI x), none, none] [] M _
      refine k_aload_n i_176_0 rfl ?_
      refine k_invV (n := 0) (o' := 8) (av := [vR (some 273)]) (rest := []) (el := [some (vR (some 273))]) i_176_1 o_176 rfl v_144 rfl (s_273) rfl rfl rfl rfl rfl ?_
      refine c_144 (fun v1 hv1 => ?_)
      show Ok _ 176 4 [some (vR (some 273)), some (vI x), none, none] [vI v1] (M) _
      refine k_if_ne (t := 10) i_176_4 rfl (fun h4 => ?_) (fun h4 => ?_)
      · refine k_iload_n i_176_10 rfl ?_
        refine k_i2l i_176_11 ?_
        refine k_lconst (z := 0) i_176_12 rfl ?_
        refine k_ldc2 (z := 3) i_176_13 o_176 rfl (by decide) ?_
        refine k_invS (n := 3) (av := [vL x, vL 0, vL 3]) (rest := []) (el := [some (vL x), none, some (vL 0), none, some (vL 3), none]) i_176_16 o_176 rfl v_122 rfl rfl rfl rfl rfl rfl ?_
        refine c_122 (fun v16 hv16 => ?_)
        show Ok _ 176 19 [some (vR (some 273)), some (vI x), none, none] [vI v16] (M) _
        refine k_if_ne (t := 25) i_176_19 rfl (fun h19 => ?_) (fun h19 => ?_)
        · refine k_iconst i_176_25 (by decide) ?_
          refine k_istore_n (ls' := [some (vR (some 273)), some (vI x), some (vI 0), none]) i_176_26 rfl ?_
          refine k_aload_n i_176_27 rfl ?_
          refine k_invV (n := 0) (o' := 8) (av := [vR (some 273)]) (rest := []) (el := [some (vR (some 273)), none]) i_176_28 o_176 rfl v_165 rfl (s_273) rfl rfl rfl rfl rfl ?_
          refine c_165 ?_
          show Ok _ 176 31 [some (vR (some 273)), some (vI x), some (vI 0), none] [] (cpn M 274 278 232) _
          exfalso
          omega
        · refine k_ldc (z := -1000001) i_176_22 o_176 rfl (by decide) ?_
          refine k_iret i_176_24 rfl ?_
          refine ⟨_, rfl, ?_, h⟩
          first
            | exact congrArg (fun z => some (vI z)) (by omega)
            | (exfalso; omega)
      · refine k_ldc (z := -1000002) i_176_7 o_176 rfl (by decide) ?_
        refine k_iret i_176_9 rfl ?_
        refine ⟨_, rfl, ?_, h⟩
        first
          | exact congrArg (fun z => some (vI z)) (by omega)
          | (exfalso; omega)
    · refine k_aload_n i_104_18 rfl ?_
      refine k_getR (r := 177) i_104_19 o_104 rfl (by decide) (s_0) rfl ?_
      refine k_iload_n i_104_22 rfl ?_
      refine k_invV (n := 1) (o' := 2) (av := [vR (some 177), vI x]) (rest := []) (el := [some (vR (some 177)), some (vI x)]) i_104_23 o_104 rfl v_20 rfl (s_177) rfl rfl rfl rfl rfl ?_
      refine c_20 hKo hK hT hR (by omega) (fun vA M1 hvA ho1 => ?_)
      show Ok _ 104 26 [some (vR (some 0)), some (vI x)] [vI vA] (M1) _
      refine k_goto (t := 31) i_104_26 rfl ?_
      refine k_iret i_104_31 rfl ?_
      show Ok (d + 24) 176 0 [some (vR (some 273)), some (vI x), none, none] [] M1 _
      have hRR1 : RepR M1 K 0 T := hRR.off (fun j => ho1 274 j (by omega))
      have hKR1 : RepKR M1 K 0 := hKR.fr (fun j => ho1 274 j (by omega))
      have z1 : M1 274 231 = M 274 231 := ho1 _ _ (by omega)
      have z2 : M1 274 229 = kPe K := hKR1.1
      refine k_aload_n i_176_0 rfl ?_
      refine k_invV (n := 0) (o' := 8) (av := [vR (some 273)]) (rest := []) (el := [some (vR (some 273))]) i_176_1 o_176 rfl v_144 rfl (s_273) rfl rfl rfl rfl rfl ?_
      refine c_144 (fun v1 hv1 => ?_)
      show Ok _ 176 4 [some (vR (some 273)), some (vI x), none, none] [vI v1] (M1) _
      refine k_if_ne (t := 10) i_176_4 rfl (fun h4 => ?_) (fun h4 => ?_)
      · refine k_iload_n i_176_10 rfl ?_
        refine k_i2l i_176_11 ?_
        refine k_lconst (z := 0) i_176_12 rfl ?_
        refine k_ldc2 (z := 3) i_176_13 o_176 rfl (by decide) ?_
        refine k_invS (n := 3) (av := [vL x, vL 0, vL 3]) (rest := []) (el := [some (vL x), none, some (vL 0), none, some (vL 3), none]) i_176_16 o_176 rfl v_122 rfl rfl rfl rfl rfl rfl ?_
        refine c_122 (fun v16 hv16 => ?_)
        show Ok _ 176 19 [some (vR (some 273)), some (vI x), none, none] [vI v16] (M1) _
        refine k_if_ne (t := 25) i_176_19 rfl (fun h19 => ?_) (fun h19 => ?_)
        · refine k_iconst i_176_25 (by decide) ?_
          refine k_istore_n (ls' := [some (vR (some 273)), some (vI x), some (vI 0), none]) i_176_26 rfl ?_
          refine k_aload_n i_176_27 rfl ?_
          refine k_invV (n := 0) (o' := 8) (av := [vR (some 273)]) (rest := []) (el := [some (vR (some 273)), none]) i_176_28 o_176 rfl v_165 rfl (s_273) rfl rfl rfl rfl rfl ?_
          refine c_165 ?_
          show Ok _ 176 31 [some (vR (some 273)), some (vI x), some (vI 0), none] [] (cpn M1 274 278 232) _
          refine l_176 (M0 := M1) hKo hKR1 hT (by omega) (fun v2 M2 hv2 hw => ?_) 201 0 _ (by omega) (fun j hj => by omega) ((Wk.st M1).r hRR1) (OutR.rf _) (by omega)
          refine ⟨_, rfl, ?_, h.scr (fun b j b0 b1 b2 b3 b4 => (hw.1 b j b1 b3 b4).trans (ho1 b j (by omega)))⟩
          refine congrArg (fun z => some (vI z)) ?_
          exact Fst.uq hv2 hvA (fun n _ => Iff.rfl)
        · refine k_ldc (z := -1000001) i_176_22 o_176 rfl (by decide) ?_
          refine k_iret i_176_24 rfl ?_
          exfalso
          omega
      · refine k_ldc (z := -1000002) i_176_7 o_176 rfl (by decide) ?_
        refine k_iret i_176_9 rfl ?_
        exfalso
        omega
  · refine k_ldc (z := -1000002) i_104_7 o_104 rfl (by decide) ?_
    refine k_iret i_104_9 rfl ?_
    show Ok (d + 24) 176 0 [some (vR (some 273)), some (vI x), none, none] [] M _
    refine k_aload_n i_176_0 rfl ?_
    refine k_invV (n := 0) (o' := 8) (av := [vR (some 273)]) (rest := []) (el := [some (vR (some 273))]) i_176_1 o_176 rfl v_144 rfl (s_273) rfl rfl rfl rfl rfl ?_
    refine c_144 (fun v1 hv1 => ?_)
    show Ok _ 176 4 [some (vR (some 273)), some (vI x), none, none] [vI v1] (M) _
    refine k_if_ne (t := 10) i_176_4 rfl (fun h4 => ?_) (fun h4 => ?_)
    · refine k_iload_n i_176_10 rfl ?_
      refine k_i2l i_176_11 ?_
      refine k_lconst (z := 0) i_176_12 rfl ?_
      refine k_ldc2 (z := 3) i_176_13 o_176 rfl (by decide) ?_
      refine k_invS (n := 3) (av := [vL x, vL 0, vL 3]) (rest := []) (el := [some (vL x), none, some (vL 0), none, some (vL 3), none]) i_176_16 o_176 rfl v_122 rfl rfl rfl rfl rfl rfl ?_
      refine c_122 (fun v16 hv16 => ?_)
      show Ok _ 176 19 [some (vR (some 273)), some (vI x), none, none] [vI v16] (M) _
      refine k_if_ne (t := 25) i_176_19 rfl (fun h19 => ?_) (fun h19 => ?_)
      · refine k_iconst i_176_25 (by decide) ?_
        refine k_istore_n (ls' := [some (vR (some 273)), some (vI x), some (vI 0), none]) i_176_26 rfl ?_
        refine k_aload_n i_176_27 rfl ?_
        refine k_invV (n := 0) (o' := 8) (av := [vR (some 273)]) (rest := []) (el := [some (vR (some 273)), none]) i_176_28 o_176 rfl v_165 rfl (s_273) rfl rfl rfl rfl rfl ?_
        refine c_165 ?_
        show Ok _ 176 31 [some (vR (some 273)), some (vI x), some (vI 0), none] [] (cpn M 274 278 232) _
        exfalso
        omega
      · refine k_ldc (z := -1000001) i_176_22 o_176 rfl (by decide) ?_
        refine k_iret i_176_24 rfl ?_
        refine ⟨_, rfl, ?_, h⟩
        first
          | exact congrArg (fun z => some (vI z)) (by omega)
          | (exfalso; omega)
    · refine k_ldc (z := -1000002) i_176_7 o_176 rfl (by decide) ?_
      refine k_iret i_176_9 rfl ?_
      refine ⟨_, rfl, ?_, h⟩
      first
        | exact congrArg (fun z => some (vI z)) (by omega)
        | (exfalso; omega)
