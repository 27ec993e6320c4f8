theorem RepR.elb {M : Mem} {K : Kt} {m : Int} {U : Tt} (hK : KOk K m) (hl : ((tQ U).length : Int) ≤ 28) (hm : m < 12) (h : RepR M K m U) (e : Int) (he : e = 16 + m) :
    RepR (mu (mu (mu (mu (mu M 274 (145 + e) 1) 274 (173 + e) 99) 274 (56 + e) 0) 274 (28 + e) 0) 274 (84 + e) e) K (m + 1) (mkT (tQ U) (up (tW U) e (M 274 e)) (up (tS U) e 0) (up (tB U) e 0) (up (tO U) e e) (tMi U) (tCa U) (tSe U) (tNx U)) := by
  have g := hK.1
  obtain ⟨r6, r7, r8, r9, r10, rq, rp⟩ := id h
  refine ⟨?_, ?_, ?_, ?_, ?_, ?_, ?_⟩
  · repeat rw [mu_j (by omega)]
    exact r6
  · repeat rw [mu_j (by omega)]
    exact r7
  · repeat rw [mu_j (by omega)]
    exact r8
  · repeat rw [mu_j (by omega)]
    exact r9
  · repeat rw [mu_j (by omega)]
    exact r10
  · intro j p hj
    have hj2 := (List.getElem?_eq_some_iff.mp hj).1
    have hj3 : j < (tQ U).length := hj2
    repeat rw [mu_j (by omega)]
    exact rq j p hj
  · intro p hp
    have hp2 : (0 ≤ p ∧ p < kPe K) ∨ (16 ≤ p ∧ p < 16 + (m + 1)) := hp
    show _ = up (tB U) e 0 p ∧ _ = up (tW U) e _ p ∧ _ = up (tS U) e 0 p ∧ _ = up (tO U) e e p
    by_cases q : p = e
    · rw [q, up_s, up_s, up_s, up_s]
      refine ⟨?_, ?_, ?_, ?_⟩
      · rw [mu_j (by omega), mu_j (by omega), mu_s]
      · repeat rw [mu_j (by omega)]
      · rw [mu_j (by omega), mu_s]
      · rw [mu_s]
    · obtain ⟨f2, f3, f4, f5⟩ := rp p ((va_s hp).resolve_right (by omega))
      rw [up_n _ _ q, up_n _ _ q, up_n _ _ q, up_n _ _ q]
      refine ⟨?_, ?_, ?_, ?_⟩ <;> (repeat rw [mu_j (by omega)])
      · exact f2
      · exact f3
      · exact f4
      · exact f5
/-- what is told of elbows -/
def Elb (K : Kt) : Prop := ∀ p : Int, 16 ≤ p → p < 28 → kKd K p = 1 ∧ kPa K p = 99
theorem Elb.kok {K : Kt} {m : Int} (h : Elb K) (hK : KOk K 0) (h0 : 0 ≤ m ∧ m ≤ 12) : KOk K m := by
  obtain ⟨⟨g1, g2, g3, g4, g5, g6, g7, g8⟩, hp⟩ := hK
  refine ⟨⟨g1, g2, g3, g4, g5, g6, h0.1, h0.2⟩, fun p q => ?_⟩
  have q2 : (0 ≤ p ∧ p < kPe K) ∨ (16 ≤ p ∧ p < 16 + m) := q
  by_cases e : 0 ≤ p ∧ p < kPe K
  · exact hp p (Or.inl e)
  · have := h p (by omega) (by omega)
    omega
theorem min_nx {K : Kt} {T : Tt} (h : tNx T < kPe K) (th : Int) : tNx (minF K T th) = tNx T + 1 ∧ (tW (minF K T th) (tNx T) = 1 ∨ tW (minF K T th) (tNx T) = 4) := by
  have e : tNx (standF K (servF (tickF (tellF K T)))) = tNx T := by
    show tNx (servF (tickF (tellF K T))) = _
    rw [(serv_s _).2.2]
    rfl
  unfold minF meetF
  rw [e, if_pos h]
  split
  · exact ⟨rfl, Or.inl (up_s _ _ _)⟩
  · exact ⟨rfl, Or.inr (up_s _ _ _)⟩
theorem joinC_m {K : Kt} : ∀ (n k : Nat) (T : Tt), kPe K - tNx T ≤ n → kPe K - tNx T ≤ k → joinC K n T = joinC K k T := by
  intro n
  induction n with
  | zero => intro k T h1 h2; rw [joinC_e K (n := k) (by omega)]; rfl
  | succ n ih =>
    intro k T h1 h2
    by_cases h : tNx T < kPe K
    · cases k with
      | zero => exact absurd h (by omega)
      | succ k =>
        have e := (min_nx h 1).1
        rw [joinC_s, joinC_s, if_pos h, if_pos h, ih k (minF K T 1) (by omega) (by omega)]
    · rw [joinC_e K h, joinC_e K h]

set_option maxRecDepth 100000 in
theorem l_177 {d : Nat} {M0 : Mem} {Q : Option Vv → Mem → Prop} {K : Kt} {T : Tt} {n : Int} (hKo : KOk K 0) (hE : Elb K) (hT : TOk K 0 T) (hn : 0 ≤ n ∧ n ≤ 12) (kk : ∀ M', RepR M' K n (elbF T n.toNat) → RepKR M' K n → OutR2 M0 M' → Q none M') : ∀ (f : Nat) (i : Int) (x3 : Option Vv) (M : Mem), (0 ≤ i ∧ i ≤ n) → (RepR M K i (elbF T i.toNat)) → (RepKR M K i) → (OutR2 M0 M) → (n - i).toNat < f → Ok (d + 1) 177 2 [some (vR (some 273)), some (vI n), some (vI i), x3] [] M Q := by
  intro f
  induction f with
  | zero => intro i x3 M hi hR1 hK1 ho hf; exact absurd hf (Nat.not_lt_zero _)
  | succ f ih =>
    intro i x3 M hi hR1 hK1 ho hf
    obtain ⟨⟨g1, g2, g3, g4, g5, g6, g7, g8⟩, hKp⟩ := id hKo
    have hTi := hT.elbF (hE.kok hKo (by omega)) i.toNat (by omega)
    have hu3 := hTi.2.2.1
    refine k_iload_n i_177_2 rfl ?_
    refine k_iload_n i_177_3 rfl ?_
    refine k_icmp_ge (t := 76) i_177_4 rfl (fun h4 => ?_) (fun h4 => ?_)
    · refine k_vret i_177_76 rfl ?_
      refine kk M ?_ ?_ ho
      · obtain rfl : i = n := by omega
        exact hR1
      · obtain rfl : i = n := by omega
        exact hK1
    · refine k_bipush i_177_7 (by decide) ?_
      refine k_iload_n i_177_9 rfl ?_
      refine k_iadd i_177_10 (by omega) ?_
      refine k_istore_n (ls' := [some (vR (some 273)), some (vI n), some (vI i), some (vI (16 + i))]) i_177_11 rfl ?_
      refine k_aload_n i_177_12 rfl ?_
      refine k_getR (r := 274) i_177_13 o_177 rfl (by decide) (s_273) rfl ?_
      refine k_sipush i_177_16 (by decide) ?_
      refine k_iload_n i_177_19 rfl ?_
      refine k_iadd i_177_20 (by omega) ?_
      refine k_iconst i_177_21 (by decide) ?_
      refine k_iast i_177_22 (s_274) (by omega) ?_
      refine k_aload_n i_177_23 rfl ?_
      refine k_getR (r := 274) i_177_24 o_177 rfl (by decide) (s_273) rfl ?_
      refine k_sipush i_177_27 (by decide) ?_
      refine k_iload_n i_177_30 rfl ?_
      refine k_iadd i_177_31 (by omega) ?_
      refine k_bipush i_177_32 (by decide) ?_
      refine k_iast i_177_34 (s_274) (by omega) ?_
      refine k_aload_n i_177_35 rfl ?_
      refine k_getR (r := 274) i_177_36 o_177 rfl (by decide) (s_273) rfl ?_
      refine k_bipush i_177_39 (by decide) ?_
      refine k_iload_n i_177_41 rfl ?_
      refine k_iadd i_177_42 (by omega) ?_
      refine k_iconst i_177_43 (by decide) ?_
      refine k_iast i_177_44 (s_274) (by omega) ?_
      refine k_aload_n i_177_45 rfl ?_
      refine k_getR (r := 274) i_177_46 o_177 rfl (by decide) (s_273) rfl ?_
      refine k_bipush i_177_49 (by decide) ?_
      refine k_iload_n i_177_51 rfl ?_
      refine k_iadd i_177_52 (by omega) ?_
      refine k_iconst i_177_53 (by decide) ?_
      refine k_iast i_177_54 (s_274) (by omega) ?_
      refine k_aload_n i_177_55 rfl ?_
      refine k_getR (r := 274) i_177_56 o_177 rfl (by decide) (s_273) rfl ?_
      refine k_bipush i_177_59 (by decide) ?_
      refine k_iload_n i_177_61 rfl ?_
      refine k_iadd i_177_62 (by omega) ?_
      refine k_iload_n i_177_63 rfl ?_
      refine k_iast i_177_64 (s_274) (by omega) ?_
      refine k_aload_n i_177_65 rfl ?_
      refine k_iload_n i_177_66 rfl ?_
      refine k_invV (n := 1) (o' := 8) (av := [vR (some 273), vI (16 + i)]) (rest := []) (el := [some (vR (some 273)), some (vI (16 + i))]) i_177_67 o_177 rfl v_152 rfl (s_273) rfl rfl rfl rfl rfl ?_
      refine c_152 (m := i + 1) (hE.kok hKo (by omega)) (RepR.elb (hE.kok hKo (by omega)) (by omega) (by omega) hR1 (16 + i) rfl) (by show ((tQ (elbF T i.toNat)).length : Int) < 28; omega) (by unfold Va; omega) (fun M2 hR2 ho2 => ?_)
      show Ok _ 177 70 [some (vR (some 273)), some (vI n), some (vI i), some (vI (16 + i))] [] (M2) _
      refine k_iinc (ls' := [some (vR (some 273)), some (vI n), some (vI (i + 1)), some (vI (16 + i))]) i_177_70 rfl (by omega) rfl ?_
      refine k_goto (t := 2) i_177_73 rfl ?_
      refine ih (i + 1) _ M2 (by omega) ?_ ?_ ((((((ho.mu (by omega)).mu (by omega)).mu (by omega)).mu (by omega)).mu (by omega)).tr ho2.w) (by omega)
      · rw [show (i + 1).toNat = i.toNat + 1 by omega]
        have e : elbF T (i.toNat + 1) = joinF (mkT (tQ (elbF T i.toNat)) (up (tW (elbF T i.toNat)) (16 + i) (M 274 (16 + i))) (up (tS (elbF T i.toNat)) (16 + i) 0) (up (tB (elbF T i.toNat)) (16 + i) 0) (up (tO (elbF T i.toNat)) (16 + i) (16 + i)) (tMi (elbF T i.toNat)) (tCa (elbF T i.toNat)) (tSe (elbF T i.toNat)) (tNx (elbF T i.toNat))) (16 + i) := by
          show elbS (elbF T i.toNat) (16 + (i.toNat : Int)) = _
          rw [show ((i.toNat : Nat) : Int) = i by omega]
          unfold elbS joinF
          simp only [mk_q, mk_w, mk_s, mk_b, mk_o, mk_mi, mk_ca, mk_se, mk_nx, up_up]
        rw [e]
        exact hR2
      · refine ⟨?_, ?_, fun p hp => ?_⟩
        · rw [ho2 _ _ (by omega) (by decide) (by decide)]
          repeat rw [mu_j (by omega)]
          exact hK1.1
        · rw [ho2 _ _ (by omega) (by decide) (by decide)]
          repeat rw [mu_j (by omega)]
          exact hK1.2.1
        · have hp2 : (0 ≤ p ∧ p < kPe K) ∨ (16 ≤ p ∧ p < 16 + (i + 1)) := hp
          rw [ho2 _ _ (by omega) (by decide) (by decide), ho2 _ _ (by omega) (by decide) (by decide)]
          by_cases q : p = 16 + i
          · have hk := hE p (by omega) (by omega)
            refine ⟨?_, ?_, fun q3 => by omega⟩
            · rw [q, mu_j (by omega), mu_j (by omega), mu_j (by omega), mu_j (by omega), mu_s, ← q]; exact hk.1.symm
            · rw [q, mu_j (by omega), mu_j (by omega), mu_j (by omega), mu_s, ← q]; exact hk.2.symm
          · obtain ⟨f1, f2, f3⟩ := hK1.2.2 p ((va_s hp).resolve_right q)
            refine ⟨?_, ?_, fun q3 => ?_⟩
            · repeat rw [mu_j (by omega)]
              exact f1
            · repeat rw [mu_j (by omega)]
              exact f2
            · rw [ho2 _ _ (by omega) (by decide) (by decide)]
              repeat rw [mu_j (by omega)]
              exact f3 q3

set_option maxRecDepth 100000 in
/-- ElbowQueueModel.joinElbows -/
theorem c_177 {d : Nat} {M : Mem} {Q : Option Vv → Mem → Prop} {K : Kt} {T : Tt} {n : Int} (hKo : KOk K 0) (hE : Elb K) (hT : TOk K 0 T) (hn : 0 ≤ n ∧ n ≤ 12) (hR : RepR M K 0 T) (hK : RepKR M K 0) (kk : ∀ M', RepR M' K n (elbF T n.toNat) → RepKR M' K n → OutR2 M M' → Q none M') : Ok (d + 1) 177 0 [some (vR (some 273)), some (vI n), none, none] [] M Q := by
  refine k_iconst i_177_0 (by decide) ?_
  refine k_istore_n (ls' := [some (vR (some 273)), some (vI n), some (vI 0), none]) i_177_1 rfl ?_
  exact l_177 hKo hE hT hn kk (n.toNat + 1) 0 _ M (by omega) hR hK (OutR2.rf M) (by omega)

set_option maxRecDepth 100000 in
theorem l_178 {d : Nat} {M0 : Mem} {Q : Option Vv → Mem → Prop} {K : Kt} {m : Int} {T : Tt} (hKo : KOk K m) (hK : RepKR M0 K m) (hT : TOk K m T) (kk : ∀ v M', v = joinC K (kPe K - tNx T).toNat T → OutR M0 M' → Q (some (vI v)) M') : ∀ (f : Nat) (s : Int) (x2 : Option Vv) (U : Tt) (M : Mem), (0 ≤ s ∧ s ≤ tNx U ∧ s + joinC K (kPe K - tNx U).toNat U = joinC K (kPe K - tNx T).toNat T) → (RepR M K m U) → (TOk K m U) → (tMi U + (kPe K - tNx U) ≤ 2100) → (OutR M0 M) → (kPe K - tNx U).toNat < f → Ok (d + 4) 178 2 [some (vR (some 273)), some (vI s), x2] [] M Q := by
  intro f
  induction f with
  | zero => intro s x2 U M hs hR1 hU hm ho hf; exact absurd hf (Nat.not_lt_zero _)
  | succ f ih =>
    intro s x2 U M hs hR1 hU hm ho hf
    obtain ⟨⟨g1, g2, g3, g4, g5, g6, g7, g8⟩, hKp⟩ := id hKo
    have hK1 := hK.out hKo ho
    have hu3 := hU.2.2.1
    have r5 : M 274 141 = tNx U := hR1.2.2.2.2.1
    have k1 : M 274 229 = kPe K := hK1.1
    refine k_aload_n i_178_2 rfl ?_
    refine k_getR (r := 274) i_178_3 o_178 rfl (by decide) (s_273) rfl ?_
    refine k_sipush i_178_6 (by decide) ?_
    refine k_iald i_178_9 (s_274) (by omega) ?_
    refine k_aload_n i_178_10 rfl ?_
    refine k_invV (n := 0) (o' := 8) (av := [vR (some 273)]) (rest := [vI (M 274 141)]) (el := [some (vR (some 273))]) i_178_11 o_178 rfl v_142 rfl (s_273) rfl rfl rfl rfl rfl ?_
    refine c_142 ?_
    show Ok _ 178 14 [some (vR (some 273)), some (vI s), x2] [vI (M 274 229), vI (M 274 141)] (M) _
    refine k_icmp_ge (t := 54) i_178_14 rfl (fun h14 => ?_) (fun h14 => ?_)
    · refine k_iload_n i_178_54 rfl ?_
      refine k_iret i_178_55 rfl ?_
      refine kk _ _ ?_ ho
      have q := hs.2.2
      rw [joinC_e K (show ¬ tNx U < kPe K by omega)] at q
      omega
    · refine k_aload_n i_178_17 rfl ?_
      refine k_getR (r := 274) i_178_18 o_178 rfl (by decide) (s_273) rfl ?_
      refine k_sipush i_178_21 (by decide) ?_
      refine k_iald i_178_24 (s_274) (by omega) ?_
      rw [r5]
      refine k_istore_n (ls' := [some (vR (some 273)), some (vI s), some (vI (tNx U))]) i_178_25 rfl ?_
      refine k_aload_n i_178_26 rfl ?_
      refine k_iconst i_178_27 (by decide) ?_
      refine k_invV (n := 1) (o' := 8) (av := [vR (some 273), vI 1]) (rest := []) (el := [some (vR (some 273)), some (vI 1), none]) i_178_28 o_178 rfl v_153 rfl (s_273) rfl rfl rfl rfl rfl ?_
      refine c_153 hKo hK1 hR1 hU (by omega) (fun M2 hR2 ho2 => ?_)
      show Ok _ 178 31 [some (vR (some 273)), some (vI s), some (vI (tNx U))] [] (M2) _
      refine k_iload_n i_178_31 rfl ?_
      refine k_aload_n i_178_32 rfl ?_
      refine k_getR (r := 274) i_178_33 o_178 rfl (by decide) (s_273) rfl ?_
      refine k_iconst i_178_36 (by decide) ?_
      refine k_iload_n i_178_37 rfl ?_
      refine k_iadd i_178_38 (by omega) ?_
      refine k_iald i_178_39 (s_274) (by omega) ?_
      refine k_iconst i_178_40 (by decide) ?_
      refine k_icmp_ne (t := 48) i_178_41 rfl (fun h41 => ?_) (fun h41 => ?_)
      · refine k_iconst i_178_48 (by decide) ?_
        refine k_iadd i_178_49 (by omega) ?_
        refine k_istore_n (ls' := [some (vR (some 273)), some (vI (s + 1)), some (vI (tNx U))]) i_178_50 rfl ?_
        refine k_goto (t := 2) i_178_51 rfl ?_
        have hnx := min_nx (K := K) (T := U) (by omega) 1
        refine ih _ _ (minF K U 1) M2 ?_ hR2 (hU.min hKo (by omega) 1) (by rw [min_mi, hnx.1]; omega) (ho.tr ho2) (by rw [hnx.1]; omega)
        rw [hnx.1]
        have ew : M2 274 (0 + tNx U) = tW (minF K U 1) (tNx U) := by rw [Int.zero_add]; exact (hR2.2.2.2.2.2.2 _ (by unfold Va; omega)).2.1
        have e := joinC_s K (kPe K - (tNx U + 1)).toNat U
        rw [show (kPe K - (tNx U + 1)).toNat + 1 = (kPe K - tNx U).toNat by omega, if_pos (by omega)] at e
        have q := hs.2.2
        rw [e] at q
        refine ⟨by omega, by omega, ?_⟩
        split at q <;> omega
      · refine k_iconst i_178_44 (by decide) ?_
        refine k_goto (t := 49) i_178_45 rfl ?_
        refine k_iadd i_178_49 (by omega) ?_
        refine k_istore_n (ls' := [some (vR (some 273)), some (vI (s + 0)), some (vI (tNx U))]) i_178_50 rfl ?_
        refine k_goto (t := 2) i_178_51 rfl ?_
        have hnx := min_nx (K := K) (T := U) (by omega) 1
        refine ih _ _ (minF K U 1) M2 ?_ hR2 (hU.min hKo (by omega) 1) (by rw [min_mi, hnx.1]; omega) (ho.tr ho2) (by rw [hnx.1]; omega)
        rw [hnx.1]
        have ew : M2 274 (0 + tNx U) = tW (minF K U 1) (tNx U) := by rw [Int.zero_add]; exact (hR2.2.2.2.2.2.2 _ (by unfold Va; omega)).2.1
        have e := joinC_s K (kPe K - (tNx U + 1)).toNat U
        rw [show (kPe K - (tNx U + 1)).toNat + 1 = (kPe K - tNx U).toNat by omega, if_pos (by omega)] at e
        have q := hs.2.2
        rw [e] at q
        refine ⟨by omega, by omega, ?_⟩
        split at q <;> omega

set_option maxRecDepth 100000 in
/-- ElbowQueueModel.passersIn -/
theorem c_178 {d : Nat} {M : Mem} {Q : Option Vv → Mem → Prop} {K : Kt} {m : Int} {T : Tt} (hKo : KOk K m) (hK : RepKR M K m) (hT : TOk K m T) (hmi : tMi T ≤ 1900) (hR : RepR M K m T) (kk : ∀ v M', v = joinC K (kPe K - tNx T).toNat T → OutR M M' → Q (some (vI v)) M') : Ok (d + 4) 178 0 [some (vR (some 273)), none, none] [] M Q := by
  have g := hKo.1
  have hu3 := hT.2.2.1
  refine k_iconst i_178_0 (by decide) ?_
  refine k_istore_n (ls' := [some (vR (some 273)), some (vI 0), none]) i_178_1 rfl ?_
  exact l_178 hKo hK hT kk ((kPe K - tNx T).toNat + 1) 0 _ T M ⟨Int.le_refl _, by omega, Int.zero_add _⟩ hR hT (by omega) (OutR.rf M) (by omega)
