/-! the reference's copies -/
def cpn (M : Mem) (a b : Nat) (n : Int) : Mem := fun c j => if c = b ∧ 0 ≤ j ∧ j < n then M a j else M c j
theorem cpn_0 (M : Mem) (a b : Nat) : cpn M a b 0 = M := by
  funext c j
  unfold cpn
  rw [if_neg (by omega)]
theorem cpn_s {M : Mem} {a b : Nat} {n : Int} (hab : a ≠ b) (h : 0 ≤ n) : mu (cpn M a b n) b n (cpn M a b n a n) = cpn M a b (n + 1) := by
  have e0 : cpn M a b n a n = M a n := if_neg (fun q => hab q.1)
  rw [e0]
  funext c j
  unfold mu cpn
  by_cases e : c = b ∧ j = n
  · rw [if_pos e, if_pos (by omega), e.2]
  · rw [if_neg e]
    by_cases e2 : c = b ∧ 0 ≤ j ∧ j < n
    · rw [if_pos e2, if_pos (by omega)]
    · rw [if_neg e2, if_neg (by omega)]
/-- the town's row may have changed -/
def OutR2 (M M' : Mem) : Prop := ∀ (b : Nat) (j : Int), ¬ (b = 274 ∧ 0 ≤ j ∧ j < 232) → b ≠ 286 → b ≠ 287 → M' b j = M b j
theorem OutR.w {M M' : Mem} (h : OutR M M') : OutR2 M M' := fun b j h0 h1 h2 => h b j (by omega) h1 h2
theorem OutR2.tr {M M1 M2 : Mem} (h : OutR2 M M1) (h2 : OutR2 M1 M2) : OutR2 M M2 := fun b j h0 h3 h4 => (h2 b j h0 h3 h4).trans (h b j h0 h3 h4)
theorem OutR2.rf (M : Mem) : OutR2 M M := fun _ _ _ _ _ => rfl
theorem OutR2.mu {M M1 : Mem} {j v : Int} (h : OutR2 M M1) (hb : 0 ≤ j ∧ j < 232) : OutR2 M (mu M1 274 j v) := fun c i h0 h1 h2 => by
  have : ¬ (c = 274 ∧ i = j) := by omega
  exact (if_neg this).trans (h c i h0 h1 h2)
/-- all but three scratch rows are as they were; was holds the town -/
def Wk (M0 M : Mem) : Prop := (∀ (b : Nat) (j : Int), b ≠ 278 → b ≠ 286 → b ≠ 287 → M b j = M0 b j) ∧ ∀ j : Int, 0 ≤ j → j < 232 → M 278 j = M0 274 j
theorem Wk.st (M : Mem) : Wk M (cpn M 274 278 232) := ⟨fun b j h0 _ _ => if_neg (fun q => h0 q.1), fun j h0 h1 => if_pos ⟨rfl, h0, h1⟩⟩
theorem Wk.bk {M0 M M2 : Mem} (h : Wk M0 M) (ho : OutR2 M M2) : Wk M0 (cpn M2 278 274 232) := by
  refine ⟨fun b j h0 h1 h2 => ?_, fun j h0 h1 => ?_⟩
  · unfold cpn
    by_cases e : b = 274 ∧ 0 ≤ j ∧ j < 232
    · rw [if_pos e, ho _ _ (by omega) (by decide) (by decide), h.2 j e.2.1 e.2.2, e.1]
    · rw [if_neg e, ho _ _ e h1 h2, h.1 b j h0 h1 h2]
  · unfold cpn
    rw [if_neg (by omega), ho _ _ (by omega) (by decide) (by decide)]
    exact h.2 j h0 h1
theorem Wk.r {M0 M : Mem} {K : Kt} {m : Int} {T : Tt} (h : Wk M0 M) (hR : RepR M0 K m T) : RepR M K m T := hR.off (fun j => h.1 274 j (by decide) (by decide) (by decide))
theorem Wk.k {M0 M : Mem} {K : Kt} {m : Int} (h : Wk M0 M) (hR : RepKR M0 K m) : RepKR M K m := hR.fr (fun j => h.1 274 j (by decide) (by decide) (by decide))

set_option maxRecDepth 100000 in
theorem l_165 {d : Nat} {M : Mem} {Q : Option Vv → Mem → Prop}   (kk : Q none (cpn M 274 278 232)) : ∀ (f : Nat) (i : Int), (0 ≤ i ∧ i ≤ 232) → (232 - i).toNat < f → Ok d 165 2 [some (vR (some 273)), some (vI i)] [] (cpn M 274 278 i) Q := by
  intro f
  induction f with
  | zero => intro i hi hf; exact absurd hf (Nat.not_lt_zero _)
  | succ f ih =>
    intro i hi hf
    refine k_iload_n i_165_2 rfl ?_
    refine k_sipush i_165_3 (by decide) ?_
    refine k_icmp_ge (t := 27) i_165_6 rfl (fun h6 => ?_) (fun h6 => ?_)
    · refine k_vret i_165_27 rfl ?_
      obtain rfl : i = 232 := by omega
      exact kk
    · refine k_aload_n i_165_9 rfl ?_
      refine k_getR (r := 278) i_165_10 o_165 rfl (by decide) (s_273) rfl ?_
      refine k_iload_n i_165_13 rfl ?_
      refine k_aload_n i_165_14 rfl ?_
      refine k_getR (r := 274) i_165_15 o_165 rfl (by decide) (s_273) rfl ?_
      refine k_iload_n i_165_18 rfl ?_
      refine k_iald i_165_19 (s_274) (by omega) ?_
      refine k_iast i_165_20 (s_278) (by omega) ?_
      refine k_iinc (ls' := [some (vR (some 273)), some (vI (i + 1))]) i_165_21 rfl (by omega) rfl ?_
      refine k_goto (t := 2) i_165_24 rfl ?_
      rw [cpn_s (by decide) (by omega)]
      exact ih (i + 1) (by omega) (by omega)

set_option maxRecDepth 100000 in
/-- ElbowQueueModel.start -/
theorem c_165 {d : Nat} {M : Mem} {Q : Option Vv → Mem → Prop}   (kk : Q none (cpn M 274 278 232)) : Ok d 165 0 [some (vR (some 273)), none] [] M Q := by
  refine k_iconst i_165_0 (by decide) ?_
  refine k_istore_n (ls' := [some (vR (some 273)), some (vI 0)]) i_165_1 rfl ?_
  rw [← cpn_0 M 274 278]
  exact l_165 kk 233 0 (by omega) (by omega)

set_option maxRecDepth 100000 in
theorem l_166 {d : Nat} {M : Mem} {Q : Option Vv → Mem → Prop}   (kk : Q none (cpn M 278 274 232)) : ∀ (f : Nat) (i : Int), (0 ≤ i ∧ i ≤ 232) → (232 - i).toNat < f → Ok d 166 2 [some (vR (some 273)), some (vI i)] [] (cpn M 278 274 i) Q := by
  intro f
  induction f with
  | zero => intro i hi hf; exact absurd hf (Nat.not_lt_zero _)
  | succ f ih =>
    intro i hi hf
    refine k_iload_n i_166_2 rfl ?_
    refine k_sipush i_166_3 (by decide) ?_
    refine k_icmp_ge (t := 27) i_166_6 rfl (fun h6 => ?_) (fun h6 => ?_)
    · refine k_vret i_166_27 rfl ?_
      obtain rfl : i = 232 := by omega
      exact kk
    · refine k_aload_n i_166_9 rfl ?_
      refine k_getR (r := 274) i_166_10 o_166 rfl (by decide) (s_273) rfl ?_
      refine k_iload_n i_166_13 rfl ?_
      refine k_aload_n i_166_14 rfl ?_
      refine k_getR (r := 278) i_166_15 o_166 rfl (by decide) (s_273) rfl ?_
      refine k_iload_n i_166_18 rfl ?_
      refine k_iald i_166_19 (s_278) (by omega) ?_
      refine k_iast i_166_20 (s_274) (by omega) ?_
      refine k_iinc (ls' := [some (vR (some 273)), some (vI (i + 1))]) i_166_21 rfl (by omega) rfl ?_
      refine k_goto (t := 2) i_166_24 rfl ?_
      rw [cpn_s (by decide) (by omega)]
      exact ih (i + 1) (by omega) (by omega)

set_option maxRecDepth 100000 in
/-- ElbowQueueModel.back -/
theorem c_166 {d : Nat} {M : Mem} {Q : Option Vv → Mem → Prop}   (kk : Q none (cpn M 278 274 232)) : Ok d 166 0 [some (vR (some 273)), none] [] M Q := by
  refine k_iconst i_166_0 (by decide) ?_
  refine k_istore_n (ls' := [some (vR (some 273)), some (vI 0)]) i_166_1 rfl ?_
  rw [← cpn_0 M 278 274]
  exact l_166 kk 233 0 (by omega) (by omega)

set_option maxRecDepth 100000 in
theorem l_167 {d : Nat} {M0 : Mem} {Q : Option Vv → Mem → Prop} {K : Kt} {m : Int} {T : Tt} {n : Int} (hKo : KOk K m) (hK : RepKR M0 K m) (hT : TOk K m T) (hn : n ≤ 60) (hmi : tMi T ≤ 2000) (kk : ∀ M', RepR M' K m (itF K n.toNat T) → OutR M0 M' → Q none M') : ∀ (f : Nat) (i : Int) (M : Mem), (0 ≤ i ∧ (i ≤ n ∨ i = 0)) → (RepR M K m (itF K i.toNat T)) → (OutR M0 M) → (n - i).toNat < f → Ok (d + 4) 167 2 [some (vR (some 273)), some (vI n), some (vI i)] [] M Q := by
  intro f
  induction f with
  | zero => intro i M hi hR1 ho hf; exact absurd hf (Nat.not_lt_zero _)
  | succ f ih =>
    intro i M hi hR1 ho hf
    have hK1 := hK.out hKo ho
    have hU := hT.it hKo i.toNat (by omega)
    have hmi2 := it_mi (K := K) i.toNat T
    refine k_iload_n i_167_2 rfl ?_
    refine k_iload_n i_167_3 rfl ?_
    refine k_icmp_ge (t := 18) i_167_4 rfl (fun h4 => ?_) (fun h4 => ?_)
    · refine k_vret i_167_18 rfl ?_
      refine kk M ?_ ho
      rw [show n.toNat = i.toNat by omega]
      exact hR1
    · refine k_aload_n i_167_7 rfl ?_
      refine k_iconst i_167_8 (by decide) ?_
      refine k_invV (n := 1) (o' := 8) (av := [vR (some 273), vI 1]) (rest := []) (el := [some (vR (some 273)), some (vI 1), none]) i_167_9 o_167 rfl v_153 rfl (s_273) rfl rfl rfl rfl rfl ?_
      refine c_153 hKo hK1 hR1 hU (by omega) (fun M2 hR2 ho2 => ?_)
      show Ok _ 167 12 [some (vR (some 273)), some (vI n), some (vI i)] [] (M2) _
      refine k_iinc (ls' := [some (vR (some 273)), some (vI n), some (vI (i + 1))]) i_167_12 rfl (by omega) rfl ?_
      refine k_goto (t := 2) i_167_15 rfl ?_
      refine ih (i + 1) M2 (by omega) ?_ (ho.tr ho2) (by omega)
      rw [show (i + 1).toNat = i.toNat + 1 by omega, it_s]
      exact hR2

set_option maxRecDepth 100000 in
/-- ElbowQueueModel.goMinutes -/
theorem c_167 {d : Nat} {M : Mem} {Q : Option Vv → Mem → Prop} {K : Kt} {m : Int} {T : Tt} {n : Int} (hKo : KOk K m) (hK : RepKR M K m) (hT : TOk K m T) (hn : n ≤ 60) (hmi : tMi T ≤ 2000) (hR : RepR M K m T) (kk : ∀ M', RepR M' K m (itF K n.toNat T) → OutR M M' → Q none M') : Ok (d + 4) 167 0 [some (vR (some 273)), some (vI n), none] [] M Q := by
  refine k_iconst i_167_0 (by decide) ?_
  refine k_istore_n (ls' := [some (vR (some 273)), some (vI n), some (vI 0)]) i_167_1 rfl ?_
  exact l_167 hKo hK hT hn hmi kk (n.toNat + 1) 0 M (by omega) hR (OutR.rf M) (by omega)

set_option maxRecDepth 100000 in
theorem l_168 {d : Nat} {M : Mem} {Q : Option Vv → Mem → Prop} {K : Kt} {m : Int} {T : Tt} {x : Int} (hKo : KOk K m) (hK : RepKR M K m) (hR : RepR M K m T) (kk : ∀ v : Int, v = (manyF T x (kPe K).toNat) → Q (some (vI v)) M) : ∀ (f : Nat) (n : Int) (i : Int), (0 ≤ i ∧ i ≤ kPe K) → (n = manyF T x i.toNat) → (kPe K - i).toNat < f → Ok (d + 1) 168 4 [some (vR (some 273)), some (vI x), some (vI n), some (vI i)] [] M Q := by
  intro f
  induction f with
  | zero => intro n i hi hn hf; exact absurd hf (Nat.not_lt_zero _)
  | succ f ih =>
    intro n i hi hn hf
    obtain ⟨⟨g1, g2, g3, g4, g5, g6, g7, g8⟩, hKp⟩ := id hKo
    obtain ⟨r1, r2, r3, r4, r5, rq, rp⟩ := id hR
    have k1 : M 274 229 = kPe K := hK.1
    have k2 : M 274 230 = kPe K - kWt K := hK.2.1
    have mb := many_b T x i.toNat
    refine k_iload_n i_168_4 rfl ?_
    refine k_aload_n i_168_5 rfl ?_
    refine k_invV (n := 0) (o' := 8) (av := [vR (some 273)]) (rest := [vI i]) (el := [some (vR (some 273))]) i_168_6 o_168 rfl v_142 rfl (s_273) rfl rfl rfl rfl rfl ?_
    refine c_142 ?_
    show Ok _ 168 9 [some (vR (some 273)), some (vI x), some (vI n), some (vI i)] [vI (M 274 229), vI i] (M) _
    refine k_icmp_ge (t := 38) i_168_9 rfl (fun h9 => ?_) (fun h9 => ?_)
    · refine k_iload_n i_168_38 rfl ?_
      refine k_iret i_168_39 rfl ?_
      exact kk _ (by rw [hn, show i.toNat = (kPe K).toNat by omega])
    · have e3 : M 274 (0 + i) = tW T i := by rw [Int.zero_add]; exact (rp i (by unfold Va; omega)).2.1
      refine k_iload_n i_168_12 rfl ?_
      refine k_aload_n i_168_13 rfl ?_
      refine k_getR (r := 274) i_168_14 o_168 rfl (by decide) (s_273) rfl ?_
      refine k_iconst i_168_17 (by decide) ?_
      refine k_iload_n i_168_18 rfl ?_
      refine k_iadd i_168_19 (by omega) ?_
      refine k_iald i_168_20 (s_274) (by omega) ?_
      refine k_iload_n i_168_21 rfl ?_
      refine k_icmp_ne (t := 29) i_168_22 rfl (fun h22 => ?_) (fun h22 => ?_)
      · refine k_iconst i_168_29 (by decide) ?_
        refine k_iadd i_168_30 (by omega) ?_
        refine k_istore_n (ls' := [some (vR (some 273)), some (vI x), some (vI (n + 0)), some (vI i)]) i_168_31 rfl ?_
        refine k_iinc (ls' := [some (vR (some 273)), some (vI x), some (vI (n + 0)), some (vI (i + 1))]) i_168_32 rfl (by omega) rfl ?_
        refine k_goto (t := 4) i_168_35 rfl ?_
        refine ih _ (i + 1) (by omega) ?_ (by omega)
        rw [show (i + 1).toNat = i.toNat + 1 by omega]
        show _ = manyF T x i.toNat + (if tW T (i.toNat : Int) = x then 1 else 0)
        rw [show ((i.toNat : Nat) : Int) = i by omega, ← hn]
        split <;> omega
      · refine k_iconst i_168_25 (by decide) ?_
        refine k_goto (t := 30) i_168_26 rfl ?_
        refine k_iadd i_168_30 (by omega) ?_
        refine k_istore_n (ls' := [some (vR (some 273)), some (vI x), some (vI (n + 1)), some (vI i)]) i_168_31 rfl ?_
        refine k_iinc (ls' := [some (vR (some 273)), some (vI x), some (vI (n + 1)), some (vI (i + 1))]) i_168_32 rfl (by omega) rfl ?_
        refine k_goto (t := 4) i_168_35 rfl ?_
        refine ih _ (i + 1) (by omega) ?_ (by omega)
        rw [show (i + 1).toNat = i.toNat + 1 by omega]
        show _ = manyF T x i.toNat + (if tW T (i.toNat : Int) = x then 1 else 0)
        rw [show ((i.toNat : Nat) : Int) = i by omega, ← hn]
        split <;> omega

set_option maxRecDepth 100000 in
/-- ElbowQueueModel.howMany -/
theorem c_168 {d : Nat} {M : Mem} {Q : Option Vv → Mem → Prop} {K : Kt} {m : Int} {T : Tt} {x : Int} (hKo : KOk K m) (hK : RepKR M K m) (hR : RepR M K m T) (kk : ∀ v : Int, v = (manyF T x (kPe K).toNat) → Q (some (vI v)) M) : Ok (d + 1) 168 0 [some (vR (some 273)), some (vI x), none, none] [] M Q := by
  have hpe := hKo.1.1
  refine k_iconst i_168_0 (by decide) ?_
  refine k_istore_n (ls' := [some (vR (some 273)), some (vI x), some (vI 0), none]) i_168_1 rfl ?_
  refine k_iconst i_168_2 (by decide) ?_
  refine k_istore_n (ls' := [some (vR (some 273)), some (vI x), some (vI 0), some (vI 0)]) i_168_3 rfl ?_
  exact l_168 hKo hK hR kk ((kPe K).toNat + 1) 0 0 (by omega) rfl (by omega)

set_option maxRecDepth 100000 in
theorem l_171 {d : Nat} {M0 : Mem} {Q : Option Vv → Mem → Prop} {K : Kt} {m : Int} {T : Tt} (hKo : KOk K m) (hK : RepKR M0 K m) (hT : TOk K m T) (hmi : tMi T ≤ 2000) (kk : ∀ v M', v = nv (lifeN K 200 T) 1000 → OutR M0 M' → Q (some (vI v)) M') : ∀ (f : Nat) (i : Int) (M : Mem), (0 ≤ i ∧ i ≤ 200) → (∀ j : Nat, (j : Int) < i → ¬ (fun n : Nat => overF K (itF K n T)) j) → (RepR M K m (itF K i.toNat T)) → (OutR M0 M) → (200 - i).toNat < f → Ok (d + 4) 171 2 [some (vR (some 273)), some (vI i)] [] M Q := by
  intro f
  induction f with
  | zero => intro i M hi hj hR1 ho hf; exact absurd hf (Nat.not_lt_zero _)
  | succ f ih =>
    intro i M hi hj hR1 ho hf
    have hK1 := hK.out hKo ho
    have hU := hT.it hKo i.toNat (by omega)
    have hmi2 := it_mi (K := K) i.toNat T
    have r4 : M 274 140 = (tQ (itF K i.toNat T)).length := hR1.2.2.2.1
    have r5 : M 274 141 = tNx (itF K i.toNat T) := hR1.2.2.2.2.1
    have k1 : M 274 229 = kPe K := hK1.1
    refine k_iload_n i_171_2 rfl ?_
    refine k_sipush i_171_3 (by decide) ?_
    refine k_icmp_ge (t := 46) i_171_6 rfl (fun h6 => ?_) (fun h6 => ?_)
    · refine k_aload_n i_171_46 rfl ?_
      refine k_getR (r := 274) i_171_47 o_171 rfl (by decide) (s_273) rfl ?_
      refine k_sipush i_171_50 (by decide) ?_
      refine k_iald i_171_53 (s_274) (by omega) ?_
      refine k_if_gt (t := 72) i_171_54 rfl (fun h54 => ?_) (fun h54 => ?_)
      · refine k_sipush i_171_72 (by decide) ?_
        refine k_goto (t := 79) i_171_75 rfl ?_
        refine k_iret i_171_79 rfl ?_
        refine kk _ _ ?_ ho
        have lf := life_fst K 200 T
        by_cases hov : overF K (itF K i.toNat T)
        · have q : Fst (fun n : Nat => overF K (itF K n T)) 200 i := Or.inl ⟨i.toNat, by omega, by omega, hov, fun j hj2 => hj j (by omega)⟩
          have q2 := Fst.uq q lf (fun _ _ => Iff.rfl)
          rw [← q2]
          unfold nv
          rw [if_neg (by omega)]
          try omega
        · have h2 : i = 200 := by omega
          have q : Fst (fun n : Nat => overF K (itF K n T)) 200 (-1000000) := Or.inr ⟨rfl, fun j hj2 => by
            by_cases e : (j : Int) < i
            · exact hj j e
            · rw [show j = i.toNat by omega]; exact hov⟩
          have q2 := Fst.uq q lf (fun _ _ => Iff.rfl)
          rw [← q2]
          unfold nv
          rw [if_pos rfl]
          try omega
      · refine k_aload_n i_171_57 rfl ?_
        refine k_getR (r := 274) i_171_58 o_171 rfl (by decide) (s_273) rfl ?_
        refine k_sipush i_171_61 (by decide) ?_
        refine k_iald i_171_64 (s_274) (by omega) ?_
        refine k_aload_n i_171_65 rfl ?_
        refine k_invV (n := 0) (o' := 8) (av := [vR (some 273)]) (rest := [vI (M 274 141)]) (el := [some (vR (some 273))]) i_171_66 o_171 rfl v_142 rfl (s_273) rfl rfl rfl rfl rfl ?_
        refine c_142 ?_
        show Ok _ 171 69 [some (vR (some 273)), some (vI i)] [vI (M 274 229), vI (M 274 141)] (M) _
        refine k_icmp_ge (t := 78) i_171_69 rfl (fun h69 => ?_) (fun h69 => ?_)
        · refine k_iload_n i_171_78 rfl ?_
          refine k_iret i_171_79 rfl ?_
          refine kk _ _ ?_ ho
          have lf := life_fst K 200 T
          by_cases hov : overF K (itF K i.toNat T)
          · have q : Fst (fun n : Nat => overF K (itF K n T)) 200 i := Or.inl ⟨i.toNat, by omega, by omega, hov, fun j hj2 => hj j (by omega)⟩
            have q2 := Fst.uq q lf (fun _ _ => Iff.rfl)
            rw [← q2]
            unfold nv
            rw [if_neg (by omega)]
            try omega
          · have h2 : i = 200 := by omega
            have q : Fst (fun n : Nat => overF K (itF K n T)) 200 (-1000000) := Or.inr ⟨rfl, fun j hj2 => by
              by_cases e : (j : Int) < i
              · exact hj j e
              · rw [show j = i.toNat by omega]; exact hov⟩
            have q2 := Fst.uq q lf (fun _ _ => Iff.rfl)
            rw [← q2]
            unfold nv
            rw [if_pos rfl]
            try omega
        · refine k_sipush i_171_72 (by decide) ?_
          refine k_goto (t := 79) i_171_75 rfl ?_
          refine k_iret i_171_79 rfl ?_
          refine kk _ _ ?_ ho
          have lf := life_fst K 200 T
          by_cases hov : overF K (itF K i.toNat T)
          · have q : Fst (fun n : Nat => overF K (itF K n T)) 200 i := Or.inl ⟨i.toNat, by omega, by omega, hov, fun j hj2 => hj j (by omega)⟩
            have q2 := Fst.uq q lf (fun _ _ => Iff.rfl)
            rw [← q2]
            unfold nv
            rw [if_neg (by omega)]
            try omega
          · have h2 : i = 200 := by omega
            have q : Fst (fun n : Nat => overF K (itF K n T)) 200 (-1000000) := Or.inr ⟨rfl, fun j hj2 => by
              by_cases e : (j : Int) < i
              · exact hj j e
              · rw [show j = i.toNat by omega]; exact hov⟩
            have q2 := Fst.uq q lf (fun _ _ => Iff.rfl)
            rw [← q2]
            unfold nv
            rw [if_pos rfl]
            try omega
    · refine k_aload_n i_171_9 rfl ?_
      refine k_getR (r := 274) i_171_10 o_171 rfl (by decide) (s_273) rfl ?_
      refine k_sipush i_171_13 (by decide) ?_
      refine k_iald i_171_16 (s_274) (by omega) ?_
      refine k_if_gt (t := 35) i_171_17 rfl (fun h17 => ?_) (fun h17 => ?_)
      · refine k_aload_n i_171_35 rfl ?_
        refine k_iconst i_171_36 (by decide) ?_
        refine k_invV (n := 1) (o' := 8) (av := [vR (some 273), vI 1]) (rest := []) (el := [some (vR (some 273)), some (vI 1), none]) i_171_37 o_171 rfl v_153 rfl (s_273) rfl rfl rfl rfl rfl ?_
        refine c_153 hKo hK1 hR1 hU (by omega) (fun M2 hR2 ho2 => ?_)
        show Ok _ 171 40 [some (vR (some 273)), some (vI i)] [] (M2) _
        refine k_iinc (ls' := [some (vR (some 273)), some (vI (i + 1))]) i_171_40 rfl (by omega) rfl ?_
        refine k_goto (t := 2) i_171_43 rfl ?_
        refine ih (i + 1) M2 (by omega) (fun j hj2 => ?_) ?_ (ho.tr ho2) (by omega)
        · by_cases e : (j : Int) < i
          · exact hj j e
          · rw [show j = i.toNat by omega]
            show ¬ overF K (itF K i.toNat T)
            omega
        · rw [show (i + 1).toNat = i.toNat + 1 by omega, it_s]
          exact hR2
      · refine k_aload_n i_171_20 rfl ?_
        refine k_getR (r := 274) i_171_21 o_171 rfl (by decide) (s_273) rfl ?_
        refine k_sipush i_171_24 (by decide) ?_
        refine k_iald i_171_27 (s_274) (by omega) ?_
        refine k_aload_n i_171_28 rfl ?_
        refine k_invV (n := 0) (o' := 8) (av := [vR (some 273)]) (rest := [vI (M 274 141)]) (el := [some (vR (some 273))]) i_171_29 o_171 rfl v_142 rfl (s_273) rfl rfl rfl rfl rfl ?_
        refine c_142 ?_
        show Ok _ 171 32 [some (vR (some 273)), some (vI i)] [vI (M 274 229), vI (M 274 141)] (M) _
        refine k_icmp_ge (t := 46) i_171_32 rfl (fun h32 => ?_) (fun h32 => ?_)
        · refine k_aload_n i_171_46 rfl ?_
          refine k_getR (r := 274) i_171_47 o_171 rfl (by decide) (s_273) rfl ?_
          refine k_sipush i_171_50 (by decide) ?_
          refine k_iald i_171_53 (s_274) (by omega) ?_
          refine k_if_gt (t := 72) i_171_54 rfl (fun h54 => ?_) (fun h54 => ?_)
          · refine k_sipush i_171_72 (by decide) ?_
            refine k_goto (t := 79) i_171_75 rfl ?_
            refine k_iret i_171_79 rfl ?_
            refine kk _ _ ?_ ho
            have lf := life_fst K 200 T
            by_cases hov : overF K (itF K i.toNat T)
            · have q : Fst (fun n : Nat => overF K (itF K n T)) 200 i := Or.inl ⟨i.toNat, by omega, by omega, hov, fun j hj2 => hj j (by omega)⟩
              have q2 := Fst.uq q lf (fun _ _ => Iff.rfl)
              rw [← q2]
              unfold nv
              rw [if_neg (by omega)]
              try omega
            · have h2 : i = 200 := by omega
              have q : Fst (fun n : Nat => overF K (itF K n T)) 200 (-1000000) := Or.inr ⟨rfl, fun j hj2 => by
                by_cases e : (j : Int) < i
                · exact hj j e
                · rw [show j = i.toNat by omega]; exact hov⟩
              have q2 := Fst.uq q lf (fun _ _ => Iff.rfl)
              rw [← q2]
              unfold nv
              rw [if_pos rfl]
              try omega
          · refine k_aload_n i_171_57 rfl ?_
            refine k_getR (r := 274) i_171_58 o_171 rfl (by decide) (s_273) rfl ?_
            refine k_sipush i_171_61 (by decide) ?_
            refine k_iald i_171_64 (s_274) (by omega) ?_
            refine k_aload_n i_171_65 rfl ?_
            refine k_invV (n := 0) (o' := 8) (av := [vR (some 273)]) (rest := [vI (M 274 141)]) (el := [some (vR (some 273))]) i_171_66 o_171 rfl v_142 rfl (s_273) rfl rfl rfl rfl rfl ?_
            refine c_142 ?_
            show Ok _ 171 69 [some (vR (some 273)), some (vI i)] [vI (M 274 229), vI (M 274 141)] (M) _
            refine k_icmp_ge (t := 78) i_171_69 rfl (fun h69 => ?_) (fun h69 => ?_)
            · refine k_iload_n i_171_78 rfl ?_
              refine k_iret i_171_79 rfl ?_
              refine kk _ _ ?_ ho
              have lf := life_fst K 200 T
              by_cases hov : overF K (itF K i.toNat T)
              · have q : Fst (fun n : Nat => overF K (itF K n T)) 200 i := Or.inl ⟨i.toNat, by omega, by omega, hov, fun j hj2 => hj j (by omega)⟩
                have q2 := Fst.uq q lf (fun _ _ => Iff.rfl)
                rw [← q2]
                unfold nv
                rw [if_neg (by omega)]
                try omega
              · have h2 : i = 200 := by omega
                have q : Fst (fun n : Nat => overF K (itF K n T)) 200 (-1000000) := Or.inr ⟨rfl, fun j hj2 => by
                  by_cases e : (j : Int) < i
                  · exact hj j e
                  · rw [show j = i.toNat by omega]; exact hov⟩
                have q2 := Fst.uq q lf (fun _ _ => Iff.rfl)
                rw [← q2]
                unfold nv
                rw [if_pos rfl]
                try omega
            · refine k_sipush i_171_72 (by decide) ?_
              refine k_goto (t := 79) i_171_75 rfl ?_
              refine k_iret i_171_79 rfl ?_
              refine kk _ _ ?_ ho
              have lf := life_fst K 200 T
              by_cases hov : overF K (itF K i.toNat T)
              · have q : Fst (fun n : Nat => overF K (itF K n T)) 200 i := Or.inl ⟨i.toNat, by omega, by omega, hov, fun j hj2 => hj j (by omega)⟩
                have q2 := Fst.uq q lf (fun _ _ => Iff.rfl)
                rw [← q2]
                unfold nv
                rw [if_neg (by omega)]
                try omega
              · have h2 : i = 200 := by omega
                have q : Fst (fun n : Nat => overF K (itF K n T)) 200 (-1000000) := Or.inr ⟨rfl, fun j hj2 => by
                  by_cases e : (j : Int) < i
                  · exact hj j e
                  · rw [show j = i.toNat by omega]; exact hov⟩
                have q2 := Fst.uq q lf (fun _ _ => Iff.rfl)
                rw [← q2]
                unfold nv
                rw [if_pos rfl]
                try omega
        · refine k_aload_n i_171_35 rfl ?_
          refine k_iconst i_171_36 (by decide) ?_
          refine k_invV (n := 1) (o' := 8) (av := [vR (some 273), vI 1]) (rest := []) (el := [some (vR (some 273)), some (vI 1), none]) i_171_37 o_171 rfl v_153 rfl (s_273) rfl rfl rfl rfl rfl ?_
          refine c_153 hKo hK1 hR1 hU (by omega) (fun M2 hR2 ho2 => ?_)
          show Ok _ 171 40 [some (vR (some 273)), some (vI i)] [] (M2) _
          refine k_iinc (ls' := [some (vR (some 273)), some (vI (i + 1))]) i_171_40 rfl (by omega) rfl ?_
          refine k_goto (t := 2) i_171_43 rfl ?_
          refine ih (i + 1) M2 (by omega) (fun j hj2 => ?_) ?_ (ho.tr ho2) (by omega)
          · by_cases e : (j : Int) < i
            · exact hj j e
            · rw [show j = i.toNat by omega]
              show ¬ overF K (itF K i.toNat T)
              omega
          · rw [show (i + 1).toNat = i.toNat + 1 by omega, it_s]
            exact hR2

set_option maxRecDepth 100000 in
/-- ElbowQueueModel.goLives -/
theorem c_171 {d : Nat} {M : Mem} {Q : Option Vv → Mem → Prop} {K : Kt} {m : Int} {T : Tt} (hKo : KOk K m) (hK : RepKR M K m) (hT : TOk K m T) (hmi : tMi T ≤ 2000) (hR : RepR M K m T) (kk : ∀ v M', v = nv (lifeN K 200 T) 1000 → OutR M M' → Q (some (vI v)) M') : Ok (d + 4) 171 0 [some (vR (some 273)), none] [] M Q := by
  refine k_iconst i_171_0 (by decide) ?_
  refine k_istore_n (ls' := [some (vR (some 273)), some (vI 0)]) i_171_1 rfl ?_
  exact l_171 hKo hK hT hmi kk 201 0 M (by omega) (fun j hj => by omega) hR (OutR.rf M) (by omega)
