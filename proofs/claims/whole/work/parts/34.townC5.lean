def placeF (T : Tt) (p : Int) : Int := if p ∈ tQ T then ((tQ T).idxOf p : Int) else -1000000
def manyF (T : Tt) (w : Int) : Nat → Int
  | 0 => 0
  | n + 1 => manyF T w n + (if tW T n = w then 1 else 0)
def allB (K : Kt) (T : Tt) (w : Int) : Prop := 0 < (tQ T).length ∧ ∀ j : Nat, j < (tQ T).length → bel K T ((tQ T).getD j 0) = w
def justF (T : Tt) (f : Nat → Int) (n : Int) : Prop := ((tQ T).length : Int) = n ∧ ∀ j : Nat, j < (tQ T).length → (tQ T).getD j 0 = f j
theorem many_b (T : Tt) (w : Int) (n : Nat) : 0 ≤ manyF T w n ∧ manyF T w n ≤ n := by
  induction n with
  | zero => exact ⟨Int.le_refl _, Int.le_refl _⟩
  | succ n ih =>
    show 0 ≤ manyF T w n + (if tW T n = w then 1 else 0) ∧ manyF T w n + (if tW T n = w then 1 else 0) ≤ _
    split <;> omega
theorem q_not {l : List Int} {p : Int} (h : ∀ j : Nat, j < l.length → l.getD j 0 ≠ p) : p ∉ l := fun hm => h _ (List.idxOf_lt_length_of_mem hm) (q_get hm)
theorem mcp_ne {M : Mem} {a b c : Nat} {sp dp n j : Int} (h : c ≠ b) : mcp M a sp b dp n c j = M c j := if_neg (fun q => h q.1)
theorem mcp_in {M : Mem} {a b : Nat} {sp dp n j : Int} (h : dp ≤ j ∧ j < dp + n) : mcp M a sp b dp n b j = M a (sp + (j - dp)) := if_pos ⟨rfl, h.1, h.2⟩

theorem l_66 {d : Nat} {M : Mem} {Q : Option Vv → Mem → Prop} {a rm : Nat} {K : Kt} {m : Int} {T : Tt} {x : Int} (ht : Tw a 20 rm) (hR : RepC M a K m T) (hl : ((tQ T).length : Int) ≤ rm) (hn : (tQ T).Nodup) (hrm2 : (rm : Int) ≤ 28) (kk : ∀ v : Int, v = (placeF T x) → Q (some (vI v)) M) : ∀ (f : Nat) (i : Int), (0 ≤ i ∧ i ≤ (tQ T).length) → (∀ j : Nat, (j : Int) < i → (tQ T).getD j 0 ≠ x) → ((tQ T).length - i).toNat < f → Ok d 66 2 [some (vR (some a)), some (vI x), some (vI i)] [] M Q := by
  intro f
  induction f with
  | zero => intro i hi hj hf; exact absurd hf (Nat.not_lt_zero _)
  | succ f ih =>
    intro i hi hj hf
    obtain ⟨r6, r7, r8, r9, r10, rq, rp⟩ := id hR
    refine k_iload_n i_66_2 rfl ?_
    refine k_aload_n i_66_3 rfl ?_
    refine k_getI (kz := 9) i_66_4 o_66 rfl (by decide) (ht.1) rfl ?_
    refine k_icmp_ge (t := 28) i_66_7 rfl (fun h7 => ?_) (fun h7 => ?_)
    · refine k_ldc (z := -1000000) i_66_28 o_66 rfl (by decide) ?_
      refine k_iret i_66_30 rfl ?_
      exact kk _ (by
        unfold placeF
        rw [if_neg (q_not (fun j hj2 => hj j (by omega)))])
    · refine k_aload_n i_66_10 rfl ?_
      refine k_getR (r := (a + 1)) i_66_11 o_66 rfl (by decide) (ht.1) rfl ?_
      refine k_iload_n i_66_14 rfl ?_
      refine k_iald i_66_15 (ht.2.1) (by omega) ?_
      refine k_iload_n i_66_16 rfl ?_
      refine k_icmp_ne (t := 22) i_66_17 rfl (fun h17 => ?_) (fun h17 => ?_)
      · refine k_iinc (ls' := [some (vR (some a)), some (vI x), some (vI (i + 1))]) i_66_22 rfl (by omega) rfl ?_
        refine k_goto (t := 2) i_66_25 rfl ?_
        refine ih (i + 1) (by omega) (fun j hj2 => ?_) (by omega)
        by_cases e : (j : Int) < i
        · exact hj j e
        · rw [show j = i.toNat by omega]
          exact fun q => h17 ((hR.q (by omega) (by omega)).trans q)
      · refine k_iload_n i_66_20 rfl ?_
        refine k_iret i_66_21 rfl ?_
        exact kk _ (by
          have e := hR.q (i := i) (by omega) (by omega)
          rw [h17] at e
          unfold placeF
          rw [if_pos (by rw [e]; exact q_mem (by omega)), e, q_idx hn (by omega)]
          omega)

/-- ElbowQueue$Town.placeOf -/
theorem c_66 {d : Nat} {M : Mem} {Q : Option Vv → Mem → Prop} {a rm : Nat} {K : Kt} {m : Int} {T : Tt} {x : Int} (ht : Tw a 20 rm) (hR : RepC M a K m T) (hl : ((tQ T).length : Int) ≤ rm) (hn : (tQ T).Nodup) (hrm2 : (rm : Int) ≤ 28) (kk : ∀ v : Int, v = (placeF T x) → Q (some (vI v)) M) : Ok d 66 0 [some (vR (some a)), some (vI x), none] [] M Q := by
  refine k_iconst i_66_0 (by decide) ?_
  refine k_istore_n (ls' := [some (vR (some a)), some (vI x), some (vI 0)]) i_66_1 rfl ?_
  exact l_66 ht hR hl hn hrm2 kk ((tQ T).length + 1) 0 (by omega) (fun j hj => by omega) (by omega)

theorem l_67 {d : Nat} {M : Mem} {Q : Option Vv → Mem → Prop} {a rm : Nat} {K : Kt} {m : Int} {T : Tt} {x : Int} (ht : Tw a 20 rm) (hrm : 16 + m ≤ (rm : Int) ∧ (rm : Int) ≤ 28) (hKo : KOk K m) (hK : RepK M 20 K m) (hR : RepC M a K m T) (kk : ∀ v : Int, v = (manyF T x (kPe K).toNat) → Q (some (vI v)) M) : ∀ (f : Nat) (n : Int) (i : Int), (0 ≤ i ∧ i ≤ kPe K) → (n = manyF T x i.toNat) → (kPe K - i).toNat < f → Ok d 67 4 [some (vR (some a)), some (vI x), some (vI n), some (vI i)] [] M Q := by
  intro f
  induction f with
  | zero => intro n i hi hn hf; exact absurd hf (Nat.not_lt_zero _)
  | succ f ih =>
    intro n i hi hn hf
    obtain ⟨⟨g1, g2, g3, g4, g5, g6, g7, g8⟩, hKp⟩ := id hKo
    obtain ⟨r6, r7, r8, r9, r10, rq, rp⟩ := id hR
    have k1 : M 20 7 = kPe K := hK.1
    have k2 : M 20 6 = kWt K := hK.2.1
    have mb := many_b T x i.toNat
    refine k_iload_n i_67_4 rfl ?_
    refine k_aload_n i_67_5 rfl ?_
    refine k_getR (r := 20) i_67_6 o_67 rfl (by decide) (ht.1) rfl ?_
    refine k_getI (kz := 7) i_67_9 o_67 rfl (by decide) (s_20) rfl ?_
    refine k_icmp_ge (t := 34) i_67_12 rfl (fun h12 => ?_) (fun h12 => ?_)
    · refine k_iload_n i_67_34 rfl ?_
      refine k_iret i_67_35 rfl ?_
      exact kk _ (by rw [hn, show i.toNat = (kPe K).toNat by omega])
    · have e3 : M (a + 3) i = tW T i := (rp i (by unfold Va; omega)).2.1
      refine k_aload_n i_67_15 rfl ?_
      refine k_getR (r := (a + 3)) i_67_16 o_67 rfl (by decide) (ht.1) rfl ?_
      refine k_iload_n i_67_19 rfl ?_
      refine k_iald i_67_20 (ht.2.2.2.1) (by omega) ?_
      refine k_iload_n i_67_21 rfl ?_
      refine k_icmp_ne (t := 28) i_67_22 rfl (fun h22 => ?_) (fun h22 => ?_)
      · refine k_iinc (ls' := [some (vR (some a)), some (vI x), some (vI n), some (vI (i + 1))]) i_67_28 rfl (by omega) rfl ?_
        refine k_goto (t := 4) i_67_31 rfl ?_
        refine ih _ (i + 1) (by omega) ?_ (by omega)
        rw [show (i + 1).toNat = i.toNat + 1 by omega]
        show _ = manyF T x i.toNat + (if tW T (i.toNat : Int) = x then 1 else 0)
        rw [show ((i.toNat : Nat) : Int) = i by omega, ← hn]
        split <;> omega
      · refine k_iinc (ls' := [some (vR (some a)), some (vI x), some (vI (n + 1)), some (vI i)]) i_67_25 rfl (by omega) rfl ?_
        refine k_iinc (ls' := [some (vR (some a)), some (vI x), some (vI (n + 1)), some (vI (i + 1))]) i_67_28 rfl (by omega) rfl ?_
        refine k_goto (t := 4) i_67_31 rfl ?_
        refine ih _ (i + 1) (by omega) ?_ (by omega)
        rw [show (i + 1).toNat = i.toNat + 1 by omega]
        show _ = manyF T x i.toNat + (if tW T (i.toNat : Int) = x then 1 else 0)
        rw [show ((i.toNat : Nat) : Int) = i by omega, ← hn]
        split <;> omega

/-- ElbowQueue$Town.howMany -/
theorem c_67 {d : Nat} {M : Mem} {Q : Option Vv → Mem → Prop} {a rm : Nat} {K : Kt} {m : Int} {T : Tt} {x : Int} (ht : Tw a 20 rm) (hrm : 16 + m ≤ (rm : Int) ∧ (rm : Int) ≤ 28) (hKo : KOk K m) (hK : RepK M 20 K m) (hR : RepC M a K m T) (kk : ∀ v : Int, v = (manyF T x (kPe K).toNat) → Q (some (vI v)) M) : Ok d 67 0 [some (vR (some a)), some (vI x), none, none] [] M Q := by
  have hpe := hKo.1.1
  refine k_iconst i_67_0 (by decide) ?_
  refine k_istore_n (ls' := [some (vR (some a)), some (vI x), some (vI 0), none]) i_67_1 rfl ?_
  refine k_iconst i_67_2 (by decide) ?_
  refine k_istore_n (ls' := [some (vR (some a)), some (vI x), some (vI 0), some (vI 0)]) i_67_3 rfl ?_
  exact l_67 ht hrm hKo hK hR kk ((kPe K).toNat + 1) 0 0 (by omega) rfl (by omega)

theorem l_70 {d : Nat} {M : Mem} {Q : Option Vv → Mem → Prop} {a rm : Nat} {K : Kt} {m : Int} {T : Tt} {x : Int} (ht : Tw a 20 rm) (hrm : 16 + m ≤ (rm : Int) ∧ (rm : Int) ≤ 28) (hKo : KOk K m) (hK : RepK M 20 K m) (hR : RepC M a K m T) (hT : TOk K m T) (kk : ∀ v : Int, (v = 1 ∧ (allB K T x)) ∨ (v = 0 ∧ ¬ (allB K T x)) → Q (some (vI v)) M) : ∀ (f : Nat) (i : Int), (0 ≤ i ∧ i ≤ (tQ T).length) → (∀ j : Nat, (j : Int) < i → bel K T ((tQ T).getD j 0) = x) → ((tQ T).length - i).toNat < f → Ok (d + 1) 70 2 [some (vR (some a)), some (vI x), some (vI i)] [] M Q := by
  intro f
  induction f with
  | zero => intro i hi hj hf; exact absurd hf (Nat.not_lt_zero _)
  | succ f ih =>
    intro i hi hj hf
    obtain ⟨⟨g1, g2, g3, g4, g5, g6, g7, g8⟩, hKp⟩ := id hKo
    obtain ⟨r6, r7, r8, r9, r10, rq, rp⟩ := id hR
    have k1 : M 20 7 = kPe K := hK.1
    have k2 : M 20 6 = kWt K := hK.2.1
    have hu3 := hT.2.2.1
    refine k_iload_n i_70_2 rfl ?_
    refine k_aload_n i_70_3 rfl ?_
    refine k_getI (kz := 9) i_70_4 o_70 rfl (by decide) (ht.1) rfl ?_
    refine k_icmp_ge (t := 32) i_70_7 rfl (fun h7 => ?_) (fun h7 => ?_)
    · refine k_aload_n i_70_32 rfl ?_
      refine k_getI (kz := 9) i_70_33 o_70 rfl (by decide) (ht.1) rfl ?_
      refine k_if_le (t := 43) i_70_36 rfl (fun h36 => ?_) (fun h36 => ?_)
      · refine k_iconst i_70_43 (by decide) ?_
        refine k_zret i_70_44 rfl (by omega) ?_
        exact kk _ (Or.inr ⟨rfl, fun q => absurd q.1 (by omega)⟩)
      · refine k_iconst i_70_39 (by decide) ?_
        refine k_goto (t := 44) i_70_40 rfl ?_
        refine k_zret i_70_44 rfl (by omega) ?_
        exact kk _ (Or.inl ⟨rfl, by omega, fun j hj2 => hj j (by omega)⟩)
    · refine k_aload_n i_70_10 rfl ?_
      refine k_aload_n i_70_11 rfl ?_
      refine k_getR (r := (a + 1)) i_70_12 o_70 rfl (by decide) (ht.1) rfl ?_
      refine k_iload_n i_70_15 rfl ?_
      refine k_iald i_70_16 (ht.2.1) (by omega) ?_
      refine k_invV (n := 1) (o' := 6) (av := [vR (some a), vI (M (a + 1) i)]) (rest := []) (el := [some (vR (some a)), some (vI (M (a + 1) i))]) i_70_17 o_70 rfl v_63 rfl (ht.1) rfl rfl rfl rfl rfl ?_
      refine c_63 ht hrm hKo hK hR.p (hT.va (show M (a + 1) i ∈ tQ T by rw [hR.q (by omega) (by omega)]; exact q_mem (by omega))) (fun wd hwd => ?_)
      show Ok _ 70 20 [some (vR (some a)), some (vI x), some (vI i)] [vI wd] (M) _
      refine k_iload_n i_70_20 rfl ?_
      refine k_icmp_eq (t := 26) i_70_21 rfl (fun h21 => ?_) (fun h21 => ?_)
      · refine k_iinc (ls' := [some (vR (some a)), some (vI x), some (vI (i + 1))]) i_70_26 rfl (by omega) rfl ?_
        refine k_goto (t := 2) i_70_29 rfl ?_
        refine ih (i + 1) (by omega) (fun j hj2 => ?_) (by omega)
        by_cases e : (j : Int) < i
        · exact hj j e
        · rw [show j = i.toNat by omega, ← hR.q (by omega) (by omega), ← hwd]
          exact h21
      · refine k_iconst i_70_24 (by decide) ?_
        refine k_zret i_70_25 rfl (by omega) ?_
        exact kk _ (Or.inr ⟨rfl, fun q => h21 (by rw [hwd, hR.q (by omega) (by omega)]; exact q.2 i.toNat (by omega))⟩)

/-- ElbowQueue$Town.allBelieve -/
theorem c_70 {d : Nat} {M : Mem} {Q : Option Vv → Mem → Prop} {a rm : Nat} {K : Kt} {m : Int} {T : Tt} {x : Int} (ht : Tw a 20 rm) (hrm : 16 + m ≤ (rm : Int) ∧ (rm : Int) ≤ 28) (hKo : KOk K m) (hK : RepK M 20 K m) (hR : RepC M a K m T) (hT : TOk K m T) (kk : ∀ v : Int, (v = 1 ∧ (allB K T x)) ∨ (v = 0 ∧ ¬ (allB K T x)) → Q (some (vI v)) M) : Ok (d + 1) 70 0 [some (vR (some a)), some (vI x), none] [] M Q := by
  refine k_iconst i_70_0 (by decide) ?_
  refine k_istore_n (ls' := [some (vR (some a)), some (vI x), some (vI 0)]) i_70_1 rfl ?_
  exact l_70 ht hrm hKo hK hR hT kk ((tQ T).length + 1) 0 (by omega) (fun j hj => by omega) (by omega)

theorem l_71 {d : Nat} {M : Mem} {Q : Option Vv → Mem → Prop} {a rm : Nat} {K : Kt} {m : Int} {T : Tt} {n : Int} (ht : Tw a 20 rm) (hR : RepC M a K m T) (hl : ((tQ T).length : Int) ≤ rm) (hn : (tQ T).Nodup) (hrm2 : (rm : Int) ≤ 28) (hln : ((tQ T).length : Int) = n) (hn16 : n ≤ 16) (kk : ∀ v : Int, (v = 1 ∧ (justF T (fun j => M 178 j) n)) ∨ (v = 0 ∧ ¬ (justF T (fun j => M 178 j) n)) → Q (some (vI v)) M) : ∀ (f : Nat) (i : Int), (0 ≤ i ∧ i ≤ (tQ T).length) → (∀ j : Nat, (j : Int) < i → (tQ T).getD j 0 = M 178 j) → ((tQ T).length - i).toNat < f → Ok d 71 18 [some (vR (some a)), some (vR (some 178)), some (vI n), some (vI i)] [] M Q := by
  intro f
  induction f with
  | zero => intro i hi hj hf; exact absurd hf (Nat.not_lt_zero _)
  | succ f ih =>
    intro i hi hj hf
    obtain ⟨r6, r7, r8, r9, r10, rq, rp⟩ := id hR
    refine k_iload_n i_71_18 rfl ?_
    refine k_iload_n i_71_19 rfl ?_
    refine k_icmp_ge (t := 43) i_71_20 rfl (fun h20 => ?_) (fun h20 => ?_)
    · refine k_iconst i_71_43 (by decide) ?_
      refine k_zret i_71_44 rfl (by omega) ?_
      exact kk _ (Or.inl ⟨rfl, by omega, fun j hj2 => hj j (by omega)⟩)
    · refine k_aload_n i_71_23 rfl ?_
      refine k_getR (r := (a + 1)) i_71_24 o_71 rfl (by decide) (ht.1) rfl ?_
      refine k_iload_n i_71_27 rfl ?_
      refine k_iald i_71_28 (ht.2.1) (by omega) ?_
      refine k_aload_n i_71_29 rfl ?_
      refine k_iload_n i_71_30 rfl ?_
      refine k_iald i_71_31 (s_178) (by omega) ?_
      refine k_icmp_eq (t := 37) i_71_32 rfl (fun h32 => ?_) (fun h32 => ?_)
      · refine k_iinc (ls' := [some (vR (some a)), some (vR (some 178)), some (vI n), some (vI (i + 1))]) i_71_37 rfl (by omega) rfl ?_
        refine k_goto (t := 18) i_71_40 rfl ?_
        refine ih (i + 1) (by omega) (fun j hj2 => ?_) (by omega)
        by_cases e : (j : Int) < i
        · exact hj j e
        · rw [show j = i.toNat by omega, ← hR.q (by omega) (by omega), show ((i.toNat : Nat) : Int) = i by omega]
          exact h32
      · refine k_iconst i_71_35 (by decide) ?_
        refine k_zret i_71_36 rfl (by omega) ?_
        exact kk _ (Or.inr ⟨rfl, fun q => h32 (by rw [hR.q (by omega) (by omega), q.2 i.toNat (by omega)]; show M 178 ((i.toNat : Nat) : Int) = _; rw [show ((i.toNat : Nat) : Int) = i by omega])⟩)

/-- ElbowQueue$Town.hasJust -/
theorem c_71 {d : Nat} {M : Mem} {Q : Option Vv → Mem → Prop} {a rm : Nat} {K : Kt} {m : Int} {T : Tt} {n : Int} (ht : Tw a 20 rm) (hR : RepC M a K m T) (hl : ((tQ T).length : Int) ≤ rm) (hn : (tQ T).Nodup) (hrm2 : (rm : Int) ≤ 28) (hn16 : 0 ≤ n ∧ n ≤ 16) (kk : ∀ v : Int, (v = 1 ∧ (justF T (fun j => M 178 j) n)) ∨ (v = 0 ∧ ¬ (justF T (fun j => M 178 j) n)) → Q (some (vI v)) M) : Ok d 71 0 [some (vR (some a)), some (vR (some 178)), some (vI n), none] [] M Q := by
  obtain ⟨r6, r7, r8, r9, r10, rq, rp⟩ := id hR
  refine k_aload_n i_71_0 rfl ?_
  refine k_getI (kz := 9) i_71_1 o_71 rfl (by decide) (ht.1) rfl ?_
  refine k_iload_n i_71_4 rfl ?_
  refine k_icmp_ne (t := 14) i_71_5 rfl (fun h5 => ?_) (fun h5 => ?_)
  · refine k_iconst i_71_14 (by decide) ?_
    refine k_zret i_71_15 rfl (by omega) ?_
    exact kk _ (Or.inr ⟨rfl, fun q => by have := q.1; omega⟩)
  · refine k_iload_n i_71_8 rfl ?_
    refine k_aload_n i_71_9 rfl ?_
    refine k_alen (z := 16) i_71_10 (s_178) (by omega) rfl ?_
    refine k_icmp_le (t := 16) i_71_11 rfl (fun h11 => ?_) (fun h11 => ?_)
    · refine k_iconst i_71_16 (by decide) ?_
      refine k_istore_n (ls' := [some (vR (some a)), some (vR (some 178)), some (vI n), some (vI 0)]) i_71_17 rfl ?_
      exact l_71 ht hR hl hn hrm2 (by omega) (by omega) kk ((tQ T).length + 1) 0 (by omega) (fun j hj => by omega) (by omega)
    · refine k_iconst i_71_14 (by decide) ?_
      refine k_zret i_71_15 rfl (by omega) ?_
      exact kk _ (Or.inr ⟨rfl, fun q => by have := q.1; omega⟩)

/-- ElbowQueue$Town.isWaiting -/
theorem c_80 {d : Nat} {M : Mem} {Q : Option Vv → Mem → Prop} {a rm : Nat} {K : Kt} {m : Int} {T : Tt} {i : Int} (ht : Tw a 20 rm) (hrm : 16 + m ≤ (rm : Int) ∧ (rm : Int) ≤ 28) (hKo : KOk K m) (hK : RepK M 20 K m) (hR : RepC M a K m T) (hv : Va K m i) (kk : ∀ v : Int, (v = 1 ∧ (tW T i = 1)) ∨ (v = 0 ∧ ¬ (tW T i = 1)) → Q (some (vI v)) M) : Ok d 80 0 [some (vR (some a)), some (vI i)] [] M Q := by
  obtain ⟨⟨g1, g2, g3, g4, g5, g6, g7, g8⟩, hKp⟩ := id hKo
  obtain ⟨r6, r7, r8, r9, r10, rq, rp⟩ := id hR
  have k1 : M 20 7 = kPe K := hK.1
  have k2 : M 20 6 = kWt K := hK.2.1
  have hv2 : (0 ≤ i ∧ i < kPe K) ∨ (16 ≤ i ∧ i < 16 + m) := hv
  obtain ⟨e2, e3, e4, e5⟩ := rp i hv
  have e1 : M 21 i = kKd K i := (hK.2.2 i hv).1
  have e6 : M 22 i = kPa K i := (hK.2.2 i hv).2.1
  have e7 := hKp i hv
  refine k_aload_n i_80_0 rfl ?_
  refine k_getR (r := (a + 3)) i_80_1 o_80 rfl (by decide) (ht.1) rfl ?_
  refine k_iload_n i_80_4 rfl ?_
  refine k_iald i_80_5 (ht.2.2.2.1) (by omega) ?_
  refine k_iconst i_80_6 (by decide) ?_
  refine k_icmp_ne (t := 14) i_80_7 rfl (fun h7 => ?_) (fun h7 => ?_)
  · refine k_iconst i_80_14 (by decide) ?_
    refine k_zret i_80_15 rfl (by omega) ?_
    exact kk _ (by omega)
  · refine k_iconst i_80_10 (by decide) ?_
    refine k_goto (t := 15) i_80_11 rfl ?_
    refine k_zret i_80_15 rfl (by omega) ?_
    exact kk _ (by omega)

/-- ElbowQueue$Town.become -/
theorem c_62 {d : Nat} {M : Mem} {Q : Option Vv → Mem → Prop} {a b t t2 rm rb : Nat} {K : Kt} {T : Tt} (ht : Tw a t rm) (hb : Tw b t2 rb) (hr : (rm = 16 ∧ rb = 16) ∨ (rm = 28 ∧ rb = 16) ∨ (rm = 16 ∧ rb = 28)) (hab : a + 5 < b ∨ b + 5 < a) (hKo : KOk K 0) (hR : RepC M b K 0 T) (hl : ((tQ T).length : Int) ≤ 16) (kk : ∀ M', RepC M' a K 0 T → OutT M M' a → Q none M') : Ok d 62 0 [some (vR (some a)), some (vR (some b)), none] [] M Q := by
  refine k_aload_n i_62_0 rfl ?_
  refine k_getR (r := (a + 1)) i_62_1 o_62 rfl (by decide) (ht.1) rfl ?_
  refine k_alen (z := rm) i_62_4 (ht.2.1) (by omega) rfl ?_
  refine k_aload_n i_62_5 rfl ?_
  refine k_getR (r := (b + 1)) i_62_6 o_62 rfl (by decide) (hb.1) rfl ?_
  refine k_alen (z := rb) i_62_9 (hb.2.1) (by omega) rfl ?_
  refine k_min i_62_10 o_62 rfl rfl ?_
  rw [show (if (rb : Int) < (rm : Int) then (rb : Int) else (rm : Int)) = 16 by split <;> omega]
  refine k_istore_n (ls' := [some (vR (some a)), some (vR (some b)), some (vI 16)]) i_62_13 rfl ?_
  refine k_aload_n i_62_14 rfl ?_
  refine k_getR (r := (b + 1)) i_62_15 o_62 rfl (by decide) (hb.1) rfl ?_
  refine k_iconst i_62_18 (by decide) ?_
  refine k_aload_n i_62_19 rfl ?_
  refine k_getR (r := (a + 1)) i_62_20 o_62 rfl (by decide) (ht.1) rfl ?_
  refine k_iconst i_62_23 (by decide) ?_
  refine k_iload_n i_62_24 rfl ?_
  refine k_copy i_62_25 o_62 rfl (hb.2.1) (ht.2.1) (by omega) rfl ?_
  refine k_aload_n i_62_28 rfl ?_
  refine k_getR (r := (b + 2)) i_62_29 o_62 rfl (by decide) (hb.1) rfl ?_
  refine k_iconst i_62_32 (by decide) ?_
  refine k_aload_n i_62_33 rfl ?_
  refine k_getR (r := (a + 2)) i_62_34 o_62 rfl (by decide) (ht.1) rfl ?_
  refine k_iconst i_62_37 (by decide) ?_
  refine k_iload_n i_62_38 rfl ?_
  refine k_copy i_62_39 o_62 rfl (hb.2.2.1) (ht.2.2.1) (by omega) rfl ?_
  refine k_aload_n i_62_42 rfl ?_
  refine k_getR (r := (b + 3)) i_62_43 o_62 rfl (by decide) (hb.1) rfl ?_
  refine k_iconst i_62_46 (by decide) ?_
  refine k_aload_n i_62_47 rfl ?_
  refine k_getR (r := (a + 3)) i_62_48 o_62 rfl (by decide) (ht.1) rfl ?_
  refine k_iconst i_62_51 (by decide) ?_
  refine k_iload_n i_62_52 rfl ?_
  refine k_copy i_62_53 o_62 rfl (hb.2.2.2.1) (ht.2.2.2.1) (by omega) rfl ?_
  refine k_aload_n i_62_56 rfl ?_
  refine k_getR (r := (b + 4)) i_62_57 o_62 rfl (by decide) (hb.1) rfl ?_
  refine k_iconst i_62_60 (by decide) ?_
  refine k_aload_n i_62_61 rfl ?_
  refine k_getR (r := (a + 4)) i_62_62 o_62 rfl (by decide) (ht.1) rfl ?_
  refine k_iconst i_62_65 (by decide) ?_
  refine k_iload_n i_62_66 rfl ?_
  refine k_copy i_62_67 o_62 rfl (hb.2.2.2.2.1) (ht.2.2.2.2.1) (by omega) rfl ?_
  refine k_aload_n i_62_70 rfl ?_
  refine k_getR (r := (b + 5)) i_62_71 o_62 rfl (by decide) (hb.1) rfl ?_
  refine k_iconst i_62_74 (by decide) ?_
  refine k_aload_n i_62_75 rfl ?_
  refine k_getR (r := (a + 5)) i_62_76 o_62 rfl (by decide) (ht.1) rfl ?_
  refine k_iconst i_62_79 (by decide) ?_
  refine k_iload_n i_62_80 rfl ?_
  refine k_copy i_62_81 o_62 rfl (hb.2.2.2.2.2) (ht.2.2.2.2.2) (by omega) rfl ?_
  obtain ⟨M1, hM1⟩ : ∃ z : Mem, z = mcp (mcp (mcp (mcp (mcp M (b + 1) (0) (a + 1) (0) (16)) (b + 2) (0) (a + 2) (0) (16)) (b + 3) (0) (a + 3) (0) (16)) (b + 4) (0) (a + 4) (0) (16)) (b + 5) (0) (a + 5) (0) (16) := ⟨_, rfl⟩
  rw [← hM1]
  have hA : ∀ p : Int, 0 ≤ p → p < 16 → M1 (a + 1) p = M (b + 1) p ∧ M1 (a + 2) p = M (b + 2) p ∧ M1 (a + 3) p = M (b + 3) p ∧ M1 (a + 4) p = M (b + 4) p ∧ M1 (a + 5) p = M (b + 5) p := by
    intro p hp hp2
    rw [hM1]
    refine ⟨?_, ?_, ?_, ?_, ?_⟩ <;> (repeat (first | rw [mcp_in (by omega)] | rw [mcp_ne (by omega)])) <;> congr 1 <;> omega
  have hB : ∀ (c : Nat) (j : Int), ¬ (a < c ∧ c ≤ a + 5) → M1 c j = M c j := by
    intro c j hc
    rw [hM1, mcp_ne (by omega), mcp_ne (by omega), mcp_ne (by omega), mcp_ne (by omega), mcp_ne (by omega)]
  have hB1 := fun j => hB b j (by omega)
  refine k_aload_n i_62_84 rfl ?_
  refine k_aload_n i_62_85 rfl ?_
  refine k_getI (kz := 6) i_62_86 o_62 rfl (by decide) (hb.1) rfl ?_
  refine k_putI (kz := 6) i_62_89 o_62 rfl (by decide) (ht.1) rfl ?_
  refine k_aload_n i_62_92 rfl ?_
  refine k_aload_n i_62_93 rfl ?_
  refine k_getI (kz := 7) i_62_94 o_62 rfl (by decide) (hb.1) rfl ?_
  rw [mu_ne (M := M1) (a := a) (b := b) (i := 6) (x := M1 b 6) (by omega)]
  refine k_putI (kz := 7) i_62_97 o_62 rfl (by decide) (ht.1) rfl ?_
  refine k_aload_n i_62_100 rfl ?_
  refine k_aload_n i_62_101 rfl ?_
  refine k_getI (kz := 8) i_62_102 o_62 rfl (by decide) (hb.1) rfl ?_
  rw [mu_ne (M := mu M1 a (6) (M1 b 6)) (a := a) (b := b) (i := 7) (x := M1 b 7) (by omega)]
  rw [mu_ne (M := M1) (a := a) (b := b) (i := 6) (x := M1 b 6) (by omega)]
  refine k_putI (kz := 8) i_62_105 o_62 rfl (by decide) (ht.1) rfl ?_
  refine k_aload_n i_62_108 rfl ?_
  refine k_aload_n i_62_109 rfl ?_
  refine k_getI (kz := 9) i_62_110 o_62 rfl (by decide) (hb.1) rfl ?_
  rw [mu_ne (M := mu (mu M1 a (6) (M1 b 6)) a (7) (M1 b 7)) (a := a) (b := b) (i := 8) (x := M1 b 8) (by omega)]
  rw [mu_ne (M := mu M1 a (6) (M1 b 6)) (a := a) (b := b) (i := 7) (x := M1 b 7) (by omega)]
  rw [mu_ne (M := M1) (a := a) (b := b) (i := 6) (x := M1 b 6) (by omega)]
  refine k_putI (kz := 9) i_62_113 o_62 rfl (by decide) (ht.1) rfl ?_
  refine k_aload_n i_62_116 rfl ?_
  refine k_aload_n i_62_117 rfl ?_
  refine k_getI (kz := 10) i_62_118 o_62 rfl (by decide) (hb.1) rfl ?_
  rw [mu_ne (M := mu (mu (mu M1 a (6) (M1 b 6)) a (7) (M1 b 7)) a (8) (M1 b 8)) (a := a) (b := b) (i := 9) (x := M1 b 9) (by omega)]
  rw [mu_ne (M := mu (mu M1 a (6) (M1 b 6)) a (7) (M1 b 7)) (a := a) (b := b) (i := 8) (x := M1 b 8) (by omega)]
  rw [mu_ne (M := mu M1 a (6) (M1 b 6)) (a := a) (b := b) (i := 7) (x := M1 b 7) (by omega)]
  rw [mu_ne (M := M1) (a := a) (b := b) (i := 6) (x := M1 b 6) (by omega)]
  refine k_putI (kz := 10) i_62_121 o_62 rfl (by decide) (ht.1) rfl ?_
  refine k_vret i_62_124 rfl ?_
  refine kk _ ?_ ?_
  · obtain ⟨r6, r7, r8, r9, r10, rq, rp⟩ := id hR
    refine ⟨?_, ?_, ?_, ?_, ?_, ?_, ?_⟩
    · rw [mu_j (by decide), mu_j (by decide), mu_j (by decide), mu_j (by decide), mu_s, hB1]; exact r6
    · rw [mu_j (by decide), mu_j (by decide), mu_j (by decide), mu_s, hB1]; exact r7
    · rw [mu_j (by decide), mu_j (by decide), mu_s, hB1]; exact r8
    · rw [mu_j (by decide), mu_s, hB1]; exact r9
    · rw [mu_s, hB1]; exact r10
    · intro j p hj
      have hj2 := (List.getElem?_eq_some_iff.mp hj).1
      rw [mu_ne (by omega), mu_ne (by omega), mu_ne (by omega), mu_ne (by omega), mu_ne (by omega), (hA j (by omega) (by omega)).1]
      exact rq j p hj
    · intro p hp
      have hp2 : (0 ≤ p ∧ p < kPe K) ∨ (16 ≤ p ∧ p < 16 + 0) := hp
      have hk := hKo.1
      obtain ⟨x1, x2, x3, x4, x5⟩ := hA p (by omega) (by omega)
      obtain ⟨f2, f3, f4, f5⟩ := rp p hp
      refine ⟨?_, ?_, ?_, ?_⟩ <;> rw [mu_ne (by omega), mu_ne (by omega), mu_ne (by omega), mu_ne (by omega), mu_ne (by omega)]
      · exact x2.trans f2
      · exact x3.trans f3
      · exact x4.trans f4
      · exact x5.trans f5
  · intro c j hc
    rw [mu_ne (by omega), mu_ne (by omega), mu_ne (by omega), mu_ne (by omega), mu_ne (by omega)]
    exact hB c j (by omega)
