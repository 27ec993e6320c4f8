/-! elbows -/
def elbS (U : Tt) (e : Int) : Tt := mkT (tQ U ++ [e]) (up (tW U) e 1) (up (tS U) e 0) (up (tB U) e 0) (up (tO U) e e) (tMi U) (tCa U) (tSe U) (tNx U)
def elbF (T : Tt) : Nat → Tt
  | 0 => T
  | n + 1 => elbS (elbF T n) (16 + n)
theorem up_up (f : Int → Int) (k v w : Int) : up (up f k v) k w = up f k w := by
  funext j
  by_cases e : j = k
  · rw [e, up_s, up_s]
  · rw [up_n _ _ e, up_n _ _ e, up_n _ _ e]
theorem KOk.mono {K : Kt} {m m' : Int} (h : KOk K m) (h0 : 0 ≤ m') (h1 : m' ≤ m) : KOk K m' := by
  obtain ⟨⟨g1, g2, g3, g4, g5, g6, g7, g8⟩, hp⟩ := h
  refine ⟨⟨g1, g2, g3, g4, g5, g6, h0, by omega⟩, fun p q => hp p ?_⟩
  unfold Va at q ⊢
  omega
theorem RepK.mono {M : Mem} {t : Nat} {K : Kt} {m m' : Int} (h : RepK M t K m) (h1 : m' ≤ m) : RepK M t K m' := by
  refine ⟨h.1, h.2.1, fun p q => h.2.2 p ?_⟩
  unfold Va at q ⊢
  omega
theorem va_s {K : Kt} {m p : Int} (h : Va K (m + 1) p) : Va K m p ∨ p = 16 + m := by
  unfold Va at h ⊢
  omega
theorem TOk.elb {K : Kt} {m : Int} {U : Tt} (hK : KOk K (m + 1)) (h0 : 0 ≤ m) (h : TOk K m U) : TOk K (m + 1) (elbS U (16 + m)) := by
  obtain ⟨⟨g1, g2, g3, g4, g5, g6, g7, g8⟩, hKp⟩ := id hK
  obtain ⟨u1, u2, u3, u4, u5, u6, u7⟩ := id h
  have hni : 16 + m ∉ tQ U := fun q => by have := u2 _ q; omega
  refine ⟨?_, ?_, ?_, ?_, ?_, ?_, ?_⟩
  · show (tQ U ++ [16 + m]).Nodup
    refine List.nodup_append.mpr ⟨u1, by simp, fun x hx y hy => ?_⟩
    have : y = 16 + m := by simpa using hy
    rw [this]
    exact fun q => hni (q ▸ hx)
  · intro p hp
    have hp2 : p ∈ tQ U ++ [16 + m] := hp
    rcases List.mem_append.mp hp2 with q | q
    · have q2 : (0 ≤ p ∧ p < tNx U) ∨ (16 ≤ p ∧ p < 16 + m) := u2 p q
      show (0 ≤ p ∧ p < tNx U) ∨ _
      omega
    · have : p = 16 + m := by simpa using q
      omega
  · show 0 ≤ tNx U ∧ tNx U ≤ kPe K ∧ ((tQ U ++ [16 + m]).length : Int) ≤ tNx U + (m + 1) ∧ 0 ≤ tMi U ∧ tMi U ≤ 100000 ∧ 0 ≤ tCa U ∧ tCa U ≤ 3 ∧ 0 ≤ tSe U ∧ tSe U ≤ 9
    rw [List.length_append, List.length_singleton]
    omega
  · intro p hp
    show 0 ≤ up (tS U) (16 + m) 0 p ∧ up (tS U) (16 + m) 0 p ≤ tMi U ∧ 0 ≤ up (tB U) (16 + m) 0 p ∧ up (tB U) (16 + m) 0 p ≤ 3
    by_cases e : p = 16 + m
    · rw [e, up_s, up_s]; omega
    · rw [up_n _ _ e, up_n _ _ e]
      exact u4 p ((va_s hp).resolve_right e)
  · intro p hp
    show up (tW U) (16 + m) 1 p = 1 ↔ p ∈ tQ U ++ [16 + m]
    by_cases e : p = 16 + m
    · rw [e, up_s]; simp
    · rw [up_n _ _ e, u5 p ((va_s hp).resolve_right e)]
      simp [e]
  · intro p hp hp2
    have hp3 : tNx U ≤ p := hp
    show up (tW U) (16 + m) 1 p = 0
    rw [up_n _ _ (by omega)]
    exact u6 p hp3 hp2
  · intro p hp hp2 hp3
    have hp4 : p < tNx U := hp2
    have hp5 : p ∉ tQ U := fun q => hp3 (List.mem_append.mpr (Or.inl q))
    show 2 ≤ up (tW U) (16 + m) 1 p ∧ up (tW U) (16 + m) 1 p ≤ 4
    rw [up_n _ _ (by omega)]
    exact u7 p hp hp4 hp5
theorem TOk.elbF {K : Kt} {T : Tt} (hK : KOk K 12) (h : TOk K 0 T) : ∀ n : Nat, n ≤ 12 → TOk K n (elbF T n) := by
  intro n
  induction n with
  | zero => intro _; exact h
  | succ n ih =>
    intro hn
    have := TOk.elb (m := n) (hK.mono (by omega) (by omega)) (by omega) (ih (by omega))
    exact this
theorem elb_mi (T : Tt) (n : Nat) : tMi (elbF T n) = tMi T ∧ tNx (elbF T n) = tNx T := by
  induction n with
  | zero => exact ⟨rfl, rfl⟩
  | succ n ih => exact ih
theorem RepC.elb {M : Mem} {a : Nat} {K : Kt} {m : Int} {U : Tt} (h : RepC M a K m U) (e : Int) (he : e = 16 + m) :
    RepC (mu (mu (mu M (a + 2) e 0) (a + 4) e 0) (a + 5) e e) a K (m + 1) (mkT (tQ U) (up (tW U) e (M (a + 3) e)) (up (tS U) e 0) (up (tB U) e 0) (up (tO U) e e) (tMi U) (tCa U) (tSe U) (tNx U)) := by
  obtain ⟨r6, r7, r8, r9, r10, rq, rp⟩ := id h
  refine ⟨?_, ?_, ?_, ?_, ?_, ?_, ?_⟩
  · rw [mu_ne (by omega), mu_ne (by omega), mu_ne (by omega)]; exact r6
  · rw [mu_ne (by omega), mu_ne (by omega), mu_ne (by omega)]; exact r7
  · rw [mu_ne (by omega), mu_ne (by omega), mu_ne (by omega)]; exact r8
  · rw [mu_ne (by omega), mu_ne (by omega), mu_ne (by omega)]; exact r9
  · rw [mu_ne (by omega), mu_ne (by omega), mu_ne (by omega)]; exact r10
  · intro j p hj
    rw [mu_ne (by omega), mu_ne (by omega), mu_ne (by omega)]; exact rq j p hj
  · intro p hp
    show _ = up (tB U) e 0 p ∧ _ = up (tW U) e _ p ∧ _ = up (tS U) e 0 p ∧ _ = up (tO U) e e p
    by_cases q : p = e
    · rw [q, up_s, up_s, up_s, up_s, mu_s, mu_ne (by omega), mu_ne (by omega), mu_s, mu_ne (by omega), mu_ne (by omega), mu_ne (by omega), mu_ne (by omega), mu_s]
      exact ⟨rfl, rfl, rfl, rfl⟩
    · obtain ⟨f2, f3, f4, f5⟩ := rp p ((va_s hp).resolve_right (by omega))
      rw [up_n _ _ q, up_n _ _ q, up_n _ _ q, up_n _ _ q, mu_j q, mu_j q, mu_j q, mu_j q, mu_j q, mu_j q, mu_j q, mu_j q, mu_j q, mu_j q, mu_j q, mu_j q]
      exact ⟨f2, f3, f4, f5⟩

theorem l_82 {d : Nat} {M0 : Mem} {Q : Option Vv → Mem → Prop} {a : Nat} {K : Kt} {T : Tt} {n : Int} (ht : Tw a 20 28) (hKo : KOk K 12) (hT : TOk K 0 T) (hn : 0 ≤ n ∧ n ≤ 12) (kk : ∀ M', RepC M' a K n (elbF T n.toNat) → OutT M0 M' a → Q none M') : ∀ (f : Nat) (i : Int) (M : Mem), (0 ≤ i ∧ i ≤ n) → (RepC M a K i (elbF T i.toNat)) → (OutT M0 M a) → (n - i).toNat < f → Ok (d + 1) 82 3 [some (vR (some a)), some (vI n), some (vI (16 + i))] [] M Q := by
  intro f
  induction f with
  | zero => intro i M hi hR1 ho hf; exact absurd hf (Nat.not_lt_zero _)
  | succ f ih =>
    intro i M hi hR1 ho hf
    obtain ⟨⟨g1, g2, g3, g4, g5, g6, g7, g8⟩, hKp⟩ := id hKo
    have hTi := hT.elbF hKo i.toNat (by omega)
    have hu3 := hTi.2.2.1
    refine k_iload_n i_82_3 rfl ?_
    refine k_bipush i_82_4 (by decide) ?_
    refine k_iload_n i_82_6 rfl ?_
    refine k_iadd i_82_7 (by omega) ?_
    refine k_icmp_ge (t := 52) i_82_8 rfl (fun h8 => ?_) (fun h8 => ?_)
    · refine k_vret i_82_52 rfl ?_
      refine kk M ?_ ho
      obtain rfl : i = n := by omega
      exact hR1
    · refine k_iload_n i_82_11 rfl ?_
      refine k_aload_n i_82_12 rfl ?_
      refine k_getR (r := (a + 1)) i_82_13 o_82 rfl (by decide) (ht.1) rfl ?_
      refine k_alen (z := 28) i_82_16 (ht.2.1) (by omega) rfl ?_
      refine k_icmp_ge (t := 52) i_82_17 rfl (fun h17 => ?_) (fun h17 => ?_)
      · refine k_vret i_82_52 rfl ?_
        refine kk M ?_ ho
        obtain rfl : i = n := by omega
        exact hR1
      · refine k_aload_n i_82_20 rfl ?_
        refine k_getR (r := (a + 2)) i_82_21 o_82 rfl (by decide) (ht.1) rfl ?_
        refine k_iload_n i_82_24 rfl ?_
        refine k_iconst i_82_25 (by decide) ?_
        refine k_iast i_82_26 (ht.2.2.1) (by omega) ?_
        refine k_aload_n i_82_27 rfl ?_
        refine k_getR (r := (a + 4)) i_82_28 o_82 rfl (by decide) (ht.1) rfl ?_
        refine k_iload_n i_82_31 rfl ?_
        refine k_iconst i_82_32 (by decide) ?_
        refine k_iast i_82_33 (ht.2.2.2.2.1) (by omega) ?_
        refine k_aload_n i_82_34 rfl ?_
        refine k_getR (r := (a + 5)) i_82_35 o_82 rfl (by decide) (ht.1) rfl ?_
        refine k_iload_n i_82_38 rfl ?_
        refine k_iload_n i_82_39 rfl ?_
        refine k_iast i_82_40 (ht.2.2.2.2.2) (by omega) ?_
        refine k_aload_n i_82_41 rfl ?_
        refine k_iload_n i_82_42 rfl ?_
        refine k_invV (n := 1) (o' := 6) (av := [vR (some a), vI (16 + i)]) (rest := []) (el := [some (vR (some a)), some (vI (16 + i))]) i_82_43 o_82 rfl v_81 rfl (ht.1) rfl rfl rfl rfl rfl ?_
        refine c_81 (m := i + 1) (rm := 28) ht (by omega) (hKo.mono (by omega) (by omega)) (RepC.elb hR1 (16 + i) rfl) (by unfold Va; omega) (by show ((tQ (elbF T i.toNat)).length : Int) < 28; omega) (fun M2 hR2 ho2 => ?_)
        show Ok _ 82 46 [some (vR (some a)), some (vI n), some (vI (16 + i))] [] (M2) _
        refine k_iinc (ls' := [some (vR (some a)), some (vI n), some (vI (16 + i + 1))]) i_82_46 rfl (by omega) rfl ?_
        refine k_goto (t := 3) i_82_49 rfl ?_
        rw [show 16 + i + 1 = 16 + (i + 1) by omega]
        refine ih (i + 1) M2 (by omega) ?_ ((((ho.mu (by omega)).mu (by omega)).mu (by omega)).tr ho2) (by omega)
        rw [show (i + 1).toNat = i.toNat + 1 by omega]
        have e : elbF T (i.toNat + 1) = joinF (mkT (tQ (elbF T i.toNat)) (up (tW (elbF T i.toNat)) (16 + i) (M (a + 3) (16 + i))) (up (tS (elbF T i.toNat)) (16 + i) 0) (up (tB (elbF T i.toNat)) (16 + i) 0) (up (tO (elbF T i.toNat)) (16 + i) (16 + i)) (tMi (elbF T i.toNat)) (tCa (elbF T i.toNat)) (tSe (elbF T i.toNat)) (tNx (elbF T i.toNat))) (16 + i) := by
          show elbS (elbF T i.toNat) (16 + (i.toNat : Int)) = _
          rw [show ((i.toNat : Nat) : Int) = i by omega]
          unfold elbS joinF
          simp only [mk_q, mk_w, mk_s, mk_b, mk_o, mk_mi, mk_ca, mk_se, mk_nx, up_up]
        rw [e]
        exact hR2

/-- ElbowQueue$Town.joinElbows -/
theorem c_82 {d : Nat} {M : Mem} {Q : Option Vv → Mem → Prop} {a : Nat} {K : Kt} {T : Tt} {n : Int} (ht : Tw a 20 28) (hKo : KOk K 12) (hT : TOk K 0 T) (hn : 0 ≤ n ∧ n ≤ 12) (hR : RepC M a K 0 T) (kk : ∀ M', RepC M' a K n (elbF T n.toNat) → OutT M M' a → Q none M') : Ok (d + 1) 82 0 [some (vR (some a)), some (vI n), none] [] M Q := by
  refine k_bipush i_82_0 (by decide) ?_
  refine k_istore_n (ls' := [some (vR (some a)), some (vI n), some (vI 16)]) i_82_2 rfl ?_
  exact l_82 ht hKo hT hn kk (n.toNat + 1) 0 M (by omega) hR (OutT.rf M a) (by omega)

/-- how many of the passers to come join -/
def joinC (K : Kt) : Nat → Tt → Int
  | 0, _ => 0
  | n + 1, T => if tNx T < kPe K then (if tW (minF K T 1) (tNx T) = 1 then 1 else 0) + joinC K n (minF K T 1) else 0
theorem joinC_b (K : Kt) : ∀ (n : Nat) (T : Tt), 0 ≤ joinC K n T ∧ joinC K n T ≤ n := by
  intro n
  induction n with
  | zero => intro T; exact ⟨Int.le_refl _, Int.le_refl _⟩
  | succ n ih =>
    intro T
    have := ih (minF K T 1)
    show 0 ≤ (if tNx T < kPe K then (if tW (minF K T 1) (tNx T) = 1 then 1 else 0) + joinC K n (minF K T 1) else 0) ∧ (if tNx T < kPe K then (if tW (minF K T 1) (tNx T) = 1 then 1 else 0) + joinC K n (minF K T 1) else 0) ≤ _
    split
    · split <;> omega
    · omega
theorem joinC_s (K : Kt) (n : Nat) (T : Tt) : joinC K (n + 1) T = if tNx T < kPe K then (if tW (minF K T 1) (tNx T) = 1 then 1 else 0) + joinC K n (minF K T 1) else 0 := rfl
theorem joinC_e (K : Kt) {n : Nat} {T : Tt} (h : ¬ tNx T < kPe K) : joinC K n T = 0 := by
  cases n with
  | zero => rfl
  | succ n => exact if_neg h

theorem l_83 {d : Nat} {M0 : Mem} {Q : Option Vv → Mem → Prop} {a rm : Nat} {K : Kt} {m : Int} {T : Tt} (ht : Tw a 20 rm) (hrm : 16 + m ≤ (rm : Int) ∧ (rm : Int) ≤ 28) (hKo : KOk K m) (hK : RepK M0 20 K m) (ha : 24 < a) (kk : ∀ v M', v = joinC K 8 T → OutT M0 M' a → Q (some (vI v)) M') : ∀ (f : Nat) (s : Int) (n : Int) (x3 : Option Vv) (U : Tt) (M : Mem), (0 ≤ n ∧ n ≤ 8) → (0 ≤ s ∧ s ≤ n ∧ s + joinC K (8 - n).toNat U = joinC K 8 T) → (RepC M a K m U) → (TOk K m U) → (tMi U + (8 - n) ≤ 2000) → (OutT M0 M a) → (8 - n).toNat < f → Ok (d + 3) 83 4 [some (vR (some a)), some (vI s), some (vI n), x3] [] M Q := by
  intro f
  induction f with
  | zero => intro s n x3 U M hn hs hR1 hU hm ho hf; exact absurd hf (Nat.not_lt_zero _)
  | succ f ih =>
    intro s n x3 U M hn hs hR1 hU hm ho hf
    obtain ⟨⟨g1, g2, g3, g4, g5, g6, g7, g8⟩, hKp⟩ := id hKo
    have hK1 := hK.out ho (by omega)
    have hu3 := hU.2.2.1
    have r10 : M a 10 = tNx U := hR1.2.2.2.2.1
    refine k_iload_n i_83_4 rfl ?_
    refine k_bipush i_83_5 (by decide) ?_
    refine k_icmp_ge (t := 44) i_83_7 rfl (fun h7 => ?_) (fun h7 => ?_)
    · refine k_iload_n i_83_44 rfl ?_
      refine k_iret i_83_45 rfl ?_
      refine kk _ _ ?_ ho
      first
        | (have q := hs.2.2; rw [show (8 - n).toNat = 0 by omega] at q; have q2 : joinC K 0 U = 0 := rfl; omega)
        | (have q := hs.2.2; rw [joinC_e K (show ¬ tNx U < kPe K by omega)] at q; omega)
    · refine k_aload_n i_83_10 rfl ?_
      refine k_invV (n := 0) (o' := 6) (av := [vR (some a)]) (rest := []) (el := [some (vR (some a))]) i_83_11 o_83 rfl v_68 rfl (ht.1) rfl rfl rfl rfl rfl ?_
      refine c_68 ht hrm hKo hK1 hR1 (fun v1 hv1 => ?_)
      show Ok _ 83 14 [some (vR (some a)), some (vI s), some (vI n), x3] [vI v1] (M) _
      refine k_if_eq (t := 44) i_83_14 rfl (fun h14 => ?_) (fun h14 => ?_)
      · refine k_iload_n i_83_44 rfl ?_
        refine k_iret i_83_45 rfl ?_
        refine kk _ _ ?_ ho
        first
          | (have q := hs.2.2; rw [show (8 - n).toNat = 0 by omega] at q; have q2 : joinC K 0 U = 0 := rfl; omega)
          | (have q := hs.2.2; rw [joinC_e K (show ¬ tNx U < kPe K by omega)] at q; omega)
      · refine k_aload_n i_83_17 rfl ?_
        refine k_getI (kz := 10) i_83_18 o_83 rfl (by decide) (ht.1) rfl ?_
        rw [r10]
        refine k_istore_n (ls' := [some (vR (some a)), some (vI s), some (vI n), some (vI (tNx U))]) i_83_21 rfl ?_
        refine k_aload_n i_83_22 rfl ?_
        refine k_iconst i_83_23 (by decide) ?_
        refine k_invV (n := 1) (o' := 6) (av := [vR (some a), vI 1]) (rest := []) (el := [some (vR (some a)), some (vI 1)]) i_83_24 o_83 rfl v_72 rfl (ht.1) rfl rfl rfl rfl rfl ?_
        refine c_72 ht hrm hKo hK1 hR1 hU ha (by omega) (fun M2 hR2 ho2 => ?_)
        show Ok _ 83 27 [some (vR (some a)), some (vI s), some (vI n), some (vI (tNx U))] [] (M2) _
        refine k_aload_n i_83_27 rfl ?_
        refine k_iload_n i_83_28 rfl ?_
        refine k_invV (n := 1) (o' := 6) (av := [vR (some a), vI (tNx U)]) (rest := []) (el := [some (vR (some a)), some (vI (tNx U))]) i_83_29 o_83 rfl v_80 rfl (ht.1) rfl rfl rfl rfl rfl ?_
        refine c_80 ht hrm hKo (hK1.out ho2 (by omega)) hR2 (show Va K m (tNx U) by unfold Va; omega) (fun v2 hv2 => ?_)
        show Ok _ 83 32 [some (vR (some a)), some (vI s), some (vI n), some (vI (tNx U))] [vI v2] (M2) _
        refine k_if_eq (t := 38) i_83_32 rfl (fun h32 => ?_) (fun h32 => ?_)
        · refine k_iinc (ls' := [some (vR (some a)), some (vI s), some (vI (n + 1)), some (vI (tNx U))]) i_83_38 rfl (by omega) rfl ?_
          refine k_goto (t := 4) i_83_41 rfl ?_
          refine ih _ (n + 1) _ (minF K U 1) M2 (by omega) ?_ hR2 (hU.min hKo (by omega) 1) (by rw [min_mi]; omega) (ho.tr ho2) (by omega)
          have e := joinC_s K (8 - (n + 1)).toNat U
          rw [show (8 - (n + 1)).toNat + 1 = (8 - n).toNat by omega, if_pos (by omega)] at e
          have q := hs.2.2
          rw [e] at q
          split at q <;> omega
        · refine k_iinc (ls' := [some (vR (some a)), some (vI (s + 1)), some (vI n), some (vI (tNx U))]) i_83_35 rfl (by omega) rfl ?_
          refine k_iinc (ls' := [some (vR (some a)), some (vI (s + 1)), some (vI (n + 1)), some (vI (tNx U))]) i_83_38 rfl (by omega) rfl ?_
          refine k_goto (t := 4) i_83_41 rfl ?_
          refine ih _ (n + 1) _ (minF K U 1) M2 (by omega) ?_ hR2 (hU.min hKo (by omega) 1) (by rw [min_mi]; omega) (ho.tr ho2) (by omega)
          have e := joinC_s K (8 - (n + 1)).toNat U
          rw [show (8 - (n + 1)).toNat + 1 = (8 - n).toNat by omega, if_pos (by omega)] at e
          have q := hs.2.2
          rw [e] at q
          split at q <;> omega

/-- ElbowQueue$Town.joinersToCome -/
theorem c_83 {d : Nat} {M : Mem} {Q : Option Vv → Mem → Prop} {a rm : Nat} {K : Kt} {m : Int} {T : Tt} (ht : Tw a 20 rm) (hrm : 16 + m ≤ (rm : Int) ∧ (rm : Int) ≤ 28) (hKo : KOk K m) (hK : RepK M 20 K m) (ha : 24 < a) (hR : RepC M a K m T) (hT : TOk K m T) (hm : tMi T ≤ 1900) (kk : ∀ v M', v = joinC K 8 T → OutT M M' a → Q (some (vI v)) M') : Ok (d + 3) 83 0 [some (vR (some a)), none, none, none] [] M Q := by
  refine k_iconst i_83_0 (by decide) ?_
  refine k_istore_n (ls' := [some (vR (some a)), some (vI 0), none, none]) i_83_1 rfl ?_
  refine k_iconst i_83_2 (by decide) ?_
  refine k_istore_n (ls' := [some (vR (some a)), some (vI 0), some (vI 0), none]) i_83_3 rfl ?_
  exact l_83 ht hrm hKo hK ha kk 9 0 0 _ T M (by omega) ⟨Int.le_refl _, Int.le_refl _, Int.zero_add _⟩ hR hT (by omega) (OutT.rf M a) (by omega)
