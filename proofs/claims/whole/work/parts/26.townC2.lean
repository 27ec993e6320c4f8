def shl (M : Mem) (b0 : Nat) (lo hi : Int) : Mem := fun b j => if b = b0 ∧ lo ≤ j ∧ j < hi then M b (j + 1) else M b j
theorem shl_0 (M : Mem) (b0 : Nat) (lo : Int) : shl M b0 lo lo = M := by
  funext b j
  unfold shl
  rw [if_neg (by omega)]
theorem shl_s {M : Mem} {b0 : Nat} {lo hi : Int} (h : lo ≤ hi) : mu (shl M b0 lo hi) b0 hi (shl M b0 lo hi b0 (hi + 1)) = shl M b0 lo (hi + 1) := by
  have e0 : shl M b0 lo hi b0 (hi + 1) = M b0 (hi + 1) := if_neg (by omega)
  rw [e0]
  funext b j
  unfold mu shl
  by_cases e : b = b0 ∧ j = hi
  · rw [if_pos e, if_pos (by omega), e.1, e.2]
  · rw [if_neg e]
    by_cases e2 : b = b0 ∧ lo ≤ j ∧ j < hi
    · rw [if_pos e2, if_pos (by omega)]
    · rw [if_neg e2, if_neg (by omega)]
theorem shl_ne {M : Mem} {b0 b : Nat} {lo hi : Int} (h : b ≠ b0) (j : Int) : shl M b0 lo hi b j = M b j := if_neg (fun q => h q.1)

theorem l_75 {d : Nat} {M : Mem} {Q : Option Vv → Mem → Prop} {a rm : Nat} {K : Kt} {m : Int} {T : Tt} {k w : Int} (ht : Tw a 20 rm) (hk : 0 ≤ k ∧ k < M a 9 ∧ M a 9 ≤ rm ∧ (rm : Int) ≤ 28) (kk : Q none (shl (mu (mu M (a + 3) (M (a + 1) k) w) a 9 (M a 9 - 1)) (a + 1) k (M a 9 - 1))) : ∀ (f : Nat) (i : Int), (k ≤ i ∧ i ≤ M a 9 - 1) → (M a 9 - 1 - i).toNat < f → Ok d 75 37 [some (vR (some a)), some (vI k), some (vI w), some (vI i)] [] (shl (mu (mu M (a + 3) (M (a + 1) k) w) a 9 (M a 9 - 1)) (a + 1) k i) Q := by
  intro f
  induction f with
  | zero => intro i hi hf; exact absurd hf (Nat.not_lt_zero _)
  | succ f ih =>
    intro i hi hf
    have e9 : shl (mu (mu M (a + 3) (M (a + 1) k) w) a 9 (M a 9 - 1)) (a + 1) k i a 9 = M a 9 - 1 := by rw [shl_ne (by omega), mu_s]
    refine k_iload_n i_75_37 rfl ?_
    refine k_aload_n i_75_38 rfl ?_
    refine k_getI (kz := 9) i_75_39 o_75 rfl (by decide) (ht.1) rfl ?_
    rw [e9]
    refine k_icmp_ge (t := 65) i_75_42 rfl (fun h42 => ?_) (fun h42 => ?_)
    · refine k_vret i_75_65 rfl ?_
      obtain rfl : i = M a 9 - 1 := by omega
      exact kk
    · refine k_aload_n i_75_45 rfl ?_
      refine k_getR (r := (a + 1)) i_75_46 o_75 rfl (by decide) (ht.1) rfl ?_
      refine k_iload_n i_75_49 rfl ?_
      refine k_aload_n i_75_50 rfl ?_
      refine k_getR (r := (a + 1)) i_75_51 o_75 rfl (by decide) (ht.1) rfl ?_
      refine k_iload_n i_75_54 rfl ?_
      refine k_iconst i_75_55 (by decide) ?_
      refine k_iadd i_75_56 (by omega) ?_
      refine k_iald i_75_57 (ht.2.1) (by omega) ?_
      refine k_iast i_75_58 (ht.2.1) (by omega) ?_
      refine k_iinc (ls' := [some (vR (some a)), some (vI k), some (vI w), some (vI (i + 1))]) i_75_59 rfl (by omega) rfl ?_
      refine k_goto (t := 37) i_75_62 rfl ?_
      rw [shl_s (by omega)]
      exact ih (i + 1) (by omega) (by omega)

/-- ElbowQueue$Town.takeOut -/
theorem c_75 {d : Nat} {M : Mem} {Q : Option Vv → Mem → Prop} {a rm : Nat} {K : Kt} {m : Int} {T : Tt} {k w : Int} (ht : Tw a 20 rm) (hrm : 16 + m ≤ (rm : Int) ∧ (rm : Int) ≤ 28) (hKo : KOk K m) (hT : TOk K m T) (hR : RepC M a K m T) (hk : 0 ≤ k ∧ k < (tQ T).length) (kk : ∀ M', RepC M' a K m (outF T k.toNat w) → OutT M M' a → Q none M') : Ok d 75 0 [some (vR (some a)), some (vI k), some (vI w), none] [] M Q := by
  obtain ⟨⟨g1, g2, g3, g4, g5, g6, g7, g8⟩, hKp⟩ := id hKo
  obtain ⟨r6, r7, r8, r9, r10, rq, rp⟩ := id hR
  obtain ⟨u1, u2, u3, u4, u5, u6, u7⟩ := id hT
  have hq0 := hR.q hk.1 hk.2
  have hm0 : (tQ T).getD k.toNat 0 ∈ tQ T := q_mem (by omega)
  have hv0 := hT.va hm0
  have hv2 : (0 ≤ M (a + 1) k ∧ M (a + 1) k < kPe K) ∨ (16 ≤ M (a + 1) k ∧ M (a + 1) k < 16 + m) := by rw [hq0]; exact hv0
  refine k_iload_n i_75_0 rfl ?_
  refine k_if_lt (t := 12) i_75_1 rfl (fun h1 => absurd h1 (by omega)) (fun h1 => ?_)
  refine k_iload_n i_75_4 rfl ?_
  refine k_aload_n i_75_5 rfl ?_
  refine k_getI (kz := 9) i_75_6 o_75 rfl (by decide) (ht.1) rfl ?_
  refine k_icmp_lt (t := 13) i_75_9 rfl (fun h9 => ?_) (fun h9 => absurd (by omega) h9)
  refine k_aload_n i_75_13 rfl ?_
  refine k_getR (r := (a + 3)) i_75_14 o_75 rfl (by decide) (ht.1) rfl ?_
  refine k_aload_n i_75_17 rfl ?_
  refine k_getR (r := (a + 1)) i_75_18 o_75 rfl (by decide) (ht.1) rfl ?_
  refine k_iload_n i_75_21 rfl ?_
  refine k_iald i_75_22 (ht.2.1) (by omega) ?_
  refine k_iload_n i_75_23 rfl ?_
  refine k_iast i_75_24 (ht.2.2.2.1) (by omega) ?_
  refine k_aload_n i_75_25 rfl ?_
  refine k_dupR i_75_26 ?_
  refine k_getI (kz := 9) i_75_27 o_75 rfl (by decide) (ht.1) rfl ?_
  rw [mu_ne (M := M) (a := (a + 3)) (b := a) (i := M (a + 1) k) (x := w) (by omega)]
  refine k_iconst i_75_30 (by decide) ?_
  refine k_isub i_75_31 (by omega) ?_
  refine k_putI (kz := 9) i_75_32 o_75 rfl (by decide) (ht.1) rfl ?_
  refine k_iload_n i_75_35 rfl ?_
  refine k_istore_n (ls' := [some (vR (some a)), some (vI k), some (vI w), some (vI k)]) i_75_36 rfl ?_
  rw [← shl_0 (mu (mu M (a + 3) (M (a + 1) k) w) a 9 (M a 9 - 1)) (a + 1) k]
  refine l_75 (T := T) (K := K) (m := m) ht (by omega) (kk _ ⟨?_, ?_, ?_, ?_, ?_, ?_, ?_⟩ ?_) ((M a 9 - 1 - k).toNat + 1) k (by omega) (by omega)
  · rw [shl_ne (by omega), mu_j (by decide), mu_ne (by omega)]; exact r6
  · rw [shl_ne (by omega), mu_j (by decide), mu_ne (by omega)]; exact r7
  · rw [shl_ne (by omega), mu_j (by decide), mu_ne (by omega)]; exact r8
  · rw [shl_ne (by omega), mu_s]
    simp only [outF, mk_q, List.length_eraseIdx]
    rw [if_pos (by omega)]
    omega
  · rw [shl_ne (by omega), mu_j (by decide), mu_ne (by omega)]; exact r10
  · intro j p hj
    simp only [outF, mk_q, List.getElem?_eraseIdx] at hj
    unfold shl
    by_cases c1 : j < k.toNat
    · rw [if_pos c1] at hj
      rw [if_neg (by omega), mu_ne (by omega), mu_ne (by omega)]
      exact rq j p hj
    · rw [if_neg c1] at hj
      have hj2 := (List.getElem?_eq_some_iff.mp hj).1
      rw [if_pos (by omega), mu_ne (by omega), mu_ne (by omega)]
      have := rq (j + 1) p hj
      rw [← this]
      congr 1
  · intro p hp
    obtain ⟨f2, f3, f4, f5⟩ := rp p hp
    simp only [outF, mk_b, mk_w, mk_s, mk_o]
    refine ⟨by rw [shl_ne (by omega), mu_ne (by omega), mu_ne (by omega)]; exact f2, ?_, by rw [shl_ne (by omega), mu_ne (by omega), mu_ne (by omega)]; exact f4, by rw [shl_ne (by omega), mu_ne (by omega), mu_ne (by omega)]; exact f5⟩
    rw [shl_ne (by omega), mu_ne (by omega), hq0]
    by_cases e : p = (tQ T).getD k.toNat 0
    · rw [e, mu_s, up_s]
    · rw [mu_j e, up_n _ _ e]; exact f3
  · intro b j hb
    rw [shl_ne (by omega), mu_ne (by omega), mu_ne (by omega)]

/-- ElbowQueue$Town.join -/
theorem c_81 {d : Nat} {M : Mem} {Q : Option Vv → Mem → Prop} {a rm : Nat} {K : Kt} {m : Int} {T : Tt} {x : Int} (ht : Tw a 20 rm) (hrm : 16 + m ≤ (rm : Int) ∧ (rm : Int) ≤ 28) (hKo : KOk K m) (hR : RepC M a K m T) (hv : Va K m x) (hl : ((tQ T).length : Int) < rm) (k : ∀ M', RepC M' a K m (joinF T x) → OutT M M' a → Q none M') : Ok d 81 0 [some (vR (some a)), some (vI x)] [] M Q := by
  obtain ⟨⟨g1, g2, g3, g4, g5, g6, g7, g8⟩, hKp⟩ := id hKo
  obtain ⟨r6, r7, r8, r9, r10, rq, rp⟩ := id hR
  have hv2 : (0 ≤ x ∧ x < kPe K) ∨ (16 ≤ x ∧ x < 16 + m) := hv
  have hrmb : ¬ (rm : Int) ≤ M a 9 := by omega
  have hrm9 : rm < 2147483648 := by omega
  refine k_aload_n i_81_0 rfl ?_
  refine k_getI (kz := 9) i_81_1 o_81 rfl (by decide) (ht.1) rfl ?_
  refine k_aload_n i_81_4 rfl ?_
  refine k_getR (r := (a + 1)) i_81_5 o_81 rfl (by decide) (ht.1) rfl ?_
  refine k_alen (z := rm) i_81_8 (ht.2.1) (by omega) rfl ?_
  refine k_icmp_ge (t := 39) i_81_9 rfl (fun h9 => absurd h9 (by omega)) (fun h9 => ?_)
  refine k_aload_n i_81_12 rfl ?_
  refine k_getR (r := (a + 1)) i_81_13 o_81 rfl (by decide) (ht.1) rfl ?_
  refine k_aload_n i_81_16 rfl ?_
  refine k_getI (kz := 9) i_81_17 o_81 rfl (by decide) (ht.1) rfl ?_
  refine k_iload_n i_81_20 rfl ?_
  refine k_iast i_81_21 (ht.2.1) (by omega) ?_
  refine k_aload_n i_81_22 rfl ?_
  refine k_dupR i_81_23 ?_
  refine k_getI (kz := 9) i_81_24 o_81 rfl (by decide) (ht.1) rfl ?_
  rw [mu_ne (M := M) (a := (a + 1)) (b := a) (i := M a 9) (x := x) (by omega)]
  refine k_iconst i_81_27 (by decide) ?_
  refine k_iadd i_81_28 (by omega) ?_
  refine k_putI (kz := 9) i_81_29 o_81 rfl (by decide) (ht.1) rfl ?_
  refine k_aload_n i_81_32 rfl ?_
  refine k_getR (r := (a + 3)) i_81_33 o_81 rfl (by decide) (ht.1) rfl ?_
  refine k_iload_n i_81_36 rfl ?_
  refine k_iconst i_81_37 (by decide) ?_
  refine k_iast i_81_38 (ht.2.2.2.1) (by omega) ?_
  refine k_vret i_81_39 rfl ?_
  refine k _ ⟨?_, ?_, ?_, ?_, ?_, ?_, ?_⟩ ((((OutT.rf M a).mu (by omega)).mu (by omega)).mu (by omega))
  · rw [mu_ne (by omega), mu_j (by decide), mu_ne (by omega)]; exact r6
  · rw [mu_ne (by omega), mu_j (by decide), mu_ne (by omega)]; exact r7
  · rw [mu_ne (by omega), mu_j (by decide), mu_ne (by omega)]; exact r8
  · rw [mu_ne (by omega), mu_s]
    simp only [joinF, mk_q, List.length_append, List.length_cons, List.length_nil]
    omega
  · rw [mu_ne (by omega), mu_j (by decide), mu_ne (by omega)]; exact r10
  · intro j p hj
    simp only [joinF, mk_q] at hj
    rw [mu_ne (by omega), mu_ne (by omega)]
    by_cases c1 : j < (tQ T).length
    · rw [List.getElem?_append_left c1] at hj
      rw [mu_j (by omega)]
      exact rq j p hj
    · have hj2 := (List.getElem?_eq_some_iff.mp hj).1
      simp only [List.length_append, List.length_cons, List.length_nil] at hj2
      obtain rfl : j = (tQ T).length := by omega
      rw [List.getElem?_append_right (Nat.le_refl _), Nat.sub_self] at hj
      cases hj
      rw [← r9, mu_s]
  · intro p hp
    obtain ⟨f2, f3, f4, f5⟩ := rp p hp
    simp only [joinF, mk_b, mk_w, mk_s, mk_o]
    refine ⟨by rw [mu_ne (by omega), mu_ne (by omega), mu_ne (by omega)]; exact f2, ?_, by rw [mu_ne (by omega), mu_ne (by omega), mu_ne (by omega)]; exact f4, by rw [mu_ne (by omega), mu_ne (by omega), mu_ne (by omega)]; exact f5⟩
    by_cases e : p = x
    · subst e; rw [mu_s, up_s]
    · rw [mu_j e, up_n _ _ e, mu_ne (by omega), mu_ne (by omega)]; exact f3

theorem l_73 {d : Nat} {M0 : Mem} {Q : Option Vv → Mem → Prop} {a rm : Nat} {K : Kt} {m : Int} {T : Tt} (ht : Tw a 20 rm) (hrm : 16 + m ≤ (rm : Int) ∧ (rm : Int) ≤ 28) (hKo : KOk K m) (hT : TOk K m T) (ha : 24 < a) (hK : RepK M0 20 K m) (kk : ∀ M', RepC M' a K m (tellF K T) → OutT M0 M' a → Q none M') : ∀ (f : Nat) (k : Int) (M : Mem) (x2 : Option Vv) (x3 : Option Vv), (-1 ≤ k ∧ k < (tQ T).length ∧ (k = -1 → (tQ T).length = 0)) → (RepC M a K m (tellP K T (k + 1).toNat (tQ T).length)) → (OutT M0 M a) → (k + 1).toNat < f → Ok (d + 1) 73 7 [some (vR (some a)), some (vI k), x2, x3] [] M Q := by
  intro f
  induction f with
  | zero => intro k M x2 x3 hk hM ho hf; exact absurd hf (Nat.not_lt_zero _)
  | succ f ih =>
    intro k M x2 x3 hk hM ho hf
    have hK1 := hK.out ho (by omega)
    obtain ⟨⟨g1, g2, g3, g4, g5, g6, g7, g8⟩, hKp⟩ := id hKo
    obtain ⟨r6, r7, r8, r9, r10, rq, rp⟩ := id hM
    obtain ⟨u1, u2, u3, u4, u5, u6, u7⟩ := id hT
    refine k_iload_n i_73_7 rfl ?_
    refine k_if_le (t := 78) i_73_8 rfl (fun h8 => ?_) (fun h8 => ?_)
    · refine k_vret i_73_78 rfl ?_
      refine kk M ?_ ho
      rcases (show k = 0 ∨ k = -1 by omega) with rfl | rfl
      · exact hM
      · have e := tellP_0 (K := K) (hk.2.2 rfl) (-1 + 1 : Int).toNat 1
        rw [e] at hM
        exact hM
    · refine k_aload_n i_73_11 rfl ?_
      refine k_getR (r := (a + 1)) i_73_12 o_73 rfl (by decide) (ht.1) rfl ?_
      refine k_iload_n i_73_15 rfl ?_
      refine k_iconst i_73_16 (by decide) ?_
      refine k_isub i_73_17 (by omega) ?_
      refine k_iald i_73_18 (ht.2.1) (by omega) ?_
      obtain ⟨fo, hfo0⟩ : ∃ z : Int, z = M (a + 1) (k - 1) := ⟨_, rfl⟩
      rw [← hfo0]
      have hfo : fo = (tQ T).getD (k - 1).toNat 0 := hfo0.trans (hM.q (by omega) (by show k - 1 < ((tQ T).length : Int); omega))
      have hva1 : Va K m fo := by rw [hfo]; exact hT.va (q_mem (by omega))
      have hv1 : (0 ≤ fo ∧ fo < kPe K) ∨ (16 ≤ fo ∧ fo < 16 + m) := hva1
      refine k_istore_n (ls' := [some (vR (some a)), some (vI k), some (vI fo), x3]) i_73_19 rfl ?_
      refine k_aload_n i_73_20 rfl ?_
      refine k_iload_n i_73_21 rfl ?_
      refine k_invV (n := 1) (o' := 6) (av := [vR (some a), vI fo]) (rest := []) (el := [some (vR (some a)), some (vI fo)]) i_73_22 o_73 rfl v_63 rfl (ht.1) rfl rfl rfl rfl rfl ?_
      refine c_63 ht hrm hKo hK1 hM.p hva1 (fun wd hwd => ?_)
      show Ok _ 73 25 [some (vR (some a)), some (vI k), some (vI fo), x3] [vI wd] (M) _
      refine k_istore_n (ls' := [some (vR (some a)), some (vI k), some (vI fo), some (vI wd)]) i_73_25 rfl ?_
      have hwb : wd = bel K T fo := by
        rw [hwd]
        unfold bel
        rw [show tB (tellP K T (k + 1).toNat (tQ T).length) fo = tB T fo by rw [hfo]; exact tellB_lo hT.1 (by omega) (by omega)]
        rfl
      refine k_iload_n i_73_26 rfl ?_
      refine k_if_eq (t := 72) i_73_27 rfl (fun h27 => ?_) (fun h27 => ?_)
      · refine k_iinc (ls' := [some (vR (some a)), some (vI (k + (-1))), some (vI fo), some (vI wd)]) i_73_72 rfl (by omega) rfl ?_
        refine k_goto (t := 7) i_73_75 rfl ?_
        have e9 : tellP K T k.toNat (tQ T).length = tellP K T (k + 1).toNat (tQ T).length := by
          rw [show (k + 1).toNat = k.toNat + 1 by omega]
          refine tellP_skip hT.1 (by omega) (fun q => ?_)
          rw [show k.toNat - 1 = (k - 1).toNat by omega, ← hfo] at q
          first | (rw [← hx] at q; unfold takes at q; omega) | omega
        rw [← e9] at hM
        rw [show k = k + -1 + 1 by omega] at hM
        exact ih (k + -1) _ _ _ (by omega) hM ho (by omega)
      · refine k_aload_n i_73_30 rfl ?_
        refine k_aload_n i_73_31 rfl ?_
        refine k_getR (r := (a + 1)) i_73_32 o_73 rfl (by decide) (ht.1) rfl ?_
        refine k_iload_n i_73_35 rfl ?_
        refine k_iald i_73_36 (ht.2.1) (by omega) ?_
        obtain ⟨x, hx0⟩ : ∃ z : Int, z = M (a + 1) k := ⟨_, rfl⟩
        rw [← hx0]
        have hx : x = (tQ T).getD k.toNat 0 := hx0.trans (hM.q (by omega) (by show k < ((tQ T).length : Int); omega))
        have hva2 : Va K m x := by rw [hx]; exact hT.va (q_mem (by omega))
        have hv2 : (0 ≤ x ∧ x < kPe K) ∨ (16 ≤ x ∧ x < 16 + m) := hva2
        refine k_invV (n := 1) (o' := 6) (av := [vR (some a), vI x]) (rest := []) (el := [some (vR (some a)), some (vI x), none]) i_73_37 o_73 rfl v_74 rfl (ht.1) rfl rfl rfl rfl rfl ?_
        refine c_74 ht hrm hKo hK1 hM.p hva2 (fun tk htk => ?_)
        show Ok _ 73 40 [some (vR (some a)), some (vI k), some (vI fo), some (vI wd)] [vI tk] (M) _
        have hbx : tB (tellP K T (k + 1).toNat (tQ T).length) x = tB T x := by rw [hx]; exact tellB_lo hT.1 (by omega) (by omega)
        have htk2 : (tk = 1 ∧ takes K T x) ∨ (tk = 0 ∧ ¬ takes K T x) := by
          unfold takes at htk ⊢
          rw [hbx] at htk
          exact htk
        unfold takes at htk2
        refine k_if_eq (t := 72) i_73_40 rfl (fun h40 => ?_) (fun h40 => ?_)
        · refine k_iinc (ls' := [some (vR (some a)), some (vI (k + (-1))), some (vI fo), some (vI wd)]) i_73_72 rfl (by omega) rfl ?_
          refine k_goto (t := 7) i_73_75 rfl ?_
          have e9 : tellP K T k.toNat (tQ T).length = tellP K T (k + 1).toNat (tQ T).length := by
            rw [show (k + 1).toNat = k.toNat + 1 by omega]
            refine tellP_skip hT.1 (by omega) (fun q => ?_)
            rw [show k.toNat - 1 = (k - 1).toNat by omega, ← hfo] at q
            first | (rw [← hx] at q; unfold takes at q; omega) | omega
          rw [← e9] at hM
          rw [show k = k + -1 + 1 by omega] at hM
          exact ih (k + -1) _ _ _ (by omega) hM ho (by omega)
        · refine k_aload_n i_73_43 rfl ?_
          refine k_getR (r := (a + 2)) i_73_44 o_73 rfl (by decide) (ht.1) rfl ?_
          refine k_aload_n i_73_47 rfl ?_
          refine k_getR (r := (a + 1)) i_73_48 o_73 rfl (by decide) (ht.1) rfl ?_
          refine k_iload_n i_73_51 rfl ?_
          refine k_iald i_73_52 (ht.2.1) (by omega) ?_
          rw [show M (a + 1) k = x from hx0.symm]
          refine k_iload_n i_73_53 rfl ?_
          refine k_iast i_73_54 (ht.2.2.1) (by omega) ?_
          refine k_aload_n i_73_55 rfl ?_
          refine k_getR (r := (a + 5)) i_73_56 o_73 rfl (by decide) (ht.1) rfl ?_
          refine k_aload_n i_73_59 rfl ?_
          refine k_getR (r := (a + 1)) i_73_60 o_73 rfl (by decide) (ht.1) rfl ?_
          refine k_iload_n i_73_63 rfl ?_
          refine k_iald i_73_64 (ht.2.1) (by omega) ?_
          rw [mu_ne (M := M) (a := (a + 2)) (b := (a + 1)) (i := x) (x := wd) (by omega)]
          rw [show M (a + 1) k = x from hx0.symm]
          refine k_aload_n i_73_65 rfl ?_
          refine k_getR (r := (a + 5)) i_73_66 o_73 rfl (by decide) (ht.1) rfl ?_
          refine k_iload_n i_73_69 rfl ?_
          refine k_iald i_73_70 (ht.2.2.2.2.2) (by omega) ?_
          rw [mu_ne (M := M) (a := (a + 2)) (b := (a + 5)) (i := x) (x := wd) (by omega)]
          refine k_iast i_73_71 (ht.2.2.2.2.2) (by omega) ?_
          refine k_iinc (ls' := [some (vR (some a)), some (vI (k + (-1))), some (vI fo), some (vI wd)]) i_73_72 rfl (by omega) rfl ?_
          refine k_goto (t := 7) i_73_75 rfl ?_
          refine ih (k + -1) _ _ _ (by omega) ?_ ((ho.mu (by omega)).mu (by omega)) (by omega)
          rw [show k + -1 + 1 = k by omega]
          have hnx : fo ≠ x := by
            rw [hfo, hx]
            intro q
            have q1 := q_idx hT.1 (i := (k - 1).toNat) (by omega)
            rw [q, q_idx hT.1 (by omega)] at q1
            omega
          have hhr : hrs K T k.toNat (tQ T).length x := by
            rw [hx]
            refine (hrs_x hT.1 (by omega)).mpr ?_
            rw [show k.toNat - 1 = (k - 1).toNat by omega, ← hfo, ← hx]
            omega
          have hfx : fore T x = fo := by rw [hx, fore_x hT.1 (by omega), hfo, show k.toNat - 1 = (k - 1).toNat by omega]
          obtain ⟨f2, f3, f4, f5⟩ := rp fo hva1
          refine ⟨?_, ?_, ?_, ?_, ?_, ?_, ?_⟩
          · rw [mu_ne (by omega), mu_ne (by omega)]; exact r6
          · rw [mu_ne (by omega), mu_ne (by omega)]; exact r7
          · rw [mu_ne (by omega), mu_ne (by omega)]; exact r8
          · rw [mu_ne (by omega), mu_ne (by omega)]; exact r9
          · rw [mu_ne (by omega), mu_ne (by omega)]; exact r10
          · intro j p hj; rw [mu_ne (by omega), mu_ne (by omega)]; exact rq j p hj
          · intro p hp
            obtain ⟨s2, s3, s4, s5⟩ := rp p hp
            refine ⟨?_, by rw [mu_ne (by omega), mu_ne (by omega)]; exact s3, by rw [mu_ne (by omega), mu_ne (by omega)]; exact s4, ?_⟩
            · rw [mu_ne (by omega)]
              by_cases e : p = x
              · subst e
                rw [mu_s]
                show wd = tellB K T k.toNat (tQ T).length p
                unfold tellB
                rw [if_pos hhr, hfx, hwb]
              · rw [mu_j e, s2]
                show tellB K T (k + 1).toNat (tQ T).length p = tellB K T k.toNat (tQ T).length p
                rw [show (k + 1).toNat = k.toNat + 1 by omega]
                exact (tellB_ne hT.1 (by rw [← hx]; exact e)).symm
            · by_cases e : p = x
              · subst e
                rw [mu_s, f5]
                show tellO K T (k + 1).toNat (tQ T).length fo = tellO K T k.toNat (tQ T).length p
                rw [hfo, tellO_lo hT.1 (by omega) (by omega), ← hfo]
                unfold tellO
                rw [if_pos hhr, hfx]
              · rw [mu_j e, mu_ne (by omega), s5]
                show tellO K T (k + 1).toNat (tQ T).length p = tellO K T k.toNat (tQ T).length p
                rw [show (k + 1).toNat = k.toNat + 1 by omega]
                exact (tellO_ne hT.1 (by rw [← hx]; exact e)).symm

/-- ElbowQueue$Town.tellOn -/
theorem c_73 {d : Nat} {M : Mem} {Q : Option Vv → Mem → Prop} {a rm : Nat} {K : Kt} {m : Int} {T : Tt} (ht : Tw a 20 rm) (hrm : 16 + m ≤ (rm : Int) ∧ (rm : Int) ≤ 28) (hKo : KOk K m) (hK : RepK M 20 K m) (hR : RepC M a K m T) (hT : TOk K m T) (ha : 24 < a) (k : ∀ M', RepC M' a K m (tellF K T) → OutT M M' a → Q none M') : Ok (d + 1) 73 0 [some (vR (some a)), none, none, none] [] M Q := by
  obtain ⟨r6, r7, r8, r9, r10, rq, rp⟩ := id hR
  obtain ⟨u1, u2, u3, u4, u5, u6, u7⟩ := id hT
  obtain ⟨⟨g1, g2, g3, g4, g5, g6, g7, g8⟩, hKp⟩ := id hKo
  refine k_aload_n i_73_0 rfl ?_
  refine k_getI (kz := 9) i_73_1 o_73 rfl (by decide) (ht.1) rfl ?_
  refine k_iconst i_73_4 (by decide) ?_
  refine k_isub i_73_5 (by omega) ?_
  refine k_istore_n (ls' := [some (vR (some a)), some (vI ((M a 9) - 1)), none, none]) i_73_6 rfl ?_
  refine l_73 ht hrm hKo hT ha hK k ((M a 9 - 1 + 1).toNat + 1) (M a 9 - 1) M _ _ (by omega) ?_ (OutT.rf M a) (by omega)
  rw [tellP_n (by omega), mk_eta]
  exact hR
