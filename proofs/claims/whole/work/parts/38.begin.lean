def begF (K : Kt) (B : Int → Int) (ca se : Int) : Tt := mkT ((List.range (kWt K).toNat).map (fun n : Nat => (n : Int))) (fun p => if p < kWt K then 1 else 0) (fun _ => 0) B (fun p => p) 0 ca se (kWt K)
/-- the first i people of a town that begins -/
def Beg (M : Mem) (a : Nat) (K : Kt) (B : Int → Int) (ca se i : Int) : Prop := M a 6 = 0 ∧ M a 7 = ca ∧ M a 8 = se ∧ M a 9 = (if i < kWt K then i else kWt K) ∧ M a 10 = kWt K ∧ (∀ j : Int, 0 ≤ j → j < i → j < kWt K → M (a + 1) j = j) ∧
  ∀ p : Int, 0 ≤ p → p < i → M (a + 2) p = B p ∧ M (a + 3) p = (if p < kWt K then 1 else 0) ∧ M (a + 4) p = 0 ∧ M (a + 5) p = p
theorem Beg.fin {M : Mem} {a : Nat} {K : Kt} {B : Int → Int} {ca se : Int} (hK : KOk K 0) (h : Beg M a K B ca se (kPe K)) : RepC M a K 0 (begF K B ca se) := by
  obtain ⟨⟨g1, g2, g3, g4, g5, g6, g7, g8⟩, -⟩ := id hK
  obtain ⟨h1, h2, h3, h4, h5, h6, h7⟩ := h
  refine ⟨h1, h2, h3, ?_, h5, ?_, ?_⟩
  · show _ = (((List.range (kWt K).toNat).map (fun n : Nat => (n : Int))).length : Int)
    rw [List.length_map, List.length_range, h4]
    split <;> omega
  · intro i p hi
    have hi2 : ((List.range (kWt K).toNat).map (fun n : Nat => (n : Int)))[i]? = some p := hi
    rw [List.getElem?_map] at hi2
    have hl : i < (kWt K).toNat := by
      have := (List.getElem?_eq_some_iff.mp hi).1
      rw [show tQ (begF K B ca se) = (List.range (kWt K).toNat).map (fun n : Nat => (n : Int)) from rfl, List.length_map, List.length_range] at this
      exact this
    rw [List.getElem?_range hl] at hi2
    obtain rfl : (i : Int) = p := by simpa using hi2
    exact h6 i (by omega) (by omega) (by omega)
  · intro p hp
    have hp2 : (0 ≤ p ∧ p < kPe K) ∨ (16 ≤ p ∧ p < 16 + 0) := hp
    exact h7 p (by omega) (by omega)
theorem TOk.beg {K : Kt} {B : Int → Int} {ca se : Int} (hK : KOk K 0) (hB : ∀ p, 0 ≤ p → p < kPe K → 0 ≤ B p ∧ B p ≤ 3) (hc : 0 ≤ ca ∧ ca ≤ 3) (hs : 0 ≤ se ∧ se ≤ 9) : TOk K 0 (begF K B ca se) := by
  obtain ⟨⟨g1, g2, g3, g4, g5, g6, g7, g8⟩, -⟩ := id hK
  have hm : ∀ p : Int, p ∈ tQ (begF K B ca se) ↔ 0 ≤ p ∧ p < kWt K := by
    intro p
    show p ∈ (List.range (kWt K).toNat).map (fun n : Nat => (n : Int)) ↔ _
    rw [List.mem_map]
    constructor
    · rintro ⟨n, hn, rfl⟩
      have := List.mem_range.mp hn
      omega
    · intro h
      exact ⟨p.toNat, List.mem_range.mpr (by omega), by omega⟩
  refine ⟨?_, ?_, ?_, ?_, ?_, ?_, ?_⟩
  · show ((List.range (kWt K).toNat).map (fun n : Nat => (n : Int))).Nodup
    exact List.Pairwise.map _ (fun a b h => by omega) (List.nodup_range)
  · intro p hp
    have := (hm p).mp hp
    exact Or.inl this
  · show 0 ≤ kWt K ∧ kWt K ≤ kPe K ∧ (((List.range (kWt K).toNat).map (fun n : Nat => (n : Int))).length : Int) ≤ kWt K + 0 ∧ (0 : Int) ≤ 0 ∧ (0 : Int) ≤ 100000 ∧ 0 ≤ ca ∧ ca ≤ 3 ∧ 0 ≤ se ∧ se ≤ 9
    rw [List.length_map, List.length_range]
    omega
  · intro p hp
    have hp2 : (0 ≤ p ∧ p < kPe K) ∨ (16 ≤ p ∧ p < 16 + 0) := hp
    have := hB p (by omega) (by omega)
    show (0 : Int) ≤ 0 ∧ (0 : Int) ≤ 0 ∧ 0 ≤ B p ∧ B p ≤ 3
    omega
  · intro p hp
    have hp2 : (0 ≤ p ∧ p < kPe K) ∨ (16 ≤ p ∧ p < 16 + 0) := hp
    rw [hm]
    show (if p < kWt K then (1 : Int) else 0) = 1 ↔ _
    split <;> omega
  · intro p hp hp2
    have hp3 : kWt K ≤ p := hp
    show (if p < kWt K then (1 : Int) else 0) = 0
    rw [if_neg (by omega)]
  · intro p hp hp2 hp3
    exact absurd ((hm p).mpr ⟨hp, hp2⟩) hp3

/-- ElbowQueue$Town.join -/
theorem c_81m {d : Nat} {M : Mem} {Q : Option Vv → Mem → Prop} {a rm : Nat} {x : Int} (ht : Tw a 20 rm) (hrm : (rm : Int) ≤ 28) (h9 : 0 ≤ M a 9 ∧ M a 9 < rm) (hx : 0 ≤ x ∧ x < rm) (k : Q none (mu (mu (mu M (a + 1) (M a 9) x) a 9 (M a 9 + 1)) (a + 3) x 1)) : Ok d 81 0 [some (vR (some a)), some (vI x)] [] M Q := by
  refine k_aload_n i_81_0 rfl ?_
  refine k_getI (kz := 9) i_81_1 o_81 rfl (by decide) (ht.1) rfl ?_
  refine k_aload_n i_81_4 rfl ?_
  refine k_getR (r := (a + 1)) i_81_5 o_81 rfl (by decide) (ht.1) rfl ?_
  refine k_alen (z := rm) i_81_8 (ht.2.1) (by omega) rfl ?_
  refine k_icmp_ge (t := 39) i_81_9 rfl (fun h9_1 => absurd h9_1 (by omega)) (fun h9_1 => ?_)
  refine k_aload_n i_81_12 rfl ?_
  refine k_getR (r := (a + 1)) i_81_13 o_81 rfl (by decide) (ht.1) rfl ?_
  refine k_aload_n i_81_16 rfl ?_
  refine k_getI (kz := 9) i_81_17 o_81 rfl (by decide) (ht.1) rfl ?_
  refine k_iload_n i_81_20 rfl ?_
  refine k_iast i_81_21 (ht.2.1) (by omega) ?_
  refine k_aload_n i_81_22 rfl ?_
  refine k_dupR i_81_23 ?_
  refine k_getI (kz := 9) i_81_24 o_81 rfl (by decide) (ht.1) rfl ?_
  rw [mu_ne (M := M) (a := (a + 1)) (b := a) (i := M a 9) (x := x) (by omega)]
  refine k_iconst i_81_27 (by decide) ?_
  refine k_iadd i_81_28 (by omega) ?_
  refine k_putI (kz := 9) i_81_29 o_81 rfl (by decide) (ht.1) rfl ?_
  refine k_aload_n i_81_32 rfl ?_
  refine k_getR (r := (a + 3)) i_81_33 o_81 rfl (by decide) (ht.1) rfl ?_
  refine k_iload_n i_81_36 rfl ?_
  refine k_iconst i_81_37 (by decide) ?_
  refine k_iast i_81_38 (ht.2.2.2.1) (by omega) ?_
  refine k_vret i_81_39 rfl ?_
  exact k

theorem l_61 {d : Nat} {M0 : Mem} {Q : Option Vv → Mem → Prop} {a : Nat} {K : Kt} {B : Int → Int} {ca se : Int} (ht : Tw a 20 16) (hKo : KOk K 0) (ha : 24 < a) (hK : RepK M0 20 K 0) (hB0 : ∀ p : Int, 0 ≤ p → p < kPe K → M0 23 p = B p) (kk : ∀ M', RepC M' a K 0 (begF K B ca se) → OutT M0 M' a → Q none M') : ∀ (f : Nat) (i : Int) (M : Mem), (0 ≤ i ∧ i ≤ kPe K) → (Beg M a K B ca se i) → (OutT M0 M a) → (kPe K - i).toNat < f → Ok (d + 1) 61 45 [some (vR (some a)), some (vI i)] [] M Q := by
  intro f
  induction f with
  | zero => intro i M hi hb ho hf; exact absurd hf (Nat.not_lt_zero _)
  | succ f ih =>
    intro i M hi hb ho hf
    obtain ⟨⟨g1, g2, g3, g4, g5, g6, g7, g8⟩, hKp⟩ := id hKo
    obtain ⟨b1, b2, b3, b4, b5, b6, b7⟩ := id hb
    have hK1 := hK.out ho (by omega)
    have k1 : M 20 7 = kPe K := hK1.1
    have k2 : M 20 6 = kWt K := hK1.2.1
    have hB : ∀ p : Int, 0 ≤ p → p < kPe K → M 23 p = B p := fun p h0 h1 => by rw [ho _ _ (by omega)]; exact hB0 p h0 h1
    refine k_iload_n i_61_45 rfl ?_
    refine k_aload_n i_61_46 rfl ?_
    refine k_getR (r := 20) i_61_47 o_61 rfl (by decide) (ht.1) rfl ?_
    refine k_getI (kz := 7) i_61_50 o_61 rfl (by decide) (s_20) rfl ?_
    refine k_icmp_ge (t := 114) i_61_53 rfl (fun h53 => ?_) (fun h53 => ?_)
    · refine k_vret i_61_114 rfl ?_
      obtain rfl : i = kPe K := by omega
      exact kk M (Beg.fin hKo hb) ho
    · refine k_aload_n i_61_56 rfl ?_
      refine k_getR (r := (a + 3)) i_61_57 o_61 rfl (by decide) (ht.1) rfl ?_
      refine k_iload_n i_61_60 rfl ?_
      refine k_iconst i_61_61 (by decide) ?_
      refine k_iast i_61_62 (ht.2.2.2.1) (by omega) ?_
      refine k_aload_n i_61_63 rfl ?_
      refine k_getR (r := (a + 4)) i_61_64 o_61 rfl (by decide) (ht.1) rfl ?_
      refine k_iload_n i_61_67 rfl ?_
      refine k_iconst i_61_68 (by decide) ?_
      refine k_iast i_61_69 (ht.2.2.2.2.1) (by omega) ?_
      refine k_aload_n i_61_70 rfl ?_
      refine k_getR (r := (a + 2)) i_61_71 o_61 rfl (by decide) (ht.1) rfl ?_
      refine k_iload_n i_61_74 rfl ?_
      refine k_aload_n i_61_75 rfl ?_
      refine k_getR (r := 20) i_61_76 o_61 rfl (by decide) (ht.1) rfl ?_
      refine k_getR (r := 23) i_61_79 o_61 rfl (by decide) (s_20) rfl ?_
      refine k_iload_n i_61_82 rfl ?_
      refine k_iald i_61_83 (s_23) (by omega) ?_
      rw [mu_ne (M := mu M (a + 3) (i) (0)) (a := (a + 4)) (b := 23) (i := i) (x := 0) (by omega)]
      rw [mu_ne (M := M) (a := (a + 3)) (b := 23) (i := i) (x := 0) (by omega)]
      refine k_iast i_61_84 (ht.2.2.1) (by omega) ?_
      refine k_aload_n i_61_85 rfl ?_
      refine k_getR (r := (a + 5)) i_61_86 o_61 rfl (by decide) (ht.1) rfl ?_
      refine k_iload_n i_61_89 rfl ?_
      refine k_iload_n i_61_90 rfl ?_
      refine k_iast i_61_91 (ht.2.2.2.2.2) (by omega) ?_
      refine k_iload_n i_61_92 rfl ?_
      refine k_aload_n i_61_93 rfl ?_
      refine k_getR (r := 20) i_61_94 o_61 rfl (by decide) (ht.1) rfl ?_
      refine k_getI (kz := 6) i_61_97 o_61 rfl (by decide) (s_20) rfl ?_
      rw [mu_ne (M := mu (mu (mu M (a + 3) (i) (0)) (a + 4) (i) (0)) (a + 2) (i) (M 23 i)) (a := (a + 5)) (b := 20) (i := i) (x := i) (by omega)]
      rw [mu_ne (M := mu (mu M (a + 3) (i) (0)) (a + 4) (i) (0)) (a := (a + 2)) (b := 20) (i := i) (x := M 23 i) (by omega)]
      rw [mu_ne (M := mu M (a + 3) (i) (0)) (a := (a + 4)) (b := 20) (i := i) (x := 0) (by omega)]
      rw [mu_ne (M := M) (a := (a + 3)) (b := 20) (i := i) (x := 0) (by omega)]
      refine k_icmp_ge (t := 108) i_61_100 rfl (fun h100 => ?_) (fun h100 => ?_)
      · refine k_iinc (ls' := [some (vR (some a)), some (vI (i + 1))]) i_61_108 rfl (by omega) rfl ?_
        refine k_goto (t := 45) i_61_111 rfl ?_
        have e9 : (mu (mu (mu (mu M (a + 3) i 0) (a + 4) i 0) (a + 2) i (M 23 i)) (a + 5) i i) a 9 = (if i < kWt K then i else kWt K) := by rw [mu_ne (by omega), mu_ne (by omega), mu_ne (by omega), mu_ne (by omega)]; exact b4
        refine ih (i + 1) _ (by omega) ⟨?_, ?_, ?_, ?_, ?_, ?_, ?_⟩ ?_ (by omega)
        · repeat rw [mu_ne (by omega)]
          
          repeat rw [mu_ne (by omega)]
          exact b1
        · repeat rw [mu_ne (by omega)]
          
          repeat rw [mu_ne (by omega)]
          exact b2
        · repeat rw [mu_ne (by omega)]
          
          repeat rw [mu_ne (by omega)]
          exact b3
        · rw [e9]
          split <;> split <;> omega
        · repeat rw [mu_ne (by omega)]
          
          repeat rw [mu_ne (by omega)]
          exact b5
        · intro j hj0 hj1 hj2
          
          repeat rw [mu_ne (by omega)]
          exact b6 j hj0 (by omega) hj2
        · intro p hp0 hp1
          by_cases e : p = i
          · subst e
            refine ⟨?_, ?_, ?_, ?_⟩
            · repeat rw [mu_ne (by omega)]
              rw [mu_s]; exact hB p (by omega) (by omega)
            · rw [mu_ne (by omega), mu_ne (by omega), mu_ne (by omega), mu_s, if_neg (by omega)]
            · repeat rw [mu_ne (by omega)]
              rw [mu_s]
            · repeat rw [mu_ne (by omega)]
              rw [mu_s]
          · obtain ⟨f2, f3, f4, f5⟩ := b7 p hp0 (by omega)
            refine ⟨?_, ?_, ?_, ?_⟩
            all_goals (repeat (first | rw [mu_j e] | rw [mu_ne (by omega)]))
            · exact f2
            · exact f3
            · exact f4
            · exact f5
        · exact ((((ho.mu (by omega)).mu (by omega)).mu (by omega)).mu (by omega))
      · refine k_aload_n i_61_103 rfl ?_
        have e90 : (mu (mu (mu (mu M (a + 3) (i) (0)) (a + 4) (i) (0)) (a + 2) (i) (M 23 i)) (a + 5) (i) (i)) a 9 = i := by rw [mu_ne (by omega), mu_ne (by omega), mu_ne (by omega), mu_ne (by omega), b4, if_pos (by omega)]
        refine k_iload_n i_61_104 rfl ?_
        refine k_invV (n := 1) (o' := 6) (av := [vR (some a), vI i]) (rest := []) (el := [some (vR (some a)), some (vI i)]) i_61_105 o_61 rfl v_81 rfl (ht.1) rfl rfl rfl rfl rfl ?_
        refine c_81m (rm := 16) ht (by omega) (by omega) (by omega) ?_
        show Ok _ 61 108 [some (vR (some a)), some (vI i)] [] (mu (mu (mu (mu (mu (mu (mu M (a + 3) (i) (0)) (a + 4) (i) (0)) (a + 2) (i) (M 23 i)) (a + 5) (i) (i)) (a + 1) ((mu (mu (mu (mu M (a + 3) (i) (0)) (a + 4) (i) (0)) (a + 2) (i) (M 23 i)) (a + 5) (i) (i)) a 9) i) a 9 ((mu (mu (mu (mu M (a + 3) (i) (0)) (a + 4) (i) (0)) (a + 2) (i) (M 23 i)) (a + 5) (i) (i)) a 9 + 1)) (a + 3) i 1) _
        refine k_iinc (ls' := [some (vR (some a)), some (vI (i + 1))]) i_61_108 rfl (by omega) rfl ?_
        refine k_goto (t := 45) i_61_111 rfl ?_
        have e9 : (mu (mu (mu (mu M (a + 3) i 0) (a + 4) i 0) (a + 2) i (M 23 i)) (a + 5) i i) a 9 = (if i < kWt K then i else kWt K) := by rw [mu_ne (by omega), mu_ne (by omega), mu_ne (by omega), mu_ne (by omega)]; exact b4
        refine ih (i + 1) _ (by omega) ⟨?_, ?_, ?_, ?_, ?_, ?_, ?_⟩ ?_ (by omega)
        · repeat rw [mu_ne (by omega)]
          rw [mu_j (by decide)]
          repeat rw [mu_ne (by omega)]
          exact b1
        · repeat rw [mu_ne (by omega)]
          rw [mu_j (by decide)]
          repeat rw [mu_ne (by omega)]
          exact b2
        · repeat rw [mu_ne (by omega)]
          rw [mu_j (by decide)]
          repeat rw [mu_ne (by omega)]
          exact b3
        · rw [mu_ne (by omega), mu_s, e9]
          split <;> split <;> omega
        · repeat rw [mu_ne (by omega)]
          rw [mu_j (by decide)]
          repeat rw [mu_ne (by omega)]
          exact b5
        · intro j hj0 hj1 hj2
          rw [mu_ne (by omega), mu_ne (by omega), e9, if_pos (by omega)]
          by_cases e : j = i
          · subst e; rw [mu_s]
          · rw [mu_j e]
            repeat rw [mu_ne (by omega)]
            exact b6 j hj0 (by omega) hj2
        · intro p hp0 hp1
          by_cases e : p = i
          · subst e
            refine ⟨?_, ?_, ?_, ?_⟩
            · repeat rw [mu_ne (by omega)]
              rw [mu_s]; exact hB p (by omega) (by omega)
            · rw [mu_s, if_pos (by omega)]
            · repeat rw [mu_ne (by omega)]
              rw [mu_s]
            · repeat rw [mu_ne (by omega)]
              rw [mu_s]
          · obtain ⟨f2, f3, f4, f5⟩ := b7 p hp0 (by omega)
            refine ⟨?_, ?_, ?_, ?_⟩
            all_goals (repeat (first | rw [mu_j e] | rw [mu_ne (by omega)]))
            · exact f2
            · exact f3
            · exact f4
            · exact f5
        · exact (((((((ho.mu (by omega)).mu (by omega)).mu (by omega)).mu (by omega)).mu (by omega)).mu (by omega)).mu (by omega))

/-- ElbowQueue$Town.begin -/
theorem c_61 {d : Nat} {M : Mem} {Q : Option Vv → Mem → Prop} {a : Nat} {K : Kt} {B : Int → Int} (ht : Tw a 20 16) (hKo : KOk K 0) (ha : 24 < a) (hK : RepK M 20 K 0) (hB0 : ∀ p : Int, 0 ≤ p → p < kPe K → M 23 p = B p) (kk : ∀ M', RepC M' a K 0 (begF K B (M 20 4) (M 20 5)) → OutT M M' a → Q none M') : Ok (d + 1) 61 0 [some (vR (some a)), none] [] M Q := by
  have k1 : M 20 7 = kPe K := hK.1
  have k2 : M 20 6 = kWt K := hK.2.1
  obtain ⟨⟨g1, g2, g3, g4, g5, g6, g7, g8⟩, hKp⟩ := id hKo
  refine k_aload_n i_61_0 rfl ?_
  refine k_iconst i_61_1 (by decide) ?_
  refine k_putI (kz := 6) i_61_2 o_61 rfl (by decide) (ht.1) rfl ?_
  refine k_aload_n i_61_5 rfl ?_
  refine k_aload_n i_61_6 rfl ?_
  refine k_getR (r := 20) i_61_7 o_61 rfl (by decide) (ht.1) rfl ?_
  refine k_getI (kz := 4) i_61_10 o_61 rfl (by decide) (s_20) rfl ?_
  rw [mu_ne (M := M) (a := a) (b := 20) (i := 6) (x := 0) (by omega)]
  refine k_putI (kz := 7) i_61_13 o_61 rfl (by decide) (ht.1) rfl ?_
  refine k_aload_n i_61_16 rfl ?_
  refine k_aload_n i_61_17 rfl ?_
  refine k_getR (r := 20) i_61_18 o_61 rfl (by decide) (ht.1) rfl ?_
  refine k_getI (kz := 5) i_61_21 o_61 rfl (by decide) (s_20) rfl ?_
  rw [mu_ne (M := mu M a (6) (0)) (a := a) (b := 20) (i := 7) (x := M 20 4) (by omega)]
  rw [mu_ne (M := M) (a := a) (b := 20) (i := 6) (x := 0) (by omega)]
  refine k_putI (kz := 8) i_61_24 o_61 rfl (by decide) (ht.1) rfl ?_
  refine k_aload_n i_61_27 rfl ?_
  refine k_iconst i_61_28 (by decide) ?_
  refine k_putI (kz := 9) i_61_29 o_61 rfl (by decide) (ht.1) rfl ?_
  refine k_aload_n i_61_32 rfl ?_
  refine k_aload_n i_61_33 rfl ?_
  refine k_getR (r := 20) i_61_34 o_61 rfl (by decide) (ht.1) rfl ?_
  refine k_getI (kz := 6) i_61_37 o_61 rfl (by decide) (s_20) rfl ?_
  rw [mu_ne (M := mu (mu (mu M a (6) (0)) a (7) (M 20 4)) a (8) (M 20 5)) (a := a) (b := 20) (i := 9) (x := 0) (by omega)]
  rw [mu_ne (M := mu (mu M a (6) (0)) a (7) (M 20 4)) (a := a) (b := 20) (i := 8) (x := M 20 5) (by omega)]
  rw [mu_ne (M := mu M a (6) (0)) (a := a) (b := 20) (i := 7) (x := M 20 4) (by omega)]
  rw [mu_ne (M := M) (a := a) (b := 20) (i := 6) (x := 0) (by omega)]
  refine k_putI (kz := 10) i_61_40 o_61 rfl (by decide) (ht.1) rfl ?_
  refine k_iconst i_61_43 (by decide) ?_
  refine k_istore_n (ls' := [some (vR (some a)), some (vI 0)]) i_61_44 rfl ?_
  refine l_61 ht hKo ha hK hB0 kk ((kPe K).toNat + 1) 0 _ (by omega) ⟨?_, ?_, ?_, ?_, ?_, fun j h0 h1 _ => by omega, fun p h0 h1 => by omega⟩ (((((((OutT.rf M a).mu (by omega)).mu (by omega)).mu (by omega)).mu (by omega)).mu (by omega))) (by omega)
  · rw [mu_j (by decide), mu_j (by decide), mu_j (by decide), mu_j (by decide), mu_s]
  · rw [mu_j (by decide), mu_j (by decide), mu_j (by decide), mu_s]
  · rw [mu_j (by decide), mu_j (by decide), mu_s]
  · rw [mu_j (by decide), mu_s]; split <;> omega
  · rw [mu_s]; exact k2
