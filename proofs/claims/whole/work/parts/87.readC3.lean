theorem wl_len (B : Int → Int) (k : Nat) : ∀ (s : Sp) (l : List Pn), (wl B k s l).2.length ≤ l.length + k ∧ l.length ≤ (wl B k s l).2.length := by
  induction k with
  | zero =>
    intro s l
    unfold wl
    split <;> exact ⟨Nat.le_refl _, Nat.le_refl _⟩
  | succ k ih =>
    intro s l
    unfold wl
    split
    · have q := ih (wtS B s.1) (l ++ [wtP B s.1])
      rw [List.length_append, List.length_singleton] at q
      omega
    · exact ⟨Nat.le_add_right _ _, Nat.le_refl _⟩
theorem pl_len (B : Int → Int) (k : Nat) : ∀ (s : Sp) (l : List Pn), (pl B k s l).2.length ≤ l.length + k ∧ l.length ≤ (pl B k s l).2.length := by
  induction k with
  | zero =>
    intro s l
    unfold pl
    split <;> exact ⟨Nat.le_refl _, Nat.le_refl _⟩
  | succ k ih =>
    intro s l
    unfold pl
    split
    · have q := ih (psS B s.1) (l ++ [psP B s.1])
      rw [List.length_append, List.length_singleton] at q
      omega
    · exact ⟨Nat.le_add_right _ _, Nat.le_refl _⟩
def rdW (B : Int → Int) : Sp × List Pn := wl B 8 (rd4 B) []
def rdR (B : Int → Int) : Sp × List Pn := pl B 8 (rdW B).1 (rdW B).2

set_option maxRecDepth 100000 in
/-- ElbowQueue$Reader.read -/
theorem c_34 {d : Nat} {M : Mem} {Q : Option Vv → Mem → Prop} {len : Int} {tp : Int → Int} (h1 : M 13 1 = len) (h2 : ∀ i : Int, 0 ≤ i → i < len → M 14 i = tp i) (hl : 0 ≤ len ∧ len ≤ 160) (ht : TpB len tp) (kk : ∀ M', DR M' (rdR (bt len tp)).2 → M' 15 4 = nuV (bt len tp) 3 (rd0 (bt len tp)) → M' 15 5 = nuV (bt len tp) 9 (rd2 (bt len tp)) → M' 15 6 = ((rdW (bt len tp)).2.length : Int) → M' 13 2 = (rdR (bt len tp)).1.1 → M' 13 1 = 0 → (0 ≤ (rdR (bt len tp)).1.1 ∧ (rdR (bt len tp)).1.1 ≤ len) → (∀ (b : Nat) (j : Int), ¬ (b = 13 ∧ 1 ≤ j ∧ j ≤ 3) → ¬ (15 ≤ b ∧ b ≤ 19) → M' b j = M b j) → Q (some (vI (fiS len (rdR (bt len tp)).1).2)) M') : Ok (d + 3) 34 0 [some (vR (some 13)), some (vR (some 15))] [] M Q := by
  refine k_aload_n i_34_0 rfl ?_
  refine k_iconst i_34_1 (by decide) ?_
  refine k_putI (kz := 2) i_34_2 o_34 rfl (by decide) (s_13) rfl ?_
  refine k_aload_n i_34_5 rfl ?_
  refine k_iconst i_34_6 (by decide) ?_
  refine k_putI (kz := 3) i_34_7 o_34 rfl (by decide) (s_13) rfl ?_
  refine k_aload_n i_34_10 rfl ?_
  refine k_invV (n := 0) (o' := 5) (av := [vR (some 15)]) (rest := []) (el := [some (vR (some 15))]) i_34_11 o_34 rfl v_57 rfl (s_15) rfl rfl rfl rfl rfl ?_
  refine c_57 td_15 ?_
  show Ok _ 34 14 [some (vR (some 13)), some (vR (some 15))] [] (mu (mu (mu (mu (mu (mu M 13 (2) (0)) 13 (3) (0)) 15 4 0) 15 5 0) 15 6 0) 15 7 0) _
  obtain ⟨N0, eN0⟩ : ∃ z : Mem, z = mu (mu (mu (mu (mu (mu M 13 (2) (0)) 13 (3) (0)) 15 4 0) 15 5 0) 15 6 0) 15 7 0 := ⟨_, rfl⟩
  rw [← eN0]
  have fN0 : ∀ (b : Nat) (j : Int), ¬ (b = 13 ∧ (j = 2 ∨ j = 3)) → b ≠ 15 → N0 b j = M b j := fun b j q0 q1 => by
    rw [eN0, mu_ne q1, mu_ne q1, mu_ne q1, mu_ne q1]
    exact (if_neg (by omega)).trans (if_neg (by omega))
  have hN0 : RdC N0 len tp (0, 0) := by
    refine ⟨by rw [fN0 _ _ (by omega) (by decide)]; exact h1, fun i i0 i1 => by rw [fN0 _ _ (by omega) (by decide)]; exact h2 i i0 i1, ?_, ?_, AtB.m (by omega) hl.1 (by decide), hl.2⟩
    · rw [eN0, mu_ne (by decide), mu_ne (by decide), mu_ne (by decide), mu_ne (by decide), mu_j (by decide), mu_s]
    · rw [eN0, mu_ne (by decide), mu_ne (by decide), mu_ne (by decide), mu_ne (by decide), mu_s]
  have hd0 : DR N0 [] := ⟨by rw [eN0, mu_s]; rfl, fun i p hi => absurd hi (by simp)⟩
  refine k_aload_n i_34_14 rfl ?_
  refine k_aload_n i_34_15 rfl ?_
  refine k_invV (n := 1) (o' := 3) (av := [vR (some 13), vR (some 15)]) (rest := []) (el := [some (vR (some 13)), some (vR (some 15))]) i_34_16 o_34 rfl v_35 rfl (s_13) rfl rfl rfl rfl rfl ?_
  refine c_35 hN0 ht (fun A1 hA1 hA2 hA3 fA => ?_)
  show Ok _ 34 19 [some (vR (some 13)), some (vR (some 15))] [] (A1) _
  refine k_aload_n i_34_19 rfl ?_
  refine k_aload_n i_34_20 rfl ?_
  refine k_invV (n := 1) (o' := 3) (av := [vR (some 13), vR (some 15)]) (rest := []) (el := [some (vR (some 13)), some (vR (some 15)), none, none, none, none]) i_34_21 o_34 rfl v_36 rfl (s_13) rfl rfl rfl rfl rfl ?_
  refine c_36 ht hA1 (hd0.fr (fA _ _ (by decide) (by decide)) (fun b j q0 q1 => fA b j (by omega) (by omega))) (fun A2 hB1 hB2 hB3 fB => ?_)
  show Ok _ 34 24 [some (vR (some 13)), some (vR (some 15))] [] (A2) _
  refine k_aload_n i_34_24 rfl ?_
  refine k_aload_n i_34_25 rfl ?_
  refine k_invV (n := 1) (o' := 3) (av := [vR (some 13), vR (some 15)]) (rest := []) (el := [some (vR (some 13)), some (vR (some 15)), none, none, none, none, none]) i_34_26 o_34 rfl v_37 rfl (s_13) rfl rfl rfl rfl rfl ?_
  have wlen := (wl_len (bt len tp) 8 (rd4 (bt len tp)) []).1
  refine c_37 ht hB1 hB2 (by simpa using wlen) (fun A3 hC1 hC2 fC => ?_)
  show Ok _ 34 29 [some (vR (some 13)), some (vR (some 15))] [] (A3) _
  have c3 : A3 13 3 = (rdR (bt len tp)).1.2 := hC1.2.2.2.1
  have c2 : A3 13 2 = (rdR (bt len tp)).1.1 := hC1.2.2.1
  have c1 : A3 13 1 = len := hC1.1
  have h36 : A3 15 6 = ((rdW (bt len tp)).2.length : Int) := by rw [fC _ _ (by decide) (by decide) (by decide)]; exact hB3
  refine k_aload_n i_34_29 rfl ?_
  refine k_getI (kz := 3) i_34_30 o_34 rfl (by decide) (s_13) rfl ?_
  refine k_if_ne (t := 52) i_34_33 rfl (fun h33 => ?_) (fun h33 => ?_)
  · refine k_aload_n i_34_52 rfl ?_
    refine k_iconst i_34_53 (by decide) ?_
    refine k_putI (kz := 1) i_34_54 o_34 rfl (by decide) (s_13) rfl ?_
    refine k_aload_n i_34_57 rfl ?_
    refine k_getI (kz := 3) i_34_58 o_34 rfl (by decide) (s_13) rfl ?_
    rw [mu_j (M := A3) (a := 13) (b := 13) (i := 1) (j := 3) (v := 0) (by decide)]
    refine k_iret i_34_61 rfl ?_
    have c3 : A3 13 3 = (rdR (bt len tp)).1.2 := hC1.2.2.2.1
    have c2 : A3 13 2 = (rdR (bt len tp)).1.1 := hC1.2.2.1
    have c1 : A3 13 1 = len := hC1.1
    have ef : (fiS len (rdR (bt len tp)).1).2 = A3 13 3 := by
      unfold fiS
      rw [if_neg (by omega)]; exact c3.symm
    have q := kk (mu A3 13 (1) (0)) ((hC2).fr (mu_ne (by decide) _) (fun b j q0 q1 => mu_ne (by omega) _)) ?_ ?_ ?_ ?_ (mu_s _ _ _ _) ⟨hC1.2.2.2.2.1.1, hC1.2.2.2.2.1.2.1⟩ (fun b j q0 q1 => ?_)
    · rw [ef] at q; exact q
    · rw [mu_ne (by decide), fC _ _ (by decide) (by decide) (by decide), fB _ _ (by decide) (by decide) (by decide)]; exact hA2
    · rw [mu_ne (by decide), fC _ _ (by decide) (by decide) (by decide), fB _ _ (by decide) (by decide) (by decide)]; exact hA3
    · rw [mu_ne (by decide)]; exact h36
    · rw [mu_j (by decide)]; exact c2
    · refine (if_neg (by omega)).trans ?_
      rw [fC b j (by omega) (by omega) (by omega), fB b j (by omega) (by omega) (by omega), fA b j (by omega) (by omega), fN0 b j (by omega) (by omega)]
  · refine k_aload_n i_34_36 rfl ?_
    refine k_getI (kz := 2) i_34_37 o_34 rfl (by decide) (s_13) rfl ?_
    refine k_aload_n i_34_40 rfl ?_
    refine k_getI (kz := 1) i_34_41 o_34 rfl (by decide) (s_13) rfl ?_
    refine k_icmp_ge (t := 52) i_34_44 rfl (fun h44 => ?_) (fun h44 => ?_)
    · refine k_aload_n i_34_52 rfl ?_
      refine k_iconst i_34_53 (by decide) ?_
      refine k_putI (kz := 1) i_34_54 o_34 rfl (by decide) (s_13) rfl ?_
      refine k_aload_n i_34_57 rfl ?_
      refine k_getI (kz := 3) i_34_58 o_34 rfl (by decide) (s_13) rfl ?_
      rw [mu_j (M := A3) (a := 13) (b := 13) (i := 1) (j := 3) (v := 0) (by decide)]
      refine k_iret i_34_61 rfl ?_
      have c3 : A3 13 3 = (rdR (bt len tp)).1.2 := hC1.2.2.2.1
      have c2 : A3 13 2 = (rdR (bt len tp)).1.1 := hC1.2.2.1
      have c1 : A3 13 1 = len := hC1.1
      have ef : (fiS len (rdR (bt len tp)).1).2 = A3 13 3 := by
        unfold fiS
        rw [if_neg (by omega)]; exact c3.symm
      have q := kk (mu A3 13 (1) (0)) ((hC2).fr (mu_ne (by decide) _) (fun b j q0 q1 => mu_ne (by omega) _)) ?_ ?_ ?_ ?_ (mu_s _ _ _ _) ⟨hC1.2.2.2.2.1.1, hC1.2.2.2.2.1.2.1⟩ (fun b j q0 q1 => ?_)
      · rw [ef] at q; exact q
      · rw [mu_ne (by decide), fC _ _ (by decide) (by decide) (by decide), fB _ _ (by decide) (by decide) (by decide)]; exact hA2
      · rw [mu_ne (by decide), fC _ _ (by decide) (by decide) (by decide), fB _ _ (by decide) (by decide) (by decide)]; exact hA3
      · rw [mu_ne (by decide)]; exact h36
      · rw [mu_j (by decide)]; exact c2
      · refine (if_neg (by omega)).trans ?_
        rw [fC b j (by omega) (by omega) (by omega), fB b j (by omega) (by omega) (by omega), fA b j (by omega) (by omega), fN0 b j (by omega) (by omega)]
    · refine k_aload_n i_34_47 rfl ?_
      refine k_iconst i_34_48 (by decide) ?_
      refine k_putI (kz := 3) i_34_49 o_34 rfl (by decide) (s_13) rfl ?_
      refine k_aload_n i_34_52 rfl ?_
      refine k_iconst i_34_53 (by decide) ?_
      refine k_putI (kz := 1) i_34_54 o_34 rfl (by decide) (s_13) rfl ?_
      refine k_aload_n i_34_57 rfl ?_
      refine k_getI (kz := 3) i_34_58 o_34 rfl (by decide) (s_13) rfl ?_
      rw [mu_j (M := mu A3 13 (3) (1)) (a := 13) (b := 13) (i := 1) (j := 3) (v := 0) (by decide)]
      rw [mu_s A3 13 (3) (1)]
      refine k_iret i_34_61 rfl ?_
      have c3 : A3 13 3 = (rdR (bt len tp)).1.2 := hC1.2.2.2.1
      have c2 : A3 13 2 = (rdR (bt len tp)).1.1 := hC1.2.2.1
      have c1 : A3 13 1 = len := hC1.1
      have ef : (fiS len (rdR (bt len tp)).1).2 = 1 := by
        unfold fiS
        rw [if_pos (by omega)]
      have q := kk (mu (mu A3 13 (3) (1)) 13 (1) (0)) (((hC2.fr (mu_ne (by decide) _) (fun b j q0 q1 => mu_ne (by omega) _))).fr (mu_ne (by decide) _) (fun b j q0 q1 => mu_ne (by omega) _)) ?_ ?_ ?_ ?_ (mu_s _ _ _ _) ⟨hC1.2.2.2.2.1.1, hC1.2.2.2.2.1.2.1⟩ (fun b j q0 q1 => ?_)
      · rw [ef] at q; exact q
      · rw [mu_ne (by decide), mu_ne (by decide), fC _ _ (by decide) (by decide) (by decide), fB _ _ (by decide) (by decide) (by decide)]; exact hA2
      · rw [mu_ne (by decide), mu_ne (by decide), fC _ _ (by decide) (by decide) (by decide), fB _ _ (by decide) (by decide) (by decide)]; exact hA3
      · rw [mu_ne (by decide), mu_ne (by decide)]; exact h36
      · rw [mu_j (by decide), mu_j (by decide)]; exact c2
      · refine (if_neg (by omega)).trans ((if_neg (by omega)).trans ?_)
        rw [fC b j (by omega) (by omega) (by omega), fB b j (by omega) (by omega) (by omega), fA b j (by omega) (by omega), fN0 b j (by omega) (by omega)]
