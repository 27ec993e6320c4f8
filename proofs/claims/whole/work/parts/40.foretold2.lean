def hearF (T : Tt) (i x : Int) : Tt := mkT (tQ T) (tW T) (tS T) (up (tB T) i x) (up (tO T) i i) (tMi T) (tCa T) (tSe T) (tNx T)
theorem TOk.hear {K : Kt} {m : Int} {T : Tt} (h : TOk K m T) {i x : Int} (hx : 0 ≤ x ∧ x ≤ 3) : TOk K m (hearF T i x) := by
  obtain ⟨u1, u2, u3, u4, u5, u6, u7⟩ := id h
  refine ⟨u1, u2, u3, fun p hp => ?_, u5, u6, u7⟩
  have := u4 p hp
  show 0 ≤ tS T p ∧ tS T p ≤ tMi T ∧ 0 ≤ up (tB T) i x p ∧ up (tB T) i x p ≤ 3
  by_cases e : p = i
  · subst e; rw [up_s]; omega
  · rw [up_n _ _ e]; omega
def seF (T : Tt) (s : Int) : Tt := mkT (tQ T) (tW T) (tS T) (tB T) (tO T) (tMi T) (tCa T) s (tNx T)
theorem TOk.se {K : Kt} {m : Int} {T : Tt} (h : TOk K m T) {s : Int} (hs : 0 ≤ s ∧ s ≤ 9) : TOk K m (seF T s) := by
  obtain ⟨u1, u2, u3, u4, u5, u6, u7⟩ := id h
  refine ⟨u1, u2, ?_, u4, u5, u6, u7⟩
  show 0 ≤ tNx T ∧ tNx T ≤ kPe K ∧ ((tQ T).length : Int) ≤ tNx T + m ∧ 0 ≤ tMi T ∧ tMi T ≤ 100000 ∧ 0 ≤ tCa T ∧ tCa T ≤ 3 ∧ 0 ≤ s ∧ s ≤ 9
  omega
/-- in how many minutes all is over -/
def lifeN (K : Kt) : Nat → Tt → Int
  | 0, T => if overF K T then 0 else -1000000
  | n + 1, T => if overF K T then 0 else if lifeN K n (minF K T 1) = -1000000 then -1000000 else lifeN K n (minF K T 1) + 1
theorem life_fst (K : Kt) (k : Nat) : ∀ T : Tt, Fst (fun n : Nat => overF K (itF K n T)) k (lifeN K k T) := by
  induction k with
  | zero =>
    intro T
    unfold lifeN
    by_cases h : overF K T
    · rw [if_pos h]; exact Or.inl ⟨0, by omega, rfl, h, fun j hj => absurd hj (Nat.not_lt_zero _)⟩
    · rw [if_neg h]
      refine Or.inr ⟨rfl, fun j hj => ?_⟩
      obtain rfl : j = 0 := by omega
      exact h
  | succ k ih =>
    intro T
    have q := ih (minF K T 1)
    unfold lifeN
    by_cases h : overF K T
    · rw [if_pos h]; exact Or.inl ⟨0, by omega, rfl, h, fun j hj => absurd hj (Nat.not_lt_zero _)⟩
    · rw [if_neg h]
      rcases q with ⟨n, h1, h2, h3, h4⟩ | ⟨h1, h2⟩
      · rw [if_neg (by omega)]
        refine Or.inl ⟨n + 1, by omega, by omega, h3, fun j hj => ?_⟩
        cases j with
        | zero => exact h
        | succ j => exact h4 j (by omega)
      · rw [if_pos h1]
        refine Or.inr ⟨rfl, fun j hj => ?_⟩
        cases j with
        | zero => exact h
        | succ j => exact h2 j (by omega)
theorem life_b (K : Kt) (k : Nat) (T : Tt) : lifeN K k T = -1000000 ∨ (0 ≤ lifeN K k T ∧ lifeN K k T ≤ k) := by
  rcases life_fst K k T with ⟨n, h1, h2, -, -⟩ | ⟨h1, -⟩ <;> omega
def nv (x z : Int) : Int := if x = -1000000 then z else x
/-- the best of words: of the first, if no other beats it -/
def bw (L : Nat → Int) (lg : Int) : Nat → Int × Int
  | 0 => (0, L 0)
  | n + 1 => if (¬ lg = 0 ∧ (bw L lg n).2 < L (n + 1)) ∨ (lg = 0 ∧ L (n + 1) < (bw L lg n).2) then ((n + 1 : Nat), L (n + 1)) else bw L lg n
theorem bw_s (L : Nat → Int) (lg : Int) (n : Nat) {x b e : Int} (hx : L (n + 1) = x) (hb : (b, e) = bw L lg n) : bw L lg (n + 1) = if (¬ lg = 0 ∧ e < x) ∨ (lg = 0 ∧ x < e) then (((n + 1 : Nat) : Int), x) else (b, e) := by
  have h : bw L lg (n + 1) = if (¬ lg = 0 ∧ (bw L lg n).2 < L (n + 1)) ∨ (lg = 0 ∧ L (n + 1) < (bw L lg n).2) then (((n + 1 : Nat) : Int), L (n + 1)) else bw L lg n := rfl
  rw [h, hx, ← hb]
/-- the last of the best -/
def op (N : Nat → Int) : Nat → Int × Int
  | 0 => (0, N 0)
  | n + 1 => if (op N n).2 ≤ N (n + 1) then ((n + 1 : Nat), N (n + 1)) else op N n

theorem l_22 {d : Nat} {M0 : Mem} {Q : Option Vv → Mem → Prop} {K : Kt} {T : Tt} {x lg : Int} (hKo : KOk K 0) (hK : RepK M0 20 K 0) (hT : TOk K 0 T) (hR0 : RepC M0 25 K 0 T) (hmi : tMi T ≤ 2000) (hvx : Va K 0 x) (kk : ∀ v M', v = (bw (fun w : Nat => nv (lifeN K 200 (hearF T x w)) 201) lg 3).1 → OutT M0 M' 179 → Q (some (vI v)) M') : ∀ (f : Nat) (i : Int) (b : Int) (e : Int) (x6 : Option Vv) (M : Mem), (0 ≤ i ∧ i ≤ 4) → ((i = 0) ∨ (1 ≤ i ∧ (b, e) = bw (fun w : Nat => nv (lifeN K 200 (hearF T x w)) 201) lg (i - 1).toNat)) → (OutT M0 M 179) → (4 - i).toNat < f → Ok (d + 4) 22 8 [some (vR (some 177)), some (vI x), some (vI lg), some (vI b), some (vI e), some (vI i), x6] [] M Q := by
  intro f
  induction f with
  | zero => intro i b e x6 M hi hb ho hf; exact absurd hf (Nat.not_lt_zero _)
  | succ f ih =>
    intro i b e x6 M hi hb ho hf
    have hK1 := hK.out ho (by omega)
    have hR : RepC M 25 K 0 T := hR0.fr (fun b j h0 h1 => ho b j (by omega))
    refine k_iload i_22_8 rfl ?_
    refine k_iconst i_22_10 (by decide) ?_
    refine k_icmp_gt (t := 98) i_22_11 rfl (fun h11 => ?_) (fun h11 => ?_)
    · refine k_iload_n i_22_98 rfl ?_
      refine k_iret i_22_99 rfl ?_
      refine kk _ _ ?_ ho
      obtain rfl : i = 4 := by omega
      have hb2 := (hb.resolve_left (by decide)).2
      rw [show (4 - 1 : Int).toNat = 3 from rfl] at hb2
      rw [← hb2]
    · refine k_aload_n i_22_14 rfl ?_
      refine k_getR (r := 179) i_22_15 o_22 rfl (by decide) (s_177) rfl ?_
      refine k_aload_n i_22_18 rfl ?_
      refine k_getR (r := 25) i_22_19 o_22 rfl (by decide) (s_177) rfl ?_
      refine k_invV (n := 1) (o' := 6) (av := [vR (some 179), vR (some 25)]) (rest := []) (el := [some (vR (some 179)), some (vR (some 25)), none]) i_22_22 o_22 rfl v_62 rfl (s_179) rfl rfl rfl rfl rfl ?_
      refine c_62 tw_179 tw_25 (Or.inr (Or.inl ⟨rfl, rfl⟩)) (by omega) hKo hR (show ((tQ T).length : Int) ≤ 16 by have := hT.2.2.1; have := hKo.1; omega) (fun M1 hR1 ho1 => ?_)
      show Ok _ 22 25 [some (vR (some 177)), some (vI x), some (vI lg), some (vI b), some (vI e), some (vI i), x6] [] (M1) _
      refine k_aload_n i_22_25 rfl ?_
      refine k_getR (r := 179) i_22_26 o_22 rfl (by decide) (s_177) rfl ?_
      refine k_iload_n i_22_29 rfl ?_
      refine k_iload i_22_30 rfl ?_
      refine k_invV (n := 2) (o' := 6) (av := [vR (some 179), vI x, vI i]) (rest := []) (el := [some (vR (some 179)), some (vI x), some (vI i)]) i_22_32 o_22 rfl v_64 rfl (s_179) rfl rfl rfl rfl rfl ?_
      refine c_64 tw_179 (by omega) hKo (hK1.out ho1 (by omega)) hR1 hvx (fun M2 hR2 ho2 => ?_)
      show Ok _ 22 35 [some (vR (some 177)), some (vI x), some (vI lg), some (vI b), some (vI e), some (vI i), x6] [] (M2) _
      refine k_aload_n i_22_35 rfl ?_
      refine k_sipush i_22_36 (by decide) ?_
      refine k_iconst i_22_39 (by decide) ?_
      refine k_iconst i_22_40 (by decide) ?_
      refine k_iconst i_22_41 (by decide) ?_
      refine k_invV (n := 4) (o' := 2) (av := [vR (some 177), vI 200, vI 0, vI 0, vI 0]) (rest := []) (el := [some (vR (some 177)), some (vI 200), some (vI 0), some (vI 0), some (vI 0), none]) i_22_42 o_22 rfl v_16 rfl (s_177) rfl rfl rfl rfl rfl ?_
      refine c_16 (T := hearF T x i) hKo (hK1.out (ho1.tr ho2) (by omega)) (hT.hear (by omega)) (fun q => absurd q (by decide)) (fun q => absurd q (by decide)) (by omega) (by exact hmi) hR2 (fun v M3 hv ho3 => ?_)
      show Ok _ 22 45 [some (vR (some 177)), some (vI x), some (vI lg), some (vI b), some (vI e), some (vI i), x6] [vI v] (M3) _
      have hvl : v = lifeN K 200 (hearF T x i) := Fst.uq hv (life_fst K 200 (hearF T x i)) (fun n _ => Iff.rfl)
      refine k_istore (ls' := [some (vR (some 177)), some (vI x), some (vI lg), some (vI b), some (vI e), some (vI i), some (vI v)]) i_22_45 rfl ?_
      refine k_iload i_22_47 rfl ?_
      refine k_ldc (z := -1000000) i_22_49 o_22 rfl (by decide) ?_
      refine k_icmp_ne (t := 59) i_22_51 rfl (fun h51 => ?_) (fun h51 => ?_)
      · refine k_iload i_22_59 rfl ?_
        refine k_if_eq (t := 85) i_22_61 rfl (fun h61 => ?_) (fun h61 => ?_)
        · refine k_iload i_22_85 rfl ?_
          refine k_istore_n (ls' := [some (vR (some 177)), some (vI x), some (vI lg), some (vI i), some (vI e), some (vI i), some (vI v)]) i_22_87 rfl ?_
          refine k_iload i_22_88 rfl ?_
          refine k_istore (ls' := [some (vR (some 177)), some (vI x), some (vI lg), some (vI i), some (vI v), some (vI i), some (vI v)]) i_22_90 rfl ?_
          refine k_iinc (ls' := [some (vR (some 177)), some (vI x), some (vI lg), some (vI i), some (vI v), some (vI (i + 1)), some (vI v)]) i_22_92 rfl (by omega) rfl ?_
          refine k_goto (t := 8) i_22_95 rfl ?_
          refine ih (i + 1) i v _ M3 (by omega) ?_ (((ho.tr ho1).tr ho2).tr ho3) (by omega)
          refine Or.inr ⟨by omega, ?_⟩
          have hL : (fun w : Nat => nv (lifeN K 200 (hearF T x w)) 201) i.toNat = v := by
            show nv (lifeN K 200 (hearF T x ((i.toNat : Nat) : Int))) 201 = _
            rw [show ((i.toNat : Nat) : Int) = i by omega, ← hvl]
            unfold nv
            rw [if_neg h51]
          rw [show (i + 1 - 1).toNat = i.toNat by omega]
          by_cases hi0 : i = 0
          · subst hi0
            have q : bw (fun w : Nat => nv (lifeN K 200 (hearF T x w)) 201) lg 0 = (0, (fun w : Nat => nv (lifeN K 200 (hearF T x w)) 201) 0) := rfl
            rw [show (0 : Int).toNat = 0 from rfl] at *; rw [q, hL]
          · have hb2 := (hb.resolve_left hi0).2
            rw [show i.toNat = (i - 1).toNat + 1 by omega] at hL ⊢
            rw [bw_s _ lg _ hL hb2]
            rw [if_pos (by omega)]
            rw [show (((i - 1).toNat + 1 : Nat) : Int) = i by omega]
        · refine k_iload_n i_22_64 rfl ?_
          refine k_if_eq (t := 78) i_22_65 rfl (fun h65 => ?_) (fun h65 => ?_)
          · refine k_iload i_22_78 rfl ?_
            refine k_iload i_22_80 rfl ?_
            refine k_icmp_ge (t := 92) i_22_82 rfl (fun h82 => ?_) (fun h82 => ?_)
            · refine k_iinc (ls' := [some (vR (some 177)), some (vI x), some (vI lg), some (vI b), some (vI e), some (vI (i + 1)), some (vI v)]) i_22_92 rfl (by omega) rfl ?_
              refine k_goto (t := 8) i_22_95 rfl ?_
              refine ih (i + 1) b e _ M3 (by omega) ?_ (((ho.tr ho1).tr ho2).tr ho3) (by omega)
              refine Or.inr ⟨by omega, ?_⟩
              have hL : (fun w : Nat => nv (lifeN K 200 (hearF T x w)) 201) i.toNat = v := by
                show nv (lifeN K 200 (hearF T x ((i.toNat : Nat) : Int))) 201 = _
                rw [show ((i.toNat : Nat) : Int) = i by omega, ← hvl]
                unfold nv
                rw [if_neg h51]
              rw [show (i + 1 - 1).toNat = i.toNat by omega]
              by_cases hi0 : i = 0
              · subst hi0
                have q : bw (fun w : Nat => nv (lifeN K 200 (hearF T x w)) 201) lg 0 = (0, (fun w : Nat => nv (lifeN K 200 (hearF T x w)) 201) 0) := rfl
                omega
              · have hb2 := (hb.resolve_left hi0).2
                rw [show i.toNat = (i - 1).toNat + 1 by omega] at hL ⊢
                rw [bw_s _ lg _ hL hb2]
                rw [if_neg (by omega)]
                
            · refine k_iload i_22_85 rfl ?_
              refine k_istore_n (ls' := [some (vR (some 177)), some (vI x), some (vI lg), some (vI i), some (vI e), some (vI i), some (vI v)]) i_22_87 rfl ?_
              refine k_iload i_22_88 rfl ?_
              refine k_istore (ls' := [some (vR (some 177)), some (vI x), some (vI lg), some (vI i), some (vI v), some (vI i), some (vI v)]) i_22_90 rfl ?_
              refine k_iinc (ls' := [some (vR (some 177)), some (vI x), some (vI lg), some (vI i), some (vI v), some (vI (i + 1)), some (vI v)]) i_22_92 rfl (by omega) rfl ?_
              refine k_goto (t := 8) i_22_95 rfl ?_
              refine ih (i + 1) i v _ M3 (by omega) ?_ (((ho.tr ho1).tr ho2).tr ho3) (by omega)
              refine Or.inr ⟨by omega, ?_⟩
              have hL : (fun w : Nat => nv (lifeN K 200 (hearF T x w)) 201) i.toNat = v := by
                show nv (lifeN K 200 (hearF T x ((i.toNat : Nat) : Int))) 201 = _
                rw [show ((i.toNat : Nat) : Int) = i by omega, ← hvl]
                unfold nv
                rw [if_neg h51]
              rw [show (i + 1 - 1).toNat = i.toNat by omega]
              by_cases hi0 : i = 0
              · subst hi0
                have q : bw (fun w : Nat => nv (lifeN K 200 (hearF T x w)) 201) lg 0 = (0, (fun w : Nat => nv (lifeN K 200 (hearF T x w)) 201) 0) := rfl
                rw [show (0 : Int).toNat = 0 from rfl] at *; rw [q, hL]
              · have hb2 := (hb.resolve_left hi0).2
                rw [show i.toNat = (i - 1).toNat + 1 by omega] at hL ⊢
                rw [bw_s _ lg _ hL hb2]
                rw [if_pos (by omega)]
                rw [show (((i - 1).toNat + 1 : Nat) : Int) = i by omega]
          · refine k_iload i_22_68 rfl ?_
            refine k_iload i_22_70 rfl ?_
            refine k_icmp_le (t := 92) i_22_72 rfl (fun h72 => ?_) (fun h72 => ?_)
            · refine k_iinc (ls' := [some (vR (some 177)), some (vI x), some (vI lg), some (vI b), some (vI e), some (vI (i + 1)), some (vI v)]) i_22_92 rfl (by omega) rfl ?_
              refine k_goto (t := 8) i_22_95 rfl ?_
              refine ih (i + 1) b e _ M3 (by omega) ?_ (((ho.tr ho1).tr ho2).tr ho3) (by omega)
              refine Or.inr ⟨by omega, ?_⟩
              have hL : (fun w : Nat => nv (lifeN K 200 (hearF T x w)) 201) i.toNat = v := by
                show nv (lifeN K 200 (hearF T x ((i.toNat : Nat) : Int))) 201 = _
                rw [show ((i.toNat : Nat) : Int) = i by omega, ← hvl]
                unfold nv
                rw [if_neg h51]
              rw [show (i + 1 - 1).toNat = i.toNat by omega]
              by_cases hi0 : i = 0
              · subst hi0
                have q : bw (fun w : Nat => nv (lifeN K 200 (hearF T x w)) 201) lg 0 = (0, (fun w : Nat => nv (lifeN K 200 (hearF T x w)) 201) 0) := rfl
                omega
              · have hb2 := (hb.resolve_left hi0).2
                rw [show i.toNat = (i - 1).toNat + 1 by omega] at hL ⊢
                rw [bw_s _ lg _ hL hb2]
                rw [if_neg (by omega)]
                
            · refine k_goto (t := 85) i_22_75 rfl ?_
              refine k_iload i_22_85 rfl ?_
              refine k_istore_n (ls' := [some (vR (some 177)), some (vI x), some (vI lg), some (vI i), some (vI e), some (vI i), some (vI v)]) i_22_87 rfl ?_
              refine k_iload i_22_88 rfl ?_
              refine k_istore (ls' := [some (vR (some 177)), some (vI x), some (vI lg), some (vI i), some (vI v), some (vI i), some (vI v)]) i_22_90 rfl ?_
              refine k_iinc (ls' := [some (vR (some 177)), some (vI x), some (vI lg), some (vI i), some (vI v), some (vI (i + 1)), some (vI v)]) i_22_92 rfl (by omega) rfl ?_
              refine k_goto (t := 8) i_22_95 rfl ?_
              refine ih (i + 1) i v _ M3 (by omega) ?_ (((ho.tr ho1).tr ho2).tr ho3) (by omega)
              refine Or.inr ⟨by omega, ?_⟩
              have hL : (fun w : Nat => nv (lifeN K 200 (hearF T x w)) 201) i.toNat = v := by
                show nv (lifeN K 200 (hearF T x ((i.toNat : Nat) : Int))) 201 = _
                rw [show ((i.toNat : Nat) : Int) = i by omega, ← hvl]
                unfold nv
                rw [if_neg h51]
              rw [show (i + 1 - 1).toNat = i.toNat by omega]
              by_cases hi0 : i = 0
              · subst hi0
                have q : bw (fun w : Nat => nv (lifeN K 200 (hearF T x w)) 201) lg 0 = (0, (fun w : Nat => nv (lifeN K 200 (hearF T x w)) 201) 0) := rfl
                rw [show (0 : Int).toNat = 0 from rfl] at *; rw [q, hL]
              · have hb2 := (hb.resolve_left hi0).2
                rw [show i.toNat = (i - 1).toNat + 1 by omega] at hL ⊢
                rw [bw_s _ lg _ hL hb2]
                rw [if_pos (by omega)]
                rw [show (((i - 1).toNat + 1 : Nat) : Int) = i by omega]
      · refine k_sipush i_22_54 (by decide) ?_
        refine k_istore (ls' := [some (vR (some 177)), some (vI x), some (vI lg), some (vI b), some (vI e), some (vI i), some (vI 201)]) i_22_57 rfl ?_
        refine k_iload i_22_59 rfl ?_
        refine k_if_eq (t := 85) i_22_61 rfl (fun h61 => ?_) (fun h61 => ?_)
        · refine k_iload i_22_85 rfl ?_
          refine k_istore_n (ls' := [some (vR (some 177)), some (vI x), some (vI lg), some (vI i), some (vI e), some (vI i), some (vI 201)]) i_22_87 rfl ?_
          refine k_iload i_22_88 rfl ?_
          refine k_istore (ls' := [some (vR (some 177)), some (vI x), some (vI lg), some (vI i), some (vI 201), some (vI i), some (vI 201)]) i_22_90 rfl ?_
          refine k_iinc (ls' := [some (vR (some 177)), some (vI x), some (vI lg), some (vI i), some (vI 201), some (vI (i + 1)), some (vI 201)]) i_22_92 rfl (by omega) rfl ?_
          refine k_goto (t := 8) i_22_95 rfl ?_
          refine ih (i + 1) i 201 _ M3 (by omega) ?_ (((ho.tr ho1).tr ho2).tr ho3) (by omega)
          refine Or.inr ⟨by omega, ?_⟩
          have hL : (fun w : Nat => nv (lifeN K 200 (hearF T x w)) 201) i.toNat = 201 := by
            show nv (lifeN K 200 (hearF T x ((i.toNat : Nat) : Int))) 201 = _
            rw [show ((i.toNat : Nat) : Int) = i by omega, ← hvl]
            unfold nv
            rw [if_pos h51]
          rw [show (i + 1 - 1).toNat = i.toNat by omega]
          by_cases hi0 : i = 0
          · subst hi0
            have q : bw (fun w : Nat => nv (lifeN K 200 (hearF T x w)) 201) lg 0 = (0, (fun w : Nat => nv (lifeN K 200 (hearF T x w)) 201) 0) := rfl
            rw [show (0 : Int).toNat = 0 from rfl] at *; rw [q, hL]
          · have hb2 := (hb.resolve_left hi0).2
            rw [show i.toNat = (i - 1).toNat + 1 by omega] at hL ⊢
            rw [bw_s _ lg _ hL hb2]
            rw [if_pos (by omega)]
            rw [show (((i - 1).toNat + 1 : Nat) : Int) = i by omega]
        · refine k_iload_n i_22_64 rfl ?_
          refine k_if_eq (t := 78) i_22_65 rfl (fun h65 => ?_) (fun h65 => ?_)
          · refine k_iload i_22_78 rfl ?_
            refine k_iload i_22_80 rfl ?_
            refine k_icmp_ge (t := 92) i_22_82 rfl (fun h82 => ?_) (fun h82 => ?_)
            · refine k_iinc (ls' := [some (vR (some 177)), some (vI x), some (vI lg), some (vI b), some (vI e), some (vI (i + 1)), some (vI 201)]) i_22_92 rfl (by omega) rfl ?_
              refine k_goto (t := 8) i_22_95 rfl ?_
              refine ih (i + 1) b e _ M3 (by omega) ?_ (((ho.tr ho1).tr ho2).tr ho3) (by omega)
              refine Or.inr ⟨by omega, ?_⟩
              have hL : (fun w : Nat => nv (lifeN K 200 (hearF T x w)) 201) i.toNat = 201 := by
                show nv (lifeN K 200 (hearF T x ((i.toNat : Nat) : Int))) 201 = _
                rw [show ((i.toNat : Nat) : Int) = i by omega, ← hvl]
                unfold nv
                rw [if_pos h51]
              rw [show (i + 1 - 1).toNat = i.toNat by omega]
              by_cases hi0 : i = 0
              · subst hi0
                have q : bw (fun w : Nat => nv (lifeN K 200 (hearF T x w)) 201) lg 0 = (0, (fun w : Nat => nv (lifeN K 200 (hearF T x w)) 201) 0) := rfl
                omega
              · have hb2 := (hb.resolve_left hi0).2
                rw [show i.toNat = (i - 1).toNat + 1 by omega] at hL ⊢
                rw [bw_s _ lg _ hL hb2]
                rw [if_neg (by omega)]
                
            · refine k_iload i_22_85 rfl ?_
              refine k_istore_n (ls' := [some (vR (some 177)), some (vI x), some (vI lg), some (vI i), some (vI e), some (vI i), some (vI 201)]) i_22_87 rfl ?_
              refine k_iload i_22_88 rfl ?_
              refine k_istore (ls' := [some (vR (some 177)), some (vI x), some (vI lg), some (vI i), some (vI 201), some (vI i), some (vI 201)]) i_22_90 rfl ?_
              refine k_iinc (ls' := [some (vR (some 177)), some (vI x), some (vI lg), some (vI i), some (vI 201), some (vI (i + 1)), some (vI 201)]) i_22_92 rfl (by omega) rfl ?_
              refine k_goto (t := 8) i_22_95 rfl ?_
              refine ih (i + 1) i 201 _ M3 (by omega) ?_ (((ho.tr ho1).tr ho2).tr ho3) (by omega)
              refine Or.inr ⟨by omega, ?_⟩
              have hL : (fun w : Nat => nv (lifeN K 200 (hearF T x w)) 201) i.toNat = 201 := by
                show nv (lifeN K 200 (hearF T x ((i.toNat : Nat) : Int))) 201 = _
                rw [show ((i.toNat : Nat) : Int) = i by omega, ← hvl]
                unfold nv
                rw [if_pos h51]
              rw [show (i + 1 - 1).toNat = i.toNat by omega]
              by_cases hi0 : i = 0
              · subst hi0
                have q : bw (fun w : Nat => nv (lifeN K 200 (hearF T x w)) 201) lg 0 = (0, (fun w : Nat => nv (lifeN K 200 (hearF T x w)) 201) 0) := rfl
                rw [show (0 : Int).toNat = 0 from rfl] at *; rw [q, hL]
              · have hb2 := (hb.resolve_left hi0).2
                rw [show i.toNat = (i - 1).toNat + 1 by omega] at hL ⊢
                rw [bw_s _ lg _ hL hb2]
                rw [if_pos (by omega)]
                rw [show (((i - 1).toNat + 1 : Nat) : Int) = i by omega]
          · refine k_iload i_22_68 rfl ?_
            refine k_iload i_22_70 rfl ?_
            refine k_icmp_le (t := 92) i_22_72 rfl (fun h72 => ?_) (fun h72 => ?_)
            · refine k_iinc (ls' := [some (vR (some 177)), some (vI x), some (vI lg), some (vI b), some (vI e), some (vI (i + 1)), some (vI 201)]) i_22_92 rfl (by omega) rfl ?_
              refine k_goto (t := 8) i_22_95 rfl ?_
              refine ih (i + 1) b e _ M3 (by omega) ?_ (((ho.tr ho1).tr ho2).tr ho3) (by omega)
              refine Or.inr ⟨by omega, ?_⟩
              have hL : (fun w : Nat => nv (lifeN K 200 (hearF T x w)) 201) i.toNat = 201 := by
                show nv (lifeN K 200 (hearF T x ((i.toNat : Nat) : Int))) 201 = _
                rw [show ((i.toNat : Nat) : Int) = i by omega, ← hvl]
                unfold nv
                rw [if_pos h51]
              rw [show (i + 1 - 1).toNat = i.toNat by omega]
              by_cases hi0 : i = 0
              · subst hi0
                have q : bw (fun w : Nat => nv (lifeN K 200 (hearF T x w)) 201) lg 0 = (0, (fun w : Nat => nv (lifeN K 200 (hearF T x w)) 201) 0) := rfl
                omega
              · have hb2 := (hb.resolve_left hi0).2
                rw [show i.toNat = (i - 1).toNat + 1 by omega] at hL ⊢
                rw [bw_s _ lg _ hL hb2]
                rw [if_neg (by omega)]
                
            · refine k_goto (t := 85) i_22_75 rfl ?_
              refine k_iload i_22_85 rfl ?_
              refine k_istore_n (ls' := [some (vR (some 177)), some (vI x), some (vI lg), some (vI i), some (vI e), some (vI i), some (vI 201)]) i_22_87 rfl ?_
              refine k_iload i_22_88 rfl ?_
              refine k_istore (ls' := [some (vR (some 177)), some (vI x), some (vI lg), some (vI i), some (vI 201), some (vI i), some (vI 201)]) i_22_90 rfl ?_
              refine k_iinc (ls' := [some (vR (some 177)), some (vI x), some (vI lg), some (vI i), some (vI 201), some (vI (i + 1)), some (vI 201)]) i_22_92 rfl (by omega) rfl ?_
              refine k_goto (t := 8) i_22_95 rfl ?_
              refine ih (i + 1) i 201 _ M3 (by omega) ?_ (((ho.tr ho1).tr ho2).tr ho3) (by omega)
              refine Or.inr ⟨by omega, ?_⟩
              have hL : (fun w : Nat => nv (lifeN K 200 (hearF T x w)) 201) i.toNat = 201 := by
                show nv (lifeN K 200 (hearF T x ((i.toNat : Nat) : Int))) 201 = _
                rw [show ((i.toNat : Nat) : Int) = i by omega, ← hvl]
                unfold nv
                rw [if_pos h51]
              rw [show (i + 1 - 1).toNat = i.toNat by omega]
              by_cases hi0 : i = 0
              · subst hi0
                have q : bw (fun w : Nat => nv (lifeN K 200 (hearF T x w)) 201) lg 0 = (0, (fun w : Nat => nv (lifeN K 200 (hearF T x w)) 201) 0) := rfl
                rw [show (0 : Int).toNat = 0 from rfl] at *; rw [q, hL]
              · have hb2 := (hb.resolve_left hi0).2
                rw [show i.toNat = (i - 1).toNat + 1 by omega] at hL ⊢
                rw [bw_s _ lg _ hL hb2]
                rw [if_pos (by omega)]
                rw [show (((i - 1).toNat + 1 : Nat) : Int) = i by omega]

/-- ElbowQueue$Foretold.bestWord -/
theorem c_22 {d : Nat} {M : Mem} {Q : Option Vv → Mem → Prop} {K : Kt} {T : Tt} {x lg : Int} (hKo : KOk K 0) (hK : RepK M 20 K 0) (hT : TOk K 0 T) (hR0 : RepC M 25 K 0 T) (hmi : tMi T ≤ 2000) (hvx : Va K 0 x) (kk : ∀ v M', v = (bw (fun w : Nat => nv (lifeN K 200 (hearF T x w)) 201) lg 3).1 → OutT M M' 179 → Q (some (vI v)) M') : Ok (d + 4) 22 0 [some (vR (some 177)), some (vI x), some (vI lg), none, none, none, none] [] M Q := by
  refine k_iconst i_22_0 (by decide) ?_
  refine k_istore_n (ls' := [some (vR (some 177)), some (vI x), some (vI lg), some (vI 0), none, none, none]) i_22_1 rfl ?_
  refine k_iconst i_22_2 (by decide) ?_
  refine k_istore (ls' := [some (vR (some 177)), some (vI x), some (vI lg), some (vI 0), some (vI 0), none, none]) i_22_3 rfl ?_
  refine k_iconst i_22_5 (by decide) ?_
  refine k_istore (ls' := [some (vR (some 177)), some (vI x), some (vI lg), some (vI 0), some (vI 0), some (vI 0), none]) i_22_6 rfl ?_
  exact l_22 hKo hK hT hR0 hmi hvx kk 5 0 0 0 _ M (by omega) (Or.inl rfl) (OutT.rf M 179) (by omega)

theorem l_23 {d : Nat} {M0 : Mem} {Q : Option Vv → Mem → Prop} {K : Kt} {T : Tt} {x : Int} (hKo : KOk K 12) (hK : RepK M0 20 K 12) (hT : TOk K 0 T) (hR0 : RepC M0 25 K 0 T) (hmi : tMi T ≤ 1900) (kk : ∀ v M', Fst (fun n : Nat => x ≤ joinC K 8 (elbF T n)) 12 v → OutT M0 M' 179 → Q (some (vI v)) M') : ∀ (f : Nat) (i : Int) (M : Mem), (0 ≤ i ∧ i ≤ 13) → (∀ j : Nat, (j : Int) < i → ¬ (fun n : Nat => x ≤ joinC K 8 (elbF T n)) j) → (OutT M0 M 179) → (13 - i).toNat < f → Ok (d + 4) 23 2 [some (vR (some 177)), some (vI x), some (vI i)] [] M Q := by
  intro f
  induction f with
  | zero => intro i M hi hj ho hf; exact absurd hf (Nat.not_lt_zero _)
  | succ f ih =>
    intro i M hi hj ho hf
    have hK1 := hK.out ho (by omega)
    have hR : RepC M 25 K 0 T := hR0.fr (fun b j h0 h1 => ho b j (by omega))
    refine k_iload_n i_23_2 rfl ?_
    refine k_bipush i_23_3 (by decide) ?_
    refine k_icmp_gt (t := 46) i_23_5 rfl (fun h5 => ?_) (fun h5 => ?_)
    · refine k_ldc (z := -1000000) i_23_46 o_23 rfl (by decide) ?_
      refine k_iret i_23_48 rfl ?_
      exact kk _ _ (Or.inr ⟨rfl, fun j hj2 => hj j (by omega)⟩) ho
    · have hTe : TOk K i (elbF T i.toNat) := by
        have q := hT.elbF hKo i.toNat (by omega)
        rw [show ((i.toNat : Nat) : Int) = i by omega] at q
        exact q
      refine k_aload_n i_23_8 rfl ?_
      refine k_getR (r := 179) i_23_9 o_23 rfl (by decide) (s_177) rfl ?_
      refine k_aload_n i_23_12 rfl ?_
      refine k_getR (r := 25) i_23_13 o_23 rfl (by decide) (s_177) rfl ?_
      refine k_invV (n := 1) (o' := 6) (av := [vR (some 179), vR (some 25)]) (rest := []) (el := [some (vR (some 179)), some (vR (some 25)), none]) i_23_16 o_23 rfl v_62 rfl (s_179) rfl rfl rfl rfl rfl ?_
      refine c_62 tw_179 tw_25 (Or.inr (Or.inl ⟨rfl, rfl⟩)) (by omega) (hKo.mono (by omega) (by omega)) hR (show ((tQ T).length : Int) ≤ 16 by have := hT.2.2.1; have := hKo.1; omega) (fun M1 hR1 ho1 => ?_)
      show Ok _ 23 19 [some (vR (some 177)), some (vI x), some (vI i)] [] (M1) _
      refine k_aload_n i_23_19 rfl ?_
      refine k_getR (r := 179) i_23_20 o_23 rfl (by decide) (s_177) rfl ?_
      refine k_iload_n i_23_23 rfl ?_
      refine k_invV (n := 1) (o' := 6) (av := [vR (some 179), vI i]) (rest := []) (el := [some (vR (some 179)), some (vI i), none]) i_23_24 o_23 rfl v_82 rfl (s_179) rfl rfl rfl rfl rfl ?_
      refine c_82 tw_179 hKo hT (by omega) hR1 (fun M2 hR2 ho2 => ?_)
      show Ok _ 23 27 [some (vR (some 177)), some (vI x), some (vI i)] [] (M2) _
      refine k_aload_n i_23_27 rfl ?_
      refine k_getR (r := 179) i_23_28 o_23 rfl (by decide) (s_177) rfl ?_
      refine k_invV (n := 0) (o' := 6) (av := [vR (some 179)]) (rest := []) (el := [some (vR (some 179)), none, none, none]) i_23_31 o_23 rfl v_83 rfl (s_179) rfl rfl rfl rfl rfl ?_
      refine c_83 tw_179 (by omega) (hKo.mono (by omega) (by omega)) ((hK1.out (ho1.tr ho2) (by omega)).mono (by omega)) (by omega) hR2 hTe (by rw [(elb_mi T i.toNat).1]; exact hmi) (fun v M3 hv ho3 => ?_)
      show Ok _ 23 34 [some (vR (some 177)), some (vI x), some (vI i)] [vI v] (M3) _
      refine k_iload_n i_23_34 rfl ?_
      refine k_icmp_lt (t := 40) i_23_35 rfl (fun h35 => ?_) (fun h35 => ?_)
      · refine k_iinc (ls' := [some (vR (some 177)), some (vI x), some (vI (i + 1))]) i_23_40 rfl (by omega) rfl ?_
        refine k_goto (t := 2) i_23_43 rfl ?_
        refine ih (i + 1) M3 (by omega) (fun j hj2 => ?_) (((ho.tr ho1).tr ho2).tr ho3) (by omega)
        by_cases e : (j : Int) < i
        · exact hj j e
        · rw [show j = i.toNat by omega]
          show ¬ x ≤ joinC K 8 (elbF T i.toNat)
          omega
      · refine k_iload_n i_23_38 rfl ?_
        refine k_iret i_23_39 rfl ?_
        refine kk _ _ (Or.inl ⟨i.toNat, by omega, by omega, ?_, fun j hj2 => hj j (by omega)⟩) (((ho.tr ho1).tr ho2).tr ho3)
        show x ≤ joinC K 8 (elbF T i.toNat)
        omega

/-- ElbowQueue$Foretold.fewestElbows -/
theorem c_23 {d : Nat} {M : Mem} {Q : Option Vv → Mem → Prop} {K : Kt} {T : Tt} {x : Int} (hKo : KOk K 12) (hK : RepK M 20 K 12) (hT : TOk K 0 T) (hR0 : RepC M 25 K 0 T) (hmi : tMi T ≤ 1900) (kk : ∀ v M', Fst (fun n : Nat => x ≤ joinC K 8 (elbF T n)) 12 v → OutT M M' 179 → Q (some (vI v)) M') : Ok (d + 4) 23 0 [some (vR (some 177)), some (vI x), none] [] M Q := by
  refine k_iconst i_23_0 (by decide) ?_
  refine k_istore_n (ls' := [some (vR (some 177)), some (vI x), some (vI 0)]) i_23_1 rfl ?_
  exact l_23 hKo hK hT hR0 hmi kk 14 0 M (by omega) (fun j hj => by omega) (OutT.rf M 179) (by omega)
