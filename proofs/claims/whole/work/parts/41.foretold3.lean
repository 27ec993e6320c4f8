theorem many_mi (U : Tt) (x w : Int) (n : Nat) : manyF (miF U x) w n = manyF U w n := by
  induction n with
  | zero => rfl
  | succ n ih => show manyF (miF U x) w n + _ = manyF U w n + _; rw [ih]; rfl
theorem opn_s (N : Nat → Int) (n : Nat) {x b e : Int} (hx : N (n + 1) = x) (hb : (b, e) = op N n) : op N (n + 1) = if e ≤ x then (((n + 1 : Nat) : Int), x) else (b, e) := by
  have h : op N (n + 1) = if (op N n).2 ≤ N (n + 1) then (((n + 1 : Nat) : Int), N (n + 1)) else op N n := rfl
  rw [h, hx, ← hb]
def opN (K : Kt) (T : Tt) (s : Int) (n : Nat) : Int := manyF (itF K (60 - n) (seF (itF K n T) s)) 2 (kPe K).toNat - manyF T 2 (kPe K).toNat
def OutF (M M' : Mem) : Prop := ∀ (b : Nat) (j : Int), ¬ (179 ≤ b ∧ b ≤ 190) → M' b j = M b j

theorem l_28 {d : Nat} {M0 : Mem} {Q : Option Vv → Mem → Prop} {K : Kt} {T : Tt} {s mn h0 : Int} (hKo : KOk K 0) (hK : RepK M0 20 K 0) (hT : TOk K 0 T) (hmi : tMi T ≤ 1900) (hs : 0 ≤ s ∧ s ≤ 9) (h00 : 0 ≤ opN K T s 0) (hh0 : h0 = manyF T 2 (kPe K).toNat) (kk : ∀ v M', v = (if mn = 0 then (op (opN K T s) 30).2 else (op (opN K T s) 30).1) → OutF M0 M' → Q (some (vI v)) M') : ∀ (f : Nat) (i : Int) (b : Int) (e : Int) (x7 : Option Vv) (M : Mem), (0 ≤ i ∧ i ≤ 31) → ((i = 0 ∧ b = 0 ∧ e = 0) ∨ (1 ≤ i ∧ (b, e) = op (opN K T s) (i - 1).toNat)) → (RepC M 185 K 0 (itF K i.toNat T)) → (True) → (OutF M0 M) → (31 - i).toNat < f → Ok (d + 4) 28 29 [some (vR (some 177)), some (vI s), some (vI mn), some (vI h0), some (vI b), some (vI e), some (vI i), x7] [] M Q := by
  intro f
  induction f with
  | zero => intro i b e x7 M hi hb hRt hb8 ho hf; exact absurd hf (Nat.not_lt_zero _)
  | succ f ih =>
    intro i b e x7 M hi hb hRt hb8 ho hf
    have hK1 := hK.fr (fun b j h0 h1 => ho b j (by omega))
    have hU := hT.it hKo i.toNat (by omega)
    have hmi2 := it_mi (K := K) i.toNat T
    have mb0 := many_b T 2 (kPe K).toNat
    have hpe := hKo.1
    refine k_iload i_28_29 rfl ?_
    refine k_bipush i_28_31 (by decide) ?_
    refine k_icmp_gt (t := 108) i_28_33 rfl (fun h33 => ?_) (fun h33 => ?_)
    · refine k_iload_n i_28_108 rfl ?_
      refine k_if_eq (t := 117) i_28_109 rfl (fun h109 => ?_) (fun h109 => ?_)
      · refine k_iload i_28_117 rfl ?_
        refine k_iret i_28_119 rfl ?_
        refine kk _ _ ?_ ho
        obtain rfl : i = 31 := by omega
        have hb2 := (hb.resolve_left (fun q => absurd q.1 (by decide))).2
        rw [show (31 - 1 : Int).toNat = 30 from rfl] at hb2
        rw [← hb2]
        rw [if_pos h109]
      · refine k_iload i_28_112 rfl ?_
        refine k_goto (t := 119) i_28_114 rfl ?_
        refine k_iret i_28_119 rfl ?_
        refine kk _ _ ?_ ho
        obtain rfl : i = 31 := by omega
        have hb2 := (hb.resolve_left (fun q => absurd q.1 (by decide))).2
        rw [show (31 - 1 : Int).toNat = 30 from rfl] at hb2
        rw [← hb2]
        rw [if_neg h109]
    · refine k_aload_n i_28_36 rfl ?_
      refine k_getR (r := 179) i_28_37 o_28 rfl (by decide) (s_177) rfl ?_
      refine k_aload_n i_28_40 rfl ?_
      refine k_getR (r := 185) i_28_41 o_28 rfl (by decide) (s_177) rfl ?_
      refine k_invV (n := 1) (o' := 6) (av := [vR (some 179), vR (some 185)]) (rest := []) (el := [some (vR (some 179)), some (vR (some 185)), none]) i_28_44 o_28 rfl v_62 rfl (s_179) rfl rfl rfl rfl rfl ?_
      refine c_62 tw_179 tw_185 (Or.inr (Or.inl ⟨rfl, rfl⟩)) (by omega) hKo hRt (show ((tQ (itF K i.toNat T)).length : Int) ≤ 16 by have := hU.2.2.1; have := hKo.1; omega) (fun M1 hR1 ho1 => ?_)
      show Ok _ 28 47 [some (vR (some 177)), some (vI s), some (vI mn), some (vI h0), some (vI b), some (vI e), some (vI i), x7] [] (M1) _
      refine k_aload_n i_28_47 rfl ?_
      refine k_getR (r := 179) i_28_48 o_28 rfl (by decide) (s_177) rfl ?_
      refine k_iload_n i_28_51 rfl ?_
      refine k_putI (kz := 8) i_28_52 o_28 rfl (by decide) (s_179) rfl ?_
      have hR2 := (hR1.fld s).2.2.2
      refine k_aload_n i_28_55 rfl ?_
      refine k_getR (r := 179) i_28_56 o_28 rfl (by decide) (s_177) rfl ?_
      refine k_bipush i_28_59 (by decide) ?_
      refine k_iload i_28_61 rfl ?_
      refine k_isub i_28_63 (by omega) ?_
      refine k_invS (n := 2) (av := [vR (some 179), vI (60 - i)]) (rest := []) (el := [some (vR (some 179)), some (vI (60 - i)), none]) i_28_64 o_28 rfl v_14 rfl rfl rfl rfl rfl rfl ?_
      refine c_14 (T := seF (itF K i.toNat T) s) hKo (hK1.fr (fun b j h0 h1 => by rw [mu_ne (by omega), ho1 b j (by omega)])) (hU.se (by omega)) (by omega) (by show tMi (itF K i.toNat T) ≤ 2000; omega) hR2 (fun M3 x hR3 ho3 => ?_)
      show Ok _ 28 67 [some (vR (some 177)), some (vI s), some (vI mn), some (vI h0), some (vI b), some (vI e), some (vI i), x7] [] (M3) _
      refine k_aload_n i_28_67 rfl ?_
      refine k_getR (r := 179) i_28_68 o_28 rfl (by decide) (s_177) rfl ?_
      refine k_iconst i_28_71 (by decide) ?_
      refine k_invV (n := 1) (o' := 6) (av := [vR (some 179), vI 2]) (rest := []) (el := [some (vR (some 179)), some (vI 2), none, none]) i_28_72 o_28 rfl v_67 rfl (s_179) rfl rfl rfl rfl rfl ?_
      refine c_67 tw_179 (by omega) hKo (hK1.fr (fun b j h0 h1 => by rw [ho3 b j (by omega), mu_ne (by omega), ho1 b j (by omega)])) hR3 (fun v3 hv3 => ?_)
      show Ok _ 28 75 [some (vR (some 177)), some (vI s), some (vI mn), some (vI h0), some (vI b), some (vI e), some (vI i), x7] [vI v3] (M3) _
      rw [many_mi] at hv3
      have mb3 := many_b (itF K (60 - i).toNat (seF (itF K i.toNat T) s)) 2 (kPe K).toNat
      have hN : v3 - h0 = opN K T s i.toNat := by
        unfold opN
        rw [hv3, hh0, show (60 - i).toNat = 60 - i.toNat by omega]
      refine k_iload_n i_28_75 rfl ?_
      refine k_isub i_28_76 (by omega) ?_
      refine k_istore (ls' := [some (vR (some 177)), some (vI s), some (vI mn), some (vI h0), some (vI b), some (vI e), some (vI i), some (vI (v3 - h0))]) i_28_77 rfl ?_
      refine k_iload i_28_79 rfl ?_
      refine k_iload i_28_81 rfl ?_
      refine k_icmp_lt (t := 94) i_28_83 rfl (fun h83 => ?_) (fun h83 => ?_)
      · refine k_aload_n i_28_94 rfl ?_
        refine k_getR (r := 185) i_28_95 o_28 rfl (by decide) (s_177) rfl ?_
        refine k_iconst i_28_98 (by decide) ?_
        refine k_invV (n := 1) (o' := 6) (av := [vR (some 185), vI 1]) (rest := []) (el := [some (vR (some 185)), some (vI 1)]) i_28_99 o_28 rfl v_72 rfl (s_185) rfl rfl rfl rfl rfl ?_
        refine c_72 tw_185 (by omega) hKo (hK1.fr (fun b j h0 h1 => by rw [ho3 b j (by omega), mu_ne (by omega), ho1 b j (by omega)])) (hRt.fr (fun b j h0 h1 => by rw [ho3 b j (by omega), mu_ne (by omega), ho1 b j (by omega)])) hU (by omega) (by omega) (fun M4 hR4 ho4 => ?_)
        show Ok _ 28 102 [some (vR (some 177)), some (vI s), some (vI mn), some (vI h0), some (vI b), some (vI e), some (vI i), some (vI (v3 - h0))] [] (M4) _
        refine k_iinc (ls' := [some (vR (some 177)), some (vI s), some (vI mn), some (vI h0), some (vI b), some (vI e), some (vI (i + 1)), some (vI (v3 - h0))]) i_28_102 rfl (by omega) rfl ?_
        refine k_goto (t := 29) i_28_105 rfl ?_
        refine ih (i + 1) b e _ M4 (by omega) ?_ ?_ ?_ ?_ (by omega)
        · refine Or.inr ⟨by omega, ?_⟩
          rw [show (i + 1 - 1).toNat = i.toNat by omega]
          by_cases hi0 : i = 0
          · subst hi0
            
            rw [show (0 : Int).toNat = 0 from rfl] at hN; omega
          · have hb2 := (hb.resolve_left (fun q => hi0 q.1)).2
            rw [show i.toNat = (i - 1).toNat + 1 by omega] at hN ⊢
            rw [opn_s _ _ hN.symm hb2]
            rw [if_neg (by omega)]
            
        · rw [show (i + 1).toNat = i.toNat + 1 by omega, it_s]
          exact hR4
        · exact hb8
        · intro b j hb9
          rw [ho4 b j (by omega), ho3 b j (by omega), mu_ne (by omega), ho1 b j (by omega)]
          exact ho b j hb9
      · refine k_iload i_28_86 rfl ?_
        refine k_istore (ls' := [some (vR (some 177)), some (vI s), some (vI mn), some (vI h0), some (vI i), some (vI e), some (vI i), some (vI (v3 - h0))]) i_28_88 rfl ?_
        refine k_iload i_28_90 rfl ?_
        refine k_istore (ls' := [some (vR (some 177)), some (vI s), some (vI mn), some (vI h0), some (vI i), some (vI (v3 - h0)), some (vI i), some (vI (v3 - h0))]) i_28_92 rfl ?_
        refine k_aload_n i_28_94 rfl ?_
        refine k_getR (r := 185) i_28_95 o_28 rfl (by decide) (s_177) rfl ?_
        refine k_iconst i_28_98 (by decide) ?_
        refine k_invV (n := 1) (o' := 6) (av := [vR (some 185), vI 1]) (rest := []) (el := [some (vR (some 185)), some (vI 1)]) i_28_99 o_28 rfl v_72 rfl (s_185) rfl rfl rfl rfl rfl ?_
        refine c_72 tw_185 (by omega) hKo (hK1.fr (fun b j h0 h1 => by rw [ho3 b j (by omega), mu_ne (by omega), ho1 b j (by omega)])) (hRt.fr (fun b j h0 h1 => by rw [ho3 b j (by omega), mu_ne (by omega), ho1 b j (by omega)])) hU (by omega) (by omega) (fun M4 hR4 ho4 => ?_)
        show Ok _ 28 102 [some (vR (some 177)), some (vI s), some (vI mn), some (vI h0), some (vI i), some (vI (v3 - h0)), some (vI i), some (vI (v3 - h0))] [] (M4) _
        refine k_iinc (ls' := [some (vR (some 177)), some (vI s), some (vI mn), some (vI h0), some (vI i), some (vI (v3 - h0)), some (vI (i + 1)), some (vI (v3 - h0))]) i_28_102 rfl (by omega) rfl ?_
        refine k_goto (t := 29) i_28_105 rfl ?_
        refine ih (i + 1) i (v3 - h0) _ M4 (by omega) ?_ ?_ ?_ ?_ (by omega)
        · refine Or.inr ⟨by omega, ?_⟩
          rw [show (i + 1 - 1).toNat = i.toNat by omega]
          by_cases hi0 : i = 0
          · subst hi0
            have q : op (opN K T s) (0 : Int).toNat = (0, opN K T s 0) := rfl
            rw [q]; rw [show (0 : Int).toNat = 0 from rfl] at hN; rw [← hN]
          · have hb2 := (hb.resolve_left (fun q => hi0 q.1)).2
            rw [show i.toNat = (i - 1).toNat + 1 by omega] at hN ⊢
            rw [opn_s _ _ hN.symm hb2]
            rw [if_pos (by omega)]
            rw [show (((i - 1).toNat + 1 : Nat) : Int) = i by omega]
        · rw [show (i + 1).toNat = i.toNat + 1 by omega, it_s]
          exact hR4
        · exact hb8
        · intro b j hb9
          rw [ho4 b j (by omega), ho3 b j (by omega), mu_ne (by omega), ho1 b j (by omega)]
          exact ho b j hb9

/-- ElbowQueue$Foretold.bestOpening -/
theorem c_28 {d : Nat} {M : Mem} {Q : Option Vv → Mem → Prop} {K : Kt} {T : Tt} {s mn : Int} (hKo : KOk K 0) (hK : RepK M 20 K 0) (hT : TOk K 0 T) (hmi : tMi T ≤ 1900) (hs : 0 ≤ s ∧ s ≤ 9) (h00 : 0 ≤ opN K T s 0) (hR0 : RepC M 25 K 0 T) (kk : ∀ v M', v = (if mn = 0 then (op (opN K T s) 30).2 else (op (opN K T s) 30).1) → OutF M M' → Q (some (vI v)) M') : Ok (d + 4) 28 0 [some (vR (some 177)), some (vI s), some (vI mn), none, none, none, none, none] [] M Q := by
  refine k_aload_n i_28_0 rfl ?_
  refine k_getR (r := 25) i_28_1 o_28 rfl (by decide) (s_177) rfl ?_
  refine k_iconst i_28_4 (by decide) ?_
  refine k_invV (n := 1) (o' := 6) (av := [vR (some 25), vI 2]) (rest := []) (el := [some (vR (some 25)), some (vI 2), none, none]) i_28_5 o_28 rfl v_67 rfl (s_25) rfl rfl rfl rfl rfl ?_
  refine c_67 tw_25 (by omega) hKo hK hR0 (fun h0 hh0 => ?_)
  show Ok _ 28 8 [some (vR (some 177)), some (vI s), some (vI mn), none, none, none, none, none] [vI h0] (M) _
  refine k_istore_n (ls' := [some (vR (some 177)), some (vI s), some (vI mn), some (vI h0), none, none, none, none]) i_28_8 rfl ?_
  refine k_iconst i_28_9 (by decide) ?_
  refine k_istore (ls' := [some (vR (some 177)), some (vI s), some (vI mn), some (vI h0), some (vI 0), none, none, none]) i_28_10 rfl ?_
  refine k_iconst i_28_12 (by decide) ?_
  refine k_istore (ls' := [some (vR (some 177)), some (vI s), some (vI mn), some (vI h0), some (vI 0), some (vI 0), none, none]) i_28_13 rfl ?_
  refine k_aload_n i_28_15 rfl ?_
  refine k_getR (r := 185) i_28_16 o_28 rfl (by decide) (s_177) rfl ?_
  refine k_aload_n i_28_19 rfl ?_
  refine k_getR (r := 25) i_28_20 o_28 rfl (by decide) (s_177) rfl ?_
  refine k_invV (n := 1) (o' := 6) (av := [vR (some 185), vR (some 25)]) (rest := []) (el := [some (vR (some 185)), some (vR (some 25)), none]) i_28_23 o_28 rfl v_62 rfl (s_185) rfl rfl rfl rfl rfl ?_
  refine c_62 tw_185 tw_25 (Or.inl ⟨rfl, rfl⟩) (by omega) hKo hR0 (show ((tQ T).length : Int) ≤ 16 by have := hT.2.2.1; have := hKo.1; omega) (fun M1 hR1 ho1 => ?_)
  show Ok _ 28 26 [some (vR (some 177)), some (vI s), some (vI mn), some (vI h0), some (vI 0), some (vI 0), none, none] [] (M1) _
  refine k_iconst i_28_26 (by decide) ?_
  refine k_istore (ls' := [some (vR (some 177)), some (vI s), some (vI mn), some (vI h0), some (vI 0), some (vI 0), some (vI 0), none]) i_28_27 rfl ?_
  exact l_28 hKo hK hT hmi hs h00 hh0 kk 32 0 0 0 _ M1 (by omega) (Or.inl ⟨rfl, rfl, rfl⟩) hR1 trivial (fun b j hb => ho1 b j (by omega)) (by omega)
