set_option maxRecDepth 100000 in
theorem l_173 {d : Nat} {M0 : Mem} {Q : Option Vv → Mem → Prop} {K : Kt} {T : Tt} {k w p lg : Int} (hKo : KOk K 0) (hKR : RepKR M0 K 0) (hRR : RepR M0 K 0 T) (hT : TOk K 0 T) (hmi : tMi T ≤ 1900) (hk : 0 ≤ k ∧ k < (tQ T).length) (hp : p = (tQ T).getD k.toNat 0) (hlg : (w = 0 ∧ lg = 1) ∨ (w = 1 ∧ lg = 0)) (kk : ∀ v M', v = (bw (fun w : Nat => nv (lifeN K 200 (hearF T p w)) 1000) lg 3).1 → Wk M0 M' → Q (some (vI v)) M') : ∀ (f : Nat) (i : Int) (b : Int) (e : Int) (x6 : Option Vv) (x7 : Option Vv) (M : Mem), (0 ≤ i ∧ i ≤ 4) → ((i = 0 ∧ b = 0 ∧ ((w = 0 ∧ e = -1) ∨ (w = 1 ∧ e = 2000))) ∨ (1 ≤ i ∧ (b, e) = bw (fun w : Nat => nv (lifeN K 200 (hearF T p w)) 1000) lg (i - 1).toNat)) → (Wk M0 M) → (4 - i).toNat < f → Ok (d + 5) 173 64 [some (vR (some 273)), some (vI k), some (vI w), some (vI b), some (vI e), some (vI i), x6, x7] [] M Q := by
  intro f
  induction f with
  | zero => intro i b e x6 x7 M hi hb hw hf; exact absurd hf (Nat.not_lt_zero _)
  | succ f ih =>
    intro i b e x6 x7 M hi hb hw hf
    have g0 := hKo.1
    have hl28 := q28 hKo hT
    have hv : Va K 0 p := by rw [hp]; exact hT.va (q_mem (by omega))
    refine k_iload i_173_64 rfl ?_
    refine k_iconst i_173_66 (by decide) ?_
    refine k_icmp_ge (t := 160) i_173_67 rfl (fun h67 => ?_) (fun h67 => ?_)
    · refine k_iload_n i_173_160 rfl ?_
      refine k_iret i_173_161 rfl ?_
      refine kk _ _ ?_ hw
      obtain rfl : i = 4 := by omega
      have hb2 := (hb.resolve_left (fun q => absurd q.1 (by decide))).2
      rw [show (4 - 1 : Int).toNat = 3 from rfl] at hb2
      rw [← hb2]
    · refine k_aload_n i_173_70 rfl ?_
      refine k_aload_n i_173_71 rfl ?_
      refine k_getR (r := 274) i_173_72 o_173 rfl (by decide) (s_273) rfl ?_
      refine k_bipush i_173_75 (by decide) ?_
      refine k_iload_n i_173_77 rfl ?_
      refine k_iadd i_173_78 (by omega) ?_
      refine k_iald i_173_79 (s_274) (by omega) ?_
      rw [show M 274 (112 + k) = p by rw [hp]; exact (hw.r hRR).q hk.1 hk.2]
      refine k_iload i_173_80 rfl ?_
      refine k_invV (n := 2) (o' := 8) (av := [vR (some 273), vI p, vI i]) (rest := []) (el := [some (vR (some 273)), some (vI p), some (vI i)]) i_173_82 o_173 rfl v_157 rfl (s_273) rfl rfl rfl rfl rfl ?_
      refine c_157 hKo (hw.r hRR) hl28 hv (fun M2 hR2 ho2 => ?_)
      show Ok _ 173 85 [some (vR (some 273)), some (vI k), some (vI w), some (vI b), some (vI e), some (vI i), x6, x7] [] (M2) _
      refine k_aload_n i_173_85 rfl ?_
      refine k_invV (n := 0) (o' := 8) (av := [vR (some 273)]) (rest := []) (el := [some (vR (some 273)), none]) i_173_86 o_173 rfl v_171 rfl (s_273) rfl rfl rfl rfl rfl ?_
      refine c_171 (T := hearF T p i) hKo ((hw.k hKR).out hKo ho2) (hT.hear (by omega)) (by show tMi T ≤ 2000; omega) hR2 (fun v3 M3 hv3 ho3 => ?_)
      show Ok _ 173 89 [some (vR (some 273)), some (vI k), some (vI w), some (vI b), some (vI e), some (vI i), x6, x7] [vI v3] (M3) _
      have lb := life_b K 200 (hearF T p i)
      have hv3b : 0 ≤ v3 ∧ v3 ≤ 1000 := by rw [hv3]; unfold nv; split <;> omega
      refine k_istore (ls' := [some (vR (some 273)), some (vI k), some (vI w), some (vI b), some (vI e), some (vI i), some (vI v3), x7]) i_173_89 rfl ?_
      refine k_aload_n i_173_91 rfl ?_
      refine k_invV (n := 0) (o' := 8) (av := [vR (some 273)]) (rest := []) (el := [some (vR (some 273)), none]) i_173_92 o_173 rfl v_166 rfl (s_273) rfl rfl rfl rfl rfl ?_
      refine c_166 ?_
      show Ok _ 173 95 [some (vR (some 273)), some (vI k), some (vI w), some (vI b), some (vI e), some (vI i), some (vI v3), x7] [] (cpn M3 278 274 232) _
      refine k_iload_n i_173_95 rfl ?_
      refine k_if_ne (t := 114) i_173_96 rfl (fun h96 => ?_) (fun h96 => ?_)
      · refine k_iload i_173_114 rfl ?_
        refine k_iload i_173_116 rfl ?_
        refine k_icmp_ge (t := 125) i_173_118 rfl (fun h118 => ?_) (fun h118 => ?_)
        · refine k_iconst i_173_125 (by decide) ?_
          refine k_istore (ls' := [some (vR (some 273)), some (vI k), some (vI w), some (vI b), some (vI e), some (vI i), some (vI v3), some (vI 0)]) i_173_126 rfl ?_
          refine k_iload i_173_128 rfl ?_
          refine k_if_eq (t := 138) i_173_130 rfl (fun h130 => ?_) (fun h130 => absurd h130 (by decide))
          refine k_iload_n i_173_138 rfl ?_
          refine k_istore_n (ls' := [some (vR (some 273)), some (vI k), some (vI w), some (vI b), some (vI e), some (vI i), some (vI v3), some (vI 0)]) i_173_139 rfl ?_
          refine k_iload i_173_140 rfl ?_
          refine k_if_eq (t := 150) i_173_142 rfl (fun h142 => ?_) (fun h142 => absurd h142 (by decide))
          refine k_iload i_173_150 rfl ?_
          refine k_istore (ls' := [some (vR (some 273)), some (vI k), some (vI w), some (vI b), some (vI e), some (vI i), some (vI v3), some (vI 0)]) i_173_152 rfl ?_
          refine k_iinc (ls' := [some (vR (some 273)), some (vI k), some (vI w), some (vI b), some (vI e), some (vI (i + 1)), some (vI v3), some (vI 0)]) i_173_154 rfl (by omega) rfl ?_
          refine k_goto (t := 64) i_173_157 rfl ?_
          refine ih (i + 1) b e _ _ _ (by omega) ?_ (hw.bk (ho2.tr ho3).w) (by omega)
          refine Or.inr ⟨by omega, ?_⟩
          have hL : (fun w : Nat => nv (lifeN K 200 (hearF T p w)) 1000) i.toNat = v3 := by
            show nv (lifeN K 200 (hearF T p ((i.toNat : Nat) : Int))) 1000 = _
            rw [show ((i.toNat : Nat) : Int) = i by omega, hv3]
          rw [show (i + 1 - 1).toNat = i.toNat by omega]
          by_cases hi0 : i = 0
          · subst hi0
            have q : bw (fun w : Nat => nv (lifeN K 200 (hearF T p w)) 1000) lg (0 : Int).toNat = (0, (fun w : Nat => nv (lifeN K 200 (hearF T p w)) 1000) 0) := rfl
            rw [show (0 : Int).toNat = 0 from rfl] at hL
            omega
          · have hb2 := (hb.resolve_left (fun q => hi0 q.1)).2
            rw [show i.toNat = (i - 1).toNat + 1 by omega] at hL ⊢
            rw [bw_s _ lg _ hL hb2]
            rw [if_neg (by omega)]
            
        · refine k_iconst i_173_121 (by decide) ?_
          refine k_goto (t := 126) i_173_122 rfl ?_
          refine k_istore (ls' := [some (vR (some 273)), some (vI k), some (vI w), some (vI b), some (vI e), some (vI i), some (vI v3), some (vI 1)]) i_173_126 rfl ?_
          refine k_iload i_173_128 rfl ?_
          refine k_if_eq (t := 138) i_173_130 rfl (fun h130 => absurd h130 (by decide)) (fun h130 => ?_)
          refine k_iload i_173_133 rfl ?_
          refine k_goto (t := 139) i_173_135 rfl ?_
          refine k_istore_n (ls' := [some (vR (some 273)), some (vI k), some (vI w), some (vI i), some (vI e), some (vI i), some (vI v3), some (vI 1)]) i_173_139 rfl ?_
          refine k_iload i_173_140 rfl ?_
          refine k_if_eq (t := 150) i_173_142 rfl (fun h142 => absurd h142 (by decide)) (fun h142 => ?_)
          refine k_iload i_173_145 rfl ?_
          refine k_goto (t := 152) i_173_147 rfl ?_
          refine k_istore (ls' := [some (vR (some 273)), some (vI k), some (vI w), some (vI i), some (vI v3), some (vI i), some (vI v3), some (vI 1)]) i_173_152 rfl ?_
          refine k_iinc (ls' := [some (vR (some 273)), some (vI k), some (vI w), some (vI i), some (vI v3), some (vI (i + 1)), some (vI v3), some (vI 1)]) i_173_154 rfl (by omega) rfl ?_
          refine k_goto (t := 64) i_173_157 rfl ?_
          refine ih (i + 1) i v3 _ _ _ (by omega) ?_ (hw.bk (ho2.tr ho3).w) (by omega)
          refine Or.inr ⟨by omega, ?_⟩
          have hL : (fun w : Nat => nv (lifeN K 200 (hearF T p w)) 1000) i.toNat = v3 := by
            show nv (lifeN K 200 (hearF T p ((i.toNat : Nat) : Int))) 1000 = _
            rw [show ((i.toNat : Nat) : Int) = i by omega, hv3]
          rw [show (i + 1 - 1).toNat = i.toNat by omega]
          by_cases hi0 : i = 0
          · subst hi0
            have q : bw (fun w : Nat => nv (lifeN K 200 (hearF T p w)) 1000) lg (0 : Int).toNat = (0, (fun w : Nat => nv (lifeN K 200 (hearF T p w)) 1000) 0) := rfl
            rw [show (0 : Int).toNat = 0 from rfl] at hL
            rw [q, hL]
          · have hb2 := (hb.resolve_left (fun q => hi0 q.1)).2
            rw [show i.toNat = (i - 1).toNat + 1 by omega] at hL ⊢
            rw [bw_s _ lg _ hL hb2]
            rw [if_pos (by omega)]
            rw [show (((i - 1).toNat + 1 : Nat) : Int) = i by omega]
      · refine k_iload i_173_99 rfl ?_
        refine k_iload i_173_101 rfl ?_
        refine k_icmp_le (t := 110) i_173_103 rfl (fun h103 => ?_) (fun h103 => ?_)
        · refine k_iconst i_173_110 (by decide) ?_
          refine k_goto (t := 126) i_173_111 rfl ?_
          refine k_istore (ls' := [some (vR (some 273)), some (vI k), some (vI w), some (vI b), some (vI e), some (vI i), some (vI v3), some (vI 0)]) i_173_126 rfl ?_
          refine k_iload i_173_128 rfl ?_
          refine k_if_eq (t := 138) i_173_130 rfl (fun h130 => ?_) (fun h130 => absurd h130 (by decide))
          refine k_iload_n i_173_138 rfl ?_
          refine k_istore_n (ls' := [some (vR (some 273)), some (vI k), some (vI w), some (vI b), some (vI e), some (vI i), some (vI v3), some (vI 0)]) i_173_139 rfl ?_
          refine k_iload i_173_140 rfl ?_
          refine k_if_eq (t := 150) i_173_142 rfl (fun h142 => ?_) (fun h142 => absurd h142 (by decide))
          refine k_iload i_173_150 rfl ?_
          refine k_istore (ls' := [some (vR (some 273)), some (vI k), some (vI w), some (vI b), some (vI e), some (vI i), some (vI v3), some (vI 0)]) i_173_152 rfl ?_
          refine k_iinc (ls' := [some (vR (some 273)), some (vI k), some (vI w), some (vI b), some (vI e), some (vI (i + 1)), some (vI v3), some (vI 0)]) i_173_154 rfl (by omega) rfl ?_
          refine k_goto (t := 64) i_173_157 rfl ?_
          refine ih (i + 1) b e _ _ _ (by omega) ?_ (hw.bk (ho2.tr ho3).w) (by omega)
          refine Or.inr ⟨by omega, ?_⟩
          have hL : (fun w : Nat => nv (lifeN K 200 (hearF T p w)) 1000) i.toNat = v3 := by
            show nv (lifeN K 200 (hearF T p ((i.toNat : Nat) : Int))) 1000 = _
            rw [show ((i.toNat : Nat) : Int) = i by omega, hv3]
          rw [show (i + 1 - 1).toNat = i.toNat by omega]
          by_cases hi0 : i = 0
          · subst hi0
            have q : bw (fun w : Nat => nv (lifeN K 200 (hearF T p w)) 1000) lg (0 : Int).toNat = (0, (fun w : Nat => nv (lifeN K 200 (hearF T p w)) 1000) 0) := rfl
            rw [show (0 : Int).toNat = 0 from rfl] at hL
            omega
          · have hb2 := (hb.resolve_left (fun q => hi0 q.1)).2
            rw [show i.toNat = (i - 1).toNat + 1 by omega] at hL ⊢
            rw [bw_s _ lg _ hL hb2]
            rw [if_neg (by omega)]
            
        · refine k_iconst i_173_106 (by decide) ?_
          refine k_goto (t := 126) i_173_107 rfl ?_
          refine k_istore (ls' := [some (vR (some 273)), some (vI k), some (vI w), some (vI b), some (vI e), some (vI i), some (vI v3), some (vI 1)]) i_173_126 rfl ?_
          refine k_iload i_173_128 rfl ?_
          refine k_if_eq (t := 138) i_173_130 rfl (fun h130 => absurd h130 (by decide)) (fun h130 => ?_)
          refine k_iload i_173_133 rfl ?_
          refine k_goto (t := 139) i_173_135 rfl ?_
          refine k_istore_n (ls' := [some (vR (some 273)), some (vI k), some (vI w), some (vI i), some (vI e), some (vI i), some (vI v3), some (vI 1)]) i_173_139 rfl ?_
          refine k_iload i_173_140 rfl ?_
          refine k_if_eq (t := 150) i_173_142 rfl (fun h142 => absurd h142 (by decide)) (fun h142 => ?_)
          refine k_iload i_173_145 rfl ?_
          refine k_goto (t := 152) i_173_147 rfl ?_
          refine k_istore (ls' := [some (vR (some 273)), some (vI k), some (vI w), some (vI i), some (vI v3), some (vI i), some (vI v3), some (vI 1)]) i_173_152 rfl ?_
          refine k_iinc (ls' := [some (vR (some 273)), some (vI k), some (vI w), some (vI i), some (vI v3), some (vI (i + 1)), some (vI v3), some (vI 1)]) i_173_154 rfl (by omega) rfl ?_
          refine k_goto (t := 64) i_173_157 rfl ?_
          refine ih (i + 1) i v3 _ _ _ (by omega) ?_ (hw.bk (ho2.tr ho3).w) (by omega)
          refine Or.inr ⟨by omega, ?_⟩
          have hL : (fun w : Nat => nv (lifeN K 200 (hearF T p w)) 1000) i.toNat = v3 := by
            show nv (lifeN K 200 (hearF T p ((i.toNat : Nat) : Int))) 1000 = _
            rw [show ((i.toNat : Nat) : Int) = i by omega, hv3]
          rw [show (i + 1 - 1).toNat = i.toNat by omega]
          by_cases hi0 : i = 0
          · subst hi0
            have q : bw (fun w : Nat => nv (lifeN K 200 (hearF T p w)) 1000) lg (0 : Int).toNat = (0, (fun w : Nat => nv (lifeN K 200 (hearF T p w)) 1000) 0) := rfl
            rw [show (0 : Int).toNat = 0 from rfl] at hL
            rw [q, hL]
          · have hb2 := (hb.resolve_left (fun q => hi0 q.1)).2
            rw [show i.toNat = (i - 1).toNat + 1 by omega] at hL ⊢
            rw [bw_s _ lg _ hL hb2]
            rw [if_pos (by omega)]
            rw [show (((i - 1).toNat + 1 : Nat) : Int) = i by omega]
