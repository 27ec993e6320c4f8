def czn (M : Mem) (n : Int) : Mem := fun c j => if c = 285 ∧ 0 ≤ j ∧ j < n then 0 else M c j
theorem czn_0 (M : Mem) : czn M 0 = M := by
  funext c j
  unfold czn
  rw [if_neg (by omega)]
theorem czn_s {M : Mem} {n : Int} (h : 0 ≤ n) : mu (czn M n) 285 n 0 = czn M (n + 1) := by
  funext c j
  unfold mu czn
  by_cases e : c = 285 ∧ j = n
  · rw [if_pos e, if_pos (by omega)]
  · rw [if_neg e]
    by_cases e2 : c = 285 ∧ 0 ≤ j ∧ j < n
    · rw [if_pos e2, if_pos (by omega)]
    · rw [if_neg e2, if_neg (by omega)]

set_option maxRecDepth 100000 in
theorem l_139c {d : Nat} {M : Mem} {Q : Option Vv → Mem → Prop} {x2 : Option Vv}  (kx : ∀ x1, Ok (d + 5) 139 22 [some (vR (some 273)), x1, x2] [] (czn M 232) Q) : ∀ (f : Nat) (i : Int), (0 ≤ i ∧ i ≤ 232) → (232 - i).toNat < f → Ok (d + 5) 139 2 [some (vR (some 273)), some (vI i), x2] [] (czn M i) Q := by
  intro f
  induction f with
  | zero => intro i hi hf; exact absurd hf (Nat.not_lt_zero _)
  | succ f ih =>
    intro i hi hf
    refine k_iload_n i_139_2 rfl ?_
    refine k_sipush i_139_3 (by decide) ?_
    refine k_icmp_ge (t := 22) i_139_6 rfl (fun h6 => ?_) (fun h6 => ?_)
    · obtain rfl : i = 232 := by omega
      exact kx _
    · refine k_aload_n i_139_9 rfl ?_
      refine k_getR (r := 285) i_139_10 o_139 rfl (by decide) (s_273) rfl ?_
      refine k_iload_n i_139_13 rfl ?_
      refine k_iconst i_139_14 (by decide) ?_
      refine k_iast i_139_15 (s_285) (by omega) ?_
      refine k_iinc (ls' := [some (vR (some 273)), some (vI (i + 1)), x2]) i_139_16 rfl (by omega) rfl ?_
      refine k_goto (t := 2) i_139_19 rfl ?_
      rw [czn_s (by omega)]
      exact ih (i + 1) (by omega) (by omega)

set_option maxRecDepth 100000 in
theorem c_139 {d : Nat} {M : Mem} {Q : Option Vv → Mem → Prop} {len : Int} {tp : Int → Int} (h1 : M 273 13 = len) (h2 : ∀ i : Int, 0 ≤ i → i < len → M 284 i = tp i) (hl : 0 ≤ len ∧ len ≤ 160) (ht : TpB len tp) (kk : ∀ M', RdM M' len tp (fiS len (rdR (bt len tp)).1).1 → (∀ (b : Nat) (j : Int), b ≠ 285 → ¬ (b = 273 ∧ (j = 15 ∨ j = 16)) → M' b j = M b j) → ((fiS len (rdR (bt len tp)).1).2 = 0 → NXF M' (rdR (bt len tp)).2 ((rdW (bt len tp)).2.length : Int) ∧ M' 285 143 = nuV (bt len tp) 3 (rd0 (bt len tp)) ∧ M' 285 144 = nuV (bt len tp) 9 (rd2 (bt len tp))) → Q (some (vI (fiS len (rdR (bt len tp)).1).2)) M') : Ok (d + 5) 139 0 [some (vR (some 273)), none, none] [] M Q := by
  refine k_iconst i_139_0 (by decide) ?_
  refine k_istore_n (ls' := [some (vR (some 273)), some (vI 0), none]) i_139_1 rfl ?_
  rw [← czn_0 M]
  refine l_139c (fun x1 => ?_) 233 0 (by omega) (by omega)
  refine k_aload_n i_139_22 rfl ?_
  refine k_iconst i_139_23 (by decide) ?_
  refine k_putI (kz := 15) i_139_24 o_139 rfl (by decide) (s_273) rfl ?_
  obtain ⟨N1, eN1⟩ : ∃ z : Mem, z = mu (czn M 232) 273 (15) (0) := ⟨_, rfl⟩
  rw [← eN1]
  have fN1 : ∀ (b : Nat) (j : Int), b ≠ 285 → ¬ (b = 273 ∧ j = 15) → N1 b j = M b j := fun b j q0 q1 => by rw [eN1]; exact (if_neg q1).trans (if_neg (by omega))
  have zN1 : ∀ j : Int, 0 ≤ j → j < 232 → N1 285 j = 0 := fun j j0 j1 => by rw [eN1, mu_ne (by decide)]; exact if_pos ⟨rfl, j0, j1⟩
  have hN1 : RdM N1 len tp ((0 : Int), (0 : Int)).1 := ⟨by rw [fN1 _ _ (by decide) (by omega)]; exact h1, fun i i0 i1 => by rw [fN1 _ _ (by decide) (by omega)]; exact h2 i i0 i1, by rw [eN1, mu_s], Int.le_refl _, hl.1, hl.2⟩
  refine k_aload_n i_139_27 rfl ?_
  refine k_bipush i_139_28 (by decide) ?_
  refine k_invV (n := 1) (o' := 8) (av := [vR (some 273), vI 113]) (rest := []) (el := [some (vR (some 273)), some (vI 113), none]) i_139_30 o_139 rfl v_133 rfl (s_273) rfl rfl rfl rfl rfl ?_
  refine c_133 (c := 113) (s := (0, 0)) rfl hN1 (by decide) (fun M1 h1 f1 => ?_)
  show Ok _ 139 33 [some (vR (some 273)), x1, none] [vI ((sgS (bt len tp) 113 (0, 0)).2)] (M1) _
  refine k_istore_n (ls' := [some (vR (some 273)), some (vI ((sgS (bt len tp) 113 (0, 0)).2)), none]) i_139_33 rfl ?_
  refine k_iload_n i_139_34 rfl ?_
  refine k_if_ne (t := 46) i_139_35 rfl (fun h35 => ?_) (fun h35 => ?_)
  · refine k_iload_n i_139_46 rfl ?_
    refine k_istore_n (ls' := [some (vR (some 273)), some (vI ((sgS (bt len tp) 113 (0, 0)).2)), none]) i_139_47 rfl ?_
    refine k_aload_n i_139_48 rfl ?_
    refine k_getR (r := 285) i_139_49 o_139 rfl (by decide) (s_273) rfl ?_
    refine k_sipush i_139_52 (by decide) ?_
    refine k_aload_n i_139_55 rfl ?_
    refine k_getI (kz := 16) i_139_56 o_139 rfl (by decide) (s_273) rfl ?_
    refine k_iast i_139_59 (s_285) (by omega) ?_
    obtain ⟨N2, eN2⟩ : ∃ z : Mem, z = mu M1 285 (143) (M1 273 16) := ⟨_, rfl⟩
    rw [← eN2]
    have hN2 : RdM N2 len tp (sgS (bt len tp) 113 (0, 0)).1 := by rw [eN2]; exact h1.off (Or.inl (by decide)) (by decide)
    have fN2 : ∀ (b : Nat) (q : Int), ¬ (b = 285 ∧ q = 143) → N2 b q = M1 b q := fun b q hb => by rw [eN2]; exact if_neg hb
    have gN2 : N2 285 (143) = M1 273 16 := by rw [eN2, mu_s]
    refine k_iload_n i_139_60 rfl ?_
    refine k_if_ne (t := 73) i_139_61 rfl (fun h61 => ?_) (fun h61 => ?_)
    · refine k_iload_n i_139_73 rfl ?_
      refine k_istore_n (ls' := [some (vR (some 273)), some (vI ((sgS (bt len tp) 113 (0, 0)).2)), none]) i_139_74 rfl ?_
      refine k_iload_n i_139_75 rfl ?_
      refine k_if_ne (t := 88) i_139_76 rfl (fun h76 => ?_) (fun h76 => ?_)
      · refine k_iload_n i_139_88 rfl ?_
        refine k_istore_n (ls' := [some (vR (some 273)), some (vI ((sgS (bt len tp) 113 (0, 0)).2)), none]) i_139_89 rfl ?_
        refine k_aload_n i_139_90 rfl ?_
        refine k_getR (r := 285) i_139_91 o_139 rfl (by decide) (s_273) rfl ?_
        refine k_sipush i_139_94 (by decide) ?_
        refine k_aload_n i_139_97 rfl ?_
        refine k_getI (kz := 16) i_139_98 o_139 rfl (by decide) (s_273) rfl ?_
        refine k_iast i_139_101 (s_285) (by omega) ?_
        obtain ⟨N3, eN3⟩ : ∃ z : Mem, z = mu N2 285 (144) (N2 273 16) := ⟨_, rfl⟩
        rw [← eN3]
        have hN3 : RdM N3 len tp (sgS (bt len tp) 113 (0, 0)).1 := by rw [eN3]; exact hN2.off (Or.inl (by decide)) (by decide)
        have fN3 : ∀ (b : Nat) (q : Int), ¬ (b = 285 ∧ q = 144) → N3 b q = N2 b q := fun b q hb => by rw [eN3]; exact if_neg hb
        have gN3 : N3 285 (144) = N2 273 16 := by rw [eN3, mu_s]
        refine k_iload_n i_139_102 rfl ?_
        refine k_if_ne (t := 115) i_139_103 rfl (fun h103 => ?_) (fun h103 => ?_)
        · refine k_iload_n i_139_115 rfl ?_
          refine k_istore_n (ls' := [some (vR (some 273)), some (vI ((sgS (bt len tp) 113 (0, 0)).2)), none]) i_139_116 rfl ?_
          have zz : ∀ j : Int, 0 ≤ j → j < 232 → j ≠ 143 → j ≠ 144 → N3 285 j = 0 := fun j j0 j1 j2 j3 => by
            rw [fN3 _ _ (by omega), fN2 _ _ (by omega), f1 _ _ (by omega)]
            exact zN1 j j0 j1
          have m1 := zz 229 (by omega) (by omega) (by omega) (by omega)
          have m2 := zz 230 (by omega) (by omega) (by omega) (by omega)
          have ff : ∀ (b : Nat) (j : Int), b ≠ 285 → ¬ (b = 273 ∧ (j = 15 ∨ j = 16)) → N3 b j = M b j := fun b j q0 q1 => by
            rw [fN3 b j (by omega), fN2 b j (by omega), f1 b j (by omega)]
            exact fN1 b j q0 (by omega)
          have hs : ¬ (sgS (bt len tp) 113 (0, 0)).2 = 0 := by omega
          have e4 : rd4 (bt len tp) = (sgS (bt len tp) 113 (0, 0)) := by
            unfold rd4 rd2 rd0
            rw [nu_f (m := 3) (s := (sgS (bt len tp) 113 (0, 0))) (by omega), sg_f (c := 44) (s := (sgS (bt len tp) 113 (0, 0))) (by omega), nu_f (m := 9) (s := (sgS (bt len tp) 113 (0, 0))) (by omega), sg_f (c := 59) (s := (sgS (bt len tp) 113 (0, 0))) (by omega)]
          have eW : rdW (bt len tp) = ((sgS (bt len tp) 113 (0, 0)), []) := by unfold rdW; rw [e4]; exact wl_x (fun q => hs q.1)
          have eR : rdR (bt len tp) = ((sgS (bt len tp) 113 (0, 0)), []) := by unfold rdR; rw [eW]; exact pl_x (fun q => hs q.1)
          have eE : fiS len (rdR (bt len tp)).1 = (sgS (bt len tp) 113 (0, 0)) := by rw [eR]; exact fi_0 hs
          exact y_139f (M0 := N3) (R := (rdR (bt len tp))) (w := 0) (sgS (bt len tp) 113 (0, 0)) eE hs hN3 (by omega) (fun _ _ _ _ => rfl) (fun M' q1 q2 q3 => kk M' q1 (fun b j q4 q5 => (q2 b j q5 (fun q => absurd q q4)).trans (ff b j q4 q5)) (fun q => absurd q (by rw [eE]; exact hs)))
        · refine k_aload_n i_139_106 rfl ?_
          refine k_bipush i_139_107 (by decide) ?_
          refine k_invV (n := 1) (o' := 8) (av := [vR (some 273), vI 59]) (rest := []) (el := [some (vR (some 273)), some (vI 59), none]) i_139_109 o_139 rfl v_133 rfl (s_273) rfl rfl rfl rfl rfl ?_
          exfalso
          omega
      · refine k_aload_n i_139_79 rfl ?_
        refine k_bipush i_139_80 (by decide) ?_
        refine k_invV (n := 1) (o' := 8) (av := [vR (some 273), vI 9]) (rest := []) (el := [some (vR (some 273)), some (vI 9), none, none]) i_139_82 o_139 rfl v_134 rfl (s_273) rfl rfl rfl rfl rfl ?_
        exfalso
        omega
    · refine k_aload_n i_139_64 rfl ?_
      refine k_bipush i_139_65 (by decide) ?_
      refine k_invV (n := 1) (o' := 8) (av := [vR (some 273), vI 44]) (rest := []) (el := [some (vR (some 273)), some (vI 44), none]) i_139_67 o_139 rfl v_133 rfl (s_273) rfl rfl rfl rfl rfl ?_
      exfalso
      omega
  · refine k_aload_n i_139_38 rfl ?_
    refine k_iconst i_139_39 (by decide) ?_
    refine k_invV (n := 1) (o' := 8) (av := [vR (some 273), vI 3]) (rest := []) (el := [some (vR (some 273)), some (vI 3), none, none]) i_139_40 o_139 rfl v_134 rfl (s_273) rfl rfl rfl rfl rfl ?_
    refine c_134 (m := 3) (s := (sgS (bt len tp) 113 (0, 0))) (by omega) (by decide) ht h1 (fun M2 h2 f2 v2 => ?_)
    show Ok _ 139 43 [some (vR (some 273)), some (vI ((sgS (bt len tp) 113 (0, 0)).2)), none] [vI ((nuS (bt len tp) 3 (sgS (bt len tp) 113 (0, 0))).2)] (M2) _
    refine k_goto (t := 47) i_139_43 rfl ?_
    refine k_istore_n (ls' := [some (vR (some 273)), some (vI ((nuS (bt len tp) 3 (sgS (bt len tp) 113 (0, 0))).2)), none]) i_139_47 rfl ?_
    refine k_aload_n i_139_48 rfl ?_
    refine k_getR (r := 285) i_139_49 o_139 rfl (by decide) (s_273) rfl ?_
    refine k_sipush i_139_52 (by decide) ?_
    refine k_aload_n i_139_55 rfl ?_
    refine k_getI (kz := 16) i_139_56 o_139 rfl (by decide) (s_273) rfl ?_
    refine k_iast i_139_59 (s_285) (by omega) ?_
    obtain ⟨N2, eN2⟩ : ∃ z : Mem, z = mu M2 285 (143) (M2 273 16) := ⟨_, rfl⟩
    rw [← eN2]
    have hN2 : RdM N2 len tp (nuS (bt len tp) 3 (sgS (bt len tp) 113 (0, 0))).1 := by rw [eN2]; exact h2.off (Or.inl (by decide)) (by decide)
    have fN2 : ∀ (b : Nat) (q : Int), ¬ (b = 285 ∧ q = 143) → N2 b q = M2 b q := fun b q hb => by rw [eN2]; exact if_neg hb
    have gN2 : N2 285 (143) = M2 273 16 := by rw [eN2, mu_s]
    refine k_iload_n i_139_60 rfl ?_
    refine k_if_ne (t := 73) i_139_61 rfl (fun h61 => ?_) (fun h61 => ?_)
    · refine k_iload_n i_139_73 rfl ?_
      refine k_istore_n (ls' := [some (vR (some 273)), some (vI ((nuS (bt len tp) 3 (sgS (bt len tp) 113 (0, 0))).2)), none]) i_139_74 rfl ?_
      refine k_iload_n i_139_75 rfl ?_
      refine k_if_ne (t := 88) i_139_76 rfl (fun h76 => ?_) (fun h76 => ?_)
      · refine k_iload_n i_139_88 rfl ?_
        refine k_istore_n (ls' := [some (vR (some 273)), some (vI ((nuS (bt len tp) 3 (sgS (bt len tp) 113 (0, 0))).2)), none]) i_139_89 rfl ?_
        refine k_aload_n i_139_90 rfl ?_
        refine k_getR (r := 285) i_139_91 o_139 rfl (by decide) (s_273) rfl ?_
        refine k_sipush i_139_94 (by decide) ?_
        refine k_aload_n i_139_97 rfl ?_
        refine k_getI (kz := 16) i_139_98 o_139 rfl (by decide) (s_273) rfl ?_
        refine k_iast i_139_101 (s_285) (by omega) ?_
        obtain ⟨N3, eN3⟩ : ∃ z : Mem, z = mu N2 285 (144) (N2 273 16) := ⟨_, rfl⟩
        rw [← eN3]
        have hN3 : RdM N3 len tp (nuS (bt len tp) 3 (sgS (bt len tp) 113 (0, 0))).1 := by rw [eN3]; exact hN2.off (Or.inl (by decide)) (by decide)
        have fN3 : ∀ (b : Nat) (q : Int), ¬ (b = 285 ∧ q = 144) → N3 b q = N2 b q := fun b q hb => by rw [eN3]; exact if_neg hb
        have gN3 : N3 285 (144) = N2 273 16 := by rw [eN3, mu_s]
        refine k_iload_n i_139_102 rfl ?_
        refine k_if_ne (t := 115) i_139_103 rfl (fun h103 => ?_) (fun h103 => ?_)
        · refine k_iload_n i_139_115 rfl ?_
          refine k_istore_n (ls' := [some (vR (some 273)), some (vI ((nuS (bt len tp) 3 (sgS (bt len tp) 113 (0, 0))).2)), none]) i_139_116 rfl ?_
          have zz : ∀ j : Int, 0 ≤ j → j < 232 → j ≠ 143 → j ≠ 144 → N3 285 j = 0 := fun j j0 j1 j2 j3 => by
            rw [fN3 _ _ (by omega), fN2 _ _ (by omega), f2 _ _ (by omega), f1 _ _ (by omega)]
            exact zN1 j j0 j1
          have m1 := zz 229 (by omega) (by omega) (by omega) (by omega)
          have m2 := zz 230 (by omega) (by omega) (by omega) (by omega)
          have ff : ∀ (b : Nat) (j : Int), b ≠ 285 → ¬ (b = 273 ∧ (j = 15 ∨ j = 16)) → N3 b j = M b j := fun b j q0 q1 => by
            rw [fN3 b j (by omega), fN2 b j (by omega), f2 b j (by omega), f1 b j (by omega)]
            exact fN1 b j q0 (by omega)
          have hs : ¬ (nuS (bt len tp) 3 (sgS (bt len tp) 113 (0, 0))).2 = 0 := by omega
          have e4 : rd4 (bt len tp) = (nuS (bt len tp) 3 (sgS (bt len tp) 113 (0, 0))) := by
            unfold rd4 rd2 rd0
            rw [sg_f (c := 44) (s := (nuS (bt len tp) 3 (sgS (bt len tp) 113 (0, 0)))) (by omega), nu_f (m := 9) (s := (nuS (bt len tp) 3 (sgS (bt len tp) 113 (0, 0)))) (by omega), sg_f (c := 59) (s := (nuS (bt len tp) 3 (sgS (bt len tp) 113 (0, 0)))) (by omega)]
          have eW : rdW (bt len tp) = ((nuS (bt len tp) 3 (sgS (bt len tp) 113 (0, 0))), []) := by unfold rdW; rw [e4]; exact wl_x (fun q => hs q.1)
          have eR : rdR (bt len tp) = ((nuS (bt len tp) 3 (sgS (bt len tp) 113 (0, 0))), []) := by unfold rdR; rw [eW]; exact pl_x (fun q => hs q.1)
          have eE : fiS len (rdR (bt len tp)).1 = (nuS (bt len tp) 3 (sgS (bt len tp) 113 (0, 0))) := by rw [eR]; exact fi_0 hs
          exact y_139f (M0 := N3) (R := (rdR (bt len tp))) (w := 0) (nuS (bt len tp) 3 (sgS (bt len tp) 113 (0, 0))) eE hs hN3 (by omega) (fun _ _ _ _ => rfl) (fun M' q1 q2 q3 => kk M' q1 (fun b j q4 q5 => (q2 b j q5 (fun q => absurd q q4)).trans (ff b j q4 q5)) (fun q => absurd q (by rw [eE]; exact hs)))
        · refine k_aload_n i_139_106 rfl ?_
          refine k_bipush i_139_107 (by decide) ?_
          refine k_invV (n := 1) (o' := 8) (av := [vR (some 273), vI 59]) (rest := []) (el := [some (vR (some 273)), some (vI 59), none]) i_139_109 o_139 rfl v_133 rfl (s_273) rfl rfl rfl rfl rfl ?_
          exfalso
          omega
      · refine k_aload_n i_139_79 rfl ?_
        refine k_bipush i_139_80 (by decide) ?_
        refine k_invV (n := 1) (o' := 8) (av := [vR (some 273), vI 9]) (rest := []) (el := [some (vR (some 273)), some (vI 9), none, none]) i_139_82 o_139 rfl v_134 rfl (s_273) rfl rfl rfl rfl rfl ?_
        exfalso
        omega
    · refine k_aload_n i_139_64 rfl ?_
      refine k_bipush i_139_65 (by decide) ?_
      refine k_invV (n := 1) (o' := 8) (av := [vR (some 273), vI 44]) (rest := []) (el := [some (vR (some 273)), some (vI 44), none]) i_139_67 o_139 rfl v_133 rfl (s_273) rfl rfl rfl rfl rfl ?_
      refine c_133 (c := 44) (s := (nuS (bt len tp) 3 (sgS (bt len tp) 113 (0, 0)))) (by omega) hN2 (by decide) (fun M3 h3 f3 => ?_)
      show Ok _ 139 70 [some (vR (some 273)), some (vI ((nuS (bt len tp) 3 (sgS (bt len tp) 113 (0, 0))).2)), none] [vI ((sgS (bt len tp) 44 (nuS (bt len tp) 3 (sgS (bt len tp) 113 (0, 0)))).2)] (M3) _
      refine k_goto (t := 74) i_139_70 rfl ?_
      refine k_istore_n (ls' := [some (vR (some 273)), some (vI ((sgS (bt len tp) 44 (nuS (bt len tp) 3 (sgS (bt len tp) 113 (0, 0)))).2)), none]) i_139_74 rfl ?_
      refine k_iload_n i_139_75 rfl ?_
      refine k_if_ne (t := 88) i_139_76 rfl (fun h76 => ?_) (fun h76 => ?_)
      · refine k_iload_n i_139_88 rfl ?_
        refine k_istore_n (ls' := [some (vR (some 273)), some (vI ((sgS (bt len tp) 44 (nuS (bt len tp) 3 (sgS (bt len tp) 113 (0, 0)))).2)), none]) i_139_89 rfl ?_
        refine k_aload_n i_139_90 rfl ?_
        refine k_getR (r := 285) i_139_91 o_139 rfl (by decide) (s_273) rfl ?_
        refine k_sipush i_139_94 (by decide) ?_
        refine k_aload_n i_139_97 rfl ?_
        refine k_getI (kz := 16) i_139_98 o_139 rfl (by decide) (s_273) rfl ?_
        refine k_iast i_139_101 (s_285) (by omega) ?_
        obtain ⟨N3, eN3⟩ : ∃ z : Mem, z = mu M3 285 (144) (M3 273 16) := ⟨_, rfl⟩
        rw [← eN3]
        have hN3 : RdM N3 len tp (sgS (bt len tp) 44 (nuS (bt len tp) 3 (sgS (bt len tp) 113 (0, 0)))).1 := by rw [eN3]; exact h3.off (Or.inl (by decide)) (by decide)
        have fN3 : ∀ (b : Nat) (q : Int), ¬ (b = 285 ∧ q = 144) → N3 b q = M3 b q := fun b q hb => by rw [eN3]; exact if_neg hb
        have gN3 : N3 285 (144) = M3 273 16 := by rw [eN3, mu_s]
        refine k_iload_n i_139_102 rfl ?_
        refine k_if_ne (t := 115) i_139_103 rfl (fun h103 => ?_) (fun h103 => ?_)
        · refine k_iload_n i_139_115 rfl ?_
          refine k_istore_n (ls' := [some (vR (some 273)), some (vI ((sgS (bt len tp) 44 (nuS (bt len tp) 3 (sgS (bt len tp) 113 (0, 0)))).2)), none]) i_139_116 rfl ?_
          have zz : ∀ j : Int, 0 ≤ j → j < 232 → j ≠ 143 → j ≠ 144 → N3 285 j = 0 := fun j j0 j1 j2 j3 => by
            rw [fN3 _ _ (by omega), f3 _ _ (by omega), fN2 _ _ (by omega), f2 _ _ (by omega), f1 _ _ (by omega)]
            exact zN1 j j0 j1
          have m1 := zz 229 (by omega) (by omega) (by omega) (by omega)
          have m2 := zz 230 (by omega) (by omega) (by omega) (by omega)
          have ff : ∀ (b : Nat) (j : Int), b ≠ 285 → ¬ (b = 273 ∧ (j = 15 ∨ j = 16)) → N3 b j = M b j := fun b j q0 q1 => by
            rw [fN3 b j (by omega), f3 b j (by omega), fN2 b j (by omega), f2 b j (by omega), f1 b j (by omega)]
            exact fN1 b j q0 (by omega)
          have hs : ¬ (sgS (bt len tp) 44 (nuS (bt len tp) 3 (sgS (bt len tp) 113 (0, 0)))).2 = 0 := by omega
          have e4 : rd4 (bt len tp) = (sgS (bt len tp) 44 (nuS (bt len tp) 3 (sgS (bt len tp) 113 (0, 0)))) := by
            unfold rd4 rd2 rd0
            rw [nu_f (m := 9) (s := (sgS (bt len tp) 44 (nuS (bt len tp) 3 (sgS (bt len tp) 113 (0, 0))))) (by omega), sg_f (c := 59) (s := (sgS (bt len tp) 44 (nuS (bt len tp) 3 (sgS (bt len tp) 113 (0, 0))))) (by omega)]
          have eW : rdW (bt len tp) = ((sgS (bt len tp) 44 (nuS (bt len tp) 3 (sgS (bt len tp) 113 (0, 0)))), []) := by unfold rdW; rw [e4]; exact wl_x (fun q => hs q.1)
          have eR : rdR (bt len tp) = ((sgS (bt len tp) 44 (nuS (bt len tp) 3 (sgS (bt len tp) 113 (0, 0)))), []) := by unfold rdR; rw [eW]; exact pl_x (fun q => hs q.1)
          have eE : fiS len (rdR (bt len tp)).1 = (sgS (bt len tp) 44 (nuS (bt len tp) 3 (sgS (bt len tp) 113 (0, 0)))) := by rw [eR]; exact fi_0 hs
          exact y_139f (M0 := N3) (R := (rdR (bt len tp))) (w := 0) (sgS (bt len tp) 44 (nuS (bt len tp) 3 (sgS (bt len tp) 113 (0, 0)))) eE hs hN3 (by omega) (fun _ _ _ _ => rfl) (fun M' q1 q2 q3 => kk M' q1 (fun b j q4 q5 => (q2 b j q5 (fun q => absurd q q4)).trans (ff b j q4 q5)) (fun q => absurd q (by rw [eE]; exact hs)))
        · refine k_aload_n i_139_106 rfl ?_
          refine k_bipush i_139_107 (by decide) ?_
          refine k_invV (n := 1) (o' := 8) (av := [vR (some 273), vI 59]) (rest := []) (el := [some (vR (some 273)), some (vI 59), none]) i_139_109 o_139 rfl v_133 rfl (s_273) rfl rfl rfl rfl rfl ?_
          exfalso
          omega
      · refine k_aload_n i_139_79 rfl ?_
        refine k_bipush i_139_80 (by decide) ?_
        refine k_invV (n := 1) (o' := 8) (av := [vR (some 273), vI 9]) (rest := []) (el := [some (vR (some 273)), some (vI 9), none, none]) i_139_82 o_139 rfl v_134 rfl (s_273) rfl rfl rfl rfl rfl ?_
        refine c_134 (m := 9) (s := (sgS (bt len tp) 44 (nuS (bt len tp) 3 (sgS (bt len tp) 113 (0, 0))))) (by omega) (by decide) ht h3 (fun M4 h4 f4 v4 => ?_)
        show Ok _ 139 85 [some (vR (some 273)), some (vI ((sgS (bt len tp) 44 (nuS (bt len tp) 3 (sgS (bt len tp) 113 (0, 0)))).2)), none] [vI ((nuS (bt len tp) 9 (sgS (bt len tp) 44 (nuS (bt len tp) 3 (sgS (bt len tp) 113 (0, 0))))).2)] (M4) _
        refine k_goto (t := 89) i_139_85 rfl ?_
        refine k_istore_n (ls' := [some (vR (some 273)), some (vI ((nuS (bt len tp) 9 (sgS (bt len tp) 44 (nuS (bt len tp) 3 (sgS (bt len tp) 113 (0, 0))))).2)), none]) i_139_89 rfl ?_
        refine k_aload_n i_139_90 rfl ?_
        refine k_getR (r := 285) i_139_91 o_139 rfl (by decide) (s_273) rfl ?_
        refine k_sipush i_139_94 (by decide) ?_
        refine k_aload_n i_139_97 rfl ?_
        refine k_getI (kz := 16) i_139_98 o_139 rfl (by decide) (s_273) rfl ?_
        refine k_iast i_139_101 (s_285) (by omega) ?_
        obtain ⟨N3, eN3⟩ : ∃ z : Mem, z = mu M4 285 (144) (M4 273 16) := ⟨_, rfl⟩
        rw [← eN3]
        have hN3 : RdM N3 len tp (nuS (bt len tp) 9 (sgS (bt len tp) 44 (nuS (bt len tp) 3 (sgS (bt len tp) 113 (0, 0))))).1 := by rw [eN3]; exact h4.off (Or.inl (by decide)) (by decide)
        have fN3 : ∀ (b : Nat) (q : Int), ¬ (b = 285 ∧ q = 144) → N3 b q = M4 b q := fun b q hb => by rw [eN3]; exact if_neg hb
        have gN3 : N3 285 (144) = M4 273 16 := by rw [eN3, mu_s]
        refine k_iload_n i_139_102 rfl ?_
        refine k_if_ne (t := 115) i_139_103 rfl (fun h103 => ?_) (fun h103 => ?_)
        · refine k_iload_n i_139_115 rfl ?_
          refine k_istore_n (ls' := [some (vR (some 273)), some (vI ((nuS (bt len tp) 9 (sgS (bt len tp) 44 (nuS (bt len tp) 3 (sgS (bt len tp) 113 (0, 0))))).2)), none]) i_139_116 rfl ?_
          have zz : ∀ j : Int, 0 ≤ j → j < 232 → j ≠ 143 → j ≠ 144 → N3 285 j = 0 := fun j j0 j1 j2 j3 => by
            rw [fN3 _ _ (by omega), f4 _ _ (by omega), f3 _ _ (by omega), fN2 _ _ (by omega), f2 _ _ (by omega), f1 _ _ (by omega)]
            exact zN1 j j0 j1
          have m1 := zz 229 (by omega) (by omega) (by omega) (by omega)
          have m2 := zz 230 (by omega) (by omega) (by omega) (by omega)
          have ff : ∀ (b : Nat) (j : Int), b ≠ 285 → ¬ (b = 273 ∧ (j = 15 ∨ j = 16)) → N3 b j = M b j := fun b j q0 q1 => by
            rw [fN3 b j (by omega), f4 b j (by omega), f3 b j (by omega), fN2 b j (by omega), f2 b j (by omega), f1 b j (by omega)]
            exact fN1 b j q0 (by omega)
          have hs : ¬ (nuS (bt len tp) 9 (sgS (bt len tp) 44 (nuS (bt len tp) 3 (sgS (bt len tp) 113 (0, 0))))).2 = 0 := by omega
          have e4 : rd4 (bt len tp) = (nuS (bt len tp) 9 (sgS (bt len tp) 44 (nuS (bt len tp) 3 (sgS (bt len tp) 113 (0, 0))))) := by
            unfold rd4 rd2 rd0
            rw [sg_f (c := 59) (s := (nuS (bt len tp) 9 (sgS (bt len tp) 44 (nuS (bt len tp) 3 (sgS (bt len tp) 113 (0, 0)))))) (by omega)]
          have eW : rdW (bt len tp) = ((nuS (bt len tp) 9 (sgS (bt len tp) 44 (nuS (bt len tp) 3 (sgS (bt len tp) 113 (0, 0))))), []) := by unfold rdW; rw [e4]; exact wl_x (fun q => hs q.1)
          have eR : rdR (bt len tp) = ((nuS (bt len tp) 9 (sgS (bt len tp) 44 (nuS (bt len tp) 3 (sgS (bt len tp) 113 (0, 0))))), []) := by unfold rdR; rw [eW]; exact pl_x (fun q => hs q.1)
          have eE : fiS len (rdR (bt len tp)).1 = (nuS (bt len tp) 9 (sgS (bt len tp) 44 (nuS (bt len tp) 3 (sgS (bt len tp) 113 (0, 0))))) := by rw [eR]; exact fi_0 hs
          exact y_139f (M0 := N3) (R := (rdR (bt len tp))) (w := 0) (nuS (bt len tp) 9 (sgS (bt len tp) 44 (nuS (bt len tp) 3 (sgS (bt len tp) 113 (0, 0))))) eE hs hN3 (by omega) (fun _ _ _ _ => rfl) (fun M' q1 q2 q3 => kk M' q1 (fun b j q4 q5 => (q2 b j q5 (fun q => absurd q q4)).trans (ff b j q4 q5)) (fun q => absurd q (by rw [eE]; exact hs)))
        · refine k_aload_n i_139_106 rfl ?_
          refine k_bipush i_139_107 (by decide) ?_
          refine k_invV (n := 1) (o' := 8) (av := [vR (some 273), vI 59]) (rest := []) (el := [some (vR (some 273)), some (vI 59), none]) i_139_109 o_139 rfl v_133 rfl (s_273) rfl rfl rfl rfl rfl ?_
          refine c_133 (c := 59) (s := (nuS (bt len tp) 9 (sgS (bt len tp) 44 (nuS (bt len tp) 3 (sgS (bt len tp) 113 (0, 0)))))) (by omega) hN3 (by decide) (fun M5 h5 f5 => ?_)
          show Ok _ 139 112 [some (vR (some 273)), some (vI ((nuS (bt len tp) 9 (sgS (bt len tp) 44 (nuS (bt len tp) 3 (sgS (bt len tp) 113 (0, 0))))).2)), none] [vI ((sgS (bt len tp) 59 (nuS (bt len tp) 9 (sgS (bt len tp) 44 (nuS (bt len tp) 3 (sgS (bt len tp) 113 (0, 0)))))).2)] (M5) _
          refine k_goto (t := 116) i_139_112 rfl ?_
          refine k_istore_n (ls' := [some (vR (some 273)), some (vI ((sgS (bt len tp) 59 (nuS (bt len tp) 9 (sgS (bt len tp) 44 (nuS (bt len tp) 3 (sgS (bt len tp) 113 (0, 0)))))).2)), none]) i_139_116 rfl ?_
          have zz : ∀ j : Int, 0 ≤ j → j < 232 → j ≠ 143 → j ≠ 144 → M5 285 j = 0 := fun j j0 j1 j2 j3 => by
            rw [f5 _ _ (by omega), fN3 _ _ (by omega), f4 _ _ (by omega), f3 _ _ (by omega), fN2 _ _ (by omega), f2 _ _ (by omega), f1 _ _ (by omega)]
            exact zN1 j j0 j1
          have m1 := zz 229 (by omega) (by omega) (by omega) (by omega)
          have m2 := zz 230 (by omega) (by omega) (by omega) (by omega)
          have ff : ∀ (b : Nat) (j : Int), b ≠ 285 → ¬ (b = 273 ∧ (j = 15 ∨ j = 16)) → M5 b j = M b j := fun b j q0 q1 => by
            rw [f5 b j (by omega), fN3 b j (by omega), f4 b j (by omega), f3 b j (by omega), fN2 b j (by omega), f2 b j (by omega), f1 b j (by omega)]
            exact fN1 b j q0 (by omega)
          have z0 := sg_0 (B := (bt len tp)) (c := 59) (s := nuS (bt len tp) 9 (rd2 (bt len tp)))
          have g143 : (sgS (bt len tp) 59 (nuS (bt len tp) 9 (sgS (bt len tp) 44 (nuS (bt len tp) 3 (sgS (bt len tp) 113 (0, 0)))))).2 = 0 → M5 285 143 = nuV (bt len tp) 3 (rd0 (bt len tp)) := fun q => by
            rw [f5 _ _ (by omega), fN3 _ _ (by omega), f4 _ _ (by omega), f3 _ _ (by omega)]
            rw [gN2]
            exact v2 (sg_0 (nu_0 (sg_0 q)))
          have g144 : (sgS (bt len tp) 59 (nuS (bt len tp) 9 (sgS (bt len tp) 44 (nuS (bt len tp) 3 (sgS (bt len tp) 113 (0, 0)))))).2 = 0 → M5 285 144 = nuV (bt len tp) 9 (rd2 (bt len tp)) := fun q => by
            rw [f5 _ _ (by omega)]
            rw [gN3]
            exact v4 (sg_0 q)
          by_cases hs : (sgS (bt len tp) 59 (nuS (bt len tp) 9 (sgS (bt len tp) 44 (nuS (bt len tp) 3 (sgS (bt len tp) 113 (0, 0)))))).2 = 0
          · exact l_139w (M0 := M5) (W := (rdW (bt len tp))) ht (fun M' q1 q2 q3 => kk M' q1 (fun b j q4 q5 => (q2 b j q5 (fun q => absurd q q4)).trans (ff b j q4 q5)) (fun q => ⟨q3 q, (q2 285 143 (by decide) (fun _ => Or.inl rfl)).trans (g143 hs), (q2 285 144 (by decide) (fun _ => Or.inr rfl)).trans (g144 hs)⟩)) 9 (rd4 (bt len tp)) [] _ M5 hs h5 ⟨m1, by rw [m2]; rfl, zz 140 (by omega) (by omega) (by omega) (by omega), zz 142 (by omega) (by omega) (by omega) (by omega), fun j j0 j1 => zz _ (by omega) (by omega) (by omega) (by omega), fun j j0 j1 => zz _ (by have : (0 : Int) ≤ j := j0; omega) (by omega) (by have : (0 : Int) ≤ j := j0; omega) (by have : (0 : Int) ≤ j := j0; omega), fun i p hi => absurd hi (by simp), fun i i0 i1 => absurd (show i < 0 from i1) (by omega)⟩ (by decide) (fun _ _ _ _ => rfl) rfl (by decide)
          · have eW : rdW (bt len tp) = (rd4 (bt len tp), []) := wl_x (fun q => hs q.1)
            have eR : rdR (bt len tp) = (rd4 (bt len tp), []) := by unfold rdR; rw [eW]; exact pl_x (fun q => hs q.1)
            have eE : fiS len (rdR (bt len tp)).1 = rd4 (bt len tp) := by rw [eR]; exact fi_0 hs
            exact y_139f (M0 := M5) (R := (rdR (bt len tp))) (w := 0) (rd4 (bt len tp)) eE hs h5 (by omega) (fun _ _ _ _ => rfl) (fun M' q1 q2 q3 => kk M' q1 (fun b j q4 q5 => (q2 b j q5 (fun q => absurd q q4)).trans (ff b j q4 q5)) (fun q => absurd q (by rw [eE]; exact hs)))
