theorem on_f {B : Int → Int} {s : Sp} (h : ¬ s.2 = 0) : onS B s = s := by
  unfold onS
  rw [nu_f h, sg_f h, nu_f h]
/-- readOne's cells -/
def F136 (p : Int) (M M' : Mem) : Prop := ∀ (b : Nat) (j : Int), ¬ (b = 273 ∧ (j = 15 ∨ j = 16)) → ¬ (b = 285 ∧ (j = 145 + p ∨ j = 173 + p ∨ j = 56 + p ∨ j = 84 + p)) → M' b j = M b j

set_option maxRecDepth 100000 in
/-- ElbowQueueModel.readOne -/
theorem c_136 {d : Nat} {M : Mem} {Q : Option Vv → Mem → Prop} {len : Int} {tp : Int → Int} {a p : Int} (ht : TpB len tp) (h : RdM M len tp a) (hp : 0 ≤ p ∧ p < 28) (kk : ∀ M', RdM M' len tp (onS (bt len tp) (srS (bt len tp) a)).1 → F136 p M M' → ((onS (bt len tp) (srS (bt len tp) a)).2 = 0 → M' 285 (145 + p) = kdF ((bt len tp) a) ∧ M' 285 (173 + p) = nuV (bt len tp) 99 (srS (bt len tp) a) ∧ M' 285 (56 + p) = nuV (bt len tp) 3 (sgS (bt len tp) 44 (nuS (bt len tp) 99 (srS (bt len tp) a))) ∧ M' 285 (84 + p) = p) → Q (some (vI (onS (bt len tp) (srS (bt len tp) a)).2)) M') : Ok (d + 3) 136 0 [some (vR (some 273)), some (vI p), none] [] M Q := by
  obtain ⟨r1, r2, r3, a1, a2, r6⟩ := id h
  refine k_aload_n i_136_0 rfl ?_
  refine k_getR (r := 285) i_136_1 o_136 rfl (by decide) (s_273) rfl ?_
  refine k_sipush i_136_4 (by decide) ?_
  refine k_iload_n i_136_7 rfl ?_
  refine k_iadd i_136_8 (by omega) ?_
  refine k_aload_n i_136_9 rfl ?_
  refine k_aload_n i_136_10 rfl ?_
  refine k_getI (kz := 15) i_136_11 o_136 rfl (by decide) (s_273) rfl ?_
  rw [r3]
  refine k_invV (n := 1) (o' := 8) (av := [vR (some 273), vI a]) (rest := [vI (145 + p), vR (some 285)]) (el := [some (vR (some 273)), some (vI a)]) i_136_14 o_136 rfl v_131 rfl (s_273) rfl rfl rfl rfl rfl ?_
  refine c_131 h (by omega) ?_
  show Ok _ 136 17 [some (vR (some 273)), some (vI p), none] [vI (bt len tp a), vI (145 + p), vR (some 285)] (M) _
  refine k_invS (n := 1) (av := [vI (bt len tp a)]) (rest := [vI (145 + p), vR (some 285)]) (el := [some (vI (bt len tp a))]) i_136_17 o_136 rfl v_135 rfl rfl rfl rfl rfl rfl ?_
  refine c_135 ?_
  show Ok _ 136 20 [some (vR (some 273)), some (vI p), none] [vI (kdF (bt len tp a)), vI (145 + p), vR (some 285)] (M) _
  refine k_iast i_136_20 (s_285) (by omega) ?_
  obtain ⟨N1, eN1⟩ : ∃ z : Mem, z = mu M 285 (145 + p) (kdF (bt len tp a)) := ⟨_, rfl⟩
  rw [← eN1]
  have hN1 : RdM N1 len tp (a, 0).1 := by rw [eN1]; exact h.off (Or.inl (by decide)) (by decide)
  have fN1 : ∀ (b : Nat) (q : Int), ¬ (b = 285 ∧ q = 145 + p) → N1 b q = M b q := fun b q hb => by rw [eN1]; exact if_neg hb
  have gN1 : N1 285 (145 + p) = kdF (bt len tp a) := by rw [eN1, mu_s]
  refine k_aload_n i_136_21 rfl ?_
  refine k_getR (r := 285) i_136_22 o_136 rfl (by decide) (s_273) rfl ?_
  refine k_sipush i_136_25 (by decide) ?_
  refine k_iload_n i_136_28 rfl ?_
  refine k_iadd i_136_29 (by omega) ?_
  refine k_iald i_136_30 (s_285) (by omega) ?_
  refine k_if_ne (t := 36) i_136_31 rfl (fun h31 => ?_) (fun h31 => ?_)
  · refine k_aload_n i_136_36 rfl ?_
    refine k_dupR i_136_37 ?_
    refine k_getI (kz := 15) i_136_38 o_136 rfl (by decide) (s_273) rfl ?_
    rw [hN1.2.2.1]
    refine k_iconst i_136_41 (by decide) ?_
    refine k_iadd i_136_42 (by omega) ?_
    refine k_putI (kz := 15) i_136_43 o_136 rfl (by decide) (s_273) rfl ?_
    have hk := kd_0 (c := bt len tp a) (by omega)
    have hb := bt_b (len := len) (tp := tp) (a := a) (by omega)
    obtain ⟨N2, eN2⟩ : ∃ z : Mem, z = mu N1 273 (15) (a + 1) := ⟨_, rfl⟩
    rw [← eN2]
    have hN2 : RdM N2 len tp (a + 1, (0 : Int)).1 := by rw [eN2]; exact hN1.at (by omega)
    have fN2 : FQ N1 N2 := by rw [eN2]; exact (FQ.rf _).mu (by omega)
    refine k_aload_n i_136_46 rfl ?_
    refine k_bipush i_136_47 (by decide) ?_
    refine k_invV (n := 1) (o' := 8) (av := [vR (some 273), vI 99]) (rest := []) (el := [some (vR (some 273)), some (vI 99), none, none]) i_136_49 o_136 rfl v_134 rfl (s_273) rfl rfl rfl rfl rfl ?_
    refine c_134 (m := 99) (s := (a + 1, 0)) rfl (by decide) ht hN2 (fun M1 h1 f1 v1 => ?_)
    show Ok _ 136 52 [some (vR (some 273)), some (vI p), none] [vI ((nuS (bt len tp) 99 (a + 1, 0)).2)] (M1) _
    refine k_istore_n (ls' := [some (vR (some 273)), some (vI p), some (vI ((nuS (bt len tp) 99 (a + 1, 0)).2))]) i_136_52 rfl ?_
    refine k_aload_n i_136_53 rfl ?_
    refine k_getR (r := 285) i_136_54 o_136 rfl (by decide) (s_273) rfl ?_
    refine k_sipush i_136_57 (by decide) ?_
    refine k_iload_n i_136_60 rfl ?_
    refine k_iadd i_136_61 (by omega) ?_
    refine k_aload_n i_136_62 rfl ?_
    refine k_getI (kz := 16) i_136_63 o_136 rfl (by decide) (s_273) rfl ?_
    refine k_iast i_136_66 (s_285) (by omega) ?_
    obtain ⟨N3, eN3⟩ : ∃ z : Mem, z = mu M1 285 (173 + p) (M1 273 16) := ⟨_, rfl⟩
    rw [← eN3]
    have hN3 : RdM N3 len tp (nuS (bt len tp) 99 (a + 1, 0)).1 := by rw [eN3]; exact h1.off (Or.inl (by decide)) (by decide)
    have fN3 : ∀ (b : Nat) (q : Int), ¬ (b = 285 ∧ q = 173 + p) → N3 b q = M1 b q := fun b q hb => by rw [eN3]; exact if_neg hb
    have gN3 : N3 285 (173 + p) = M1 273 16 := by rw [eN3, mu_s]
    refine k_iload_n i_136_67 rfl ?_
    refine k_if_ne (t := 80) i_136_68 rfl (fun h68 => ?_) (fun h68 => ?_)
    · refine k_iload_n i_136_80 rfl ?_
      refine k_istore_n (ls' := [some (vR (some 273)), some (vI p), some (vI ((nuS (bt len tp) 99 (a + 1, 0)).2))]) i_136_81 rfl ?_
      refine k_iload_n i_136_82 rfl ?_
      refine k_if_ne (t := 94) i_136_83 rfl (fun h83 => ?_) (fun h83 => ?_)
      · refine k_iload_n i_136_94 rfl ?_
        refine k_istore_n (ls' := [some (vR (some 273)), some (vI p), some (vI ((nuS (bt len tp) 99 (a + 1, 0)).2))]) i_136_95 rfl ?_
        refine k_aload_n i_136_96 rfl ?_
        refine k_getR (r := 285) i_136_97 o_136 rfl (by decide) (s_273) rfl ?_
        refine k_bipush i_136_100 (by decide) ?_
        refine k_iload_n i_136_102 rfl ?_
        refine k_iadd i_136_103 (by omega) ?_
        refine k_aload_n i_136_104 rfl ?_
        refine k_getI (kz := 16) i_136_105 o_136 rfl (by decide) (s_273) rfl ?_
        refine k_iast i_136_108 (s_285) (by omega) ?_
        obtain ⟨N4, eN4⟩ : ∃ z : Mem, z = mu N3 285 (56 + p) (N3 273 16) := ⟨_, rfl⟩
        rw [← eN4]
        have hN4 : RdM N4 len tp (nuS (bt len tp) 99 (a + 1, 0)).1 := by rw [eN4]; exact hN3.off (Or.inl (by decide)) (by decide)
        have fN4 : ∀ (b : Nat) (q : Int), ¬ (b = 285 ∧ q = 56 + p) → N4 b q = N3 b q := fun b q hb => by rw [eN4]; exact if_neg hb
        have gN4 : N4 285 (56 + p) = N3 273 16 := by rw [eN4, mu_s]
        refine k_aload_n i_136_109 rfl ?_
        refine k_getR (r := 285) i_136_110 o_136 rfl (by decide) (s_273) rfl ?_
        refine k_bipush i_136_113 (by decide) ?_
        refine k_iload_n i_136_115 rfl ?_
        refine k_iadd i_136_116 (by omega) ?_
        refine k_iload_n i_136_117 rfl ?_
        refine k_iast i_136_118 (s_285) (by omega) ?_
        obtain ⟨N5, eN5⟩ : ∃ z : Mem, z = mu N4 285 (84 + p) (p) := ⟨_, rfl⟩
        rw [← eN5]
        have hN5 : RdM N5 len tp (nuS (bt len tp) 99 (a + 1, 0)).1 := by rw [eN5]; exact hN4.off (Or.inl (by decide)) (by decide)
        have fN5 : ∀ (b : Nat) (q : Int), ¬ (b = 285 ∧ q = 84 + p) → N5 b q = N4 b q := fun b q hb => by rw [eN5]; exact if_neg hb
        have gN5 : N5 285 (84 + p) = p := by rw [eN5, mu_s]
        refine k_iload_n i_136_119 rfl ?_
        refine k_iret i_136_120 rfl ?_
        have e0 : srS (bt len tp) a = (a + 1, 0) := if_neg (by omega)
        have e : onS (bt len tp) (srS (bt len tp) a) = (nuS (bt len tp) 99 (a + 1, 0)) := by
          unfold onS
          rw [e0]; rw [sg_f (by omega), nu_f (by omega)]
        have q := kk N5 (by rw [e]; exact hN5) (fun b j q0 q1 => by rw [fN5 b j (by omega), fN4 b j (by omega), fN3 b j (by omega), f1 b j (by omega), fN2 b j (by omega), fN1 b j (by omega)]) (fun q => absurd (show (nuS (bt len tp) 99 (a + 1, 0)).2 = 0 by rw [e] at q; exact q) (by omega))
        · rw [e] at q
          exact q
      · refine k_aload_n i_136_86 rfl ?_
        refine k_iconst i_136_87 (by decide) ?_
        refine k_invV (n := 1) (o' := 8) (av := [vR (some 273), vI 3]) (rest := []) (el := [some (vR (some 273)), some (vI 3), none, none]) i_136_88 o_136 rfl v_134 rfl (s_273) rfl rfl rfl rfl rfl ?_
        exfalso
        omega
    · refine k_aload_n i_136_71 rfl ?_
      refine k_bipush i_136_72 (by decide) ?_
      refine k_invV (n := 1) (o' := 8) (av := [vR (some 273), vI 44]) (rest := []) (el := [some (vR (some 273)), some (vI 44), none]) i_136_74 o_136 rfl v_133 rfl (s_273) rfl rfl rfl rfl rfl ?_
      refine c_133 (c := 44) (s := (nuS (bt len tp) 99 (a + 1, 0))) (by omega) hN3 (by decide) (fun M2 h2 f2 => ?_)
      show Ok _ 136 77 [some (vR (some 273)), some (vI p), some (vI ((nuS (bt len tp) 99 (a + 1, 0)).2))] [vI ((sgS (bt len tp) 44 (nuS (bt len tp) 99 (a + 1, 0))).2)] (M2) _
      refine k_goto (t := 81) i_136_77 rfl ?_
      refine k_istore_n (ls' := [some (vR (some 273)), some (vI p), some (vI ((sgS (bt len tp) 44 (nuS (bt len tp) 99 (a + 1, 0))).2))]) i_136_81 rfl ?_
      refine k_iload_n i_136_82 rfl ?_
      refine k_if_ne (t := 94) i_136_83 rfl (fun h83 => ?_) (fun h83 => ?_)
      · refine k_iload_n i_136_94 rfl ?_
        refine k_istore_n (ls' := [some (vR (some 273)), some (vI p), some (vI ((sgS (bt len tp) 44 (nuS (bt len tp) 99 (a + 1, 0))).2))]) i_136_95 rfl ?_
        refine k_aload_n i_136_96 rfl ?_
        refine k_getR (r := 285) i_136_97 o_136 rfl (by decide) (s_273) rfl ?_
        refine k_bipush i_136_100 (by decide) ?_
        refine k_iload_n i_136_102 rfl ?_
        refine k_iadd i_136_103 (by omega) ?_
        refine k_aload_n i_136_104 rfl ?_
        refine k_getI (kz := 16) i_136_105 o_136 rfl (by decide) (s_273) rfl ?_
        refine k_iast i_136_108 (s_285) (by omega) ?_
        obtain ⟨N4, eN4⟩ : ∃ z : Mem, z = mu M2 285 (56 + p) (M2 273 16) := ⟨_, rfl⟩
        rw [← eN4]
        have hN4 : RdM N4 len tp (sgS (bt len tp) 44 (nuS (bt len tp) 99 (a + 1, 0))).1 := by rw [eN4]; exact h2.off (Or.inl (by decide)) (by decide)
        have fN4 : ∀ (b : Nat) (q : Int), ¬ (b = 285 ∧ q = 56 + p) → N4 b q = M2 b q := fun b q hb => by rw [eN4]; exact if_neg hb
        have gN4 : N4 285 (56 + p) = M2 273 16 := by rw [eN4, mu_s]
        refine k_aload_n i_136_109 rfl ?_
        refine k_getR (r := 285) i_136_110 o_136 rfl (by decide) (s_273) rfl ?_
        refine k_bipush i_136_113 (by decide) ?_
        refine k_iload_n i_136_115 rfl ?_
        refine k_iadd i_136_116 (by omega) ?_
        refine k_iload_n i_136_117 rfl ?_
        refine k_iast i_136_118 (s_285) (by omega) ?_
        obtain ⟨N5, eN5⟩ : ∃ z : Mem, z = mu N4 285 (84 + p) (p) := ⟨_, rfl⟩
        rw [← eN5]
        have hN5 : RdM N5 len tp (sgS (bt len tp) 44 (nuS (bt len tp) 99 (a + 1, 0))).1 := by rw [eN5]; exact hN4.off (Or.inl (by decide)) (by decide)
        have fN5 : ∀ (b : Nat) (q : Int), ¬ (b = 285 ∧ q = 84 + p) → N5 b q = N4 b q := fun b q hb => by rw [eN5]; exact if_neg hb
        have gN5 : N5 285 (84 + p) = p := by rw [eN5, mu_s]
        refine k_iload_n i_136_119 rfl ?_
        refine k_iret i_136_120 rfl ?_
        have e0 : srS (bt len tp) a = (a + 1, 0) := if_neg (by omega)
        have e : onS (bt len tp) (srS (bt len tp) a) = (sgS (bt len tp) 44 (nuS (bt len tp) 99 (a + 1, 0))) := by
          unfold onS
          rw [e0]; rw [nu_f (by omega)]
        have q := kk N5 (by rw [e]; exact hN5) (fun b j q0 q1 => by rw [fN5 b j (by omega), fN4 b j (by omega), f2 b j (by omega), fN3 b j (by omega), f1 b j (by omega), fN2 b j (by omega), fN1 b j (by omega)]) (fun q => absurd (show (sgS (bt len tp) 44 (nuS (bt len tp) 99 (a + 1, 0))).2 = 0 by rw [e] at q; exact q) (by omega))
        · rw [e] at q
          exact q
      · refine k_aload_n i_136_86 rfl ?_
        refine k_iconst i_136_87 (by decide) ?_
        refine k_invV (n := 1) (o' := 8) (av := [vR (some 273), vI 3]) (rest := []) (el := [some (vR (some 273)), some (vI 3), none, none]) i_136_88 o_136 rfl v_134 rfl (s_273) rfl rfl rfl rfl rfl ?_
        refine c_134 (m := 3) (s := (sgS (bt len tp) 44 (nuS (bt len tp) 99 (a + 1, 0)))) (by omega) (by decide) ht h2 (fun M3 h3 f3 v3 => ?_)
        show Ok _ 136 91 [some (vR (some 273)), some (vI p), some (vI ((sgS (bt len tp) 44 (nuS (bt len tp) 99 (a + 1, 0))).2))] [vI ((nuS (bt len tp) 3 (sgS (bt len tp) 44 (nuS (bt len tp) 99 (a + 1, 0)))).2)] (M3) _
        refine k_goto (t := 95) i_136_91 rfl ?_
        refine k_istore_n (ls' := [some (vR (some 273)), some (vI p), some (vI ((nuS (bt len tp) 3 (sgS (bt len tp) 44 (nuS (bt len tp) 99 (a + 1, 0)))).2))]) i_136_95 rfl ?_
        refine k_aload_n i_136_96 rfl ?_
        refine k_getR (r := 285) i_136_97 o_136 rfl (by decide) (s_273) rfl ?_
        refine k_bipush i_136_100 (by decide) ?_
        refine k_iload_n i_136_102 rfl ?_
        refine k_iadd i_136_103 (by omega) ?_
        refine k_aload_n i_136_104 rfl ?_
        refine k_getI (kz := 16) i_136_105 o_136 rfl (by decide) (s_273) rfl ?_
        refine k_iast i_136_108 (s_285) (by omega) ?_
        obtain ⟨N4, eN4⟩ : ∃ z : Mem, z = mu M3 285 (56 + p) (M3 273 16) := ⟨_, rfl⟩
        rw [← eN4]
        have hN4 : RdM N4 len tp (nuS (bt len tp) 3 (sgS (bt len tp) 44 (nuS (bt len tp) 99 (a + 1, 0)))).1 := by rw [eN4]; exact h3.off (Or.inl (by decide)) (by decide)
        have fN4 : ∀ (b : Nat) (q : Int), ¬ (b = 285 ∧ q = 56 + p) → N4 b q = M3 b q := fun b q hb => by rw [eN4]; exact if_neg hb
        have gN4 : N4 285 (56 + p) = M3 273 16 := by rw [eN4, mu_s]
        refine k_aload_n i_136_109 rfl ?_
        refine k_getR (r := 285) i_136_110 o_136 rfl (by decide) (s_273) rfl ?_
        refine k_bipush i_136_113 (by decide) ?_
        refine k_iload_n i_136_115 rfl ?_
        refine k_iadd i_136_116 (by omega) ?_
        refine k_iload_n i_136_117 rfl ?_
        refine k_iast i_136_118 (s_285) (by omega) ?_
        obtain ⟨N5, eN5⟩ : ∃ z : Mem, z = mu N4 285 (84 + p) (p) := ⟨_, rfl⟩
        rw [← eN5]
        have hN5 : RdM N5 len tp (nuS (bt len tp) 3 (sgS (bt len tp) 44 (nuS (bt len tp) 99 (a + 1, 0)))).1 := by rw [eN5]; exact hN4.off (Or.inl (by decide)) (by decide)
        have fN5 : ∀ (b : Nat) (q : Int), ¬ (b = 285 ∧ q = 84 + p) → N5 b q = N4 b q := fun b q hb => by rw [eN5]; exact if_neg hb
        have gN5 : N5 285 (84 + p) = p := by rw [eN5, mu_s]
        refine k_iload_n i_136_119 rfl ?_
        refine k_iret i_136_120 rfl ?_
        have e0 : srS (bt len tp) a = (a + 1, 0) := if_neg (by omega)
        have e : onS (bt len tp) (srS (bt len tp) a) = (nuS (bt len tp) 3 (sgS (bt len tp) 44 (nuS (bt len tp) 99 (a + 1, 0)))) := by
          unfold onS
          rw [e0]
        have q := kk N5 (by rw [e]; exact hN5) (fun b j q0 q1 => by rw [fN5 b j (by omega), fN4 b j (by omega), f3 b j (by omega), f2 b j (by omega), fN3 b j (by omega), f1 b j (by omega), fN2 b j (by omega), fN1 b j (by omega)]) (fun q => ⟨?_, ?_, ?_, ?_⟩)
        · rw [e] at q
          exact q
        · rw [fN5 _ _ (by omega), fN4 _ _ (by omega), f3 _ _ (by omega), f2 _ _ (by omega), fN3 _ _ (by omega), f1 _ _ (by omega), fN2 _ _ (by omega)]; exact gN1
        · rw [fN5 _ _ (by omega), fN4 _ _ (by omega), f3 _ _ (by omega), f2 _ _ (by omega)]
          rw [gN3, e0]
          exact v1 (by omega)
        · rw [fN5 _ _ (by omega)]
          rw [gN4, e0]
          exact v3 (by rw [e] at q; exact q)
        · skip; exact gN5
  · refine k_iconst i_136_34 (by decide) ?_
    refine k_iret i_136_35 rfl ?_
    have e0 : srS (bt len tp) a = (a, 1) := if_pos (by omega)
    have e : onS (bt len tp) (srS (bt len tp) a) = (a, 1) := by rw [e0]; exact on_f (show ¬ (1 : Int) = 0 by decide)
    have q := kk N1 (by rw [e]; exact hN1) (fun b j q0 q1 => fN1 b j (by omega)) (fun q => absurd (show (1 : Int) = 0 by rw [e] at q; exact q) (by decide))
    rw [e] at q
    exact q

set_option maxRecDepth 100000 in
/-- ElbowQueueModel.readWaiter -/
theorem c_137 {d : Nat} {M : Mem} {Q : Option Vv → Mem → Prop} {len : Int} {tp : Int → Int} {a n : Int} (ht : TpB len tp) (h : RdM M len tp a) (hp : M 285 229 = n) (hn : 0 ≤ n ∧ n ≤ 8) (h140 : 0 ≤ M 285 140 ∧ M 285 140 ≤ 100) (k3 : ¬ kdF ((bt len tp) a) = 0 → n = 8 → Q (some (vI 3)) M) (kk : ¬ (¬ kdF ((bt len tp) a) = 0 ∧ n = 8) → ∀ M', RdM M' len tp (sgS (bt len tp) 59 (onS (bt len tp) (srS (bt len tp) a))).1 → (∀ (b : Nat) (j : Int), ¬ (b = 273 ∧ (j = 15 ∨ j = 16)) → ¬ (b = 285 ∧ (j = 145 + n ∨ j = 173 + n ∨ j = 56 + n ∨ j = 84 + n)) → ¬ (b = 285 ∧ (j = n ∨ j = 112 + n ∨ j = 140 ∨ j = 229)) → M' b j = M b j) → M' 285 229 = n + 1 → M' 285 140 = M 285 140 + 1 → M' 285 n = 1 → M' 285 (112 + n) = n → ((sgS (bt len tp) 59 (onS (bt len tp) (srS (bt len tp) a))).2 = 0 → M' 285 (145 + n) = kdF ((bt len tp) a) ∧ M' 285 (173 + n) = nuV (bt len tp) 99 (srS (bt len tp) a) ∧ M' 285 (56 + n) = nuV (bt len tp) 3 (sgS (bt len tp) 44 (nuS (bt len tp) 99 (srS (bt len tp) a))) ∧ M' 285 (84 + n) = n) → Q (some (vI (sgS (bt len tp) 59 (onS (bt len tp) (srS (bt len tp) a))).2)) M') : Ok (d + 4) 137 0 [some (vR (some 273)), none, none] [] M Q := by
  obtain ⟨r1, r2, r3, a1, a2, r6⟩ := id h
  refine k_aload_n i_137_0 rfl ?_
  refine k_getR (r := 285) i_137_1 o_137 rfl (by decide) (s_273) rfl ?_
  refine k_sipush i_137_4 (by decide) ?_
  refine k_iald i_137_7 (s_285) (by omega) ?_
  rw [hp]
  refine k_istore_n (ls' := [some (vR (some 273)), some (vI n), none]) i_137_8 rfl ?_
  refine k_aload_n i_137_9 rfl ?_
  refine k_aload_n i_137_10 rfl ?_
  refine k_getI (kz := 15) i_137_11 o_137 rfl (by decide) (s_273) rfl ?_
  rw [r3]
  refine k_invV (n := 1) (o' := 8) (av := [vR (some 273), vI a]) (rest := []) (el := [some (vR (some 273)), some (vI a)]) i_137_14 o_137 rfl v_131 rfl (s_273) rfl rfl rfl rfl rfl ?_
  refine c_131 h (by omega) ?_
  show Ok _ 137 17 [some (vR (some 273)), some (vI n), none] [vI (bt len tp a)] (M) _
  refine k_invS (n := 1) (av := [vI (bt len tp a)]) (rest := []) (el := [some (vI (bt len tp a))]) i_137_17 o_137 rfl v_135 rfl rfl rfl rfl rfl rfl ?_
  refine c_135 ?_
  show Ok _ 137 20 [some (vR (some 273)), some (vI n), none] [vI (kdF (bt len tp a))] (M) _
  refine k_if_eq (t := 31) i_137_20 rfl (fun h20 => ?_) (fun h20 => ?_)
  · refine k_aload_n i_137_31 rfl ?_
    refine k_iload_n i_137_32 rfl ?_
    refine k_invV (n := 1) (o' := 8) (av := [vR (some 273), vI n]) (rest := []) (el := [some (vR (some 273)), some (vI n), none]) i_137_33 o_137 rfl v_136 rfl (s_273) rfl rfl rfl rfl rfl ?_
    refine c_136 (a := a) ht h (by omega) (fun M1 h1 f1 v1 => ?_)
    show Ok _ 137 36 [some (vR (some 273)), some (vI n), none] [vI ((onS (bt len tp) (srS (bt len tp) a)).2)] (M1) _
    refine k_istore_n (ls' := [some (vR (some 273)), some (vI n), some (vI ((onS (bt len tp) (srS (bt len tp) a)).2))]) i_137_36 rfl ?_
    refine k_iload_n i_137_37 rfl ?_
    refine k_if_ne (t := 50) i_137_38 rfl (fun h38 => ?_) (fun h38 => ?_)
    · refine k_iload_n i_137_50 rfl ?_
      refine k_istore_n (ls' := [some (vR (some 273)), some (vI n), some (vI ((onS (bt len tp) (srS (bt len tp) a)).2))]) i_137_51 rfl ?_
      refine k_aload_n i_137_52 rfl ?_
      refine k_getR (r := 285) i_137_53 o_137 rfl (by decide) (s_273) rfl ?_
      refine k_iconst i_137_56 (by decide) ?_
      refine k_iload_n i_137_57 rfl ?_
      refine k_iadd i_137_58 (by omega) ?_
      rw [Int.zero_add]
      refine k_iconst i_137_59 (by decide) ?_
      refine k_iast i_137_60 (s_285) (by omega) ?_
      obtain ⟨N1, eN1⟩ : ∃ z : Mem, z = mu M1 285 (n) (1) := ⟨_, rfl⟩
      rw [← eN1]
      have hN1 : RdM N1 len tp (onS (bt len tp) (srS (bt len tp) a)).1 := by rw [eN1]; exact h1.off (Or.inl (by decide)) (by decide)
      have fN1 : ∀ (b : Nat) (q : Int), ¬ (b = 285 ∧ q = n) → N1 b q = M1 b q := fun b q hb => by rw [eN1]; exact if_neg hb
      have gN1 : N1 285 (n) = 1 := by rw [eN1, mu_s]
      refine k_aload_n i_137_61 rfl ?_
      refine k_getR (r := 285) i_137_62 o_137 rfl (by decide) (s_273) rfl ?_
      refine k_bipush i_137_65 (by decide) ?_
      refine k_iload_n i_137_67 rfl ?_
      refine k_iadd i_137_68 (by omega) ?_
      refine k_iload_n i_137_69 rfl ?_
      refine k_iast i_137_70 (s_285) (by omega) ?_
      obtain ⟨N2, eN2⟩ : ∃ z : Mem, z = mu N1 285 (112 + n) (n) := ⟨_, rfl⟩
      rw [← eN2]
      have hN2 : RdM N2 len tp (onS (bt len tp) (srS (bt len tp) a)).1 := by rw [eN2]; exact hN1.off (Or.inl (by decide)) (by decide)
      have fN2 : ∀ (b : Nat) (q : Int), ¬ (b = 285 ∧ q = 112 + n) → N2 b q = N1 b q := fun b q hb => by rw [eN2]; exact if_neg hb
      have gN2 : N2 285 (112 + n) = n := by rw [eN2, mu_s]
      refine k_aload_n i_137_71 rfl ?_
      refine k_getR (r := 285) i_137_72 o_137 rfl (by decide) (s_273) rfl ?_
      refine k_sipush i_137_75 (by decide) ?_
      refine k_dup2 i_137_78 ?_
      refine k_iald i_137_79 (s_285) (by omega) ?_
      rw [show N2 285 140 = M 285 140 by rw [fN2 _ _ (by omega), fN1 _ _ (by omega), f1 _ _ (by omega) (by omega)]]
      refine k_iconst i_137_80 (by decide) ?_
      refine k_iadd i_137_81 (by omega) ?_
      refine k_iast i_137_82 (s_285) (by omega) ?_
      obtain ⟨N3, eN3⟩ : ∃ z : Mem, z = mu N2 285 (140) ((M 285 140) + 1) := ⟨_, rfl⟩
      rw [← eN3]
      have hN3 : RdM N3 len tp (onS (bt len tp) (srS (bt len tp) a)).1 := by rw [eN3]; exact hN2.off (Or.inl (by decide)) (by decide)
      have fN3 : ∀ (b : Nat) (q : Int), ¬ (b = 285 ∧ q = 140) → N3 b q = N2 b q := fun b q hb => by rw [eN3]; exact if_neg hb
      have gN3 : N3 285 (140) = (M 285 140) + 1 := by rw [eN3, mu_s]
      refine k_aload_n i_137_83 rfl ?_
      refine k_getR (r := 285) i_137_84 o_137 rfl (by decide) (s_273) rfl ?_
      refine k_sipush i_137_87 (by decide) ?_
      refine k_dup2 i_137_90 ?_
      refine k_iald i_137_91 (s_285) (by omega) ?_
      rw [show N3 285 229 = n by rw [fN3 _ _ (by omega), fN2 _ _ (by omega), fN1 _ _ (by omega), f1 _ _ (by omega) (by omega)]; exact hp]
      refine k_iconst i_137_92 (by decide) ?_
      refine k_iadd i_137_93 (by omega) ?_
      refine k_iast i_137_94 (s_285) (by omega) ?_
      obtain ⟨N4, eN4⟩ : ∃ z : Mem, z = mu N3 285 (229) (n + 1) := ⟨_, rfl⟩
      rw [← eN4]
      have hN4 : RdM N4 len tp (onS (bt len tp) (srS (bt len tp) a)).1 := by rw [eN4]; exact hN3.off (Or.inl (by decide)) (by decide)
      have fN4 : ∀ (b : Nat) (q : Int), ¬ (b = 285 ∧ q = 229) → N4 b q = N3 b q := fun b q hb => by rw [eN4]; exact if_neg hb
      have gN4 : N4 285 (229) = n + 1 := by rw [eN4, mu_s]
      refine k_iload_n i_137_95 rfl ?_
      refine k_iret i_137_96 rfl ?_
      have e : (sgS (bt len tp) 59 (onS (bt len tp) (srS (bt len tp) a))) = (onS (bt len tp) (srS (bt len tp) a)) := sg_f (by omega)
      have q := kk (by omega) N4 (by rw [e]; exact hN4) (fun b j q0 q1 q2 => ?_) ?_ ?_ ?_ ?_ (fun q => absurd (show (onS (bt len tp) (srS (bt len tp) a)).2 = 0 by rw [e] at q; exact q) (by omega))
      · rw [e] at q
        exact q
      · rw [fN4 b j (by omega), fN3 b j (by omega), fN2 b j (by omega), fN1 b j (by omega), f1 b j (by omega) (by omega)]
      · rw [gN4]
      · rw [fN4 _ _ (by omega)]; rw [gN3]
      · rw [fN4 _ _ (by omega), fN3 _ _ (by omega), fN2 _ _ (by omega)]; exact gN1
      · rw [fN4 _ _ (by omega), fN3 _ _ (by omega)]; exact gN2
    · refine k_aload_n i_137_41 rfl ?_
      refine k_bipush i_137_42 (by decide) ?_
      refine k_invV (n := 1) (o' := 8) (av := [vR (some 273), vI 59]) (rest := []) (el := [some (vR (some 273)), some (vI 59), none]) i_137_44 o_137 rfl v_133 rfl (s_273) rfl rfl rfl rfl rfl ?_
      refine c_133 (c := 59) (s := (onS (bt len tp) (srS (bt len tp) a))) (by omega) h1 (by decide) (fun M2 h2 f2 => ?_)
      show Ok _ 137 47 [some (vR (some 273)), some (vI n), some (vI ((onS (bt len tp) (srS (bt len tp) a)).2))] [vI ((sgS (bt len tp) 59 (onS (bt len tp) (srS (bt len tp) a))).2)] (M2) _
      refine k_goto (t := 51) i_137_47 rfl ?_
      refine k_istore_n (ls' := [some (vR (some 273)), some (vI n), some (vI ((sgS (bt len tp) 59 (onS (bt len tp) (srS (bt len tp) a))).2))]) i_137_51 rfl ?_
      refine k_aload_n i_137_52 rfl ?_
      refine k_getR (r := 285) i_137_53 o_137 rfl (by decide) (s_273) rfl ?_
      refine k_iconst i_137_56 (by decide) ?_
      refine k_iload_n i_137_57 rfl ?_
      refine k_iadd i_137_58 (by omega) ?_
      rw [Int.zero_add]
      refine k_iconst i_137_59 (by decide) ?_
      refine k_iast i_137_60 (s_285) (by omega) ?_
      obtain ⟨N1, eN1⟩ : ∃ z : Mem, z = mu M2 285 (n) (1) := ⟨_, rfl⟩
      rw [← eN1]
      have hN1 : RdM N1 len tp (sgS (bt len tp) 59 (onS (bt len tp) (srS (bt len tp) a))).1 := by rw [eN1]; exact h2.off (Or.inl (by decide)) (by decide)
      have fN1 : ∀ (b : Nat) (q : Int), ¬ (b = 285 ∧ q = n) → N1 b q = M2 b q := fun b q hb => by rw [eN1]; exact if_neg hb
      have gN1 : N1 285 (n) = 1 := by rw [eN1, mu_s]
      refine k_aload_n i_137_61 rfl ?_
      refine k_getR (r := 285) i_137_62 o_137 rfl (by decide) (s_273) rfl ?_
      refine k_bipush i_137_65 (by decide) ?_
      refine k_iload_n i_137_67 rfl ?_
      refine k_iadd i_137_68 (by omega) ?_
      refine k_iload_n i_137_69 rfl ?_
      refine k_iast i_137_70 (s_285) (by omega) ?_
      obtain ⟨N2, eN2⟩ : ∃ z : Mem, z = mu N1 285 (112 + n) (n) := ⟨_, rfl⟩
      rw [← eN2]
      have hN2 : RdM N2 len tp (sgS (bt len tp) 59 (onS (bt len tp) (srS (bt len tp) a))).1 := by rw [eN2]; exact hN1.off (Or.inl (by decide)) (by decide)
      have fN2 : ∀ (b : Nat) (q : Int), ¬ (b = 285 ∧ q = 112 + n) → N2 b q = N1 b q := fun b q hb => by rw [eN2]; exact if_neg hb
      have gN2 : N2 285 (112 + n) = n := by rw [eN2, mu_s]
      refine k_aload_n i_137_71 rfl ?_
      refine k_getR (r := 285) i_137_72 o_137 rfl (by decide) (s_273) rfl ?_
      refine k_sipush i_137_75 (by decide) ?_
      refine k_dup2 i_137_78 ?_
      refine k_iald i_137_79 (s_285) (by omega) ?_
      rw [show N2 285 140 = M 285 140 by rw [fN2 _ _ (by omega), fN1 _ _ (by omega), f2 _ _ (by omega), f1 _ _ (by omega) (by omega)]]
      refine k_iconst i_137_80 (by decide) ?_
      refine k_iadd i_137_81 (by omega) ?_
      refine k_iast i_137_82 (s_285) (by omega) ?_
      obtain ⟨N3, eN3⟩ : ∃ z : Mem, z = mu N2 285 (140) ((M 285 140) + 1) := ⟨_, rfl⟩
      rw [← eN3]
      have hN3 : RdM N3 len tp (sgS (bt len tp) 59 (onS (bt len tp) (srS (bt len tp) a))).1 := by rw [eN3]; exact hN2.off (Or.inl (by decide)) (by decide)
      have fN3 : ∀ (b : Nat) (q : Int), ¬ (b = 285 ∧ q = 140) → N3 b q = N2 b q := fun b q hb => by rw [eN3]; exact if_neg hb
      have gN3 : N3 285 (140) = (M 285 140) + 1 := by rw [eN3, mu_s]
      refine k_aload_n i_137_83 rfl ?_
      refine k_getR (r := 285) i_137_84 o_137 rfl (by decide) (s_273) rfl ?_
      refine k_sipush i_137_87 (by decide) ?_
      refine k_dup2 i_137_90 ?_
      refine k_iald i_137_91 (s_285) (by omega) ?_
      rw [show N3 285 229 = n by rw [fN3 _ _ (by omega), fN2 _ _ (by omega), fN1 _ _ (by omega), f2 _ _ (by omega), f1 _ _ (by omega) (by omega)]; exact hp]
      refine k_iconst i_137_92 (by decide) ?_
      refine k_iadd i_137_93 (by omega) ?_
      refine k_iast i_137_94 (s_285) (by omega) ?_
      obtain ⟨N4, eN4⟩ : ∃ z : Mem, z = mu N3 285 (229) (n + 1) := ⟨_, rfl⟩
      rw [← eN4]
      have hN4 : RdM N4 len tp (sgS (bt len tp) 59 (onS (bt len tp) (srS (bt len tp) a))).1 := by rw [eN4]; exact hN3.off (Or.inl (by decide)) (by decide)
      have fN4 : ∀ (b : Nat) (q : Int), ¬ (b = 285 ∧ q = 229) → N4 b q = N3 b q := fun b q hb => by rw [eN4]; exact if_neg hb
      have gN4 : N4 285 (229) = n + 1 := by rw [eN4, mu_s]
      refine k_iload_n i_137_95 rfl ?_
      refine k_iret i_137_96 rfl ?_
      have e : (sgS (bt len tp) 59 (onS (bt len tp) (srS (bt len tp) a))) = (sgS (bt len tp) 59 (onS (bt len tp) (srS (bt len tp) a))) := rfl
      have q := kk (by omega) N4 (by rw [e]; exact hN4) (fun b j q0 q1 q2 => ?_) ?_ ?_ ?_ ?_ (fun q => ⟨?_, ?_, ?_, ?_⟩)
      · rw [e] at q
        exact q
      · rw [fN4 b j (by omega), fN3 b j (by omega), fN2 b j (by omega), fN1 b j (by omega), f2 b j (by omega), f1 b j (by omega) (by omega)]
      · rw [gN4]
      · rw [fN4 _ _ (by omega)]; rw [gN3]
      · rw [fN4 _ _ (by omega), fN3 _ _ (by omega), fN2 _ _ (by omega)]; exact gN1
      · rw [fN4 _ _ (by omega), fN3 _ _ (by omega)]; exact gN2
      · rw [fN4 _ _ (by omega), fN3 _ _ (by omega), fN2 _ _ (by omega), fN1 _ _ (by omega), f2 _ _ (by omega)]; exact (v1 (sg_0 (by rw [e] at q; exact q))).1
      · rw [fN4 _ _ (by omega), fN3 _ _ (by omega), fN2 _ _ (by omega), fN1 _ _ (by omega), f2 _ _ (by omega)]; exact (v1 (sg_0 (by rw [e] at q; exact q))).2.1
      · rw [fN4 _ _ (by omega), fN3 _ _ (by omega), fN2 _ _ (by omega), fN1 _ _ (by omega), f2 _ _ (by omega)]; exact (v1 (sg_0 (by rw [e] at q; exact q))).2.2.1
      · rw [fN4 _ _ (by omega), fN3 _ _ (by omega), fN2 _ _ (by omega), fN1 _ _ (by omega), f2 _ _ (by omega)]; exact (v1 (sg_0 (by rw [e] at q; exact q))).2.2.2
  · refine k_iload_n i_137_23 rfl ?_
    refine k_bipush i_137_24 (by decide) ?_
    refine k_icmp_ne (t := 31) i_137_26 rfl (fun h26 => ?_) (fun h26 => ?_)
    · refine k_aload_n i_137_31 rfl ?_
      refine k_iload_n i_137_32 rfl ?_
      refine k_invV (n := 1) (o' := 8) (av := [vR (some 273), vI n]) (rest := []) (el := [some (vR (some 273)), some (vI n), none]) i_137_33 o_137 rfl v_136 rfl (s_273) rfl rfl rfl rfl rfl ?_
      refine c_136 (a := a) ht h (by omega) (fun M3 h3 f3 v3 => ?_)
      show Ok _ 137 36 [some (vR (some 273)), some (vI n), none] [vI ((onS (bt len tp) (srS (bt len tp) a)).2)] (M3) _
      refine k_istore_n (ls' := [some (vR (some 273)), some (vI n), some (vI ((onS (bt len tp) (srS (bt len tp) a)).2))]) i_137_36 rfl ?_
      refine k_iload_n i_137_37 rfl ?_
      refine k_if_ne (t := 50) i_137_38 rfl (fun h38 => ?_) (fun h38 => ?_)
      · refine k_iload_n i_137_50 rfl ?_
        refine k_istore_n (ls' := [some (vR (some 273)), some (vI n), some (vI ((onS (bt len tp) (srS (bt len tp) a)).2))]) i_137_51 rfl ?_
        refine k_aload_n i_137_52 rfl ?_
        refine k_getR (r := 285) i_137_53 o_137 rfl (by decide) (s_273) rfl ?_
        refine k_iconst i_137_56 (by decide) ?_
        refine k_iload_n i_137_57 rfl ?_
        refine k_iadd i_137_58 (by omega) ?_
        rw [Int.zero_add]
        refine k_iconst i_137_59 (by decide) ?_
        refine k_iast i_137_60 (s_285) (by omega) ?_
        obtain ⟨N1, eN1⟩ : ∃ z : Mem, z = mu M3 285 (n) (1) := ⟨_, rfl⟩
        rw [← eN1]
        have hN1 : RdM N1 len tp (onS (bt len tp) (srS (bt len tp) a)).1 := by rw [eN1]; exact h3.off (Or.inl (by decide)) (by decide)
        have fN1 : ∀ (b : Nat) (q : Int), ¬ (b = 285 ∧ q = n) → N1 b q = M3 b q := fun b q hb => by rw [eN1]; exact if_neg hb
        have gN1 : N1 285 (n) = 1 := by rw [eN1, mu_s]
        refine k_aload_n i_137_61 rfl ?_
        refine k_getR (r := 285) i_137_62 o_137 rfl (by decide) (s_273) rfl ?_
        refine k_bipush i_137_65 (by decide) ?_
        refine k_iload_n i_137_67 rfl ?_
        refine k_iadd i_137_68 (by omega) ?_
        refine k_iload_n i_137_69 rfl ?_
        refine k_iast i_137_70 (s_285) (by omega) ?_
        obtain ⟨N2, eN2⟩ : ∃ z : Mem, z = mu N1 285 (112 + n) (n) := ⟨_, rfl⟩
        rw [← eN2]
        have hN2 : RdM N2 len tp (onS (bt len tp) (srS (bt len tp) a)).1 := by rw [eN2]; exact hN1.off (Or.inl (by decide)) (by decide)
        have fN2 : ∀ (b : Nat) (q : Int), ¬ (b = 285 ∧ q = 112 + n) → N2 b q = N1 b q := fun b q hb => by rw [eN2]; exact if_neg hb
        have gN2 : N2 285 (112 + n) = n := by rw [eN2, mu_s]
        refine k_aload_n i_137_71 rfl ?_
        refine k_getR (r := 285) i_137_72 o_137 rfl (by decide) (s_273) rfl ?_
        refine k_sipush i_137_75 (by decide) ?_
        refine k_dup2 i_137_78 ?_
        refine k_iald i_137_79 (s_285) (by omega) ?_
        rw [show N2 285 140 = M 285 140 by rw [fN2 _ _ (by omega), fN1 _ _ (by omega), f3 _ _ (by omega) (by omega)]]
        refine k_iconst i_137_80 (by decide) ?_
        refine k_iadd i_137_81 (by omega) ?_
        refine k_iast i_137_82 (s_285) (by omega) ?_
        obtain ⟨N3, eN3⟩ : ∃ z : Mem, z = mu N2 285 (140) ((M 285 140) + 1) := ⟨_, rfl⟩
        rw [← eN3]
        have hN3 : RdM N3 len tp (onS (bt len tp) (srS (bt len tp) a)).1 := by rw [eN3]; exact hN2.off (Or.inl (by decide)) (by decide)
        have fN3 : ∀ (b : Nat) (q : Int), ¬ (b = 285 ∧ q = 140) → N3 b q = N2 b q := fun b q hb => by rw [eN3]; exact if_neg hb
        have gN3 : N3 285 (140) = (M 285 140) + 1 := by rw [eN3, mu_s]
        refine k_aload_n i_137_83 rfl ?_
        refine k_getR (r := 285) i_137_84 o_137 rfl (by decide) (s_273) rfl ?_
        refine k_sipush i_137_87 (by decide) ?_
        refine k_dup2 i_137_90 ?_
        refine k_iald i_137_91 (s_285) (by omega) ?_
        rw [show N3 285 229 = n by rw [fN3 _ _ (by omega), fN2 _ _ (by omega), fN1 _ _ (by omega), f3 _ _ (by omega) (by omega)]; exact hp]
        refine k_iconst i_137_92 (by decide) ?_
        refine k_iadd i_137_93 (by omega) ?_
        refine k_iast i_137_94 (s_285) (by omega) ?_
        obtain ⟨N4, eN4⟩ : ∃ z : Mem, z = mu N3 285 (229) (n + 1) := ⟨_, rfl⟩
        rw [← eN4]
        have hN4 : RdM N4 len tp (onS (bt len tp) (srS (bt len tp) a)).1 := by rw [eN4]; exact hN3.off (Or.inl (by decide)) (by decide)
        have fN4 : ∀ (b : Nat) (q : Int), ¬ (b = 285 ∧ q = 229) → N4 b q = N3 b q := fun b q hb => by rw [eN4]; exact if_neg hb
        have gN4 : N4 285 (229) = n + 1 := by rw [eN4, mu_s]
        refine k_iload_n i_137_95 rfl ?_
        refine k_iret i_137_96 rfl ?_
        have e : (sgS (bt len tp) 59 (onS (bt len tp) (srS (bt len tp) a))) = (onS (bt len tp) (srS (bt len tp) a)) := sg_f (by omega)
        have q := kk (by omega) N4 (by rw [e]; exact hN4) (fun b j q0 q1 q2 => ?_) ?_ ?_ ?_ ?_ (fun q => absurd (show (onS (bt len tp) (srS (bt len tp) a)).2 = 0 by rw [e] at q; exact q) (by omega))
        · rw [e] at q
          exact q
        · rw [fN4 b j (by omega), fN3 b j (by omega), fN2 b j (by omega), fN1 b j (by omega), f3 b j (by omega) (by omega)]
        · rw [gN4]
        · rw [fN4 _ _ (by omega)]; rw [gN3]
        · rw [fN4 _ _ (by omega), fN3 _ _ (by omega), fN2 _ _ (by omega)]; exact gN1
        · rw [fN4 _ _ (by omega), fN3 _ _ (by omega)]; exact gN2
      · refine k_aload_n i_137_41 rfl ?_
        refine k_bipush i_137_42 (by decide) ?_
        refine k_invV (n := 1) (o' := 8) (av := [vR (some 273), vI 59]) (rest := []) (el := [some (vR (some 273)), some (vI 59), none]) i_137_44 o_137 rfl v_133 rfl (s_273) rfl rfl rfl rfl rfl ?_
        refine c_133 (c := 59) (s := (onS (bt len tp) (srS (bt len tp) a))) (by omega) h3 (by decide) (fun M4 h4 f4 => ?_)
        show Ok _ 137 47 [some (vR (some 273)), some (vI n), some (vI ((onS (bt len tp) (srS (bt len tp) a)).2))] [vI ((sgS (bt len tp) 59 (onS (bt len tp) (srS (bt len tp) a))).2)] (M4) _
        refine k_goto (t := 51) i_137_47 rfl ?_
        refine k_istore_n (ls' := [some (vR (some 273)), some (vI n), some (vI ((sgS (bt len tp) 59 (onS (bt len tp) (srS (bt len tp) a))).2))]) i_137_51 rfl ?_
        refine k_aload_n i_137_52 rfl ?_
        refine k_getR (r := 285) i_137_53 o_137 rfl (by decide) (s_273) rfl ?_
        refine k_iconst i_137_56 (by decide) ?_
        refine k_iload_n i_137_57 rfl ?_
        refine k_iadd i_137_58 (by omega) ?_
        rw [Int.zero_add]
        refine k_iconst i_137_59 (by decide) ?_
        refine k_iast i_137_60 (s_285) (by omega) ?_
        obtain ⟨N1, eN1⟩ : ∃ z : Mem, z = mu M4 285 (n) (1) := ⟨_, rfl⟩
        rw [← eN1]
        have hN1 : RdM N1 len tp (sgS (bt len tp) 59 (onS (bt len tp) (srS (bt len tp) a))).1 := by rw [eN1]; exact h4.off (Or.inl (by decide)) (by decide)
        have fN1 : ∀ (b : Nat) (q : Int), ¬ (b = 285 ∧ q = n) → N1 b q = M4 b q := fun b q hb => by rw [eN1]; exact if_neg hb
        have gN1 : N1 285 (n) = 1 := by rw [eN1, mu_s]
        refine k_aload_n i_137_61 rfl ?_
        refine k_getR (r := 285) i_137_62 o_137 rfl (by decide) (s_273) rfl ?_
        refine k_bipush i_137_65 (by decide) ?_
        refine k_iload_n i_137_67 rfl ?_
        refine k_iadd i_137_68 (by omega) ?_
        refine k_iload_n i_137_69 rfl ?_
        refine k_iast i_137_70 (s_285) (by omega) ?_
        obtain ⟨N2, eN2⟩ : ∃ z : Mem, z = mu N1 285 (112 + n) (n) := ⟨_, rfl⟩
        rw [← eN2]
        have hN2 : RdM N2 len tp (sgS (bt len tp) 59 (onS (bt len tp) (srS (bt len tp) a))).1 := by rw [eN2]; exact hN1.off (Or.inl (by decide)) (by decide)
        have fN2 : ∀ (b : Nat) (q : Int), ¬ (b = 285 ∧ q = 112 + n) → N2 b q = N1 b q := fun b q hb => by rw [eN2]; exact if_neg hb
        have gN2 : N2 285 (112 + n) = n := by rw [eN2, mu_s]
        refine k_aload_n i_137_71 rfl ?_
        refine k_getR (r := 285) i_137_72 o_137 rfl (by decide) (s_273) rfl ?_
        refine k_sipush i_137_75 (by decide) ?_
        refine k_dup2 i_137_78 ?_
        refine k_iald i_137_79 (s_285) (by omega) ?_
        rw [show N2 285 140 = M 285 140 by rw [fN2 _ _ (by omega), fN1 _ _ (by omega), f4 _ _ (by omega), f3 _ _ (by omega) (by omega)]]
        refine k_iconst i_137_80 (by decide) ?_
        refine k_iadd i_137_81 (by omega) ?_
        refine k_iast i_137_82 (s_285) (by omega) ?_
        obtain ⟨N3, eN3⟩ : ∃ z : Mem, z = mu N2 285 (140) ((M 285 140) + 1) := ⟨_, rfl⟩
        rw [← eN3]
        have hN3 : RdM N3 len tp (sgS (bt len tp) 59 (onS (bt len tp) (srS (bt len tp) a))).1 := by rw [eN3]; exact hN2.off (Or.inl (by decide)) (by decide)
        have fN3 : ∀ (b : Nat) (q : Int), ¬ (b = 285 ∧ q = 140) → N3 b q = N2 b q := fun b q hb => by rw [eN3]; exact if_neg hb
        have gN3 : N3 285 (140) = (M 285 140) + 1 := by rw [eN3, mu_s]
        refine k_aload_n i_137_83 rfl ?_
        refine k_getR (r := 285) i_137_84 o_137 rfl (by decide) (s_273) rfl ?_
        refine k_sipush i_137_87 (by decide) ?_
        refine k_dup2 i_137_90 ?_
        refine k_iald i_137_91 (s_285) (by omega) ?_
        rw [show N3 285 229 = n by rw [fN3 _ _ (by omega), fN2 _ _ (by omega), fN1 _ _ (by omega), f4 _ _ (by omega), f3 _ _ (by omega) (by omega)]; exact hp]
        refine k_iconst i_137_92 (by decide) ?_
        refine k_iadd i_137_93 (by omega) ?_
        refine k_iast i_137_94 (s_285) (by omega) ?_
        obtain ⟨N4, eN4⟩ : ∃ z : Mem, z = mu N3 285 (229) (n + 1) := ⟨_, rfl⟩
        rw [← eN4]
        have hN4 : RdM N4 len tp (sgS (bt len tp) 59 (onS (bt len tp) (srS (bt len tp) a))).1 := by rw [eN4]; exact hN3.off (Or.inl (by decide)) (by decide)
        have fN4 : ∀ (b : Nat) (q : Int), ¬ (b = 285 ∧ q = 229) → N4 b q = N3 b q := fun b q hb => by rw [eN4]; exact if_neg hb
        have gN4 : N4 285 (229) = n + 1 := by rw [eN4, mu_s]
        refine k_iload_n i_137_95 rfl ?_
        refine k_iret i_137_96 rfl ?_
        have e : (sgS (bt len tp) 59 (onS (bt len tp) (srS (bt len tp) a))) = (sgS (bt len tp) 59 (onS (bt len tp) (srS (bt len tp) a))) := rfl
        have q := kk (by omega) N4 (by rw [e]; exact hN4) (fun b j q0 q1 q2 => ?_) ?_ ?_ ?_ ?_ (fun q => ⟨?_, ?_, ?_, ?_⟩)
        · rw [e] at q
          exact q
        · rw [fN4 b j (by omega), fN3 b j (by omega), fN2 b j (by omega), fN1 b j (by omega), f4 b j (by omega), f3 b j (by omega) (by omega)]
        · rw [gN4]
        · rw [fN4 _ _ (by omega)]; rw [gN3]
        · rw [fN4 _ _ (by omega), fN3 _ _ (by omega), fN2 _ _ (by omega)]; exact gN1
        · rw [fN4 _ _ (by omega), fN3 _ _ (by omega)]; exact gN2
        · rw [fN4 _ _ (by omega), fN3 _ _ (by omega), fN2 _ _ (by omega), fN1 _ _ (by omega), f4 _ _ (by omega)]; exact (v3 (sg_0 (by rw [e] at q; exact q))).1
        · rw [fN4 _ _ (by omega), fN3 _ _ (by omega), fN2 _ _ (by omega), fN1 _ _ (by omega), f4 _ _ (by omega)]; exact (v3 (sg_0 (by rw [e] at q; exact q))).2.1
        · rw [fN4 _ _ (by omega), fN3 _ _ (by omega), fN2 _ _ (by omega), fN1 _ _ (by omega), f4 _ _ (by omega)]; exact (v3 (sg_0 (by rw [e] at q; exact q))).2.2.1
        · rw [fN4 _ _ (by omega), fN3 _ _ (by omega), fN2 _ _ (by omega), fN1 _ _ (by omega), f4 _ _ (by omega)]; exact (v3 (sg_0 (by rw [e] at q; exact q))).2.2.2
    · refine k_iconst i_137_29 (by decide) ?_
      refine k_iret i_137_30 rfl ?_
      exact k3 (by omega) (by omega)

set_option maxRecDepth 100000 in
/-- ElbowQueueModel.readPasser -/
theorem c_138 {d : Nat} {M : Mem} {Q : Option Vv → Mem → Prop} {len : Int} {tp : Int → Int} {a n c : Int} (ht : TpB len tp) (h : RdM M len tp a) (hal : a < len) (hp : M 285 229 = n) (hn : 0 ≤ n ∧ n ≤ 16) (hc : M 285 230 = c) (hc2 : 0 ≤ c ∧ c ≤ 8) (k3 : c = 8 → Q (some (vI 3)) M) (kk : ¬ c = 8 → ∀ M', RdM M' len tp (psS (bt len tp) a).1 → (∀ (b : Nat) (j : Int), ¬ (b = 273 ∧ (j = 15 ∨ j = 16)) → ¬ (b = 285 ∧ (j = 145 + n ∨ j = 173 + n ∨ j = 56 + n ∨ j = 84 + n)) → ¬ (b = 285 ∧ (j = n ∨ j = 201 + n ∨ j = 230 ∨ j = 229)) → M' b j = M b j) → M' 285 229 = n + 1 → M' 285 230 = c + 1 → M' 285 n = 0 → ((psS (bt len tp) a).2 = 0 → (M' 285 (145 + n) = kdF ((bt len tp) (a + 1)) ∧ M' 285 (173 + n) = nuV (bt len tp) 99 (srS (bt len tp) (a + 1)) ∧ M' 285 (56 + n) = nuV (bt len tp) 3 (sgS (bt len tp) 44 (nuS (bt len tp) 99 (srS (bt len tp) (a + 1)))) ∧ M' 285 (84 + n) = n) ∧ M' 285 (201 + n) = nuV (bt len tp) 16 (sgS (bt len tp) 44 (onS (bt len tp) (srS (bt len tp) (a + 1))))) → Q (some (vI (psS (bt len tp) a).2)) M') : Ok (d + 4) 138 0 [some (vR (some 273)), none, none] [] M Q := by
  obtain ⟨r1, r2, r3, a1, a2, r6⟩ := id h
  refine k_aload_n i_138_0 rfl ?_
  refine k_getR (r := 285) i_138_1 o_138 rfl (by decide) (s_273) rfl ?_
  refine k_sipush i_138_4 (by decide) ?_
  refine k_iald i_138_7 (s_285) (by omega) ?_
  rw [hc]
  refine k_bipush i_138_8 (by decide) ?_
  refine k_icmp_ne (t := 15) i_138_10 rfl (fun h10 => ?_) (fun h10 => ?_)
  · refine k_aload_n i_138_15 rfl ?_
    refine k_dupR i_138_16 ?_
    refine k_getI (kz := 15) i_138_17 o_138 rfl (by decide) (s_273) rfl ?_
    rw [r3]
    refine k_iconst i_138_20 (by decide) ?_
    refine k_iadd i_138_21 (by omega) ?_
    refine k_putI (kz := 15) i_138_22 o_138 rfl (by decide) (s_273) rfl ?_
    obtain ⟨N0, eN0⟩ : ∃ z : Mem, z = mu M 273 (15) (a + 1) := ⟨_, rfl⟩
    rw [← eN0]
    have hN0 : RdM N0 len tp (a + 1, (0 : Int)).1 := by rw [eN0]; exact h.at (by omega)
    have fN0 : FQ M N0 := by rw [eN0]; exact (FQ.rf _).mu (by omega)
    refine k_aload_n i_138_25 rfl ?_
    refine k_getR (r := 285) i_138_26 o_138 rfl (by decide) (s_273) rfl ?_
    refine k_sipush i_138_29 (by decide) ?_
    refine k_iald i_138_32 (s_285) (by omega) ?_
    rw [show N0 285 229 = n by rw [fN0 _ _ (by omega)]; exact hp]
    refine k_istore_n (ls' := [some (vR (some 273)), some (vI n), none]) i_138_33 rfl ?_
    refine k_aload_n i_138_34 rfl ?_
    refine k_iload_n i_138_35 rfl ?_
    refine k_invV (n := 1) (o' := 8) (av := [vR (some 273), vI n]) (rest := []) (el := [some (vR (some 273)), some (vI n), none]) i_138_36 o_138 rfl v_136 rfl (s_273) rfl rfl rfl rfl rfl ?_
    refine c_136 (a := a + 1) ht hN0 (by omega) (fun M1 h1 f1 v1 => ?_)
    show Ok _ 138 39 [some (vR (some 273)), some (vI n), none] [vI ((onS (bt len tp) (srS (bt len tp) (a + 1))).2)] (M1) _
    refine k_istore_n (ls' := [some (vR (some 273)), some (vI n), some (vI ((onS (bt len tp) (srS (bt len tp) (a + 1))).2))]) i_138_39 rfl ?_
    refine k_iload_n i_138_40 rfl ?_
    refine k_if_ne (t := 53) i_138_41 rfl (fun h41 => ?_) (fun h41 => ?_)
    · refine k_iload_n i_138_53 rfl ?_
      refine k_istore_n (ls' := [some (vR (some 273)), some (vI n), some (vI ((onS (bt len tp) (srS (bt len tp) (a + 1))).2))]) i_138_54 rfl ?_
      refine k_iload_n i_138_55 rfl ?_
      refine k_if_ne (t := 68) i_138_56 rfl (fun h56 => ?_) (fun h56 => ?_)
      · refine k_iload_n i_138_68 rfl ?_
        refine k_istore_n (ls' := [some (vR (some 273)), some (vI n), some (vI ((onS (bt len tp) (srS (bt len tp) (a + 1))).2))]) i_138_69 rfl ?_
        refine k_aload_n i_138_70 rfl ?_
        refine k_getR (r := 285) i_138_71 o_138 rfl (by decide) (s_273) rfl ?_
        refine k_sipush i_138_74 (by decide) ?_
        refine k_iload_n i_138_77 rfl ?_
        refine k_iadd i_138_78 (by omega) ?_
        refine k_aload_n i_138_79 rfl ?_
        refine k_getI (kz := 16) i_138_80 o_138 rfl (by decide) (s_273) rfl ?_
        refine k_iast i_138_83 (s_285) (by omega) ?_
        obtain ⟨N1, eN1⟩ : ∃ z : Mem, z = mu M1 285 (201 + n) (M1 273 16) := ⟨_, rfl⟩
        rw [← eN1]
        have hN1 : RdM N1 len tp (onS (bt len tp) (srS (bt len tp) (a + 1))).1 := by rw [eN1]; exact h1.off (Or.inl (by decide)) (by decide)
        have fN1 : ∀ (b : Nat) (q : Int), ¬ (b = 285 ∧ q = 201 + n) → N1 b q = M1 b q := fun b q hb => by rw [eN1]; exact if_neg hb
        have gN1 : N1 285 (201 + n) = M1 273 16 := by rw [eN1, mu_s]
        refine k_iload_n i_138_84 rfl ?_
        refine k_if_ne (t := 97) i_138_85 rfl (fun h85 => ?_) (fun h85 => ?_)
        · refine k_iload_n i_138_97 rfl ?_
          refine k_istore_n (ls' := [some (vR (some 273)), some (vI n), some (vI ((onS (bt len tp) (srS (bt len tp) (a + 1))).2))]) i_138_98 rfl ?_
          refine k_aload_n i_138_99 rfl ?_
          refine k_getR (r := 285) i_138_100 o_138 rfl (by decide) (s_273) rfl ?_
          refine k_iconst i_138_103 (by decide) ?_
          refine k_iload_n i_138_104 rfl ?_
          refine k_iadd i_138_105 (by omega) ?_
          rw [Int.zero_add]
          refine k_iconst i_138_106 (by decide) ?_
          refine k_iast i_138_107 (s_285) (by omega) ?_
          obtain ⟨N2, eN2⟩ : ∃ z : Mem, z = mu N1 285 (n) (0) := ⟨_, rfl⟩
          rw [← eN2]
          have hN2 : RdM N2 len tp (onS (bt len tp) (srS (bt len tp) (a + 1))).1 := by rw [eN2]; exact hN1.off (Or.inl (by decide)) (by decide)
          have fN2 : ∀ (b : Nat) (q : Int), ¬ (b = 285 ∧ q = n) → N2 b q = N1 b q := fun b q hb => by rw [eN2]; exact if_neg hb
          have gN2 : N2 285 (n) = 0 := by rw [eN2, mu_s]
          refine k_aload_n i_138_108 rfl ?_
          refine k_getR (r := 285) i_138_109 o_138 rfl (by decide) (s_273) rfl ?_
          refine k_sipush i_138_112 (by decide) ?_
          refine k_dup2 i_138_115 ?_
          refine k_iald i_138_116 (s_285) (by omega) ?_
          rw [show N2 285 230 = c by rw [fN2 _ _ (by omega), fN1 _ _ (by omega), f1 _ _ (by omega) (by omega), fN0 _ _ (by omega)]; exact hc]
          refine k_iconst i_138_117 (by decide) ?_
          refine k_iadd i_138_118 (by omega) ?_
          refine k_iast i_138_119 (s_285) (by omega) ?_
          obtain ⟨N3, eN3⟩ : ∃ z : Mem, z = mu N2 285 (230) (c + 1) := ⟨_, rfl⟩
          rw [← eN3]
          have hN3 : RdM N3 len tp (onS (bt len tp) (srS (bt len tp) (a + 1))).1 := by rw [eN3]; exact hN2.off (Or.inl (by decide)) (by decide)
          have fN3 : ∀ (b : Nat) (q : Int), ¬ (b = 285 ∧ q = 230) → N3 b q = N2 b q := fun b q hb => by rw [eN3]; exact if_neg hb
          have gN3 : N3 285 (230) = c + 1 := by rw [eN3, mu_s]
          refine k_aload_n i_138_120 rfl ?_
          refine k_getR (r := 285) i_138_121 o_138 rfl (by decide) (s_273) rfl ?_
          refine k_sipush i_138_124 (by decide) ?_
          refine k_dup2 i_138_127 ?_
          refine k_iald i_138_128 (s_285) (by omega) ?_
          rw [show N3 285 229 = n by rw [fN3 _ _ (by omega), fN2 _ _ (by omega), fN1 _ _ (by omega), f1 _ _ (by omega) (by omega), fN0 _ _ (by omega)]; exact hp]
          refine k_iconst i_138_129 (by decide) ?_
          refine k_iadd i_138_130 (by omega) ?_
          refine k_iast i_138_131 (s_285) (by omega) ?_
          obtain ⟨N4, eN4⟩ : ∃ z : Mem, z = mu N3 285 (229) (n + 1) := ⟨_, rfl⟩
          rw [← eN4]
          have hN4 : RdM N4 len tp (onS (bt len tp) (srS (bt len tp) (a + 1))).1 := by rw [eN4]; exact hN3.off (Or.inl (by decide)) (by decide)
          have fN4 : ∀ (b : Nat) (q : Int), ¬ (b = 285 ∧ q = 229) → N4 b q = N3 b q := fun b q hb => by rw [eN4]; exact if_neg hb
          have gN4 : N4 285 (229) = n + 1 := by rw [eN4, mu_s]
          refine k_iload_n i_138_132 rfl ?_
          refine k_iret i_138_133 rfl ?_
          have e : (psS (bt len tp) a) = (onS (bt len tp) (srS (bt len tp) (a + 1))) := by unfold psS; rw [sg_f (c := 44) (s := (onS (bt len tp) (srS (bt len tp) (a + 1)))) (by omega), nu_f (by omega), sg_f (by omega)]
          have q := kk (by omega) N4 (by rw [e]; exact hN4) (fun b j q0 q1 q2 => ?_) ?_ ?_ ?_ (fun q => absurd (show (onS (bt len tp) (srS (bt len tp) (a + 1))).2 = 0 by rw [e] at q; exact q) (by omega))
          · rw [e] at q
            exact q
          · rw [fN4 b j (by omega), fN3 b j (by omega), fN2 b j (by omega), fN1 b j (by omega), f1 b j (by omega) (by omega), fN0 b j (by omega)]
          · rw [gN4]
          · rw [fN4 _ _ (by omega)]; rw [gN3]
          · rw [fN4 _ _ (by omega), fN3 _ _ (by omega)]; exact gN2
        · refine k_aload_n i_138_88 rfl ?_
          refine k_bipush i_138_89 (by decide) ?_
          refine k_invV (n := 1) (o' := 8) (av := [vR (some 273), vI 59]) (rest := []) (el := [some (vR (some 273)), some (vI 59), none]) i_138_91 o_138 rfl v_133 rfl (s_273) rfl rfl rfl rfl rfl ?_
          exfalso
          omega
      · refine k_aload_n i_138_59 rfl ?_
        refine k_bipush i_138_60 (by decide) ?_
        refine k_invV (n := 1) (o' := 8) (av := [vR (some 273), vI 16]) (rest := []) (el := [some (vR (some 273)), some (vI 16), none, none]) i_138_62 o_138 rfl v_134 rfl (s_273) rfl rfl rfl rfl rfl ?_
        exfalso
        omega
    · refine k_aload_n i_138_44 rfl ?_
      refine k_bipush i_138_45 (by decide) ?_
      refine k_invV (n := 1) (o' := 8) (av := [vR (some 273), vI 44]) (rest := []) (el := [some (vR (some 273)), some (vI 44), none]) i_138_47 o_138 rfl v_133 rfl (s_273) rfl rfl rfl rfl rfl ?_
      refine c_133 (c := 44) (s := (onS (bt len tp) (srS (bt len tp) (a + 1)))) (by omega) h1 (by decide) (fun M2 h2 f2 => ?_)
      show Ok _ 138 50 [some (vR (some 273)), some (vI n), some (vI ((onS (bt len tp) (srS (bt len tp) (a + 1))).2))] [vI ((sgS (bt len tp) 44 (onS (bt len tp) (srS (bt len tp) (a + 1)))).2)] (M2) _
      refine k_goto (t := 54) i_138_50 rfl ?_
      refine k_istore_n (ls' := [some (vR (some 273)), some (vI n), some (vI ((sgS (bt len tp) 44 (onS (bt len tp) (srS (bt len tp) (a + 1)))).2))]) i_138_54 rfl ?_
      refine k_iload_n i_138_55 rfl ?_
      refine k_if_ne (t := 68) i_138_56 rfl (fun h56 => ?_) (fun h56 => ?_)
      · refine k_iload_n i_138_68 rfl ?_
        refine k_istore_n (ls' := [some (vR (some 273)), some (vI n), some (vI ((sgS (bt len tp) 44 (onS (bt len tp) (srS (bt len tp) (a + 1)))).2))]) i_138_69 rfl ?_
        refine k_aload_n i_138_70 rfl ?_
        refine k_getR (r := 285) i_138_71 o_138 rfl (by decide) (s_273) rfl ?_
        refine k_sipush i_138_74 (by decide) ?_
        refine k_iload_n i_138_77 rfl ?_
        refine k_iadd i_138_78 (by omega) ?_
        refine k_aload_n i_138_79 rfl ?_
        refine k_getI (kz := 16) i_138_80 o_138 rfl (by decide) (s_273) rfl ?_
        refine k_iast i_138_83 (s_285) (by omega) ?_
        obtain ⟨N1, eN1⟩ : ∃ z : Mem, z = mu M2 285 (201 + n) (M2 273 16) := ⟨_, rfl⟩
        rw [← eN1]
        have hN1 : RdM N1 len tp (sgS (bt len tp) 44 (onS (bt len tp) (srS (bt len tp) (a + 1)))).1 := by rw [eN1]; exact h2.off (Or.inl (by decide)) (by decide)
        have fN1 : ∀ (b : Nat) (q : Int), ¬ (b = 285 ∧ q = 201 + n) → N1 b q = M2 b q := fun b q hb => by rw [eN1]; exact if_neg hb
        have gN1 : N1 285 (201 + n) = M2 273 16 := by rw [eN1, mu_s]
        refine k_iload_n i_138_84 rfl ?_
        refine k_if_ne (t := 97) i_138_85 rfl (fun h85 => ?_) (fun h85 => ?_)
        · refine k_iload_n i_138_97 rfl ?_
          refine k_istore_n (ls' := [some (vR (some 273)), some (vI n), some (vI ((sgS (bt len tp) 44 (onS (bt len tp) (srS (bt len tp) (a + 1)))).2))]) i_138_98 rfl ?_
          refine k_aload_n i_138_99 rfl ?_
          refine k_getR (r := 285) i_138_100 o_138 rfl (by decide) (s_273) rfl ?_
          refine k_iconst i_138_103 (by decide) ?_
          refine k_iload_n i_138_104 rfl ?_
          refine k_iadd i_138_105 (by omega) ?_
          rw [Int.zero_add]
          refine k_iconst i_138_106 (by decide) ?_
          refine k_iast i_138_107 (s_285) (by omega) ?_
          obtain ⟨N2, eN2⟩ : ∃ z : Mem, z = mu N1 285 (n) (0) := ⟨_, rfl⟩
          rw [← eN2]
          have hN2 : RdM N2 len tp (sgS (bt len tp) 44 (onS (bt len tp) (srS (bt len tp) (a + 1)))).1 := by rw [eN2]; exact hN1.off (Or.inl (by decide)) (by decide)
          have fN2 : ∀ (b : Nat) (q : Int), ¬ (b = 285 ∧ q = n) → N2 b q = N1 b q := fun b q hb => by rw [eN2]; exact if_neg hb
          have gN2 : N2 285 (n) = 0 := by rw [eN2, mu_s]
          refine k_aload_n i_138_108 rfl ?_
          refine k_getR (r := 285) i_138_109 o_138 rfl (by decide) (s_273) rfl ?_
          refine k_sipush i_138_112 (by decide) ?_
          refine k_dup2 i_138_115 ?_
          refine k_iald i_138_116 (s_285) (by omega) ?_
          rw [show N2 285 230 = c by rw [fN2 _ _ (by omega), fN1 _ _ (by omega), f2 _ _ (by omega), f1 _ _ (by omega) (by omega), fN0 _ _ (by omega)]; exact hc]
          refine k_iconst i_138_117 (by decide) ?_
          refine k_iadd i_138_118 (by omega) ?_
          refine k_iast i_138_119 (s_285) (by omega) ?_
          obtain ⟨N3, eN3⟩ : ∃ z : Mem, z = mu N2 285 (230) (c + 1) := ⟨_, rfl⟩
          rw [← eN3]
          have hN3 : RdM N3 len tp (sgS (bt len tp) 44 (onS (bt len tp) (srS (bt len tp) (a + 1)))).1 := by rw [eN3]; exact hN2.off (Or.inl (by decide)) (by decide)
          have fN3 : ∀ (b : Nat) (q : Int), ¬ (b = 285 ∧ q = 230) → N3 b q = N2 b q := fun b q hb => by rw [eN3]; exact if_neg hb
          have gN3 : N3 285 (230) = c + 1 := by rw [eN3, mu_s]
          refine k_aload_n i_138_120 rfl ?_
          refine k_getR (r := 285) i_138_121 o_138 rfl (by decide) (s_273) rfl ?_
          refine k_sipush i_138_124 (by decide) ?_
          refine k_dup2 i_138_127 ?_
          refine k_iald i_138_128 (s_285) (by omega) ?_
          rw [show N3 285 229 = n by rw [fN3 _ _ (by omega), fN2 _ _ (by omega), fN1 _ _ (by omega), f2 _ _ (by omega), f1 _ _ (by omega) (by omega), fN0 _ _ (by omega)]; exact hp]
          refine k_iconst i_138_129 (by decide) ?_
          refine k_iadd i_138_130 (by omega) ?_
          refine k_iast i_138_131 (s_285) (by omega) ?_
          obtain ⟨N4, eN4⟩ : ∃ z : Mem, z = mu N3 285 (229) (n + 1) := ⟨_, rfl⟩
          rw [← eN4]
          have hN4 : RdM N4 len tp (sgS (bt len tp) 44 (onS (bt len tp) (srS (bt len tp) (a + 1)))).1 := by rw [eN4]; exact hN3.off (Or.inl (by decide)) (by decide)
          have fN4 : ∀ (b : Nat) (q : Int), ¬ (b = 285 ∧ q = 229) → N4 b q = N3 b q := fun b q hb => by rw [eN4]; exact if_neg hb
          have gN4 : N4 285 (229) = n + 1 := by rw [eN4, mu_s]
          refine k_iload_n i_138_132 rfl ?_
          refine k_iret i_138_133 rfl ?_
          have e : (psS (bt len tp) a) = (sgS (bt len tp) 44 (onS (bt len tp) (srS (bt len tp) (a + 1)))) := by unfold psS; rw [nu_f (by omega), sg_f (by omega)]
          have q := kk (by omega) N4 (by rw [e]; exact hN4) (fun b j q0 q1 q2 => ?_) ?_ ?_ ?_ (fun q => absurd (show (sgS (bt len tp) 44 (onS (bt len tp) (srS (bt len tp) (a + 1)))).2 = 0 by rw [e] at q; exact q) (by omega))
          · rw [e] at q
            exact q
          · rw [fN4 b j (by omega), fN3 b j (by omega), fN2 b j (by omega), fN1 b j (by omega), f2 b j (by omega), f1 b j (by omega) (by omega), fN0 b j (by omega)]
          · rw [gN4]
          · rw [fN4 _ _ (by omega)]; rw [gN3]
          · rw [fN4 _ _ (by omega), fN3 _ _ (by omega)]; exact gN2
        · refine k_aload_n i_138_88 rfl ?_
          refine k_bipush i_138_89 (by decide) ?_
          refine k_invV (n := 1) (o' := 8) (av := [vR (some 273), vI 59]) (rest := []) (el := [some (vR (some 273)), some (vI 59), none]) i_138_91 o_138 rfl v_133 rfl (s_273) rfl rfl rfl rfl rfl ?_
          exfalso
          omega
      · refine k_aload_n i_138_59 rfl ?_
        refine k_bipush i_138_60 (by decide) ?_
        refine k_invV (n := 1) (o' := 8) (av := [vR (some 273), vI 16]) (rest := []) (el := [some (vR (some 273)), some (vI 16), none, none]) i_138_62 o_138 rfl v_134 rfl (s_273) rfl rfl rfl rfl rfl ?_
        refine c_134 (m := 16) (s := (sgS (bt len tp) 44 (onS (bt len tp) (srS (bt len tp) (a + 1))))) (by omega) (by decide) ht h2 (fun M3 h3 f3 v3 => ?_)
        show Ok _ 138 65 [some (vR (some 273)), some (vI n), some (vI ((sgS (bt len tp) 44 (onS (bt len tp) (srS (bt len tp) (a + 1)))).2))] [vI ((nuS (bt len tp) 16 (sgS (bt len tp) 44 (onS (bt len tp) (srS (bt len tp) (a + 1))))).2)] (M3) _
        refine k_goto (t := 69) i_138_65 rfl ?_
        refine k_istore_n (ls' := [some (vR (some 273)), some (vI n), some (vI ((nuS (bt len tp) 16 (sgS (bt len tp) 44 (onS (bt len tp) (srS (bt len tp) (a + 1))))).2))]) i_138_69 rfl ?_
        refine k_aload_n i_138_70 rfl ?_
        refine k_getR (r := 285) i_138_71 o_138 rfl (by decide) (s_273) rfl ?_
        refine k_sipush i_138_74 (by decide) ?_
        refine k_iload_n i_138_77 rfl ?_
        refine k_iadd i_138_78 (by omega) ?_
        refine k_aload_n i_138_79 rfl ?_
        refine k_getI (kz := 16) i_138_80 o_138 rfl (by decide) (s_273) rfl ?_
        refine k_iast i_138_83 (s_285) (by omega) ?_
        obtain ⟨N1, eN1⟩ : ∃ z : Mem, z = mu M3 285 (201 + n) (M3 273 16) := ⟨_, rfl⟩
        rw [← eN1]
        have hN1 : RdM N1 len tp (nuS (bt len tp) 16 (sgS (bt len tp) 44 (onS (bt len tp) (srS (bt len tp) (a + 1))))).1 := by rw [eN1]; exact h3.off (Or.inl (by decide)) (by decide)
        have fN1 : ∀ (b : Nat) (q : Int), ¬ (b = 285 ∧ q = 201 + n) → N1 b q = M3 b q := fun b q hb => by rw [eN1]; exact if_neg hb
        have gN1 : N1 285 (201 + n) = M3 273 16 := by rw [eN1, mu_s]
        refine k_iload_n i_138_84 rfl ?_
        refine k_if_ne (t := 97) i_138_85 rfl (fun h85 => ?_) (fun h85 => ?_)
        · refine k_iload_n i_138_97 rfl ?_
          refine k_istore_n (ls' := [some (vR (some 273)), some (vI n), some (vI ((nuS (bt len tp) 16 (sgS (bt len tp) 44 (onS (bt len tp) (srS (bt len tp) (a + 1))))).2))]) i_138_98 rfl ?_
          refine k_aload_n i_138_99 rfl ?_
          refine k_getR (r := 285) i_138_100 o_138 rfl (by decide) (s_273) rfl ?_
          refine k_iconst i_138_103 (by decide) ?_
          refine k_iload_n i_138_104 rfl ?_
          refine k_iadd i_138_105 (by omega) ?_
          rw [Int.zero_add]
          refine k_iconst i_138_106 (by decide) ?_
          refine k_iast i_138_107 (s_285) (by omega) ?_
          obtain ⟨N2, eN2⟩ : ∃ z : Mem, z = mu N1 285 (n) (0) := ⟨_, rfl⟩
          rw [← eN2]
          have hN2 : RdM N2 len tp (nuS (bt len tp) 16 (sgS (bt len tp) 44 (onS (bt len tp) (srS (bt len tp) (a + 1))))).1 := by rw [eN2]; exact hN1.off (Or.inl (by decide)) (by decide)
          have fN2 : ∀ (b : Nat) (q : Int), ¬ (b = 285 ∧ q = n) → N2 b q = N1 b q := fun b q hb => by rw [eN2]; exact if_neg hb
          have gN2 : N2 285 (n) = 0 := by rw [eN2, mu_s]
          refine k_aload_n i_138_108 rfl ?_
          refine k_getR (r := 285) i_138_109 o_138 rfl (by decide) (s_273) rfl ?_
          refine k_sipush i_138_112 (by decide) ?_
          refine k_dup2 i_138_115 ?_
          refine k_iald i_138_116 (s_285) (by omega) ?_
          rw [show N2 285 230 = c by rw [fN2 _ _ (by omega), fN1 _ _ (by omega), f3 _ _ (by omega), f2 _ _ (by omega), f1 _ _ (by omega) (by omega), fN0 _ _ (by omega)]; exact hc]
          refine k_iconst i_138_117 (by decide) ?_
          refine k_iadd i_138_118 (by omega) ?_
          refine k_iast i_138_119 (s_285) (by omega) ?_
          obtain ⟨N3, eN3⟩ : ∃ z : Mem, z = mu N2 285 (230) (c + 1) := ⟨_, rfl⟩
          rw [← eN3]
          have hN3 : RdM N3 len tp (nuS (bt len tp) 16 (sgS (bt len tp) 44 (onS (bt len tp) (srS (bt len tp) (a + 1))))).1 := by rw [eN3]; exact hN2.off (Or.inl (by decide)) (by decide)
          have fN3 : ∀ (b : Nat) (q : Int), ¬ (b = 285 ∧ q = 230) → N3 b q = N2 b q := fun b q hb => by rw [eN3]; exact if_neg hb
          have gN3 : N3 285 (230) = c + 1 := by rw [eN3, mu_s]
          refine k_aload_n i_138_120 rfl ?_
          refine k_getR (r := 285) i_138_121 o_138 rfl (by decide) (s_273) rfl ?_
          refine k_sipush i_138_124 (by decide) ?_
          refine k_dup2 i_138_127 ?_
          refine k_iald i_138_128 (s_285) (by omega) ?_
          rw [show N3 285 229 = n by rw [fN3 _ _ (by omega), fN2 _ _ (by omega), fN1 _ _ (by omega), f3 _ _ (by omega), f2 _ _ (by omega), f1 _ _ (by omega) (by omega), fN0 _ _ (by omega)]; exact hp]
          refine k_iconst i_138_129 (by decide) ?_
          refine k_iadd i_138_130 (by omega) ?_
          refine k_iast i_138_131 (s_285) (by omega) ?_
          obtain ⟨N4, eN4⟩ : ∃ z : Mem, z = mu N3 285 (229) (n + 1) := ⟨_, rfl⟩
          rw [← eN4]
          have hN4 : RdM N4 len tp (nuS (bt len tp) 16 (sgS (bt len tp) 44 (onS (bt len tp) (srS (bt len tp) (a + 1))))).1 := by rw [eN4]; exact hN3.off (Or.inl (by decide)) (by decide)
          have fN4 : ∀ (b : Nat) (q : Int), ¬ (b = 285 ∧ q = 229) → N4 b q = N3 b q := fun b q hb => by rw [eN4]; exact if_neg hb
          have gN4 : N4 285 (229) = n + 1 := by rw [eN4, mu_s]
          refine k_iload_n i_138_132 rfl ?_
          refine k_iret i_138_133 rfl ?_
          have e : (psS (bt len tp) a) = (nuS (bt len tp) 16 (sgS (bt len tp) 44 (onS (bt len tp) (srS (bt len tp) (a + 1))))) := sg_f (by omega)
          have q := kk (by omega) N4 (by rw [e]; exact hN4) (fun b j q0 q1 q2 => ?_) ?_ ?_ ?_ (fun q => absurd (show (nuS (bt len tp) 16 (sgS (bt len tp) 44 (onS (bt len tp) (srS (bt len tp) (a + 1))))).2 = 0 by rw [e] at q; exact q) (by omega))
          · rw [e] at q
            exact q
          · rw [fN4 b j (by omega), fN3 b j (by omega), fN2 b j (by omega), fN1 b j (by omega), f3 b j (by omega), f2 b j (by omega), f1 b j (by omega) (by omega), fN0 b j (by omega)]
          · rw [gN4]
          · rw [fN4 _ _ (by omega)]; rw [gN3]
          · rw [fN4 _ _ (by omega), fN3 _ _ (by omega)]; exact gN2
        · refine k_aload_n i_138_88 rfl ?_
          refine k_bipush i_138_89 (by decide) ?_
          refine k_invV (n := 1) (o' := 8) (av := [vR (some 273), vI 59]) (rest := []) (el := [some (vR (some 273)), some (vI 59), none]) i_138_91 o_138 rfl v_133 rfl (s_273) rfl rfl rfl rfl rfl ?_
          refine c_133 (c := 59) (s := (nuS (bt len tp) 16 (sgS (bt len tp) 44 (onS (bt len tp) (srS (bt len tp) (a + 1)))))) (by omega) hN1 (by decide) (fun M4 h4 f4 => ?_)
          show Ok _ 138 94 [some (vR (some 273)), some (vI n), some (vI ((nuS (bt len tp) 16 (sgS (bt len tp) 44 (onS (bt len tp) (srS (bt len tp) (a + 1))))).2))] [vI ((sgS (bt len tp) 59 (nuS (bt len tp) 16 (sgS (bt len tp) 44 (onS (bt len tp) (srS (bt len tp) (a + 1)))))).2)] (M4) _
          refine k_goto (t := 98) i_138_94 rfl ?_
          refine k_istore_n (ls' := [some (vR (some 273)), some (vI n), some (vI ((sgS (bt len tp) 59 (nuS (bt len tp) 16 (sgS (bt len tp) 44 (onS (bt len tp) (srS (bt len tp) (a + 1)))))).2))]) i_138_98 rfl ?_
          refine k_aload_n i_138_99 rfl ?_
          refine k_getR (r := 285) i_138_100 o_138 rfl (by decide) (s_273) rfl ?_
          refine k_iconst i_138_103 (by decide) ?_
          refine k_iload_n i_138_104 rfl ?_
          refine k_iadd i_138_105 (by omega) ?_
          rw [Int.zero_add]
          refine k_iconst i_138_106 (by decide) ?_
          refine k_iast i_138_107 (s_285) (by omega) ?_
          obtain ⟨N2, eN2⟩ : ∃ z : Mem, z = mu M4 285 (n) (0) := ⟨_, rfl⟩
          rw [← eN2]
          have hN2 : RdM N2 len tp (sgS (bt len tp) 59 (nuS (bt len tp) 16 (sgS (bt len tp) 44 (onS (bt len tp) (srS (bt len tp) (a + 1)))))).1 := by rw [eN2]; exact h4.off (Or.inl (by decide)) (by decide)
          have fN2 : ∀ (b : Nat) (q : Int), ¬ (b = 285 ∧ q = n) → N2 b q = M4 b q := fun b q hb => by rw [eN2]; exact if_neg hb
          have gN2 : N2 285 (n) = 0 := by rw [eN2, mu_s]
          refine k_aload_n i_138_108 rfl ?_
          refine k_getR (r := 285) i_138_109 o_138 rfl (by decide) (s_273) rfl ?_
          refine k_sipush i_138_112 (by decide) ?_
          refine k_dup2 i_138_115 ?_
          refine k_iald i_138_116 (s_285) (by omega) ?_
          rw [show N2 285 230 = c by rw [fN2 _ _ (by omega), f4 _ _ (by omega), fN1 _ _ (by omega), f3 _ _ (by omega), f2 _ _ (by omega), f1 _ _ (by omega) (by omega), fN0 _ _ (by omega)]; exact hc]
          refine k_iconst i_138_117 (by decide) ?_
          refine k_iadd i_138_118 (by omega) ?_
          refine k_iast i_138_119 (s_285) (by omega) ?_
          obtain ⟨N3, eN3⟩ : ∃ z : Mem, z = mu N2 285 (230) (c + 1) := ⟨_, rfl⟩
          rw [← eN3]
          have hN3 : RdM N3 len tp (sgS (bt len tp) 59 (nuS (bt len tp) 16 (sgS (bt len tp) 44 (onS (bt len tp) (srS (bt len tp) (a + 1)))))).1 := by rw [eN3]; exact hN2.off (Or.inl (by decide)) (by decide)
          have fN3 : ∀ (b : Nat) (q : Int), ¬ (b = 285 ∧ q = 230) → N3 b q = N2 b q := fun b q hb => by rw [eN3]; exact if_neg hb
          have gN3 : N3 285 (230) = c + 1 := by rw [eN3, mu_s]
          refine k_aload_n i_138_120 rfl ?_
          refine k_getR (r := 285) i_138_121 o_138 rfl (by decide) (s_273) rfl ?_
          refine k_sipush i_138_124 (by decide) ?_
          refine k_dup2 i_138_127 ?_
          refine k_iald i_138_128 (s_285) (by omega) ?_
          rw [show N3 285 229 = n by rw [fN3 _ _ (by omega), fN2 _ _ (by omega), f4 _ _ (by omega), fN1 _ _ (by omega), f3 _ _ (by omega), f2 _ _ (by omega), f1 _ _ (by omega) (by omega), fN0 _ _ (by omega)]; exact hp]
          refine k_iconst i_138_129 (by decide) ?_
          refine k_iadd i_138_130 (by omega) ?_
          refine k_iast i_138_131 (s_285) (by omega) ?_
          obtain ⟨N4, eN4⟩ : ∃ z : Mem, z = mu N3 285 (229) (n + 1) := ⟨_, rfl⟩
          rw [← eN4]
          have hN4 : RdM N4 len tp (sgS (bt len tp) 59 (nuS (bt len tp) 16 (sgS (bt len tp) 44 (onS (bt len tp) (srS (bt len tp) (a + 1)))))).1 := by rw [eN4]; exact hN3.off (Or.inl (by decide)) (by decide)
          have fN4 : ∀ (b : Nat) (q : Int), ¬ (b = 285 ∧ q = 229) → N4 b q = N3 b q := fun b q hb => by rw [eN4]; exact if_neg hb
          have gN4 : N4 285 (229) = n + 1 := by rw [eN4, mu_s]
          refine k_iload_n i_138_132 rfl ?_
          refine k_iret i_138_133 rfl ?_
          have e : (psS (bt len tp) a) = (sgS (bt len tp) 59 (nuS (bt len tp) 16 (sgS (bt len tp) 44 (onS (bt len tp) (srS (bt len tp) (a + 1)))))) := rfl
          have q := kk (by omega) N4 (by rw [e]; exact hN4) (fun b j q0 q1 q2 => ?_) ?_ ?_ ?_ (fun q => ⟨⟨?_, ?_, ?_, ?_⟩, ?_⟩)
          · rw [e] at q
            exact q
          · rw [fN4 b j (by omega), fN3 b j (by omega), fN2 b j (by omega), f4 b j (by omega), fN1 b j (by omega), f3 b j (by omega), f2 b j (by omega), f1 b j (by omega) (by omega), fN0 b j (by omega)]
          · rw [gN4]
          · rw [fN4 _ _ (by omega)]; rw [gN3]
          · rw [fN4 _ _ (by omega), fN3 _ _ (by omega)]; exact gN2
          · rw [fN4 _ _ (by omega), fN3 _ _ (by omega), fN2 _ _ (by omega), f4 _ _ (by omega), fN1 _ _ (by omega), f3 _ _ (by omega), f2 _ _ (by omega)]; exact (v1 (sg_0 (nu_0 (sg_0 q)))).1
          · rw [fN4 _ _ (by omega), fN3 _ _ (by omega), fN2 _ _ (by omega), f4 _ _ (by omega), fN1 _ _ (by omega), f3 _ _ (by omega), f2 _ _ (by omega)]; exact (v1 (sg_0 (nu_0 (sg_0 q)))).2.1
          · rw [fN4 _ _ (by omega), fN3 _ _ (by omega), fN2 _ _ (by omega), f4 _ _ (by omega), fN1 _ _ (by omega), f3 _ _ (by omega), f2 _ _ (by omega)]; exact (v1 (sg_0 (nu_0 (sg_0 q)))).2.2.1
          · rw [fN4 _ _ (by omega), fN3 _ _ (by omega), fN2 _ _ (by omega), f4 _ _ (by omega), fN1 _ _ (by omega), f3 _ _ (by omega), f2 _ _ (by omega)]; exact (v1 (sg_0 (nu_0 (sg_0 q)))).2.2.2
          · rw [fN4 _ _ (by omega), fN3 _ _ (by omega), fN2 _ _ (by omega), f4 _ _ (by omega)]; rw [gN1]; exact v3 (sg_0 q)
  · refine k_iconst i_138_13 (by decide) ?_
    refine k_iret i_138_14 rfl ?_
    exact k3 (by omega)
