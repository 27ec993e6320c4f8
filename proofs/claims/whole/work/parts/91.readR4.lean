theorem y_139f {d : Nat} {M0 M : Mem} {Q : Option Vv → Mem → Prop} {len : Int} {tp : Int → Int} {R : Sp × List Pn} {w : Int} {x2 : Option Vv} (E : Sp) (hE : fiS len R.1 = E) (hE2 : ¬ E.2 = 0) (h : RdM M len tp E.1) (hb : 0 ≤ M 285 229 ∧ M 285 229 ≤ 100 ∧ 0 ≤ M 285 230 ∧ M 285 230 ≤ 100) (hfr : FT M0 M) (kk : ∀ M', RdM M' len tp (fiS len R.1).1 → FT M0 M' → ((fiS len R.1).2 = 0 → NXF M' R.2 w) → Q (some (vI (fiS len R.1).2)) M') : Ok (d + 5) 139 117 [some (vR (some 273)), some (vI E.2), x2] [] M Q := by
  subst hE
  exact y_139 h hb hfr hE2 (fun M1 q1 q2 => kk M1 q1 q2 (fun q => absurd q hE2))
theorem x_139f {d : Nat} {M0 M : Mem} {Q : Option Vv → Mem → Prop} {len : Int} {tp : Int → Int} {R : Sp × List Pn} {w : Int} {x2 : Option Vv} (E : Sp) (hE : fiS len R.1 = E) (h : RdM M len tp E.1) (hb : 0 ≤ M 285 229 ∧ M 285 229 ≤ 100 ∧ 0 ≤ M 285 230 ∧ M 285 230 ≤ 100) (hfr : FT M0 M) (hX : NX M R.2 w ∧ (R.2.length : Int) ≤ 16 ∧ w ≤ 8) (kk : ∀ M', RdM M' len tp (fiS len R.1).1 → FT M0 M' → ((fiS len R.1).2 = 0 → NXF M' R.2 w) → Q (some (vI (fiS len R.1).2)) M') : Ok (d + 5) 139 185 [some (vR (some 273)), some (vI E.2), x2] [] M Q := by
  subst hE
  exact x_139 h hb hfr (fun _ => hX) kk

set_option maxRecDepth 100000 in
theorem l_139p {d : Nat} {M0 : Mem} {Q : Option Vv → Mem → Prop} {len : Int} {tp : Int → Int} {R : Sp × List Pn} {w : Int} (ht : TpB len tp) (hw : 0 ≤ w ∧ w ≤ 8) (kk : ∀ M', RdM M' len tp (fiS len R.1).1 → FT M0 M' → ((fiS len R.1).2 = 0 → NXF M' R.2 w) → Q (some (vI (fiS len R.1).2)) M') : ∀ (f : Nat) (k : Nat) (s : Sp) (l : List Pn) (x2 : Option Vv) (M : Mem), (s.2 = 0) → (RdM M len tp s.1) → (NX M l w) → ((l.length : Int) = w + (8 - k)) → (k ≤ 7) → (FT M0 M) → (pl (bt len tp) k s l = R) → k < f → Ok (d + 5) 139 117 [some (vR (some 273)), some (vI s.2), x2] [] M Q := by
  intro f
  induction f with
  | zero => intro k s l x2 M hs0 h hN hl hk hfr hR hf; exact absurd hf (Nat.not_lt_zero _)
  | succ f ih =>
    intro k s l x2 M hs0 h hN hl hk hfr hR hf
    obtain ⟨r1, r2, r3, a1, a2, r6⟩ := id h
    have m1 := hN.1
    have m2 := hN.2.1
    refine k_iload_n i_139_117 rfl ?_
    refine k_if_ne (t := 185) i_139_118 rfl (fun h118 => absurd hs0 h118) (fun h118 => ?_)
    refine k_aload_n i_139_121 rfl ?_
    refine k_getI (kz := 15) i_139_122 o_139 rfl (by decide) (s_273) rfl ?_
    rw [r3]
    refine k_aload_n i_139_125 rfl ?_
    refine k_getI (kz := 13) i_139_126 o_139 rfl (by decide) (s_273) rfl ?_
    refine k_icmp_ge (t := 185) i_139_129 rfl (fun h129 => ?_) (fun h129 => ?_)
    · have eB : bt len tp s.1 = -1 := if_neg (by omega)
      obtain rfl : (s, l) = R := by rw [← hR]; exact (pl_x (by omega)).symm
      exact x_139f (R := (s, l)) s (fi_2 (show ¬ s.1 < len by omega)) h (by omega) hfr ⟨hN, by show (l.length : Int) ≤ 16; omega, by omega⟩ kk
    · refine k_aload_n i_139_132 rfl ?_
      refine k_aload_n i_139_133 rfl ?_
      refine k_getI (kz := 15) i_139_134 o_139 rfl (by decide) (s_273) rfl ?_
      rw [r3]
      refine k_invV (n := 1) (o' := 8) (av := [vR (some 273), vI s.1]) (rest := []) (el := [some (vR (some 273)), some (vI s.1)]) i_139_137 o_139 rfl v_131 rfl (s_273) rfl rfl rfl rfl rfl ?_
      refine c_131 h (by omega) ?_
      show Ok _ 139 140 [some (vR (some 273)), some (vI s.2), x2] [vI (bt len tp s.1)] (M) _
      refine k_bipush i_139_140 (by decide) ?_
      refine k_icmp_ne (t := 149) i_139_142 rfl (fun h142 => ?_) (fun h142 => ?_)
      · refine k_iconst i_139_149 (by decide) ?_
        refine k_istore_n (ls' := [some (vR (some 273)), some (vI s.2), some (vI 0)]) i_139_150 rfl ?_
        refine k_iload_n i_139_151 rfl ?_
        refine k_if_eq (t := 162) i_139_152 rfl (fun h152 => ?_) (fun h152 => absurd h152 (by decide))
        refine k_aload_n i_139_162 rfl ?_
        refine k_getR (r := 285) i_139_163 o_139 rfl (by decide) (s_273) rfl ?_
        refine k_sipush i_139_166 (by decide) ?_
        refine k_iald i_139_169 (s_285) (by omega) ?_
        refine k_if_le (t := 177) i_139_170 rfl (fun h170 => (by exfalso; omega)) (fun h170 => ?_)
        refine k_iconst i_139_173 (by decide) ?_
        refine k_goto (t := 181) i_139_174 rfl ?_
        refine k_istore_n (ls' := [some (vR (some 273)), some (vI 1), some (vI 0)]) i_139_181 rfl ?_
        refine k_goto (t := 117) i_139_182 rfl ?_
        exact y_139f (s.1, 1) (by rw [← hR, pl_x (by omega)]; exact fi_1 hs0 (show s.1 < len by omega)) (show ¬ (1 : Int) = 0 by decide) h (by omega) hfr kk
      · refine k_iconst i_139_145 (by decide) ?_
        refine k_goto (t := 150) i_139_146 rfl ?_
        refine k_istore_n (ls' := [some (vR (some 273)), some (vI s.2), some (vI 1)]) i_139_150 rfl ?_
        refine k_iload_n i_139_151 rfl ?_
        refine k_if_eq (t := 162) i_139_152 rfl (fun h152 => absurd h152 (by decide)) (fun h152 => ?_)
        refine k_aload_n i_139_155 rfl ?_
        refine k_invV (n := 0) (o' := 8) (av := [vR (some 273)]) (rest := []) (el := [some (vR (some 273)), none, none]) i_139_156 o_139 rfl v_138 rfl (s_273) rfl rfl rfl rfl rfl ?_
        refine c_138 (a := s.1) (n := (l.length : Int)) (c := (l.length : Int) - w) ht h (by omega) hN.1 (by omega) (by omega) (by omega) (fun h3 => ?_) (fun h3 M1 h1 f1 n1 n2 n3 n4 => ?_)
        · show Ok _ 139 159 [some (vR (some 273)), some (vI s.2), some (vI 1)] [vI 3] (M) _
          refine k_goto (t := 181) i_139_159 rfl ?_
          refine k_istore_n (ls' := [some (vR (some 273)), some (vI 3), some (vI 1)]) i_139_181 rfl ?_
          refine k_goto (t := 117) i_139_182 rfl ?_
          obtain rfl : k = 0 := by omega
          exact y_139f (s.1, 3) (by rw [← hR]; exact (congrArg (fun z : Sp × List Pn => fiS len z.1) (if_pos ⟨hs0, by omega⟩)).trans (fi_0 (show ¬ (3 : Int) = 0 by decide))) (show ¬ (3 : Int) = 0 by decide) h (by omega) hfr kk
        · show Ok _ 139 159 [some (vR (some 273)), some (vI s.2), some (vI 1)] [vI ((psS (bt len tp) s.1).2)] (M1) _
          refine k_goto (t := 181) i_139_159 rfl ?_
          refine k_istore_n (ls' := [some (vR (some 273)), some (vI ((psS (bt len tp) s.1).2)), some (vI 1)]) i_139_181 rfl ?_
          refine k_goto (t := 117) i_139_182 rfl ?_
          obtain ⟨k', rfl⟩ : ∃ k', k = k' + 1 := ⟨k - 1, by omega⟩
          have hR2 : pl (bt len tp) k' (psS (bt len tp) s.1) (l ++ [psP (bt len tp) s.1]) = R := by rw [← hR]; exact (if_pos ⟨hs0, by omega⟩).symm
          have hf1 : FT M0 M1 := fun b j q0 q1 => (f1 b j q0 (by omega) (by omega)).trans (hfr b j q0 q1)
          by_cases hs1 : (psS (bt len tp) s.1).2 = 0
          · have hv := n4 hs1
            have hN1 : NX M1 (l ++ [psP (bt len tp) s.1]) w := hN.add (n := (l.length : Int)) (x := psP (bt len tp) s.1) rfl (by omega) (Or.inl ⟨rfl, by omega, by omega⟩) n1 (by rw [n2]; omega) (by rw [f1 _ _ (by omega) (by omega) (by omega)]; exact hN.2.2.1) hv.1.1 hv.1.2.1 hv.1.2.2.1 hv.1.2.2.2 hv.2 (by rw [n3, if_neg (by omega)]) (fun q => by omega) (fun j hj => f1 285 j (by omega) (by omega) (by omega))
            have lN1 : ((l ++ [psP (bt len tp) s.1]).length : Int) = (l.length : Int) + 1 := by rw [List.length_append, List.length_singleton]; omega
            exact ih k' _ _ _ M1 hs1 h1 hN1 (by omega) (by omega) hf1 hR2 (by omega)
          · exact y_139f (psS (bt len tp) s.1) (by rw [← hR2, pl_x (fun q => hs1 q.1)]; exact fi_0 hs1) hs1 h1 (by omega) hf1 kk

set_option maxRecDepth 100000 in
theorem l_139w {d : Nat} {M0 : Mem} {Q : Option Vv → Mem → Prop} {len : Int} {tp : Int → Int} {W : Sp × List Pn} (ht : TpB len tp) (kk : ∀ M', RdM M' len tp (fiS len (pl (bt len tp) 8 W.1 W.2).1).1 → FT M0 M' → ((fiS len (pl (bt len tp) 8 W.1 W.2).1).2 = 0 → NXF M' (pl (bt len tp) 8 W.1 W.2).2 (W.2.length : Int)) → Q (some (vI (fiS len (pl (bt len tp) 8 W.1 W.2).1).2)) M') : ∀ (f : Nat) (s : Sp) (l : List Pn) (x2 : Option Vv) (M : Mem), (s.2 = 0) → (RdM M len tp s.1) → (NX M l (l.length : Int)) → (l.length ≤ 8) → (FT M0 M) → (wl (bt len tp) (8 - l.length) s l = W) → (8 - l.length) < f → Ok (d + 5) 139 117 [some (vR (some 273)), some (vI s.2), x2] [] M Q := by
  intro f
  induction f with
  | zero => intro s l x2 M hs0 h hN hl hfr hW hf; exact absurd hf (Nat.not_lt_zero _)
  | succ f ih =>
    intro s l x2 M hs0 h hN hl hfr hW hf
    obtain ⟨r1, r2, r3, a1, a2, r6⟩ := id h
    have m1 := hN.1
    have m2 := hN.2.1
    refine k_iload_n i_139_117 rfl ?_
    refine k_if_ne (t := 185) i_139_118 rfl (fun h118 => absurd hs0 h118) (fun h118 => ?_)
    refine k_aload_n i_139_121 rfl ?_
    refine k_getI (kz := 15) i_139_122 o_139 rfl (by decide) (s_273) rfl ?_
    rw [r3]
    refine k_aload_n i_139_125 rfl ?_
    refine k_getI (kz := 13) i_139_126 o_139 rfl (by decide) (s_273) rfl ?_
    refine k_icmp_ge (t := 185) i_139_129 rfl (fun h129 => ?_) (fun h129 => ?_)
    · have eB : bt len tp s.1 = -1 := if_neg (by omega)
      have hk0 : kdF (bt len tp s.1) = 0 := by rw [eB]; rfl
      obtain rfl : (s, l) = W := by rw [← hW]; exact (wl_x (fun q => q.2 hk0)).symm
      have eR : pl (bt len tp) 8 s l = (s, l) := pl_x (by omega)
      exact x_139f (R := pl (bt len tp) 8 s l) s (by rw [eR]; exact fi_2 (show ¬ s.1 < len by omega)) h (by omega) hfr (by rw [eR]; exact ⟨hN, by show (l.length : Int) ≤ 16; omega, by show (l.length : Int) ≤ 8; omega⟩) kk
    · refine k_aload_n i_139_132 rfl ?_
      refine k_aload_n i_139_133 rfl ?_
      refine k_getI (kz := 15) i_139_134 o_139 rfl (by decide) (s_273) rfl ?_
      rw [r3]
      refine k_invV (n := 1) (o' := 8) (av := [vR (some 273), vI s.1]) (rest := []) (el := [some (vR (some 273)), some (vI s.1)]) i_139_137 o_139 rfl v_131 rfl (s_273) rfl rfl rfl rfl rfl ?_
      refine c_131 h (by omega) ?_
      show Ok _ 139 140 [some (vR (some 273)), some (vI s.2), x2] [vI (bt len tp s.1)] (M) _
      refine k_bipush i_139_140 (by decide) ?_
      refine k_icmp_ne (t := 149) i_139_142 rfl (fun h142 => ?_) (fun h142 => ?_)
      · refine k_iconst i_139_149 (by decide) ?_
        refine k_istore_n (ls' := [some (vR (some 273)), some (vI s.2), some (vI 0)]) i_139_150 rfl ?_
        refine k_iload_n i_139_151 rfl ?_
        refine k_if_eq (t := 162) i_139_152 rfl (fun h152 => ?_) (fun h152 => absurd h152 (by decide))
        refine k_aload_n i_139_162 rfl ?_
        refine k_getR (r := 285) i_139_163 o_139 rfl (by decide) (s_273) rfl ?_
        refine k_sipush i_139_166 (by decide) ?_
        refine k_iald i_139_169 (s_285) (by omega) ?_
        refine k_if_le (t := 177) i_139_170 rfl (fun h170 => ?_) (fun h170 => (by exfalso; omega))
        refine k_aload_n i_139_177 rfl ?_
        refine k_invV (n := 0) (o' := 8) (av := [vR (some 273)]) (rest := []) (el := [some (vR (some 273)), none, none]) i_139_178 o_139 rfl v_137 rfl (s_273) rfl rfl rfl rfl rfl ?_
        refine c_137 (a := s.1) (n := (l.length : Int)) ht h hN.1 (by omega) (by have := hN.2.2.1; omega) (fun h3 h4 => ?_) (fun h3 M1 h1 f1 n1 n2 n3 n4 n5 => ?_)
        · show Ok _ 139 181 [some (vR (some 273)), some (vI s.2), some (vI 0)] [vI 3] (M) _
          refine k_istore_n (ls' := [some (vR (some 273)), some (vI 3), some (vI 0)]) i_139_181 rfl ?_
          refine k_goto (t := 117) i_139_182 rfl ?_
          first
            | (exfalso; omega)
            | (have e8 : 8 - l.length = 0 := by omega
               rw [e8] at hW
               obtain rfl : ((s.1, (3 : Int)), l) = W := by rw [← hW]; exact (if_pos ⟨hs0, h3⟩).symm
               exact y_139f (s.1, 3) (by rw [pl_x (fun q => absurd (show (3 : Int) = 0 from q.1) (by decide))]; exact fi_0 (show ¬ (3 : Int) = 0 by decide)) (show ¬ (3 : Int) = 0 by decide) h (by omega) hfr kk)
        · show Ok _ 139 181 [some (vR (some 273)), some (vI s.2), some (vI 0)] [vI ((sgS (bt len tp) 59 (onS (bt len tp) (srS (bt len tp) s.1))).2)] (M1) _
          refine k_istore_n (ls' := [some (vR (some 273)), some (vI ((sgS (bt len tp) 59 (onS (bt len tp) (srS (bt len tp) s.1))).2)), some (vI 0)]) i_139_181 rfl ?_
          refine k_goto (t := 117) i_139_182 rfl ?_
          have hf1 : FT M0 M1 := fun b j q0 q1 => (f1 b j q0 (by omega) (by omega)).trans (hfr b j q0 q1)
          have m4 : M1 285 230 = M 285 230 := f1 _ _ (by omega) (by omega) (by omega)
          by_cases hk0 : kdF (bt len tp s.1) = 0
          · have e0 : srS (bt len tp) s.1 = (s.1, 1) := if_pos hk0
            rw [e0, on_f (show ¬ (1 : Int) = 0 by decide), sg_f (show ¬ (1 : Int) = 0 by decide)] at h1 ⊢
            obtain rfl : (s, l) = W := by rw [← hW]; exact (wl_x (fun q => q.2 hk0)).symm
            exact y_139f (s.1, 1) (by rw [pl_x (show ¬ (s.2 = 0 ∧ bt len tp s.1 = 112) by omega)]; exact fi_1 hs0 (show s.1 < len by omega)) (show ¬ (1 : Int) = 0 by decide) h1 (by omega) hf1 kk
          · have e0 : srS (bt len tp) s.1 = (s.1 + 1, 0) := if_neg hk0
            have e1 : sgS (bt len tp) 59 (onS (bt len tp) (srS (bt len tp) s.1)) = wtS (bt len tp) s.1 := by rw [e0]; rfl
            rw [e1] at h1 n5 ⊢
            obtain ⟨k', hk'⟩ : ∃ k', 8 - l.length = k' + 1 := ⟨7 - l.length, by omega⟩
            have lN1 : (l ++ [wtP (bt len tp) s.1]).length = l.length + 1 := by rw [List.length_append, List.length_singleton]
            have hW2 : wl (bt len tp) (8 - (l ++ [wtP (bt len tp) s.1]).length) (wtS (bt len tp) s.1) (l ++ [wtP (bt len tp) s.1]) = W := by
              rw [← hW, hk', show 8 - (l ++ [wtP (bt len tp) s.1]).length = k' by omega]
              exact (if_pos ⟨hs0, hk0⟩).symm
            by_cases hs1 : (wtS (bt len tp) s.1).2 = 0
            · have hv := n5 hs1
              rw [e0] at hv
              have hN1 : NX M1 (l ++ [wtP (bt len tp) s.1]) ((l ++ [wtP (bt len tp) s.1]).length : Int) := by
                rw [lN1]
                refine hN.add (n := (l.length : Int)) (x := wtP (bt len tp) s.1) rfl (by omega) (Or.inr ⟨rfl, rfl⟩) n1 (by rw [m4]; omega) (by rw [n2, hN.2.2.1]; rfl) hv.1 hv.2.1 hv.2.2.1 hv.2.2.2 ?_ (by rw [n3, if_pos (by omega)]) (fun _ => n4) (fun j hj => f1 285 j (by omega) (by omega) (by omega))
                rw [f1 _ _ (by omega) (by omega) (by omega)]
                exact hN.2.2.2.2.2.1 _ (by omega) (by omega)
              exact ih _ _ _ M1 hs1 h1 hN1 (by omega) hf1 hW2 (by omega)
            · obtain rfl : (wtS (bt len tp) s.1, l ++ [wtP (bt len tp) s.1]) = W := by rw [← hW2]; exact (wl_x (fun q => hs1 q.1)).symm
              exact y_139f (wtS (bt len tp) s.1) (by rw [pl_x (fun q => hs1 q.1)]; exact fi_0 hs1) hs1 h1 (by omega) hf1 kk
      · refine k_iconst i_139_145 (by decide) ?_
        refine k_goto (t := 150) i_139_146 rfl ?_
        refine k_istore_n (ls' := [some (vR (some 273)), some (vI s.2), some (vI 1)]) i_139_150 rfl ?_
        refine k_iload_n i_139_151 rfl ?_
        refine k_if_eq (t := 162) i_139_152 rfl (fun h152 => absurd h152 (by decide)) (fun h152 => ?_)
        refine k_aload_n i_139_155 rfl ?_
        refine k_invV (n := 0) (o' := 8) (av := [vR (some 273)]) (rest := []) (el := [some (vR (some 273)), none, none]) i_139_156 o_139 rfl v_138 rfl (s_273) rfl rfl rfl rfl rfl ?_
        refine c_138 (a := s.1) (n := (l.length : Int)) (c := (l.length : Int) - (l.length : Int)) ht h (by omega) hN.1 (by omega) (by omega) (by omega) (fun h3 => ?_) (fun h3 M1 h1 f1 n1 n2 n3 n4 => ?_)
        · show Ok _ 139 159 [some (vR (some 273)), some (vI s.2), some (vI 1)] [vI 3] (M) _
          refine k_goto (t := 181) i_139_159 rfl ?_
          refine k_istore_n (ls' := [some (vR (some 273)), some (vI 3), some (vI 1)]) i_139_181 rfl ?_
          refine k_goto (t := 117) i_139_182 rfl ?_
          first
            | (exfalso; omega)
            | (have e8 : 8 - l.length = 0 := by omega
               rw [e8] at hW
               obtain rfl : ((s.1, (3 : Int)), l) = W := by rw [← hW]; exact (if_pos ⟨hs0, h3⟩).symm
               exact y_139f (s.1, 3) (by rw [pl_x (fun q => absurd (show (3 : Int) = 0 from q.1) (by decide))]; exact fi_0 (show ¬ (3 : Int) = 0 by decide)) (show ¬ (3 : Int) = 0 by decide) h (by omega) hfr kk)
        · show Ok _ 139 159 [some (vR (some 273)), some (vI s.2), some (vI 1)] [vI ((psS (bt len tp) s.1).2)] (M1) _
          refine k_goto (t := 181) i_139_159 rfl ?_
          refine k_istore_n (ls' := [some (vR (some 273)), some (vI ((psS (bt len tp) s.1).2)), some (vI 1)]) i_139_181 rfl ?_
          refine k_goto (t := 117) i_139_182 rfl ?_
          have hk0 : kdF (bt len tp s.1) = 0 := by rw [show bt len tp s.1 = 112 by omega]; rfl
          obtain rfl : (s, l) = W := by rw [← hW]; exact (wl_x (fun q => q.2 hk0)).symm
          have hR2 : pl (bt len tp) 8 s l = pl (bt len tp) 7 (psS (bt len tp) s.1) (l ++ [psP (bt len tp) s.1]) := if_pos ⟨hs0, by omega⟩
          have hf1 : FT M0 M1 := fun b j q0 q1 => (f1 b j q0 (by omega) (by omega)).trans (hfr b j q0 q1)
          by_cases hs1 : (psS (bt len tp) s.1).2 = 0
          · have hv := n4 hs1
            have hN1 : NX M1 (l ++ [psP (bt len tp) s.1]) (l.length : Int) := hN.add (n := (l.length : Int)) (x := psP (bt len tp) s.1) rfl (by omega) (Or.inl ⟨rfl, by omega, by omega⟩) n1 (by rw [n2]; omega) (by rw [f1 _ _ (by omega) (by omega) (by omega)]; exact hN.2.2.1) hv.1.1 hv.1.2.1 hv.1.2.2.1 hv.1.2.2.2 hv.2 (by rw [n3, if_neg (by omega)]) (fun q => by omega) (fun j hj => f1 285 j (by omega) (by omega) (by omega))
            have lN1 : ((l ++ [psP (bt len tp) s.1]).length : Int) = (l.length : Int) + 1 := by rw [List.length_append, List.length_singleton]; omega
            exact l_139p (R := pl (bt len tp) 8 s l) (w := (l.length : Int)) ht (by omega) kk 8 7 _ _ _ M1 hs1 h1 hN1 (by omega) (by omega) hf1 hR2.symm (by omega)
          · exact y_139f (R := pl (bt len tp) 8 s l) (psS (bt len tp) s.1) (by rw [hR2, pl_x (fun q => hs1 q.1)]; exact fi_0 hs1) hs1 h1 (by omega) hf1 kk
