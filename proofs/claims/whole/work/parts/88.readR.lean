/-! the reference's reader -/
def RdM (M : Mem) (len : Int) (tp : Int → Int) (a : Int) : Prop := M 273 13 = len ∧ (∀ i : Int, 0 ≤ i → i < len → M 284 i = tp i) ∧ M 273 15 = a ∧ 0 ≤ a ∧ a ≤ len ∧ len ≤ 160
def FQ (M M' : Mem) : Prop := ∀ (b : Nat) (j : Int), ¬ (b = 273 ∧ (j = 15 ∨ j = 16)) → M' b j = M b j
theorem FQ.rf (M : Mem) : FQ M M := fun _ _ _ => rfl
theorem FQ.tr {M M1 M2 : Mem} (h : FQ M M1) (h2 : FQ M1 M2) : FQ M M2 := fun b j q => (h2 b j q).trans (h b j q)
theorem FQ.mu {M M1 : Mem} {j v : Int} (h : FQ M M1) (hj : j = 15 ∨ j = 16) : FQ M (mu M1 273 j v) := fun b i q => (if_neg (by omega)).trans (h b i q)
theorem RdM.at {M : Mem} {len : Int} {tp : Int → Int} {s : Int} (h : RdM M len tp s) {a : Int} (ha : 0 ≤ a ∧ a ≤ len) : RdM (mu M 273 15 a) len tp a := by
  obtain ⟨r1, r2, r3, r4, r5, r6⟩ := h
  exact ⟨by rw [mu_j (by decide)]; exact r1, fun i i0 i1 => by rw [mu_ne (by decide)]; exact r2 i i0 i1, mu_s _ _ _ _, ha.1, ha.2, r6⟩
theorem RdM.off {M : Mem} {len : Int} {tp : Int → Int} {s : Int} (h : RdM M len tp s) {b : Nat} {j v : Int} (h1 : b ≠ 273 ∨ j = 16) (h2 : b ≠ 284) : RdM (mu M b j v) len tp s := by
  obtain ⟨r1, r2, r3, r4, r5, r6⟩ := h
  exact ⟨(if_neg (by omega)).trans r1, fun i i0 i1 => (if_neg (by omega)).trans (r2 i i0 i1), (if_neg (by omega)).trans r3, r4, r5, r6⟩

set_option maxRecDepth 100000 in
/-- ElbowQueueModel.byteAt -/
theorem c_131 {d : Nat} {M : Mem} {Q : Option Vv → Mem → Prop} {len : Int} {tp : Int → Int} {a i : Int} (h : RdM M len tp a) (hi : 0 ≤ i) (k : Q (some (vI (bt len tp i))) M) : Ok d 131 0 [some (vR (some 273)), some (vI i)] [] M Q := by
  obtain ⟨r1, r2, r3, a1, a2, r6⟩ := id h
  refine k_iload_n i_131_0 rfl ?_
  refine k_aload_n i_131_1 rfl ?_
  refine k_getI (kz := 13) i_131_2 o_131 rfl (by decide) (s_273) rfl ?_
  refine k_icmp_ge (t := 17) i_131_5 rfl (fun h5 => ?_) (fun h5 => ?_)
  · refine k_iconst i_131_17 (by decide) ?_
    refine k_iret i_131_18 rfl ?_
    have e : bt len tp i = -1 := by
      unfold bt
      first
        | (rw [if_pos (by omega)]; exact (r2 i hi (by omega)).symm)
        | (rw [if_neg (by omega)])
        | (exfalso; omega)
    rw [e] at k
    exact k
  · refine k_aload_n i_131_8 rfl ?_
    refine k_getR (r := 284) i_131_9 o_131 rfl (by decide) (s_273) rfl ?_
    refine k_iload_n i_131_12 rfl ?_
    refine k_iald i_131_13 (s_284) (by omega) ?_
    refine k_goto (t := 18) i_131_14 rfl ?_
    refine k_iret i_131_18 rfl ?_
    have e : bt len tp i = M 284 i := by
      unfold bt
      first
        | (rw [if_pos (by omega)]; exact (r2 i hi (by omega)).symm)
        | (rw [if_neg (by omega)])
        | (exfalso; omega)
    rw [e] at k
    exact k

set_option maxRecDepth 100000 in
/-- ElbowQueueModel.isFigure -/
theorem c_132 {d : Nat} {M : Mem} {Q : Option Vv → Mem → Prop} {x : Int}  (k : ∀ v : Int, (v = 1 ∧ (48 ≤ x ∧ x ≤ 57)) ∨ (v = 0 ∧ ¬ (48 ≤ x ∧ x ≤ 57)) → Q (some (vI v)) M) : Ok (d + 1) 132 0 [some (vI x)] [] M Q := by
  refine k_iload_n i_132_0 rfl ?_
  refine k_i2l i_132_1 ?_
  refine k_ldc2 (z := 48) i_132_2 o_132 rfl (by decide) ?_
  refine k_ldc2 (z := 57) i_132_5 o_132 rfl (by decide) ?_
  refine k_invS (n := 3) (av := [vL x, vL 48, vL 57]) (rest := []) (el := [some (vL x), none, some (vL 48), none, some (vL 57), none]) i_132_8 o_132 rfl v_122 rfl rfl rfl rfl rfl rfl ?_
  refine c_122 (fun v8 hv8 => ?_)
  show Ok _ 132 11 [some (vI x)] [vI v8] (M) _
  refine k_zret i_132_11 rfl (by omega) ?_
  exact k _ (by omega)

set_option maxRecDepth 100000 in
/-- ElbowQueueModel.sortOf -/
theorem c_135 {d : Nat} {M : Mem} {Q : Option Vv → Mem → Prop} {x : Int}  (k : Q (some (vI (kdF x))) M) : Ok d 135 0 [some (vI x)] [] M Q := by
  refine k_iload_n i_135_0 rfl ?_
  refine k_bipush i_135_1 (by decide) ?_
  refine k_icmp_ne (t := 10) i_135_3 rfl (fun h3 => ?_) (fun h3 => ?_)
  · refine k_iload_n i_135_10 rfl ?_
    refine k_bipush i_135_11 (by decide) ?_
    refine k_icmp_ne (t := 20) i_135_13 rfl (fun h13 => ?_) (fun h13 => ?_)
    · refine k_iload_n i_135_20 rfl ?_
      refine k_bipush i_135_21 (by decide) ?_
      refine k_icmp_ne (t := 30) i_135_23 rfl (fun h23 => ?_) (fun h23 => ?_)
      · refine k_iload_n i_135_30 rfl ?_
        refine k_bipush i_135_31 (by decide) ?_
        refine k_icmp_ne (t := 40) i_135_33 rfl (fun h33 => ?_) (fun h33 => ?_)
        · refine k_iload_n i_135_40 rfl ?_
          refine k_bipush i_135_41 (by decide) ?_
          refine k_icmp_ne (t := 50) i_135_43 rfl (fun h43 => ?_) (fun h43 => ?_)
          · refine k_iconst i_135_50 (by decide) ?_
            refine k_iret i_135_51 rfl ?_
            have e : kdF x = 0 := by
              unfold kdF
              repeat (first | rw [if_pos (by omega)] | rw [if_neg (by omega)])
            rw [e] at k
            exact k
          · refine k_iconst i_135_46 (by decide) ?_
            refine k_goto (t := 51) i_135_47 rfl ?_
            refine k_iret i_135_51 rfl ?_
            have e : kdF x = 5 := by
              unfold kdF
              repeat (first | rw [if_pos (by omega)] | rw [if_neg (by omega)])
            rw [e] at k
            exact k
        · refine k_iconst i_135_36 (by decide) ?_
          refine k_goto (t := 51) i_135_37 rfl ?_
          refine k_iret i_135_51 rfl ?_
          have e : kdF x = 4 := by
            unfold kdF
            repeat (first | rw [if_pos (by omega)] | rw [if_neg (by omega)])
          rw [e] at k
          exact k
      · refine k_iconst i_135_26 (by decide) ?_
        refine k_goto (t := 51) i_135_27 rfl ?_
        refine k_iret i_135_51 rfl ?_
        have e : kdF x = 3 := by
          unfold kdF
          repeat (first | rw [if_pos (by omega)] | rw [if_neg (by omega)])
        rw [e] at k
        exact k
    · refine k_iconst i_135_16 (by decide) ?_
      refine k_goto (t := 51) i_135_17 rfl ?_
      refine k_iret i_135_51 rfl ?_
      have e : kdF x = 2 := by
        unfold kdF
        repeat (first | rw [if_pos (by omega)] | rw [if_neg (by omega)])
      rw [e] at k
      exact k
  · refine k_iconst i_135_6 (by decide) ?_
    refine k_goto (t := 51) i_135_7 rfl ?_
    refine k_iret i_135_51 rfl ?_
    have e : kdF x = 1 := by
      unfold kdF
      repeat (first | rw [if_pos (by omega)] | rw [if_neg (by omega)])
    rw [e] at k
    exact k

set_option maxRecDepth 100000 in
/-- ElbowQueueModel.sign -/
theorem c_133 {d : Nat} {M : Mem} {Q : Option Vv → Mem → Prop} {len : Int} {tp : Int → Int} {c : Int} {s : Sp} (hs : s.2 = 0) (h : RdM M len tp s.1) (hc : 0 ≤ c) (kk : ∀ M', RdM M' len tp (sgS (bt len tp) c s).1 → FQ M M' → Q (some (vI (sgS (bt len tp) c s).2)) M') : Ok (d + 1) 133 0 [some (vR (some 273)), some (vI c), none] [] M Q := by
  obtain ⟨r1, r2, r3, a1, a2, r6⟩ := id h
  refine k_aload_n i_133_0 rfl ?_
  refine k_aload_n i_133_1 rfl ?_
  refine k_getI (kz := 15) i_133_2 o_133 rfl (by decide) (s_273) rfl ?_
  rw [r3]
  refine k_invV (n := 1) (o' := 8) (av := [vR (some 273), vI s.1]) (rest := []) (el := [some (vR (some 273)), some (vI s.1)]) i_133_5 o_133 rfl v_131 rfl (s_273) rfl rfl rfl rfl rfl ?_
  refine c_131 (a := s.1) h (by omega) ?_
  show Ok _ 133 8 [some (vR (some 273)), some (vI c), none] [vI (bt len tp (s.1))] (M) _
  refine k_iload_n i_133_8 rfl ?_
  refine k_icmp_ne (t := 16) i_133_9 rfl (fun h9 => ?_) (fun h9 => ?_)
  · refine k_iconst i_133_16 (by decide) ?_
    refine k_istore_n (ls' := [some (vR (some 273)), some (vI c), some (vI 0)]) i_133_17 rfl ?_
    refine k_aload_n i_133_18 rfl ?_
    refine k_dupR i_133_19 ?_
    refine k_getI (kz := 15) i_133_20 o_133 rfl (by decide) (s_273) rfl ?_
    rw [r3]
    refine k_iload_n i_133_23 rfl ?_
    refine k_if_eq (t := 31) i_133_24 rfl (fun h24 => ?_) (fun h24 => absurd h24 (by decide))
    refine k_iconst i_133_31 (by decide) ?_
    refine k_iadd i_133_32 (by omega) ?_
    refine k_putI (kz := 15) i_133_33 o_133 rfl (by decide) (s_273) rfl ?_
    refine k_iload_n i_133_36 rfl ?_
    refine k_if_eq (t := 44) i_133_37 rfl (fun h37 => ?_) (fun h37 => absurd h37 (by decide))
    refine k_iconst i_133_44 (by decide) ?_
    refine k_iret i_133_45 rfl ?_
    have e : sgS (bt len tp) c s = (s.1, 1) := by
      unfold sgS
      rw [if_pos hs, if_neg (by omega)]
    have q := kk (mu M 273 15 (s.1 + 0)) (by rw [e, Int.add_zero]; exact h.at (by omega)) ((FQ.rf _).mu (by omega))
    rw [e] at q
    exact q
  · refine k_iconst i_133_12 (by decide) ?_
    refine k_goto (t := 17) i_133_13 rfl ?_
    refine k_istore_n (ls' := [some (vR (some 273)), some (vI c), some (vI 1)]) i_133_17 rfl ?_
    refine k_aload_n i_133_18 rfl ?_
    refine k_dupR i_133_19 ?_
    refine k_getI (kz := 15) i_133_20 o_133 rfl (by decide) (s_273) rfl ?_
    rw [r3]
    refine k_iload_n i_133_23 rfl ?_
    refine k_if_eq (t := 31) i_133_24 rfl (fun h24 => absurd h24 (by decide)) (fun h24 => ?_)
    refine k_iconst i_133_27 (by decide) ?_
    refine k_goto (t := 32) i_133_28 rfl ?_
    refine k_iadd i_133_32 (by omega) ?_
    refine k_putI (kz := 15) i_133_33 o_133 rfl (by decide) (s_273) rfl ?_
    refine k_iload_n i_133_36 rfl ?_
    refine k_if_eq (t := 44) i_133_37 rfl (fun h37 => absurd h37 (by decide)) (fun h37 => ?_)
    refine k_iconst i_133_40 (by decide) ?_
    refine k_goto (t := 45) i_133_41 rfl ?_
    refine k_iret i_133_45 rfl ?_
    have hb := bt_b (len := len) (tp := tp) (a := s.1) (by omega)
    have e : sgS (bt len tp) c s = (s.1 + 1, 0) := by
      unfold sgS
      rw [if_pos hs, if_pos (by omega)]
    have q := kk _ (by rw [e]; exact h.at (by omega)) ((FQ.rf _).mu (by omega))
    rw [e] at q
    exact q

set_option maxRecDepth 100000 in
theorem l_134 {d : Nat} {M0 : Mem} {Q : Option Vv → Mem → Prop} {len : Int} {tp : Int → Int} {m : Int} {s : Sp} {x3 : Option Vv} (hs : s.2 = 0) (hm : 0 ≤ m ∧ m ≤ 99) (ht : TpB len tp) (kk : ∀ M', RdM M' len tp (nuS (bt len tp) m s).1 → FQ M0 M' → ((nuS (bt len tp) m s).2 = 0 → M' 273 16 = nuV (bt len tp) m s) → Q (some (vI (nuS (bt len tp) m s).2)) M') : ∀ (f : Nat) (n : Nat) (M : Mem), (RdM M len tp s.1) → ((n = 0 ∧ M 273 16 = 0) ∨ (n = 1 ∧ M 273 16 = bt len tp s.1 - 48) ∨ (2 ≤ n ∧ M 273 16 = 10 * (bt len tp s.1 - 48) + (bt len tp (s.1 + 1) - 48))) → (1 ≤ n → fig (bt len tp s.1)) → (2 ≤ n → fig (bt len tp (s.1 + 1))) → (3 ≤ n → fig (bt len tp (s.1 + 2))) → (s.1 + n ≤ len) → (FQ M0 M) → (len - s.1 - n).toNat < f → Ok (d + 2) 134 7 [some (vR (some 273)), some (vI m), some (vI ((n : Int))), x3] [] M Q := by
  intro f
  induction f with
  | zero => intro n M h hv f0 f1 f2 hn hfr hf; exact absurd hf (Nat.not_lt_zero _)
  | succ f ih =>
    intro n M h hv f0 f1 f2 hn hfr hf
    obtain ⟨r1, r2, r3, a1, a2, r6⟩ := id h
    have b0 := bt_r ht (i := s.1) (by omega)
    have b1 := bt_r ht (i := s.1 + 1) (by omega)
    have bn := bt_r ht (i := s.1 + (n : Int)) (by omega)
    have c0 : n = 0 → bt len tp (s.1 + (n : Int)) = bt len tp s.1 := fun q => by rw [q]; congr 1; omega
    have c1 : n = 1 → bt len tp (s.1 + (n : Int)) = bt len tp (s.1 + 1) := fun q => by rw [q]; rfl
    have c2 : n = 2 → bt len tp (s.1 + (n : Int)) = bt len tp (s.1 + 2) := fun q => by rw [q]; rfl
    refine k_aload_n i_134_7 rfl ?_
    refine k_aload_n i_134_8 rfl ?_
    refine k_getI (kz := 15) i_134_9 o_134 rfl (by decide) (s_273) rfl ?_
    rw [r3]
    refine k_iload_n i_134_12 rfl ?_
    refine k_iadd i_134_13 (by omega) ?_
    refine k_invV (n := 1) (o' := 8) (av := [vR (some 273), vI (s.1 + ((n : Int)))]) (rest := []) (el := [some (vR (some 273)), some (vI (s.1 + ((n : Int))))]) i_134_14 o_134 rfl v_131 rfl (s_273) rfl rfl rfl rfl rfl ?_
    refine c_131 (a := s.1) h (by omega) ?_
    show Ok _ 134 17 [some (vR (some 273)), some (vI m), some (vI ((n : Int))), x3] [vI (bt len tp (s.1 + ((n : Int))))] (M) _
    refine k_invS (n := 1) (av := [vI (bt len tp (s.1 + ((n : Int))))]) (rest := []) (el := [some (vI (bt len tp (s.1 + ((n : Int)))))]) i_134_17 o_134 rfl v_132 rfl rfl rfl rfl rfl rfl ?_
    refine c_132 (fun v17 hv17 => ?_)
    show Ok _ 134 20 [some (vR (some 273)), some (vI m), some (vI ((n : Int))), x3] [vI v17] (M) _
    refine k_if_eq (t := 66) i_134_20 rfl (fun h20 => ?_) (fun h20 => ?_)
    · refine k_iload_n i_134_66 rfl ?_
      refine k_if_eq (t := 75) i_134_67 rfl (fun h67 => ?_) (fun h67 => ?_)
      · refine k_iconst i_134_75 (by decide) ?_
        refine k_goto (t := 92) i_134_76 rfl ?_
        refine k_istore_n (ls' := [some (vR (some 273)), some (vI m), some (vI ((n : Int))), some (vI 1)]) i_134_92 rfl ?_
        refine k_aload_n i_134_93 rfl ?_
        refine k_dupR i_134_94 ?_
        refine k_getI (kz := 15) i_134_95 o_134 rfl (by decide) (s_273) rfl ?_
        rw [r3]
        refine k_iload_n i_134_98 rfl ?_
        refine k_if_ne (t := 106) i_134_99 rfl (fun h99 => ?_) (fun h99 => absurd h99 (by decide))
        refine k_iconst i_134_106 (by decide) ?_
        refine k_iadd i_134_107 (by omega) ?_
        refine k_putI (kz := 15) i_134_108 o_134 rfl (by decide) (s_273) rfl ?_
        refine k_iload_n i_134_111 rfl ?_
        refine k_iret i_134_112 rfl ?_
        have eF : figN (bt len tp) s.1 = (if 3 ≤ n then 3 else (n : Int)) := by
          unfold figN
          rcases (show n = 0 ∨ n = 1 ∨ n = 2 ∨ 3 ≤ n by omega) with q | q | q | q
          · rw [if_neg (by omega), if_neg (by omega)]; omega
          · rw [if_pos (by omega), if_neg (by omega), if_neg (by omega)]; omega
          · rw [if_pos (by omega), if_pos (by omega), if_neg (by omega), if_neg (by omega)]; omega
          · rw [if_pos (by omega), if_pos (by omega), if_pos (by omega), if_pos q]
        have e : nuS (bt len tp) m s = (s.1, 1) := by
          unfold nuS
          rw [if_pos hs, if_pos (by rw [eF]; split <;> omega)]
        have q := kk (mu M 273 (15) (s.1 + 0)) (by rw [e, Int.add_zero]; exact h.at (by omega)) (hfr.mu (by omega)) (fun q => absurd (show (1 : Int) = 0 by rw [e] at q; exact q) (by decide))
        rw [e] at q
        exact q
      · refine k_iload_n i_134_70 rfl ?_
        refine k_iconst i_134_71 (by decide) ?_
        refine k_icmp_le (t := 79) i_134_72 rfl (fun h72 => ?_) (fun h72 => ?_)
        · refine k_aload_n i_134_79 rfl ?_
          refine k_getI (kz := 16) i_134_80 o_134 rfl (by decide) (s_273) rfl ?_
          refine k_iload_n i_134_83 rfl ?_
          refine k_icmp_le (t := 91) i_134_84 rfl (fun h84 => ?_) (fun h84 => ?_)
          · refine k_iconst i_134_91 (by decide) ?_
            refine k_istore_n (ls' := [some (vR (some 273)), some (vI m), some (vI ((n : Int))), some (vI 0)]) i_134_92 rfl ?_
            refine k_aload_n i_134_93 rfl ?_
            refine k_dupR i_134_94 ?_
            refine k_getI (kz := 15) i_134_95 o_134 rfl (by decide) (s_273) rfl ?_
            rw [r3]
            refine k_iload_n i_134_98 rfl ?_
            refine k_if_ne (t := 106) i_134_99 rfl (fun h99 => absurd h99 (by decide)) (fun h99 => ?_)
            refine k_iload_n i_134_102 rfl ?_
            refine k_goto (t := 107) i_134_103 rfl ?_
            refine k_iadd i_134_107 (by omega) ?_
            refine k_putI (kz := 15) i_134_108 o_134 rfl (by decide) (s_273) rfl ?_
            refine k_iload_n i_134_111 rfl ?_
            refine k_iret i_134_112 rfl ?_
            have eF : figN (bt len tp) s.1 = (if 3 ≤ n then 3 else (n : Int)) := by
              unfold figN
              rcases (show n = 0 ∨ n = 1 ∨ n = 2 ∨ 3 ≤ n by omega) with q | q | q | q
              · rw [if_neg (by omega), if_neg (by omega)]; omega
              · rw [if_pos (by omega), if_neg (by omega), if_neg (by omega)]; omega
              · rw [if_pos (by omega), if_pos (by omega), if_neg (by omega), if_neg (by omega)]; omega
              · rw [if_pos (by omega), if_pos (by omega), if_pos (by omega), if_pos q]
            rw [if_neg (by omega)] at eF
            have eV : valN (bt len tp) s.1 = M 273 16 := by
              unfold valN
              rcases (show n = 1 ∨ n = 2 by omega) with q | q
              · rw [if_neg (by omega)]; omega
              · rw [if_pos (by omega)]; omega
            have e : nuS (bt len tp) m s = (s.1 + (n : Int), 0) := by
              unfold nuS
              rw [if_pos hs, if_neg (by rw [eF]; omega), if_neg (by omega), eF]
            have q := kk (mu M 273 (15) (s.1 + ((n : Int)))) (by rw [e]; exact h.at (by omega)) (hfr.mu (by omega)) (fun _ => by
              unfold nuV
              rw [if_pos ⟨hs, by rw [e]⟩, eV, mu_j (by decide)])
            rw [e] at q
            exact q
          · refine k_iconst i_134_87 (by decide) ?_
            refine k_goto (t := 92) i_134_88 rfl ?_
            refine k_istore_n (ls' := [some (vR (some 273)), some (vI m), some (vI ((n : Int))), some (vI 2)]) i_134_92 rfl ?_
            refine k_aload_n i_134_93 rfl ?_
            refine k_dupR i_134_94 ?_
            refine k_getI (kz := 15) i_134_95 o_134 rfl (by decide) (s_273) rfl ?_
            rw [r3]
            refine k_iload_n i_134_98 rfl ?_
            refine k_if_ne (t := 106) i_134_99 rfl (fun h99 => ?_) (fun h99 => absurd h99 (by decide))
            refine k_iconst i_134_106 (by decide) ?_
            refine k_iadd i_134_107 (by omega) ?_
            refine k_putI (kz := 15) i_134_108 o_134 rfl (by decide) (s_273) rfl ?_
            refine k_iload_n i_134_111 rfl ?_
            refine k_iret i_134_112 rfl ?_
            have eF : figN (bt len tp) s.1 = (if 3 ≤ n then 3 else (n : Int)) := by
              unfold figN
              rcases (show n = 0 ∨ n = 1 ∨ n = 2 ∨ 3 ≤ n by omega) with q | q | q | q
              · rw [if_neg (by omega), if_neg (by omega)]; omega
              · rw [if_pos (by omega), if_neg (by omega), if_neg (by omega)]; omega
              · rw [if_pos (by omega), if_pos (by omega), if_neg (by omega), if_neg (by omega)]; omega
              · rw [if_pos (by omega), if_pos (by omega), if_pos (by omega), if_pos q]
            rw [if_neg (by omega)] at eF
            have eV : valN (bt len tp) s.1 = M 273 16 := by
              unfold valN
              rcases (show n = 1 ∨ n = 2 by omega) with q | q
              · rw [if_neg (by omega)]; omega
              · rw [if_pos (by omega)]; omega
            have e : nuS (bt len tp) m s = (s.1, 2) := by
              unfold nuS
              rw [if_pos hs, if_neg (by rw [eF]; omega), if_pos (by omega)]
            have q := kk (mu M 273 (15) (s.1 + 0)) (by rw [e, Int.add_zero]; exact h.at (by omega)) (hfr.mu (by omega)) (fun q => absurd (show (2 : Int) = 0 by rw [e] at q; exact q) (by decide))
            rw [e] at q
            exact q
        · refine k_iconst i_134_75 (by decide) ?_
          refine k_goto (t := 92) i_134_76 rfl ?_
          refine k_istore_n (ls' := [some (vR (some 273)), some (vI m), some (vI ((n : Int))), some (vI 1)]) i_134_92 rfl ?_
          refine k_aload_n i_134_93 rfl ?_
          refine k_dupR i_134_94 ?_
          refine k_getI (kz := 15) i_134_95 o_134 rfl (by decide) (s_273) rfl ?_
          rw [r3]
          refine k_iload_n i_134_98 rfl ?_
          refine k_if_ne (t := 106) i_134_99 rfl (fun h99 => ?_) (fun h99 => absurd h99 (by decide))
          refine k_iconst i_134_106 (by decide) ?_
          refine k_iadd i_134_107 (by omega) ?_
          refine k_putI (kz := 15) i_134_108 o_134 rfl (by decide) (s_273) rfl ?_
          refine k_iload_n i_134_111 rfl ?_
          refine k_iret i_134_112 rfl ?_
          have eF : figN (bt len tp) s.1 = (if 3 ≤ n then 3 else (n : Int)) := by
            unfold figN
            rcases (show n = 0 ∨ n = 1 ∨ n = 2 ∨ 3 ≤ n by omega) with q | q | q | q
            · rw [if_neg (by omega), if_neg (by omega)]; omega
            · rw [if_pos (by omega), if_neg (by omega), if_neg (by omega)]; omega
            · rw [if_pos (by omega), if_pos (by omega), if_neg (by omega), if_neg (by omega)]; omega
            · rw [if_pos (by omega), if_pos (by omega), if_pos (by omega), if_pos q]
          have e : nuS (bt len tp) m s = (s.1, 1) := by
            unfold nuS
            rw [if_pos hs, if_pos (by rw [eF]; split <;> omega)]
          have q := kk (mu M 273 (15) (s.1 + 0)) (by rw [e, Int.add_zero]; exact h.at (by omega)) (hfr.mu (by omega)) (fun q => absurd (show (1 : Int) = 0 by rw [e] at q; exact q) (by decide))
          rw [e] at q
          exact q
    · refine k_aload_n i_134_23 rfl ?_
      refine k_iload_n i_134_24 rfl ?_
      refine k_iconst i_134_25 (by decide) ?_
      refine k_icmp_ge (t := 53) i_134_26 rfl (fun h26 => ?_) (fun h26 => ?_)
      · refine k_aload_n i_134_53 rfl ?_
        refine k_getI (kz := 16) i_134_54 o_134 rfl (by decide) (s_273) rfl ?_
        refine k_putI (kz := 16) i_134_57 o_134 rfl (by decide) (s_273) rfl ?_
        refine k_iinc (ls' := [some (vR (some 273)), some (vI m), some (vI ((n : Int) + 1)), x3]) i_134_60 rfl (by omega) rfl ?_
        refine k_goto (t := 7) i_134_63 rfl ?_
        rw [show (n : Int) + 1 = ((n + 1 : Nat) : Int) by omega]
        have hb := bt_b (len := len) (tp := tp) (a := s.1 + (n : Int)) (by omega)
        refine ih (n + 1) (mu M 273 (16) (M 273 16)) (h.off (by omega) (by decide)) ?_ (by omega) (by omega) (by omega) (by omega) (hfr.mu (by omega)) (by omega)
        rw [mu_s]
        omega
      · refine k_bipush i_134_29 (by decide) ?_
        refine k_aload_n i_134_31 rfl ?_
        refine k_getI (kz := 16) i_134_32 o_134 rfl (by decide) (s_273) rfl ?_
        refine k_imul i_134_35 (by omega) ?_
        refine k_aload_n i_134_36 rfl ?_
        refine k_aload_n i_134_37 rfl ?_
        refine k_getI (kz := 15) i_134_38 o_134 rfl (by decide) (s_273) rfl ?_
        rw [r3]
        refine k_iload_n i_134_41 rfl ?_
        refine k_iadd i_134_42 (by omega) ?_
        refine k_invV (n := 1) (o' := 8) (av := [vR (some 273), vI (s.1 + ((n : Int)))]) (rest := [vI (10 * (M 273 16)), vR (some 273)]) (el := [some (vR (some 273)), some (vI (s.1 + ((n : Int))))]) i_134_43 o_134 rfl v_131 rfl (s_273) rfl rfl rfl rfl rfl ?_
        refine c_131 (a := s.1) h (by omega) ?_
        show Ok _ 134 46 [some (vR (some 273)), some (vI m), some (vI ((n : Int))), x3] [vI (bt len tp (s.1 + ((n : Int)))), vI (10 * (M 273 16)), vR (some 273)] (M) _
        refine k_iadd i_134_46 (by omega) ?_
        refine k_bipush i_134_47 (by decide) ?_
        refine k_isub i_134_49 (by omega) ?_
        refine k_goto (t := 57) i_134_50 rfl ?_
        refine k_putI (kz := 16) i_134_57 o_134 rfl (by decide) (s_273) rfl ?_
        refine k_iinc (ls' := [some (vR (some 273)), some (vI m), some (vI ((n : Int) + 1)), x3]) i_134_60 rfl (by omega) rfl ?_
        refine k_goto (t := 7) i_134_63 rfl ?_
        rw [show (n : Int) + 1 = ((n + 1 : Nat) : Int) by omega]
        have hb := bt_b (len := len) (tp := tp) (a := s.1 + (n : Int)) (by omega)
        refine ih (n + 1) (mu M 273 (16) (((10 * (M 273 16)) + (bt len tp (s.1 + ((n : Int))))) - 48)) (h.off (by omega) (by decide)) ?_ (by omega) (by omega) (by omega) (by omega) (hfr.mu (by omega)) (by omega)
        rw [mu_s]
        omega

set_option maxRecDepth 100000 in
/-- ElbowQueueModel.number -/
theorem c_134 {d : Nat} {M : Mem} {Q : Option Vv → Mem → Prop} {len : Int} {tp : Int → Int} {m : Int} {s : Sp} (hs : s.2 = 0) (hm : 0 ≤ m ∧ m ≤ 99) (ht : TpB len tp) (h : RdM M len tp s.1) (kk : ∀ M', RdM M' len tp (nuS (bt len tp) m s).1 → FQ M M' → ((nuS (bt len tp) m s).2 = 0 → M' 273 16 = nuV (bt len tp) m s) → Q (some (vI (nuS (bt len tp) m s).2)) M') : Ok (d + 2) 134 0 [some (vR (some 273)), some (vI m), none, none] [] M Q := by
  obtain ⟨r1, r2, r3, a1, a2, r6⟩ := id h
  refine k_iconst i_134_0 (by decide) ?_
  refine k_istore_n (ls' := [some (vR (some 273)), some (vI m), some (vI 0), none]) i_134_1 rfl ?_
  refine k_aload_n i_134_2 rfl ?_
  refine k_iconst i_134_3 (by decide) ?_
  refine k_putI (kz := 16) i_134_4 o_134 rfl (by decide) (s_273) rfl ?_
  refine l_134 (M0 := M) hs hm ht kk 1000 0 _ (h.off (by omega) (by decide)) (Or.inl ⟨rfl, mu_s _ _ _ _⟩) (by omega) (by omega) (by omega) (by omega) ((FQ.rf _).mu (by omega)) (by omega)
