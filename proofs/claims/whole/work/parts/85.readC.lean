set_option maxRecDepth 100000 in
/-- ElbowQueue$Reader.byteAt -/
theorem c_38 {d : Nat} {M : Mem} {Q : Option Vv → Mem → Prop} {len : Int} {tp : Int → Int} {s : Sp} {i : Int} (h : RdC M len tp s) (hi : 0 ≤ i) (k : Q (some (vI (bt len tp i))) M) : Ok d 38 0 [some (vR (some 13)), some (vI i)] [] M Q := by
  obtain ⟨r1, r2, r3, r4, r5, r6⟩ := id h
  obtain ⟨a1, a2, a3, a4⟩ := id r5
  refine k_iload_n i_38_0 rfl ?_
  refine k_if_lt (t := 21) i_38_1 rfl (fun h1 => ?_) (fun h1 => ?_)
  · refine k_iconst i_38_21 (by decide) ?_
    refine k_iret i_38_22 rfl ?_
    have e : bt len tp i = -1 := by
      unfold bt
      first
        | (rw [if_pos (by omega)]; exact (r2 i hi (by omega)).symm)
        | (rw [if_neg (by omega)])
        | (exfalso; omega)
    rw [e] at k
    exact k
  · refine k_iload_n i_38_4 rfl ?_
    refine k_aload_n i_38_5 rfl ?_
    refine k_getI (kz := 1) i_38_6 o_38 rfl (by decide) (s_13) rfl ?_
    refine k_icmp_ge (t := 21) i_38_9 rfl (fun h9 => ?_) (fun h9 => ?_)
    · refine k_iconst i_38_21 (by decide) ?_
      refine k_iret i_38_22 rfl ?_
      have e : bt len tp i = -1 := by
        unfold bt
        first
          | (rw [if_pos (by omega)]; exact (r2 i hi (by omega)).symm)
          | (rw [if_neg (by omega)])
          | (exfalso; omega)
      rw [e] at k
      exact k
    · refine k_aload_n i_38_12 rfl ?_
      refine k_getR (r := 14) i_38_13 o_38 rfl (by decide) (s_13) rfl ?_
      refine k_iload_n i_38_16 rfl ?_
      refine k_iald i_38_17 (s_14) (by omega) ?_
      refine k_goto (t := 22) i_38_18 rfl ?_
      refine k_iret i_38_22 rfl ?_
      have e : bt len tp i = M 14 i := by
        unfold bt
        first
          | (rw [if_pos (by omega)]; exact (r2 i hi (by omega)).symm)
          | (rw [if_neg (by omega)])
          | (exfalso; omega)
      rw [e] at k
      exact k

set_option maxRecDepth 100000 in
/-- ElbowQueue$Reader.isFigure -/
theorem c_42 {d : Nat} {M : Mem} {Q : Option Vv → Mem → Prop} {x : Int}  (k : ∀ v : Int, (v = 1 ∧ (48 ≤ x ∧ x ≤ 57)) ∨ (v = 0 ∧ ¬ (48 ≤ x ∧ x ≤ 57)) → Q (some (vI v)) M) : Ok d 42 0 [some (vI x)] [] M Q := by
  refine k_iload_n i_42_0 rfl ?_
  refine k_bipush i_42_1 (by decide) ?_
  refine k_icmp_lt (t := 16) i_42_3 rfl (fun h3 => ?_) (fun h3 => ?_)
  · refine k_iconst i_42_16 (by decide) ?_
    refine k_zret i_42_17 rfl (by omega) ?_
    exact k _ (by omega)
  · refine k_iload_n i_42_6 rfl ?_
    refine k_bipush i_42_7 (by decide) ?_
    refine k_icmp_gt (t := 16) i_42_9 rfl (fun h9 => ?_) (fun h9 => ?_)
    · refine k_iconst i_42_16 (by decide) ?_
      refine k_zret i_42_17 rfl (by omega) ?_
      exact k _ (by omega)
    · refine k_iconst i_42_12 (by decide) ?_
      refine k_goto (t := 17) i_42_13 rfl ?_
      refine k_zret i_42_17 rfl (by omega) ?_
      exact k _ (by omega)

set_option maxRecDepth 100000 in
/-- ElbowQueue$Reader.kindOf -/
theorem c_43 {d : Nat} {M : Mem} {Q : Option Vv → Mem → Prop} {x : Int}  (k : Q (some (vI (kdF x))) M) : Ok d 43 0 [some (vI x)] [] M Q := by
  refine k_iload_n i_43_0 rfl ?_
  rcases (show x = 98 ∨ x = 100 ∨ x = 102 ∨ x = 115 ∨ x = 119 ∨ (¬ 98 = x ∧ ¬ 100 = x ∧ ¬ 102 = x ∧ ¬ 115 = x ∧ ¬ 119 = x) by omega) with hx | hx | hx | hx | hx | ⟨hx0, hx1, hx2, hx3, hx4⟩
  · refine k_look (off := 51) (t := 52) i_43_1 (by decide) (by rw [hx]; rfl) rfl ?_
    refine k_iconst i_43_52 (by decide) ?_
    refine k_iret i_43_53 rfl ?_
    have e : kdF x = 1 := by
      unfold kdF
      repeat (first | rw [if_pos (by omega)] | rw [if_neg (by omega)])
    rw [e] at k
    exact k
  · refine k_look (off := 59) (t := 60) i_43_1 (by decide) (by rw [hx]; rfl) rfl ?_
    refine k_iconst i_43_60 (by decide) ?_
    refine k_iret i_43_61 rfl ?_
    have e : kdF x = 5 := by
      unfold kdF
      repeat (first | rw [if_pos (by omega)] | rw [if_neg (by omega)])
    rw [e] at k
    exact k
  · refine k_look (off := 57) (t := 58) i_43_1 (by decide) (by rw [hx]; rfl) rfl ?_
    refine k_iconst i_43_58 (by decide) ?_
    refine k_iret i_43_59 rfl ?_
    have e : kdF x = 4 := by
      unfold kdF
      repeat (first | rw [if_pos (by omega)] | rw [if_neg (by omega)])
    rw [e] at k
    exact k
  · refine k_look (off := 55) (t := 56) i_43_1 (by decide) (by rw [hx]; rfl) rfl ?_
    refine k_iconst i_43_56 (by decide) ?_
    refine k_iret i_43_57 rfl ?_
    have e : kdF x = 3 := by
      unfold kdF
      repeat (first | rw [if_pos (by omega)] | rw [if_neg (by omega)])
    rw [e] at k
    exact k
  · refine k_look (off := 53) (t := 54) i_43_1 (by decide) (by rw [hx]; rfl) rfl ?_
    refine k_iconst i_43_54 (by decide) ?_
    refine k_iret i_43_55 rfl ?_
    have e : kdF x = 2 := by
      unfold kdF
      repeat (first | rw [if_pos (by omega)] | rw [if_neg (by omega)])
    rw [e] at k
    exact k
  · refine k_look (off := 61) (t := 62) i_43_1 (by decide) (by refine (if_neg hx0).trans ?_; refine (if_neg hx1).trans ?_; refine (if_neg hx2).trans ?_; refine (if_neg hx3).trans ?_; refine (if_neg hx4).trans ?_; rfl) rfl ?_
    refine k_iconst i_43_62 (by decide) ?_
    refine k_iret i_43_63 rfl ?_
    have e : kdF x = 0 := by
      unfold kdF
      repeat (first | rw [if_pos (by omega)] | rw [if_neg (by omega)])
    rw [e] at k
    exact k

set_option maxRecDepth 100000 in
/-- ElbowQueue$Reader.sign -/
theorem c_39 {d : Nat} {M : Mem} {Q : Option Vv → Mem → Prop} {len : Int} {tp : Int → Int} {s : Sp} {c : Int} (h : RdC M len tp s) (hc : 0 ≤ c) (kk : ∀ M', RdC M' len tp (sgS (bt len tp) c s) → F13 M M' → Q none M') : Ok (d + 1) 39 0 [some (vR (some 13)), some (vI c)] [] M Q := by
  obtain ⟨r1, r2, r3, r4, r5, r6⟩ := id h
  obtain ⟨a1, a2, a3, a4⟩ := id r5
  refine k_aload_n i_39_0 rfl ?_
  refine k_getI (kz := 3) i_39_1 o_39 rfl (by decide) (s_13) rfl ?_
  refine k_if_eq (t := 8) i_39_4 rfl (fun h4 => ?_) (fun h4 => ?_)
  · refine k_aload_n i_39_8 rfl ?_
    refine k_aload_n i_39_9 rfl ?_
    refine k_getI (kz := 2) i_39_10 o_39 rfl (by decide) (s_13) rfl ?_
    rw [r3]
    refine k_invV (n := 1) (o' := 3) (av := [vR (some 13), vI s.1]) (rest := []) (el := [some (vR (some 13)), some (vI s.1)]) i_39_13 o_39 rfl v_38 rfl (s_13) rfl rfl rfl rfl rfl ?_
    refine c_38 (len := len) (tp := tp) h (by omega) ?_
    show Ok _ 39 16 [some (vR (some 13)), some (vI c)] [vI (bt len tp (s.1))] (M) _
    refine k_iload_n i_39_16 rfl ?_
    refine k_icmp_ne (t := 33) i_39_17 rfl (fun h17 => ?_) (fun h17 => ?_)
    · refine k_aload_n i_39_33 rfl ?_
      refine k_iconst i_39_34 (by decide) ?_
      refine k_putI (kz := 3) i_39_35 o_39 rfl (by decide) (s_13) rfl ?_
      refine k_vret i_39_38 rfl ?_
      have e : sgS (bt len tp) c s = (s.1, 1) := by
        unfold sgS
        rw [if_pos (by omega), if_neg (by omega)]
      refine kk _ ?_ ((F13.rf _).mu (by omega))
      rw [e]
      exact h.fa (by omega)
    · refine k_aload_n i_39_20 rfl ?_
      refine k_dupR i_39_21 ?_
      refine k_getI (kz := 2) i_39_22 o_39 rfl (by decide) (s_13) rfl ?_
      rw [r3]
      refine k_iconst i_39_25 (by decide) ?_
      refine k_iadd i_39_26 (by omega) ?_
      refine k_putI (kz := 2) i_39_27 o_39 rfl (by decide) (s_13) rfl ?_
      refine k_goto (t := 38) i_39_30 rfl ?_
      refine k_vret i_39_38 rfl ?_
      have hb := bt_b (len := len) (tp := tp) (a := s.1) (by omega)
      have e : sgS (bt len tp) c s = (s.1 + 1, s.2) := by
        unfold sgS
        rw [if_pos (by omega), if_pos (by omega), show s.2 = 0 by omega]
      refine kk _ ?_ ((F13.rf _).mu (by omega))
      rw [e]
      exact h.at (by omega)
  · refine k_vret i_39_7 rfl ?_
    refine kk _ ?_ (F13.rf _)
    rw [sg_f (by omega)]
    exact h

set_option maxRecDepth 100000 in
/-- ElbowQueue$Reader.number -/
theorem c_41 {d : Nat} {M : Mem} {Q : Option Vv → Mem → Prop} {len : Int} {tp : Int → Int} {s : Sp} {m : Int} (h : RdC M len tp s) (hm : 0 ≤ m ∧ m ≤ 99) (ht : TpB len tp) (kk : ∀ M', RdC M' len tp (nuS (bt len tp) m s) → F13 M M' → Q (some (vI (nuV (bt len tp) m s))) M') : Ok (d + 1) 41 0 [some (vR (some 13)), some (vI m), none, none] [] M Q := by
  obtain ⟨r1, r2, r3, r4, r5, r6⟩ := id h
  obtain ⟨a1, a2, a3, a4⟩ := id r5
  have b0 := bt_r ht (i := s.1) (by omega)
  have b1 := bt_r ht (i := s.1 + 1) (by omega)
  have b2 := bt_r ht (i := s.1 + 2) (by omega)
  refine k_aload_n i_41_0 rfl ?_
  refine k_getI (kz := 3) i_41_1 o_41 rfl (by decide) (s_13) rfl ?_
  refine k_if_eq (t := 9) i_41_4 rfl (fun h4 => ?_) (fun h4 => ?_)
  · refine k_iconst i_41_9 (by decide) ?_
    refine k_istore_n (ls' := [some (vR (some 13)), some (vI m), some (vI 0), none]) i_41_10 rfl ?_
    refine k_iconst i_41_11 (by decide) ?_
    refine k_istore_n (ls' := [some (vR (some 13)), some (vI m), some (vI 0), some (vI 0)]) i_41_12 rfl ?_
    refine k_iload_n i_41_13 rfl ?_
    refine k_iconst i_41_14 (by decide) ?_
    refine k_icmp_gt (t := 59) i_41_15 rfl (fun h15 => absurd h15 (by decide)) (fun h15 => ?_)
    refine k_aload_n i_41_18 rfl ?_
    refine k_aload_n i_41_19 rfl ?_
    refine k_getI (kz := 2) i_41_20 o_41 rfl (by decide) (s_13) rfl ?_
    rw [r3]
    refine k_iload_n i_41_23 rfl ?_
    refine k_iadd i_41_24 (by omega) ?_
    rw [Int.add_zero]
    refine k_invV (n := 1) (o' := 3) (av := [vR (some 13), vI s.1]) (rest := []) (el := [some (vR (some 13)), some (vI s.1)]) i_41_25 o_41 rfl v_38 rfl (s_13) rfl rfl rfl rfl rfl ?_
    refine c_38 (len := len) (tp := tp) h (by omega) ?_
    show Ok _ 41 28 [some (vR (some 13)), some (vI m), some (vI 0), some (vI 0)] [vI (bt len tp (s.1))] (M) _
    refine k_invS (n := 1) (av := [vI (bt len tp (s.1))]) (rest := []) (el := [some (vI (bt len tp (s.1)))]) i_41_28 o_41 rfl v_42 rfl rfl rfl rfl rfl rfl ?_
    refine c_42 (fun v28 hv28 => ?_)
    show Ok _ 41 31 [some (vR (some 13)), some (vI m), some (vI 0), some (vI 0)] [vI v28] (M) _
    refine k_if_eq (t := 59) i_41_31 rfl (fun h31 => ?_) (fun h31 => ?_)
    · refine k_iload_n i_41_59 rfl ?_
      refine k_if_eq (t := 68) i_41_60 rfl (fun h60 => ?_) (fun h60 => absurd h60 (by decide))
      refine k_aload_n i_41_68 rfl ?_
      refine k_iconst i_41_69 (by decide) ?_
      refine k_putI (kz := 3) i_41_70 o_41 rfl (by decide) (s_13) rfl ?_
      refine k_iconst i_41_73 (by decide) ?_
      refine k_iret i_41_74 rfl ?_
      have eF : figN (bt len tp) s.1 = 0 := by
        unfold figN
        repeat (first | rw [if_pos (by omega)] | rw [if_neg (by omega)])
      have eS : nuS (bt len tp) m s = (s.1, 1) := by
        unfold nuS
        rw [if_pos (by omega), eF]
        rw [if_pos (by decide)]
      have eV : nuV (bt len tp) m s = 0 := by
        unfold nuV
        rw [eS]
        exact if_neg (fun q => absurd q.2 (by show ¬ (1 : Int) = 0; decide))
      have q := kk _ (by rw [eS]; exact h.fa (by omega)) ((F13.rf _).mu (by omega))
      rw [eV] at q
      exact q
    · refine k_bipush i_41_34 (by decide) ?_
      refine k_iload_n i_41_36 rfl ?_
      refine k_imul i_41_37 (by omega) ?_
      refine k_aload_n i_41_38 rfl ?_
      refine k_aload_n i_41_39 rfl ?_
      refine k_getI (kz := 2) i_41_40 o_41 rfl (by decide) (s_13) rfl ?_
      rw [r3]
      refine k_iload_n i_41_43 rfl ?_
      refine k_iadd i_41_44 (by omega) ?_
      rw [Int.add_zero]
      refine k_invV (n := 1) (o' := 3) (av := [vR (some 13), vI s.1]) (rest := [vI (10 * 0)]) (el := [some (vR (some 13)), some (vI s.1)]) i_41_45 o_41 rfl v_38 rfl (s_13) rfl rfl rfl rfl rfl ?_
      refine c_38 (len := len) (tp := tp) h (by omega) ?_
      show Ok _ 41 48 [some (vR (some 13)), some (vI m), some (vI 0), some (vI 0)] [vI (bt len tp (s.1)), vI (10 * 0)] (M) _
      refine k_iadd i_41_48 (by omega) ?_
      refine k_bipush i_41_49 (by decide) ?_
      refine k_isub i_41_51 (by omega) ?_
      refine k_istore_n (ls' := [some (vR (some 13)), some (vI m), some (vI 0), some (vI (((10 * 0) + (bt len tp (s.1))) - 48))]) i_41_52 rfl ?_
      refine k_iinc (ls' := [some (vR (some 13)), some (vI m), some (vI 1), some (vI (((10 * 0) + (bt len tp (s.1))) - 48))]) i_41_53 rfl (by omega) rfl ?_
      refine k_goto (t := 13) i_41_56 rfl ?_
      refine k_iload_n i_41_13 rfl ?_
      refine k_iconst i_41_14 (by decide) ?_
      refine k_icmp_gt (t := 59) i_41_15 rfl (fun h15 => absurd h15 (by decide)) (fun h15 => ?_)
      refine k_aload_n i_41_18 rfl ?_
      refine k_aload_n i_41_19 rfl ?_
      refine k_getI (kz := 2) i_41_20 o_41 rfl (by decide) (s_13) rfl ?_
      rw [r3]
      refine k_iload_n i_41_23 rfl ?_
      refine k_iadd i_41_24 (by omega) ?_
      refine k_invV (n := 1) (o' := 3) (av := [vR (some 13), vI (s.1 + 1)]) (rest := []) (el := [some (vR (some 13)), some (vI (s.1 + 1))]) i_41_25 o_41 rfl v_38 rfl (s_13) rfl rfl rfl rfl rfl ?_
      refine c_38 (len := len) (tp := tp) h (by omega) ?_
      show Ok _ 41 28 [some (vR (some 13)), some (vI m), some (vI 1), some (vI (((10 * 0) + (bt len tp (s.1))) - 48))] [vI (bt len tp (s.1 + 1))] (M) _
      refine k_invS (n := 1) (av := [vI (bt len tp (s.1 + 1))]) (rest := []) (el := [some (vI (bt len tp (s.1 + 1)))]) i_41_28 o_41 rfl v_42 rfl rfl rfl rfl rfl rfl ?_
      refine c_42 (fun v28 hv28 => ?_)
      show Ok _ 41 31 [some (vR (some 13)), some (vI m), some (vI 1), some (vI (((10 * 0) + (bt len tp (s.1))) - 48))] [vI v28] (M) _
      refine k_if_eq (t := 59) i_41_31 rfl (fun h31 => ?_) (fun h31 => ?_)
      · refine k_iload_n i_41_59 rfl ?_
        refine k_if_eq (t := 68) i_41_60 rfl (fun h60 => absurd h60 (by decide)) (fun h60 => ?_)
        refine k_iload_n i_41_63 rfl ?_
        refine k_iconst i_41_64 (by decide) ?_
        refine k_icmp_le (t := 75) i_41_65 rfl (fun h65 => ?_) (fun h65 => absurd h65 (by decide))
        refine k_iload_n i_41_75 rfl ?_
        refine k_iload_n i_41_76 rfl ?_
        refine k_icmp_le (t := 87) i_41_77 rfl (fun h77 => ?_) (fun h77 => ?_)
        · refine k_aload_n i_41_87 rfl ?_
          refine k_dupR i_41_88 ?_
          refine k_getI (kz := 2) i_41_89 o_41 rfl (by decide) (s_13) rfl ?_
          rw [r3]
          refine k_iload_n i_41_92 rfl ?_
          refine k_iadd i_41_93 (by omega) ?_
          refine k_putI (kz := 2) i_41_94 o_41 rfl (by decide) (s_13) rfl ?_
          refine k_iload_n i_41_97 rfl ?_
          refine k_iret i_41_98 rfl ?_
          have eF : figN (bt len tp) s.1 = 1 := by
            unfold figN
            repeat (first | rw [if_pos (by omega)] | rw [if_neg (by omega)])
          have eW : valN (bt len tp) s.1 = ((10 * 0) + (bt len tp (s.1))) - 48 := by
            unfold valN
            first
              | (rw [if_pos (by omega)]; omega)
              | (rw [if_neg (by omega)]; omega)
          have eS : nuS (bt len tp) m s = (s.1 + 1, s.2) := by
            unfold nuS
            rw [if_pos (by omega), eF, if_neg (by decide), if_neg (by omega), show s.2 = 0 by omega]
          have hb := bt_b (len := len) (tp := tp) (a := s.1) (by omega)
          have eV : nuV (bt len tp) m s = ((10 * 0) + (bt len tp (s.1))) - 48 := by
            unfold nuV
            rw [eS]
            rw [if_pos ⟨by omega, by show s.2 = 0; omega⟩, eW]
          have q := kk _ (by rw [eS]; exact h.at (by omega)) ((F13.rf _).mu (by omega))
          rw [eV] at q
          exact q
        · refine k_aload_n i_41_80 rfl ?_
          refine k_iconst i_41_81 (by decide) ?_
          refine k_putI (kz := 3) i_41_82 o_41 rfl (by decide) (s_13) rfl ?_
          refine k_iconst i_41_85 (by decide) ?_
          refine k_iret i_41_86 rfl ?_
          have eF : figN (bt len tp) s.1 = 1 := by
            unfold figN
            repeat (first | rw [if_pos (by omega)] | rw [if_neg (by omega)])
          have eW : valN (bt len tp) s.1 = ((10 * 0) + (bt len tp (s.1))) - 48 := by
            unfold valN
            first
              | (rw [if_pos (by omega)]; omega)
              | (rw [if_neg (by omega)]; omega)
          have eS : nuS (bt len tp) m s = (s.1, 2) := by
            unfold nuS
            rw [if_pos (by omega), eF]
            rw [if_neg (by decide), if_pos (by omega)]
          have eV : nuV (bt len tp) m s = 0 := by
            unfold nuV
            rw [eS]
            exact if_neg (fun q => absurd q.2 (by show ¬ (2 : Int) = 0; decide))
          have q := kk _ (by rw [eS]; exact h.fa (by omega)) ((F13.rf _).mu (by omega))
          rw [eV] at q
          exact q
      · refine k_bipush i_41_34 (by decide) ?_
        refine k_iload_n i_41_36 rfl ?_
        refine k_imul i_41_37 (by omega) ?_
        refine k_aload_n i_41_38 rfl ?_
        refine k_aload_n i_41_39 rfl ?_
        refine k_getI (kz := 2) i_41_40 o_41 rfl (by decide) (s_13) rfl ?_
        rw [r3]
        refine k_iload_n i_41_43 rfl ?_
        refine k_iadd i_41_44 (by omega) ?_
        refine k_invV (n := 1) (o' := 3) (av := [vR (some 13), vI (s.1 + 1)]) (rest := [vI (10 * (((10 * 0) + (bt len tp (s.1))) - 48))]) (el := [some (vR (some 13)), some (vI (s.1 + 1))]) i_41_45 o_41 rfl v_38 rfl (s_13) rfl rfl rfl rfl rfl ?_
        refine c_38 (len := len) (tp := tp) h (by omega) ?_
        show Ok _ 41 48 [some (vR (some 13)), some (vI m), some (vI 1), some (vI (((10 * 0) + (bt len tp (s.1))) - 48))] [vI (bt len tp (s.1 + 1)), vI (10 * (((10 * 0) + (bt len tp (s.1))) - 48))] (M) _
        refine k_iadd i_41_48 (by omega) ?_
        refine k_bipush i_41_49 (by decide) ?_
        refine k_isub i_41_51 (by omega) ?_
        refine k_istore_n (ls' := [some (vR (some 13)), some (vI m), some (vI 1), some (vI (((10 * (((10 * 0) + (bt len tp (s.1))) - 48)) + (bt len tp (s.1 + 1))) - 48))]) i_41_52 rfl ?_
        refine k_iinc (ls' := [some (vR (some 13)), some (vI m), some (vI 2), some (vI (((10 * (((10 * 0) + (bt len tp (s.1))) - 48)) + (bt len tp (s.1 + 1))) - 48))]) i_41_53 rfl (by omega) rfl ?_
        refine k_goto (t := 13) i_41_56 rfl ?_
        refine k_iload_n i_41_13 rfl ?_
        refine k_iconst i_41_14 (by decide) ?_
        refine k_icmp_gt (t := 59) i_41_15 rfl (fun h15 => absurd h15 (by decide)) (fun h15 => ?_)
        refine k_aload_n i_41_18 rfl ?_
        refine k_aload_n i_41_19 rfl ?_
        refine k_getI (kz := 2) i_41_20 o_41 rfl (by decide) (s_13) rfl ?_
        rw [r3]
        refine k_iload_n i_41_23 rfl ?_
        refine k_iadd i_41_24 (by omega) ?_
        refine k_invV (n := 1) (o' := 3) (av := [vR (some 13), vI (s.1 + 2)]) (rest := []) (el := [some (vR (some 13)), some (vI (s.1 + 2))]) i_41_25 o_41 rfl v_38 rfl (s_13) rfl rfl rfl rfl rfl ?_
        refine c_38 (len := len) (tp := tp) h (by omega) ?_
        show Ok _ 41 28 [some (vR (some 13)), some (vI m), some (vI 2), some (vI (((10 * (((10 * 0) + (bt len tp (s.1))) - 48)) + (bt len tp (s.1 + 1))) - 48))] [vI (bt len tp (s.1 + 2))] (M) _
        refine k_invS (n := 1) (av := [vI (bt len tp (s.1 + 2))]) (rest := []) (el := [some (vI (bt len tp (s.1 + 2)))]) i_41_28 o_41 rfl v_42 rfl rfl rfl rfl rfl rfl ?_
        refine c_42 (fun v28 hv28 => ?_)
        show Ok _ 41 31 [some (vR (some 13)), some (vI m), some (vI 2), some (vI (((10 * (((10 * 0) + (bt len tp (s.1))) - 48)) + (bt len tp (s.1 + 1))) - 48))] [vI v28] (M) _
        refine k_if_eq (t := 59) i_41_31 rfl (fun h31 => ?_) (fun h31 => ?_)
        · refine k_iload_n i_41_59 rfl ?_
          refine k_if_eq (t := 68) i_41_60 rfl (fun h60 => absurd h60 (by decide)) (fun h60 => ?_)
          refine k_iload_n i_41_63 rfl ?_
          refine k_iconst i_41_64 (by decide) ?_
          refine k_icmp_le (t := 75) i_41_65 rfl (fun h65 => ?_) (fun h65 => absurd h65 (by decide))
          refine k_iload_n i_41_75 rfl ?_
          refine k_iload_n i_41_76 rfl ?_
          refine k_icmp_le (t := 87) i_41_77 rfl (fun h77 => ?_) (fun h77 => ?_)
          · refine k_aload_n i_41_87 rfl ?_
            refine k_dupR i_41_88 ?_
            refine k_getI (kz := 2) i_41_89 o_41 rfl (by decide) (s_13) rfl ?_
            rw [r3]
            refine k_iload_n i_41_92 rfl ?_
            refine k_iadd i_41_93 (by omega) ?_
            refine k_putI (kz := 2) i_41_94 o_41 rfl (by decide) (s_13) rfl ?_
            refine k_iload_n i_41_97 rfl ?_
            refine k_iret i_41_98 rfl ?_
            have eF : figN (bt len tp) s.1 = 2 := by
              unfold figN
              repeat (first | rw [if_pos (by omega)] | rw [if_neg (by omega)])
            have eW : valN (bt len tp) s.1 = ((10 * (((10 * 0) + (bt len tp (s.1))) - 48)) + (bt len tp (s.1 + 1))) - 48 := by
              unfold valN
              first
                | (rw [if_pos (by omega)]; omega)
                | (rw [if_neg (by omega)]; omega)
            have eS : nuS (bt len tp) m s = (s.1 + 2, s.2) := by
              unfold nuS
              rw [if_pos (by omega), eF, if_neg (by decide), if_neg (by omega), show s.2 = 0 by omega]
            have hb := bt_b (len := len) (tp := tp) (a := s.1 + 1) (by omega)
            have eV : nuV (bt len tp) m s = ((10 * (((10 * 0) + (bt len tp (s.1))) - 48)) + (bt len tp (s.1 + 1))) - 48 := by
              unfold nuV
              rw [eS]
              rw [if_pos ⟨by omega, by show s.2 = 0; omega⟩, eW]
            have q := kk _ (by rw [eS]; exact h.at (by omega)) ((F13.rf _).mu (by omega))
            rw [eV] at q
            exact q
          · refine k_aload_n i_41_80 rfl ?_
            refine k_iconst i_41_81 (by decide) ?_
            refine k_putI (kz := 3) i_41_82 o_41 rfl (by decide) (s_13) rfl ?_
            refine k_iconst i_41_85 (by decide) ?_
            refine k_iret i_41_86 rfl ?_
            have eF : figN (bt len tp) s.1 = 2 := by
              unfold figN
              repeat (first | rw [if_pos (by omega)] | rw [if_neg (by omega)])
            have eW : valN (bt len tp) s.1 = ((10 * (((10 * 0) + (bt len tp (s.1))) - 48)) + (bt len tp (s.1 + 1))) - 48 := by
              unfold valN
              first
                | (rw [if_pos (by omega)]; omega)
                | (rw [if_neg (by omega)]; omega)
            have eS : nuS (bt len tp) m s = (s.1, 2) := by
              unfold nuS
              rw [if_pos (by omega), eF]
              rw [if_neg (by decide), if_pos (by omega)]
            have eV : nuV (bt len tp) m s = 0 := by
              unfold nuV
              rw [eS]
              exact if_neg (fun q => absurd q.2 (by show ¬ (2 : Int) = 0; decide))
            have q := kk _ (by rw [eS]; exact h.fa (by omega)) ((F13.rf _).mu (by omega))
            rw [eV] at q
            exact q
        · refine k_bipush i_41_34 (by decide) ?_
          refine k_iload_n i_41_36 rfl ?_
          refine k_imul i_41_37 (by omega) ?_
          refine k_aload_n i_41_38 rfl ?_
          refine k_aload_n i_41_39 rfl ?_
          refine k_getI (kz := 2) i_41_40 o_41 rfl (by decide) (s_13) rfl ?_
          rw [r3]
          refine k_iload_n i_41_43 rfl ?_
          refine k_iadd i_41_44 (by omega) ?_
          refine k_invV (n := 1) (o' := 3) (av := [vR (some 13), vI (s.1 + 2)]) (rest := [vI (10 * (((10 * (((10 * 0) + (bt len tp (s.1))) - 48)) + (bt len tp (s.1 + 1))) - 48))]) (el := [some (vR (some 13)), some (vI (s.1 + 2))]) i_41_45 o_41 rfl v_38 rfl (s_13) rfl rfl rfl rfl rfl ?_
          refine c_38 (len := len) (tp := tp) h (by omega) ?_
          show Ok _ 41 48 [some (vR (some 13)), some (vI m), some (vI 2), some (vI (((10 * (((10 * 0) + (bt len tp (s.1))) - 48)) + (bt len tp (s.1 + 1))) - 48))] [vI (bt len tp (s.1 + 2)), vI (10 * (((10 * (((10 * 0) + (bt len tp (s.1))) - 48)) + (bt len tp (s.1 + 1))) - 48))] (M) _
          refine k_iadd i_41_48 (by omega) ?_
          refine k_bipush i_41_49 (by decide) ?_
          refine k_isub i_41_51 (by omega) ?_
          refine k_istore_n (ls' := [some (vR (some 13)), some (vI m), some (vI 2), some (vI (((10 * (((10 * (((10 * 0) + (bt len tp (s.1))) - 48)) + (bt len tp (s.1 + 1))) - 48)) + (bt len tp (s.1 + 2))) - 48))]) i_41_52 rfl ?_
          refine k_iinc (ls' := [some (vR (some 13)), some (vI m), some (vI 3), some (vI (((10 * (((10 * (((10 * 0) + (bt len tp (s.1))) - 48)) + (bt len tp (s.1 + 1))) - 48)) + (bt len tp (s.1 + 2))) - 48))]) i_41_53 rfl (by omega) rfl ?_
          refine k_goto (t := 13) i_41_56 rfl ?_
          refine k_iload_n i_41_13 rfl ?_
          refine k_iconst i_41_14 (by decide) ?_
          refine k_icmp_gt (t := 59) i_41_15 rfl (fun h15 => ?_) (fun h15 => absurd h15 (by decide))
          refine k_iload_n i_41_59 rfl ?_
          refine k_if_eq (t := 68) i_41_60 rfl (fun h60 => absurd h60 (by decide)) (fun h60 => ?_)
          refine k_iload_n i_41_63 rfl ?_
          refine k_iconst i_41_64 (by decide) ?_
          refine k_icmp_le (t := 75) i_41_65 rfl (fun h65 => absurd h65 (by decide)) (fun h65 => ?_)
          refine k_aload_n i_41_68 rfl ?_
          refine k_iconst i_41_69 (by decide) ?_
          refine k_putI (kz := 3) i_41_70 o_41 rfl (by decide) (s_13) rfl ?_
          refine k_iconst i_41_73 (by decide) ?_
          refine k_iret i_41_74 rfl ?_
          have eF : figN (bt len tp) s.1 = 3 := by
            unfold figN
            repeat (first | rw [if_pos (by omega)] | rw [if_neg (by omega)])
          have eS : nuS (bt len tp) m s = (s.1, 1) := by
            unfold nuS
            rw [if_pos (by omega), eF]
            rw [if_pos (by decide)]
          have eV : nuV (bt len tp) m s = 0 := by
            unfold nuV
            rw [eS]
            exact if_neg (fun q => absurd q.2 (by show ¬ (1 : Int) = 0; decide))
          have q := kk _ (by rw [eS]; exact h.fa (by omega)) ((F13.rf _).mu (by omega))
          rw [eV] at q
          exact q
  · refine k_iconst i_41_7 (by decide) ?_
    refine k_iret i_41_8 rfl ?_
    have eV : nuV (bt len tp) m s = 0 := if_neg (by omega)
    have q := kk M (by rw [nu_f (by omega)]; exact h) (F13.rf _)
    rw [eV] at q
    exact q

set_option maxRecDepth 100000 in
/-- ElbowQueue$Reader.sort -/
theorem c_40 {d : Nat} {M : Mem} {Q : Option Vv → Mem → Prop} {len : Int} {tp : Int → Int} {s : Sp} (h : RdC M len tp s) (hs : s.2 = 0) (kk : ∀ M', RdC M' len tp (srS (bt len tp) s.1) → F13 M M' → Q (some (vI (kdF (bt len tp s.1)))) M') : Ok (d + 1) 40 0 [some (vR (some 13)), none] [] M Q := by
  obtain ⟨r1, r2, r3, r4, r5, r6⟩ := id h
  obtain ⟨a1, a2, a3, a4⟩ := id r5
  refine k_aload_n i_40_0 rfl ?_
  refine k_aload_n i_40_1 rfl ?_
  refine k_getI (kz := 2) i_40_2 o_40 rfl (by decide) (s_13) rfl ?_
  rw [r3]
  refine k_invV (n := 1) (o' := 3) (av := [vR (some 13), vI s.1]) (rest := []) (el := [some (vR (some 13)), some (vI s.1)]) i_40_5 o_40 rfl v_38 rfl (s_13) rfl rfl rfl rfl rfl ?_
  refine c_38 (len := len) (tp := tp) h (by omega) ?_
  show Ok _ 40 8 [some (vR (some 13)), none] [vI (bt len tp (s.1))] (M) _
  refine k_invS (n := 1) (av := [vI (bt len tp (s.1))]) (rest := []) (el := [some (vI (bt len tp (s.1)))]) i_40_8 o_40 rfl v_43 rfl rfl rfl rfl rfl rfl ?_
  refine c_43 ?_
  show Ok _ 40 11 [some (vR (some 13)), none] [vI (kdF (bt len tp (s.1)))] (M) _
  refine k_istore_n (ls' := [some (vR (some 13)), some (vI (kdF (bt len tp (s.1))))]) i_40_11 rfl ?_
  refine k_iload_n i_40_12 rfl ?_
  refine k_if_ne (t := 24) i_40_13 rfl (fun h13 => ?_) (fun h13 => ?_)
  · refine k_aload_n i_40_24 rfl ?_
    refine k_dupR i_40_25 ?_
    refine k_getI (kz := 2) i_40_26 o_40 rfl (by decide) (s_13) rfl ?_
    rw [r3]
    refine k_iconst i_40_29 (by decide) ?_
    refine k_iadd i_40_30 (by omega) ?_
    refine k_putI (kz := 2) i_40_31 o_40 rfl (by decide) (s_13) rfl ?_
    refine k_iload_n i_40_34 rfl ?_
    refine k_iret i_40_35 rfl ?_
    have hk := kd_0 (c := bt len tp s.1) (by omega)
    have hb := bt_b (len := len) (tp := tp) (a := s.1) (by omega)
    have e : srS (bt len tp) s.1 = (s.1 + 1, s.2) := by rw [hs]; exact if_neg (by omega)
    have q := kk _ (by rw [e]; exact h.at (by omega)) ((F13.rf _).mu (by omega))
    exact q
  · refine k_aload_n i_40_16 rfl ?_
    refine k_iconst i_40_17 (by decide) ?_
    refine k_putI (kz := 3) i_40_18 o_40 rfl (by decide) (s_13) rfl ?_
    refine k_goto (t := 34) i_40_21 rfl ?_
    refine k_iload_n i_40_34 rfl ?_
    refine k_iret i_40_35 rfl ?_
    have e : srS (bt len tp) s.1 = (s.1, 1) := if_pos (by omega)
    have q := kk _ (by rw [e]; exact h.fa (by omega)) ((F13.rf _).mu (by omega))
    exact q
