theorem bm_shift (N : Nat) : ((N * 16777216 % 4294967296 : Nat) : Int).bmod 4294967296 / 16777216 = (((N : Int).bmod 4294967296)).bmod 256 := by
  unfold Int.bmod
  simp only
  omega
theorem bm_shift2 (N : Nat) : ((N * 65536 % 4294967296 : Nat) : Int).bmod 4294967296 / 65536 = (((N : Int).bmod 4294967296)).bmod 65536 := by
  unfold Int.bmod
  simp only
  omega
theorem i32_bm (x : Int32) : x.toInt = (x.toBitVec.toNat : Int).bmod 4294967296 := BitVec.toInt_eq_toNat_bmod x.toBitVec
theorem shl8 (v : Int) : (Int32.ofInt (Int32.ofInt v <<< (Int32.ofInt 24 &&& 31)).toInt >>> (Int32.ofInt 24 &&& 31)).toInt = (Int32.ofInt v).toInt8.toInt32.toInt := by
  rw [Int32.ofInt_toInt, pk_shr _ _ 24 (by decide), i32_bm, pk_shl _ _ 24 (by decide), Int8.toInt_toInt32, Int32.toInt_toInt8, i32_bm (Int32.ofInt v), Int.shiftRight_eq_div_pow]
  exact bm_shift _
theorem shl16 (v : Int) : (Int32.ofInt (Int32.ofInt v <<< (Int32.ofInt 16 &&& 31)).toInt >>> (Int32.ofInt 16 &&& 31)).toInt = (Int32.ofInt v).toInt16.toInt32.toInt := by
  rw [Int32.ofInt_toInt, pk_shr _ _ 16 (by decide), i32_bm, pk_shl _ _ 16 (by decide), Int16.toInt_toInt32, Int32.toInt_toInt16, i32_bm (Int32.ofInt v), Int.shiftRight_eq_div_pow]
  exact bm_shift2 _

/-- ElbowQueue.found -/
theorem c_119 {d : Nat} {M : Mem} {Q : Option Vv → Mem → Prop} {x : Int} (hx : 0 ≤ x ∧ x ≤ 9) (k : Q (some (vI (-1000010 - x))) (mu M 0 13 x)) : Ok d 119 0 [some (vR (some 0)), some (vI x)] [] M Q := by
  refine k_aload_n i_119_0 rfl ?_
  refine k_iload_n i_119_1 rfl ?_
  refine k_putI (kz := 13) i_119_2 o_119 rfl (by decide) (s_0) rfl ?_
  refine k_ldc_w (z := -1000010) i_119_5 o_119 rfl (by decide) ?_
  refine k_iload_n i_119_8 rfl ?_
  refine k_isub i_119_9 (by omega) ?_
  refine k_iret i_119_10 rfl ?_
  exact k

/-- ElbowQueue.fine -/
theorem c_120 {d : Nat} {M : Mem} {Q : Option Vv → Mem → Prop} {x : Int}  (k : Q (some (vI x)) (mu M 0 13 0)) : Ok d 120 0 [some (vR (some 0)), some (vI x)] [] M Q := by
  refine k_aload_n i_120_0 rfl ?_
  refine k_iconst i_120_1 (by decide) ?_
  refine k_putI (kz := 13) i_120_2 o_120 rfl (by decide) (s_0) rfl ?_
  refine k_iload_n i_120_5 rfl ?_
  refine k_iret i_120_6 rfl ?_
  exact k

/-- ElbowQueue.isPerson -/
theorem c_118 {d : Nat} {M : Mem} {Q : Option Vv → Mem → Prop} {x : Int}  (k : ∀ v : Int, (v = 1 ∧ (0 ≤ x ∧ x < M 20 7)) ∨ (v = 0 ∧ ¬ (0 ≤ x ∧ x < M 20 7)) → Q (some (vI v)) M) : Ok d 118 0 [some (vR (some 0)), some (vI x)] [] M Q := by
  refine k_iload_n i_118_0 rfl ?_
  refine k_if_lt (t := 19) i_118_1 rfl (fun h1 => ?_) (fun h1 => ?_)
  · refine k_iconst i_118_19 (by decide) ?_
    refine k_zret i_118_20 rfl (by omega) ?_
    exact k _ (by omega)
  · refine k_iload_n i_118_4 rfl ?_
    refine k_aload_n i_118_5 rfl ?_
    refine k_getR (r := 20) i_118_6 o_118 rfl (by decide) (s_0) rfl ?_
    refine k_getI (kz := 7) i_118_9 o_118 rfl (by decide) (s_20) rfl ?_
    refine k_icmp_ge (t := 19) i_118_12 rfl (fun h12 => ?_) (fun h12 => ?_)
    · refine k_iconst i_118_19 (by decide) ?_
      refine k_zret i_118_20 rfl (by omega) ?_
      exact k _ (by omega)
    · refine k_iconst i_118_15 (by decide) ?_
      refine k_goto (t := 20) i_118_16 rfl ?_
      refine k_zret i_118_20 rfl (by omega) ?_
      exact k _ (by omega)

/-- ElbowQueue.row -/
theorem c_85 {d : Nat} {M : Mem} {Q : Option Vv → Mem → Prop} {r lane n : Int}  (k1 : ¬ (0 ≤ r ∧ r < 8 ∧ 0 ≤ lane ∧ lane ≤ 2 ∧ n ≤ 40) → Q (some (vI (-1000001))) M) (k2 : 0 ≤ r ∧ r < 8 ∧ 0 ≤ lane ∧ lane ≤ 2 ∧ n < 0 → Q (some (vI (-1000010 - 4))) (mu M 0 13 4)) (k3 : 0 ≤ r ∧ r < 8 ∧ 0 ≤ lane ∧ lane ≤ 2 ∧ 0 ≤ n ∧ n ≤ 40 → Q (some (vI n)) (mu (mfill (mu (mu M 11 r lane) 12 r n) (3 + r.toNat) 0 n 0) 0 13 0)) : Ok (d + 1) 85 0 [some (vR (some 0)), some (vI r), some (vI lane), some (vI n)] [] M Q := by
  refine k_iload_n i_85_0 rfl ?_
  refine k_invS (n := 1) (av := [vI r]) (rest := []) (el := [some (vI r)]) i_85_1 o_85 rfl v_45 rfl rfl rfl rfl rfl rfl ?_
  refine c_45 (fun v1 hv1 => ?_)
  show Ok _ 85 4 [some (vR (some 0)), some (vI r), some (vI lane), some (vI n)] [vI v1] (M) _
  refine k_if_eq (t := 20) i_85_4 rfl (fun h4 => ?_) (fun h4 => ?_)
  · refine k_ldc (z := -1000001) i_85_20 o_85 rfl (by decide) ?_
    refine k_iret i_85_22 rfl ?_
    exact k1 (by omega)
  · refine k_iload_n i_85_7 rfl ?_
    refine k_invS (n := 1) (av := [vI lane]) (rest := []) (el := [some (vI lane)]) i_85_8 o_85 rfl v_46 rfl rfl rfl rfl rfl rfl ?_
    refine c_46 (fun v8 hv8 => ?_)
    show Ok _ 85 11 [some (vR (some 0)), some (vI r), some (vI lane), some (vI n)] [vI v8] (M) _
    refine k_if_eq (t := 20) i_85_11 rfl (fun h11 => ?_) (fun h11 => ?_)
    · refine k_ldc (z := -1000001) i_85_20 o_85 rfl (by decide) ?_
      refine k_iret i_85_22 rfl ?_
      exact k1 (by omega)
    · refine k_iload_n i_85_14 rfl ?_
      refine k_bipush i_85_15 (by decide) ?_
      refine k_icmp_le (t := 23) i_85_17 rfl (fun h17 => ?_) (fun h17 => ?_)
      · refine k_iload_n i_85_23 rfl ?_
        refine k_if_ge (t := 33) i_85_24 rfl (fun h24 => ?_) (fun h24 => ?_)
        · refine k_aload_n i_85_33 rfl ?_
          refine k_getR (r := 1) i_85_34 o_85 rfl (by decide) (s_0) rfl ?_
          refine k_iload_n i_85_37 rfl ?_
          refine k_iload_n i_85_38 rfl ?_
          refine k_iload_n i_85_39 rfl ?_
          refine k_invV (n := 3) (o' := 4) (av := [vR (some 1), vI r, vI lane, vI n]) (rest := []) (el := [some (vR (some 1)), some (vI r), some (vI lane), some (vI n), none]) i_85_40 o_85 rfl v_51 rfl (s_1) rfl rfl rfl rfl rfl ?_
          refine c_51 (by omega) (by omega) ?_
          show Ok _ 85 43 [some (vR (some 0)), some (vI r), some (vI lane), some (vI n)] [] (mfill (mu (mu M 11 r lane) 12 r n) (3 + (r).toNat) 0 n 0) _
          refine k_aload_n i_85_43 rfl ?_
          refine k_iload_n i_85_44 rfl ?_
          refine k_invV (n := 1) (o' := 7) (av := [vR (some 0), vI n]) (rest := []) (el := [some (vR (some 0)), some (vI n)]) i_85_45 o_85 rfl v_120 rfl (s_0) rfl rfl rfl rfl rfl ?_
          refine c_120 ?_
          show Ok _ 85 48 [some (vR (some 0)), some (vI r), some (vI lane), some (vI n)] [vI n] (mu (mfill (mu (mu M 11 r lane) 12 r n) (3 + (r).toNat) 0 n 0) 0 13 0) _
          refine k_iret i_85_48 rfl ?_
          exact k3 (by omega)
        · refine k_aload_n i_85_27 rfl ?_
          refine k_iconst i_85_28 (by decide) ?_
          refine k_invV (n := 1) (o' := 7) (av := [vR (some 0), vI 4]) (rest := []) (el := [some (vR (some 0)), some (vI 4)]) i_85_29 o_85 rfl v_119 rfl (s_0) rfl rfl rfl rfl rfl ?_
          refine c_119 (by omega) ?_
          show Ok _ 85 32 [some (vR (some 0)), some (vI r), some (vI lane), some (vI n)] [vI (-1000010 - 4)] (mu M 0 13 4) _
          refine k_iret i_85_32 rfl ?_
          exact k2 (by omega)
      · refine k_ldc (z := -1000001) i_85_20 o_85 rfl (by decide) ?_
        refine k_iret i_85_22 rfl ?_
        exact k1 (by omega)

/-- ElbowQueue.set -/
theorem c_86 {d : Nat} {M : Mem} {Q : Option Vv → Mem → Prop} {r i v : Int} (hs : ∀ r : Int, 0 ≤ r → r < 8 → -1 ≤ M 12 r ∧ M 12 r ≤ 40) (k1 : ¬ (0 ≤ r ∧ r < 8) → Q (some (vI (-1000001))) M) (k2 : 0 ≤ r ∧ r < 8 → ¬ (¬ M 12 r = -1) → Q (some (vI (-1000010 - 1))) (mu M 0 13 1)) (k3 : 0 ≤ r ∧ r < 8 → (¬ M 12 r = -1) → ¬ (0 ≤ i ∧ i < M 12 r) → Q (some (vI (-1000010 - 2))) (mu M 0 13 2)) (k4 : 0 ≤ r ∧ r < 8 → (¬ M 12 r = -1) → (0 ≤ i ∧ i < M 12 r) → Q (some (vI (cutF (M 11 r) v))) (mu (mu M (3 + r.toNat) i (cutF (M 11 r) v)) 0 13 0)) : Ok (d + 1) 86 0 [some (vR (some 0)), some (vI r), some (vI i), some (vI v)] [] M Q := by
  refine k_iload_n i_86_0 rfl ?_
  refine k_invS (n := 1) (av := [vI r]) (rest := []) (el := [some (vI r)]) i_86_1 o_86 rfl v_45 rfl rfl rfl rfl rfl rfl ?_
  refine c_45 (fun v1 hv1 => ?_)
  show Ok _ 86 4 [some (vR (some 0)), some (vI r), some (vI i), some (vI v)] [vI v1] (M) _
  refine k_if_ne (t := 10) i_86_4 rfl (fun h4 => ?_) (fun h4 => ?_)
  · have hs9 := hs r (by omega) (by omega)
    refine k_aload_n i_86_10 rfl ?_
    refine k_getR (r := 1) i_86_11 o_86 rfl (by decide) (s_0) rfl ?_
    refine k_iload_n i_86_14 rfl ?_
    refine k_invV (n := 1) (o' := 4) (av := [vR (some 1), vI r]) (rest := []) (el := [some (vR (some 1)), some (vI r)]) i_86_15 o_86 rfl v_47 rfl (s_1) rfl rfl rfl rfl rfl ?_
    refine c_47 (by omega) (fun v15 hv15 => ?_)
    show Ok _ 86 18 [some (vR (some 0)), some (vI r), some (vI i), some (vI v)] [vI v15] (M) _
    refine k_if_eq (t := 27) i_86_18 rfl (fun h18 => ?_) (fun h18 => ?_)
    · refine k_aload_n i_86_27 rfl ?_
      refine k_getR (r := 1) i_86_28 o_86 rfl (by decide) (s_0) rfl ?_
      refine k_iload_n i_86_31 rfl ?_
      refine k_iload_n i_86_32 rfl ?_
      refine k_iconst i_86_33 (by decide) ?_
      refine k_invV (n := 3) (o' := 4) (av := [vR (some 1), vI r, vI i, vI 1]) (rest := []) (el := [some (vR (some 1)), some (vI r), some (vI i), some (vI 1)]) i_86_34 o_86 rfl v_50 rfl (s_1) rfl rfl rfl rfl rfl ?_
      refine c_50 (by omega) (by omega) (fun v34 hv34 => ?_)
      show Ok _ 86 37 [some (vR (some 0)), some (vI r), some (vI i), some (vI v)] [vI v34] (M) _
      refine k_if_ne (t := 46) i_86_37 rfl (fun h37 => ?_) (fun h37 => ?_)
      · refine k_aload_n i_86_46 rfl ?_
        refine k_aload_n i_86_47 rfl ?_
        refine k_getR (r := 1) i_86_48 o_86 rfl (by decide) (s_0) rfl ?_
        refine k_iload_n i_86_51 rfl ?_
        refine k_iload_n i_86_52 rfl ?_
        refine k_iload_n i_86_53 rfl ?_
        refine k_invV (n := 3) (o' := 4) (av := [vR (some 1), vI r, vI i, vI v]) (rest := [vR (some 0)]) (el := [some (vR (some 1)), some (vI r), some (vI i), some (vI v), none]) i_86_54 o_86 rfl v_52 rfl (s_1) rfl rfl rfl rfl rfl ?_
        refine c_52 (by omega) (by omega) ?_
        show Ok _ 86 57 [some (vR (some 0)), some (vI r), some (vI i), some (vI v)] [vI (cutF (M 11 r) v), vR (some 0)] (mu M (3 + (r).toNat) i (cutF (M 11 r) v)) _
        refine k_invV (n := 1) (o' := 7) (av := [vR (some 0), vI (cutF (M 11 r) v)]) (rest := []) (el := [some (vR (some 0)), some (vI (cutF (M 11 r) v))]) i_86_57 o_86 rfl v_120 rfl (s_0) rfl rfl rfl rfl rfl ?_
        refine c_120 ?_
        show Ok _ 86 60 [some (vR (some 0)), some (vI r), some (vI i), some (vI v)] [vI (cutF (M 11 r) v)] (mu (mu M (3 + (r).toNat) i (cutF (M 11 r) v)) 0 13 0) _
        refine k_iret i_86_60 rfl ?_
        exact k4 (by omega) (by omega) (by omega)
      · refine k_aload_n i_86_40 rfl ?_
        refine k_iconst i_86_41 (by decide) ?_
        refine k_invV (n := 1) (o' := 7) (av := [vR (some 0), vI 2]) (rest := []) (el := [some (vR (some 0)), some (vI 2)]) i_86_42 o_86 rfl v_119 rfl (s_0) rfl rfl rfl rfl rfl ?_
        refine c_119 (by omega) ?_
        show Ok _ 86 45 [some (vR (some 0)), some (vI r), some (vI i), some (vI v)] [vI (-1000010 - 2)] (mu M 0 13 2) _
        refine k_iret i_86_45 rfl ?_
        exact k3 (by omega) (by omega) (by omega)
    · refine k_aload_n i_86_21 rfl ?_
      refine k_iconst i_86_22 (by decide) ?_
      refine k_invV (n := 1) (o' := 7) (av := [vR (some 0), vI 1]) (rest := []) (el := [some (vR (some 0)), some (vI 1)]) i_86_23 o_86 rfl v_119 rfl (s_0) rfl rfl rfl rfl rfl ?_
      refine c_119 (by omega) ?_
      show Ok _ 86 26 [some (vR (some 0)), some (vI r), some (vI i), some (vI v)] [vI (-1000010 - 1)] (mu M 0 13 1) _
      refine k_iret i_86_26 rfl ?_
      exact k2 (by omega) (by omega)
  · refine k_ldc (z := -1000001) i_86_7 o_86 rfl (by decide) ?_
    refine k_iret i_86_9 rfl ?_
    exact k1 (by omega)

/-- ElbowQueue.copy -/
theorem c_87 {d : Nat} {M : Mem} {Q : Option Vv → Mem → Prop} {a i b j n : Int} (hs : ∀ r : Int, 0 ≤ r → r < 8 → -1 ≤ M 12 r ∧ M 12 r ≤ 40) (k1 : ¬ (0 ≤ a ∧ a < 8 ∧ 0 ≤ b ∧ b < 8) → Q (some (vI (-1000001))) M) (k2 : (0 ≤ a ∧ a < 8 ∧ 0 ≤ b ∧ b < 8) → ¬ (¬ M 12 a = -1 ∧ ¬ M 12 b = -1) → Q (some (vI (-1000010 - 1))) (mu M 0 13 1)) (k3 : (0 ≤ a ∧ a < 8 ∧ 0 ≤ b ∧ b < 8) → (¬ M 12 a = -1 ∧ ¬ M 12 b = -1) → ¬ M 11 a = M 11 b → Q (some (vI (-1000010 - 5))) (mu M 0 13 5)) (k4 : (0 ≤ a ∧ a < 8 ∧ 0 ≤ b ∧ b < 8) → (¬ M 12 a = -1 ∧ ¬ M 12 b = -1) → M 11 a = M 11 b → ¬ (0 ≤ i ∧ 0 ≤ j ∧ 0 ≤ n ∧ i + n ≤ M 12 a ∧ j + n ≤ M 12 b) → Q (some (vI (-1000010 - 2))) (mu M 0 13 2)) (k5 : (0 ≤ a ∧ a < 8 ∧ 0 ≤ b ∧ b < 8) → (¬ M 12 a = -1 ∧ ¬ M 12 b = -1) → M 11 a = M 11 b → (0 ≤ i ∧ 0 ≤ j ∧ 0 ≤ n ∧ i + n ≤ M 12 a ∧ j + n ≤ M 12 b) → Q (some (vI n)) (mu (mcp M (3 + a.toNat) i (3 + b.toNat) j n) 0 13 0)) : Ok (d + 1) 87 0 [some (vR (some 0)), some (vI a), some (vI i), some (vI b), some (vI j), some (vI n)] [] M Q := by
  refine k_iload_n i_87_0 rfl ?_
  refine k_invS (n := 1) (av := [vI a]) (rest := []) (el := [some (vI a)]) i_87_1 o_87 rfl v_45 rfl rfl rfl rfl rfl rfl ?_
  refine c_45 (fun v1 hv1 => ?_)
  show Ok _ 87 4 [some (vR (some 0)), some (vI a), some (vI i), some (vI b), some (vI j), some (vI n)] [vI v1] (M) _
  refine k_if_eq (t := 14) i_87_4 rfl (fun h4 => ?_) (fun h4 => ?_)
  · refine k_ldc (z := -1000001) i_87_14 o_87 rfl (by decide) ?_
    refine k_iret i_87_16 rfl ?_
    exact k1 (by omega)
  · refine k_iload_n i_87_7 rfl ?_
    refine k_invS (n := 1) (av := [vI b]) (rest := []) (el := [some (vI b)]) i_87_8 o_87 rfl v_45 rfl rfl rfl rfl rfl rfl ?_
    refine c_45 (fun v8 hv8 => ?_)
    show Ok _ 87 11 [some (vR (some 0)), some (vI a), some (vI i), some (vI b), some (vI j), some (vI n)] [vI v8] (M) _
    refine k_if_ne (t := 17) i_87_11 rfl (fun h11 => ?_) (fun h11 => ?_)
    · have hs8 := hs a (by omega) (by omega)
      have hs9 := hs b (by omega) (by omega)
      refine k_aload_n i_87_17 rfl ?_
      refine k_getR (r := 1) i_87_18 o_87 rfl (by decide) (s_0) rfl ?_
      refine k_iload_n i_87_21 rfl ?_
      refine k_invV (n := 1) (o' := 4) (av := [vR (some 1), vI a]) (rest := []) (el := [some (vR (some 1)), some (vI a)]) i_87_22 o_87 rfl v_47 rfl (s_1) rfl rfl rfl rfl rfl ?_
      refine c_47 (by omega) (fun v22 hv22 => ?_)
      show Ok _ 87 25 [some (vR (some 0)), some (vI a), some (vI i), some (vI b), some (vI j), some (vI n)] [vI v22] (M) _
      refine k_if_ne (t := 39) i_87_25 rfl (fun h25 => ?_) (fun h25 => ?_)
      · refine k_aload_n i_87_39 rfl ?_
        refine k_iconst i_87_40 (by decide) ?_
        refine k_invV (n := 1) (o' := 7) (av := [vR (some 0), vI 1]) (rest := []) (el := [some (vR (some 0)), some (vI 1)]) i_87_41 o_87 rfl v_119 rfl (s_0) rfl rfl rfl rfl rfl ?_
        refine c_119 (by omega) ?_
        show Ok _ 87 44 [some (vR (some 0)), some (vI a), some (vI i), some (vI b), some (vI j), some (vI n)] [vI (-1000010 - 1)] (mu M 0 13 1) _
        refine k_iret i_87_44 rfl ?_
        exact k2 (by omega) (by omega)
      · refine k_aload_n i_87_28 rfl ?_
        refine k_getR (r := 1) i_87_29 o_87 rfl (by decide) (s_0) rfl ?_
        refine k_iload_n i_87_32 rfl ?_
        refine k_invV (n := 1) (o' := 4) (av := [vR (some 1), vI b]) (rest := []) (el := [some (vR (some 1)), some (vI b)]) i_87_33 o_87 rfl v_47 rfl (s_1) rfl rfl rfl rfl rfl ?_
        refine c_47 (by omega) (fun v33 hv33 => ?_)
        show Ok _ 87 36 [some (vR (some 0)), some (vI a), some (vI i), some (vI b), some (vI j), some (vI n)] [vI v33] (M) _
        refine k_if_eq (t := 45) i_87_36 rfl (fun h36 => ?_) (fun h36 => ?_)
        · refine k_aload_n i_87_45 rfl ?_
          refine k_getR (r := 1) i_87_46 o_87 rfl (by decide) (s_0) rfl ?_
          refine k_iload_n i_87_49 rfl ?_
          refine k_invV (n := 1) (o' := 4) (av := [vR (some 1), vI a]) (rest := []) (el := [some (vR (some 1)), some (vI a)]) i_87_50 o_87 rfl v_48 rfl (s_1) rfl rfl rfl rfl rfl ?_
          refine c_48 (by omega) ?_
          show Ok _ 87 53 [some (vR (some 0)), some (vI a), some (vI i), some (vI b), some (vI j), some (vI n)] [vI (M 11 (a))] (M) _
          refine k_aload_n i_87_53 rfl ?_
          refine k_getR (r := 1) i_87_54 o_87 rfl (by decide) (s_0) rfl ?_
          refine k_iload_n i_87_57 rfl ?_
          refine k_invV (n := 1) (o' := 4) (av := [vR (some 1), vI b]) (rest := [vI (M 11 (a))]) (el := [some (vR (some 1)), some (vI b)]) i_87_58 o_87 rfl v_48 rfl (s_1) rfl rfl rfl rfl rfl ?_
          refine c_48 (by omega) ?_
          show Ok _ 87 61 [some (vR (some 0)), some (vI a), some (vI i), some (vI b), some (vI j), some (vI n)] [vI (M 11 (b)), vI (M 11 (a))] (M) _
          refine k_icmp_eq (t := 70) i_87_61 rfl (fun h61 => ?_) (fun h61 => ?_)
          · refine k_aload_n i_87_70 rfl ?_
            refine k_getR (r := 1) i_87_71 o_87 rfl (by decide) (s_0) rfl ?_
            refine k_iload_n i_87_74 rfl ?_
            refine k_iload_n i_87_75 rfl ?_
            refine k_iload i_87_76 rfl ?_
            refine k_invV (n := 3) (o' := 4) (av := [vR (some 1), vI a, vI i, vI n]) (rest := []) (el := [some (vR (some 1)), some (vI a), some (vI i), some (vI n)]) i_87_78 o_87 rfl v_50 rfl (s_1) rfl rfl rfl rfl rfl ?_
            refine c_50 (by omega) (by omega) (fun v78 hv78 => ?_)
            show Ok _ 87 81 [some (vR (some 0)), some (vI a), some (vI i), some (vI b), some (vI j), some (vI n)] [vI v78] (M) _
            refine k_if_eq (t := 99) i_87_81 rfl (fun h81 => ?_) (fun h81 => ?_)
            · refine k_aload_n i_87_99 rfl ?_
              refine k_iconst i_87_100 (by decide) ?_
              refine k_invV (n := 1) (o' := 7) (av := [vR (some 0), vI 2]) (rest := []) (el := [some (vR (some 0)), some (vI 2)]) i_87_101 o_87 rfl v_119 rfl (s_0) rfl rfl rfl rfl rfl ?_
              refine c_119 (by omega) ?_
              show Ok _ 87 104 [some (vR (some 0)), some (vI a), some (vI i), some (vI b), some (vI j), some (vI n)] [vI (-1000010 - 2)] (mu M 0 13 2) _
              refine k_iret i_87_104 rfl ?_
              exact k4 (by omega) (by omega) (by omega) (by omega)
            · refine k_aload_n i_87_84 rfl ?_
              refine k_getR (r := 1) i_87_85 o_87 rfl (by decide) (s_0) rfl ?_
              refine k_iload_n i_87_88 rfl ?_
              refine k_iload i_87_89 rfl ?_
              refine k_iload i_87_91 rfl ?_
              refine k_invV (n := 3) (o' := 4) (av := [vR (some 1), vI b, vI j, vI n]) (rest := []) (el := [some (vR (some 1)), some (vI b), some (vI j), some (vI n)]) i_87_93 o_87 rfl v_50 rfl (s_1) rfl rfl rfl rfl rfl ?_
              refine c_50 (by omega) (by omega) (fun v93 hv93 => ?_)
              show Ok _ 87 96 [some (vR (some 0)), some (vI a), some (vI i), some (vI b), some (vI j), some (vI n)] [vI v93] (M) _
              refine k_if_ne (t := 105) i_87_96 rfl (fun h96 => ?_) (fun h96 => ?_)
              · refine k_aload_n i_87_105 rfl ?_
                refine k_getR (r := 1) i_87_106 o_87 rfl (by decide) (s_0) rfl ?_
                refine k_iload_n i_87_109 rfl ?_
                refine k_iload_n i_87_110 rfl ?_
                refine k_iload_n i_87_111 rfl ?_
                refine k_iload i_87_112 rfl ?_
                refine k_iload i_87_114 rfl ?_
                refine k_invV (n := 5) (o' := 4) (av := [vR (some 1), vI a, vI i, vI b, vI j, vI n]) (rest := []) (el := [some (vR (some 1)), some (vI a), some (vI i), some (vI b), some (vI j), some (vI n)]) i_87_116 o_87 rfl v_53 rfl (s_1) rfl rfl rfl rfl rfl ?_
                refine c_53 (by omega) (by omega) (by omega) ?_
                show Ok _ 87 119 [some (vR (some 0)), some (vI a), some (vI i), some (vI b), some (vI j), some (vI n)] [] (mcp M (3 + (a).toNat) i (3 + (b).toNat) j n) _
                refine k_aload_n i_87_119 rfl ?_
                refine k_iload i_87_120 rfl ?_
                refine k_invV (n := 1) (o' := 7) (av := [vR (some 0), vI n]) (rest := []) (el := [some (vR (some 0)), some (vI n)]) i_87_122 o_87 rfl v_120 rfl (s_0) rfl rfl rfl rfl rfl ?_
                refine c_120 ?_
                show Ok _ 87 125 [some (vR (some 0)), some (vI a), some (vI i), some (vI b), some (vI j), some (vI n)] [vI n] (mu (mcp M (3 + (a).toNat) i (3 + (b).toNat) j n) 0 13 0) _
                refine k_iret i_87_125 rfl ?_
                exact k5 (by omega) (by omega) (by omega) (by omega)
              · refine k_aload_n i_87_99 rfl ?_
                refine k_iconst i_87_100 (by decide) ?_
                refine k_invV (n := 1) (o' := 7) (av := [vR (some 0), vI 2]) (rest := []) (el := [some (vR (some 0)), some (vI 2)]) i_87_101 o_87 rfl v_119 rfl (s_0) rfl rfl rfl rfl rfl ?_
                refine c_119 (by omega) ?_
                show Ok _ 87 104 [some (vR (some 0)), some (vI a), some (vI i), some (vI b), some (vI j), some (vI n)] [vI (-1000010 - 2)] (mu M 0 13 2) _
                refine k_iret i_87_104 rfl ?_
                exact k4 (by omega) (by omega) (by omega) (by omega)
          · refine k_aload_n i_87_64 rfl ?_
            refine k_iconst i_87_65 (by decide) ?_
            refine k_invV (n := 1) (o' := 7) (av := [vR (some 0), vI 5]) (rest := []) (el := [some (vR (some 0)), some (vI 5)]) i_87_66 o_87 rfl v_119 rfl (s_0) rfl rfl rfl rfl rfl ?_
            refine c_119 (by omega) ?_
            show Ok _ 87 69 [some (vR (some 0)), some (vI a), some (vI i), some (vI b), some (vI j), some (vI n)] [vI (-1000010 - 5)] (mu M 0 13 5) _
            refine k_iret i_87_69 rfl ?_
            exact k3 (by omega) (by omega) (by omega)
        · refine k_aload_n i_87_39 rfl ?_
          refine k_iconst i_87_40 (by decide) ?_
          refine k_invV (n := 1) (o' := 7) (av := [vR (some 0), vI 1]) (rest := []) (el := [some (vR (some 0)), some (vI 1)]) i_87_41 o_87 rfl v_119 rfl (s_0) rfl rfl rfl rfl rfl ?_
          refine c_119 (by omega) ?_
          show Ok _ 87 44 [some (vR (some 0)), some (vI a), some (vI i), some (vI b), some (vI j), some (vI n)] [vI (-1000010 - 1)] (mu M 0 13 1) _
          refine k_iret i_87_44 rfl ?_
          exact k2 (by omega) (by omega)
    · refine k_ldc (z := -1000001) i_87_14 o_87 rfl (by decide) ?_
      refine k_iret i_87_16 rfl ?_
      exact k1 (by omega)

/-- ElbowQueue.drop -/
theorem c_88 {d : Nat} {M : Mem} {Q : Option Vv → Mem → Prop} {r : Int}  (k1 : ¬ (0 ≤ r ∧ r < 8) → Q (some (vI (-1000001))) M) (k2 : 0 ≤ r ∧ r < 8 → ¬ (¬ M 12 r = -1) → Q (some (vI (-1000010 - 1))) (mu M 0 13 1)) (k3 : 0 ≤ r ∧ r < 8 → (¬ M 12 r = -1) → Q (some (vI (M 12 r))) (mu (mu M 12 r (-1)) 0 13 0)) : Ok (d + 1) 88 0 [some (vR (some 0)), some (vI r)] [] M Q := by
  refine k_iload_n i_88_0 rfl ?_
  refine k_invS (n := 1) (av := [vI r]) (rest := []) (el := [some (vI r)]) i_88_1 o_88 rfl v_45 rfl rfl rfl rfl rfl rfl ?_
  refine c_45 (fun v1 hv1 => ?_)
  show Ok _ 88 4 [some (vR (some 0)), some (vI r)] [vI v1] (M) _
  refine k_if_ne (t := 10) i_88_4 rfl (fun h4 => ?_) (fun h4 => ?_)
  · refine k_aload_n i_88_10 rfl ?_
    refine k_getR (r := 1) i_88_11 o_88 rfl (by decide) (s_0) rfl ?_
    refine k_iload_n i_88_14 rfl ?_
    refine k_invV (n := 1) (o' := 4) (av := [vR (some 1), vI r]) (rest := []) (el := [some (vR (some 1)), some (vI r)]) i_88_15 o_88 rfl v_47 rfl (s_1) rfl rfl rfl rfl rfl ?_
    refine c_47 (by omega) (fun v15 hv15 => ?_)
    show Ok _ 88 18 [some (vR (some 0)), some (vI r)] [vI v15] (M) _
    refine k_if_eq (t := 27) i_88_18 rfl (fun h18 => ?_) (fun h18 => ?_)
    · refine k_aload_n i_88_27 rfl ?_
      refine k_aload_n i_88_28 rfl ?_
      refine k_getR (r := 1) i_88_29 o_88 rfl (by decide) (s_0) rfl ?_
      refine k_iload_n i_88_32 rfl ?_
      refine k_invV (n := 1) (o' := 4) (av := [vR (some 1), vI r]) (rest := [vR (some 0)]) (el := [some (vR (some 1)), some (vI r), none]) i_88_33 o_88 rfl v_54 rfl (s_1) rfl rfl rfl rfl rfl ?_
      refine c_54 (by omega) ?_
      show Ok _ 88 36 [some (vR (some 0)), some (vI r)] [vI (M 12 r), vR (some 0)] (mu M 12 r (-1)) _
      refine k_invV (n := 1) (o' := 7) (av := [vR (some 0), vI (M 12 r)]) (rest := []) (el := [some (vR (some 0)), some (vI (M 12 r))]) i_88_36 o_88 rfl v_120 rfl (s_0) rfl rfl rfl rfl rfl ?_
      refine c_120 ?_
      show Ok _ 88 39 [some (vR (some 0)), some (vI r)] [vI (M 12 r)] (mu (mu M 12 r (-1)) 0 13 0) _
      refine k_iret i_88_39 rfl ?_
      exact k3 (by omega) (by omega)
    · refine k_aload_n i_88_21 rfl ?_
      refine k_iconst i_88_22 (by decide) ?_
      refine k_invV (n := 1) (o' := 7) (av := [vR (some 0), vI 1]) (rest := []) (el := [some (vR (some 0)), some (vI 1)]) i_88_23 o_88 rfl v_119 rfl (s_0) rfl rfl rfl rfl rfl ?_
      refine c_119 (by omega) ?_
      show Ok _ 88 26 [some (vR (some 0)), some (vI r)] [vI (-1000010 - 1)] (mu M 0 13 1) _
      refine k_iret i_88_26 rfl ?_
      exact k2 (by omega) (by omega)
  · refine k_ldc (z := -1000001) i_88_7 o_88 rfl (by decide) ?_
    refine k_iret i_88_9 rfl ?_
    exact k1 (by omega)

/-- ElbowQueueModel.in -/
theorem c_122 {d : Nat} {M : Mem} {Q : Option Vv → Mem → Prop} {x lo hi : Int}  (k : ∀ v : Int, (v = 1 ∧ (lo ≤ x ∧ x ≤ hi)) ∨ (v = 0 ∧ ¬ (lo ≤ x ∧ x ≤ hi)) → Q (some (vI v)) M) : Ok d 122 0 [some (vL x), none, some (vL lo), none, some (vL hi), none] [] M Q := by
  refine k_lload_n i_122_0 rfl ?_
  refine k_lload_n i_122_1 rfl ?_
  refine k_lcmp i_122_2 ?_
  obtain ⟨z2, hz2⟩ : ∃ z : Int, z = (if (x) < (lo) then (-1 : Int) else if (x) = (lo) then 0 else 1) := ⟨_, rfl⟩
  rw [← hz2]
  have gz2 : (z2 = -1 ∧ (x) < (lo)) ∨ (z2 = 0 ∧ (x) = (lo)) ∨ (z2 = 1 ∧ (lo) < (x)) := by rw [hz2]; split <;> first | omega | (split <;> omega)
  refine k_if_lt (t := 17) i_122_3 rfl (fun h3 => ?_) (fun h3 => ?_)
  · refine k_iconst i_122_17 (by decide) ?_
    refine k_zret i_122_18 rfl (by omega) ?_
    exact k _ (by omega)
  · refine k_lload_n i_122_6 rfl ?_
    refine k_lload i_122_7 rfl ?_
    refine k_lcmp i_122_9 ?_
    obtain ⟨z9, hz9⟩ : ∃ z : Int, z = (if (x) < (hi) then (-1 : Int) else if (x) = (hi) then 0 else 1) := ⟨_, rfl⟩
    rw [← hz9]
    have gz9 : (z9 = -1 ∧ (x) < (hi)) ∨ (z9 = 0 ∧ (x) = (hi)) ∨ (z9 = 1 ∧ (hi) < (x)) := by rw [hz9]; split <;> first | omega | (split <;> omega)
    refine k_if_gt (t := 17) i_122_10 rfl (fun h10 => ?_) (fun h10 => ?_)
    · refine k_iconst i_122_17 (by decide) ?_
      refine k_zret i_122_18 rfl (by omega) ?_
      exact k _ (by omega)
    · refine k_iconst i_122_13 (by decide) ?_
      refine k_goto (t := 18) i_122_14 rfl ?_
      refine k_zret i_122_18 rfl (by omega) ?_
      exact k _ (by omega)

/-- ElbowQueueModel.found -/
theorem c_123 {d : Nat} {M : Mem} {Q : Option Vv → Mem → Prop} {x : Int} (hx : 0 ≤ x ∧ x ≤ 9) (k : Q (some (vI (-1000010 - x))) (mu M 273 6 x)) : Ok d 123 0 [some (vR (some 273)), some (vI x)] [] M Q := by
  refine k_aload_n i_123_0 rfl ?_
  refine k_iload_n i_123_1 rfl ?_
  refine k_putI (kz := 6) i_123_2 o_123 rfl (by decide) (s_273) rfl ?_
  refine k_ldc (z := -1000010) i_123_5 o_123 rfl (by decide) ?_
  refine k_iload_n i_123_7 rfl ?_
  refine k_isub i_123_8 (by omega) ?_
  refine k_iret i_123_9 rfl ?_
  exact k

/-- ElbowQueueModel.well -/
theorem c_124 {d : Nat} {M : Mem} {Q : Option Vv → Mem → Prop} {x : Int}  (k : Q (some (vI x)) (mu M 273 6 0)) : Ok d 124 0 [some (vR (some 273)), some (vI x)] [] M Q := by
  refine k_aload_n i_124_0 rfl ?_
  refine k_iconst i_124_1 (by decide) ?_
  refine k_putI (kz := 6) i_124_2 o_124 rfl (by decide) (s_273) rfl ?_
  refine k_iload_n i_124_5 rfl ?_
  refine k_iret i_124_6 rfl ?_
  exact k

/-- ElbowQueueModel.isRow -/
theorem c_125 {d : Nat} {M : Mem} {Q : Option Vv → Mem → Prop} {x : Int}  (k : ∀ v : Int, (v = 1 ∧ (0 ≤ x ∧ x < 8)) ∨ (v = 0 ∧ ¬ (0 ≤ x ∧ x < 8)) → Q (some (vI v)) M) : Ok (d + 1) 125 0 [some (vI x)] [] M Q := by
  refine k_iload_n i_125_0 rfl ?_
  refine k_i2l i_125_1 ?_
  refine k_lconst (z := 0) i_125_2 rfl ?_
  refine k_ldc2 (z := 7) i_125_3 o_125 rfl (by decide) ?_
  refine k_invS (n := 3) (av := [vL x, vL 0, vL 7]) (rest := []) (el := [some (vL x), none, some (vL 0), none, some (vL 7), none]) i_125_6 o_125 rfl v_122 rfl rfl rfl rfl rfl rfl ?_
  refine c_122 (fun v6 hv6 => ?_)
  show Ok _ 125 9 [some (vI x)] [vI v6] (M) _
  refine k_zret i_125_9 rfl (by omega) ?_
  exact k _ (by omega)

theorem l_126 {d : Nat} {M : Mem} {Q : Option Vv → Mem → Prop} {r lane n : Int} (hr : 0 ≤ r ∧ r < 8) (k : Q (some (vI n)) (mu (mfill (mu (mu (mu M 281 r 1) 279 r lane) 280 r n) 282 (40 * r) (40 * r + 40) 0) 273 6 0)) : ∀ (f : Nat) (i : Int), (0 ≤ i ∧ i ≤ 40) → (40 - i).toNat < f → Ok (d + 2) 126 62 [some (vR (some 273)), some (vI r), some (vI lane), some (vI n), some (vI i)] [] (mfill (mu (mu (mu M 281 r 1) 279 r lane) 280 r n) 282 (40 * r) (40 * r + i) 0) Q := by
  intro f
  induction f with
  | zero => intro i hi hf; exact absurd hf (Nat.not_lt_zero _)
  | succ f ih =>
    intro i hi hf
    refine k_iload i_126_62 rfl ?_
    refine k_bipush i_126_64 (by decide) ?_
    refine k_icmp_ge (t := 88) i_126_66 rfl (fun h66 => ?_) (fun h66 => ?_)
    · refine k_aload_n i_126_88 rfl ?_
      refine k_iload_n i_126_89 rfl ?_
      refine k_invV (n := 1) (o' := 8) (av := [vR (some 273), vI n]) (rest := []) (el := [some (vR (some 273)), some (vI n)]) i_126_90 o_126 rfl v_124 rfl (s_273) rfl rfl rfl rfl rfl ?_
      refine c_124 ?_
      show Ok _ 126 93 [some (vR (some 273)), some (vI r), some (vI lane), some (vI n), some (vI i)] [vI n] (mu (mfill (mu (mu (mu M 281 r 1) 279 r lane) 280 r n) 282 (40 * r) (40 * r + i) 0) 273 6 0) _
      refine k_iret i_126_93 rfl ?_
      obtain rfl : i = 40 := by omega
      exact k
    · refine k_aload_n i_126_69 rfl ?_
      refine k_getR (r := 282) i_126_70 o_126 rfl (by decide) (s_273) rfl ?_
      refine k_bipush i_126_73 (by decide) ?_
      refine k_iload_n i_126_75 rfl ?_
      refine k_imul i_126_76 (by omega) ?_
      refine k_iload i_126_77 rfl ?_
      refine k_iadd i_126_79 (by omega) ?_
      refine k_iconst i_126_80 (by decide) ?_
      refine k_iast i_126_81 (s_282) (by omega) ?_
      refine k_iinc (ls' := [some (vR (some 273)), some (vI r), some (vI lane), some (vI n), some (vI (i + 1))]) i_126_82 rfl (by omega) rfl ?_
      refine k_goto (t := 62) i_126_85 rfl ?_
      rw [mfill_s (by omega), show 40 * r + i + 1 = 40 * r + (i + 1) by omega]
      exact ih (i + 1) (by omega) (by omega)

/-- ElbowQueueModel.row -/
theorem c_126 {d : Nat} {M : Mem} {Q : Option Vv → Mem → Prop} {r lane n : Int}  (k1 : ¬ (0 ≤ r ∧ r < 8 ∧ 0 ≤ lane ∧ lane ≤ 2 ∧ n ≤ 40) → Q (some (vI (-1000001))) M) (k2 : 0 ≤ r ∧ r < 8 ∧ 0 ≤ lane ∧ lane ≤ 2 ∧ n < 0 → Q (some (vI (-1000010 - 4))) (mu M 273 6 4)) (k3 : 0 ≤ r ∧ r < 8 ∧ 0 ≤ lane ∧ lane ≤ 2 ∧ 0 ≤ n ∧ n ≤ 40 → Q (some (vI n)) (mu (mfill (mu (mu (mu M 281 r 1) 279 r lane) 280 r n) 282 (40 * r) (40 * r + 40) 0) 273 6 0)) : Ok (d + 2) 126 0 [some (vR (some 273)), some (vI r), some (vI lane), some (vI n), none] [] M Q := by
  refine k_iload_n i_126_0 rfl ?_
  refine k_invS (n := 1) (av := [vI r]) (rest := []) (el := [some (vI r)]) i_126_1 o_126 rfl v_125 rfl rfl rfl rfl rfl rfl ?_
  refine c_125 (fun v1 hv1 => ?_)
  show Ok _ 126 4 [some (vR (some 273)), some (vI r), some (vI lane), some (vI n), none] [vI v1] (M) _
  refine k_if_eq (t := 25) i_126_4 rfl (fun h4 => ?_) (fun h4 => ?_)
  · refine k_ldc (z := -1000001) i_126_25 o_126 rfl (by decide) ?_
    refine k_iret i_126_27 rfl ?_
    exact k1 (by omega)
  · refine k_iload_n i_126_7 rfl ?_
    refine k_i2l i_126_8 ?_
    refine k_lconst (z := 0) i_126_9 rfl ?_
    refine k_ldc2 (z := 2) i_126_10 o_126 rfl (by decide) ?_
    refine k_invS (n := 3) (av := [vL lane, vL 0, vL 2]) (rest := []) (el := [some (vL lane), none, some (vL 0), none, some (vL 2), none]) i_126_13 o_126 rfl v_122 rfl rfl rfl rfl rfl rfl ?_
    refine c_122 (fun v13 hv13 => ?_)
    show Ok _ 126 16 [some (vR (some 273)), some (vI r), some (vI lane), some (vI n), none] [vI v13] (M) _
    refine k_if_eq (t := 25) i_126_16 rfl (fun h16 => ?_) (fun h16 => ?_)
    · refine k_ldc (z := -1000001) i_126_25 o_126 rfl (by decide) ?_
      refine k_iret i_126_27 rfl ?_
      exact k1 (by omega)
    · refine k_iload_n i_126_19 rfl ?_
      refine k_bipush i_126_20 (by decide) ?_
      refine k_icmp_le (t := 28) i_126_22 rfl (fun h22 => ?_) (fun h22 => ?_)
      · refine k_iload_n i_126_28 rfl ?_
        refine k_if_ge (t := 38) i_126_29 rfl (fun h29 => ?_) (fun h29 => ?_)
        · refine k_aload_n i_126_38 rfl ?_
          refine k_getR (r := 281) i_126_39 o_126 rfl (by decide) (s_273) rfl ?_
          refine k_iload_n i_126_42 rfl ?_
          refine k_iconst i_126_43 (by decide) ?_
          refine k_bast i_126_44 (s_281) (by omega) (by omega) ?_
          refine k_aload_n i_126_45 rfl ?_
          refine k_getR (r := 279) i_126_46 o_126 rfl (by decide) (s_273) rfl ?_
          refine k_iload_n i_126_49 rfl ?_
          refine k_iload_n i_126_50 rfl ?_
          refine k_iast i_126_51 (s_279) (by omega) ?_
          refine k_aload_n i_126_52 rfl ?_
          refine k_getR (r := 280) i_126_53 o_126 rfl (by decide) (s_273) rfl ?_
          refine k_iload_n i_126_56 rfl ?_
          refine k_iload_n i_126_57 rfl ?_
          refine k_iast i_126_58 (s_280) (by omega) ?_
          refine k_iconst i_126_59 (by decide) ?_
          refine k_istore (ls' := [some (vR (some 273)), some (vI r), some (vI lane), some (vI n), some (vI 0)]) i_126_60 rfl ?_
          rw [← mfill_0 (mu (mu (mu M 281 r 1) 279 r lane) 280 r n) 282 (40 * r) 0, show mfill (mu (mu (mu M 281 r 1) 279 r lane) 280 r n) 282 (40 * r) (40 * r) 0 = mfill (mu (mu (mu M 281 r 1) 279 r lane) 280 r n) 282 (40 * r) (40 * r + 0) 0 by rw [Int.add_zero]]
          exact l_126 (by omega) (k3 (by omega)) 41 0 (by omega) (by omega)
        · refine k_aload_n i_126_32 rfl ?_
          refine k_iconst i_126_33 (by decide) ?_
          refine k_invV (n := 1) (o' := 8) (av := [vR (some 273), vI 4]) (rest := []) (el := [some (vR (some 273)), some (vI 4)]) i_126_34 o_126 rfl v_123 rfl (s_273) rfl rfl rfl rfl rfl ?_
          refine c_123 (by omega) ?_
          show Ok _ 126 37 [some (vR (some 273)), some (vI r), some (vI lane), some (vI n), none] [vI (-1000010 - 4)] (mu M 273 6 4) _
          refine k_iret i_126_37 rfl ?_
          exact k2 (by omega)
      · refine k_ldc (z := -1000001) i_126_25 o_126 rfl (by decide) ?_
        refine k_iret i_126_27 rfl ?_
        exact k1 (by omega)

/-- ElbowQueueModel.set -/
theorem c_127 {d : Nat} {M : Mem} {Q : Option Vv → Mem → Prop} {r i v : Int} (hs : ∀ r : Int, 0 ≤ r → r < 8 → 0 ≤ M 280 r ∧ M 280 r ≤ 40) (k1 : ¬ (0 ≤ r ∧ r < 8) → Q (some (vI (-1000001))) M) (k2 : 0 ≤ r ∧ r < 8 → ¬ (¬ M 281 r = 0) → Q (some (vI (-1000010 - 1))) (mu M 273 6 1)) (k3 : 0 ≤ r ∧ r < 8 → (¬ M 281 r = 0) → ¬ (0 ≤ i ∧ i < M 280 r) → Q (some (vI (-1000010 - 2))) (mu M 273 6 2)) (k4 : 0 ≤ r ∧ r < 8 → (¬ M 281 r = 0) → (0 ≤ i ∧ i < M 280 r) → Q (some (vI (cutF (M 279 r) v))) (mu (mu M 282 (40 * r + i) (cutF (M 279 r) v)) 273 6 0)) : Ok (d + 2) 127 0 [some (vR (some 273)), some (vI r), some (vI i), some (vI v), none] [] M Q := by
  refine k_iload_n i_127_0 rfl ?_
  refine k_invS (n := 1) (av := [vI r]) (rest := []) (el := [some (vI r)]) i_127_1 o_127 rfl v_125 rfl rfl rfl rfl rfl rfl ?_
  refine c_125 (fun v1 hv1 => ?_)
  show Ok _ 127 4 [some (vR (some 273)), some (vI r), some (vI i), some (vI v), none] [vI v1] (M) _
  refine k_if_ne (t := 10) i_127_4 rfl (fun h4 => ?_) (fun h4 => ?_)
  · have hs9 := hs r (by omega) (by omega)
    refine k_aload_n i_127_10 rfl ?_
    refine k_getR (r := 281) i_127_11 o_127 rfl (by decide) (s_273) rfl ?_
    refine k_iload_n i_127_14 rfl ?_
    refine k_bald i_127_15 (s_281) (by omega) ?_
    refine k_if_ne (t := 25) i_127_16 rfl (fun h16 => ?_) (fun h16 => ?_)
    · refine k_iload_n i_127_25 rfl ?_
      refine k_i2l i_127_26 ?_
      refine k_lconst (z := 0) i_127_27 rfl ?_
      refine k_aload_n i_127_28 rfl ?_
      refine k_getR (r := 280) i_127_29 o_127 rfl (by decide) (s_273) rfl ?_
      refine k_iload_n i_127_32 rfl ?_
      refine k_iald i_127_33 (s_280) (by omega) ?_
      refine k_iconst i_127_34 (by decide) ?_
      refine k_isub i_127_35 (by omega) ?_
      refine k_i2l i_127_36 ?_
      refine k_invS (n := 3) (av := [vL i, vL 0, vL ((M 280 r) - 1)]) (rest := []) (el := [some (vL i), none, some (vL 0), none, some (vL ((M 280 r) - 1)), none]) i_127_37 o_127 rfl v_122 rfl rfl rfl rfl rfl rfl ?_
      refine c_122 (fun v37 hv37 => ?_)
      show Ok _ 127 40 [some (vR (some 273)), some (vI r), some (vI i), some (vI v), none] [vI v37] (M) _
      refine k_if_ne (t := 49) i_127_40 rfl (fun h40 => ?_) (fun h40 => ?_)
      · refine k_aload_n i_127_49 rfl ?_
        refine k_getR (r := 279) i_127_50 o_127 rfl (by decide) (s_273) rfl ?_
        refine k_iload_n i_127_53 rfl ?_
        refine k_iald i_127_54 (s_279) (by omega) ?_
        refine k_if_ne (t := 68) i_127_55 rfl (fun h55 => ?_) (fun h55 => ?_)
        · refine k_aload_n i_127_68 rfl ?_
          refine k_getR (r := 279) i_127_69 o_127 rfl (by decide) (s_273) rfl ?_
          refine k_iload_n i_127_72 rfl ?_
          refine k_iald i_127_73 (s_279) (by omega) ?_
          refine k_iconst i_127_74 (by decide) ?_
          refine k_icmp_ne (t := 88) i_127_75 rfl (fun h75 => ?_) (fun h75 => ?_)
          · refine k_iload_n i_127_88 rfl ?_
            refine k_istore (ls' := [some (vR (some 273)), some (vI r), some (vI i), some (vI v), some (vI v)]) i_127_89 rfl ?_
            refine k_aload_n i_127_91 rfl ?_
            refine k_getR (r := 282) i_127_92 o_127 rfl (by decide) (s_273) rfl ?_
            refine k_bipush i_127_95 (by decide) ?_
            refine k_iload_n i_127_97 rfl ?_
            refine k_imul i_127_98 (by omega) ?_
            refine k_iload_n i_127_99 rfl ?_
            refine k_iadd i_127_100 (by omega) ?_
            refine k_iload i_127_101 rfl ?_
            refine k_iast i_127_103 (s_282) (by omega) ?_
            refine k_aload_n i_127_104 rfl ?_
            refine k_iload i_127_105 rfl ?_
            refine k_invV (n := 1) (o' := 8) (av := [vR (some 273), vI v]) (rest := []) (el := [some (vR (some 273)), some (vI v)]) i_127_107 o_127 rfl v_124 rfl (s_273) rfl rfl rfl rfl rfl ?_
            refine c_124 ?_
            show Ok _ 127 110 [some (vR (some 273)), some (vI r), some (vI i), some (vI v), some (vI v)] [vI v] (mu (mu M 282 ((40 * r) + i) (v)) 273 6 0) _
            refine k_iret i_127_110 rfl ?_
            have ec : cutF (M 279 r) v = v := by unfold cutF; simp [*]
            rw [ec] at k4
            exact k4 (by omega) (by omega) (by omega)
          · refine k_iload_n i_127_78 rfl ?_
            refine k_bipush i_127_79 (by decide) ?_
            refine k_ishl (z := (Int32.ofInt v <<< (Int32.ofInt 16 &&& 31)).toInt) i_127_81 rfl ?_
            refine k_bipush i_127_82 (by decide) ?_
            refine k_ishr (z := (Int32.ofInt v).toInt16.toInt32.toInt) i_127_84 (shl16 v) ?_
            refine k_goto (t := 89) i_127_85 rfl ?_
            refine k_istore (ls' := [some (vR (some 273)), some (vI r), some (vI i), some (vI v), some (vI ((Int32.ofInt v).toInt16.toInt32.toInt))]) i_127_89 rfl ?_
            refine k_aload_n i_127_91 rfl ?_
            refine k_getR (r := 282) i_127_92 o_127 rfl (by decide) (s_273) rfl ?_
            refine k_bipush i_127_95 (by decide) ?_
            refine k_iload_n i_127_97 rfl ?_
            refine k_imul i_127_98 (by omega) ?_
            refine k_iload_n i_127_99 rfl ?_
            refine k_iadd i_127_100 (by omega) ?_
            refine k_iload i_127_101 rfl ?_
            refine k_iast i_127_103 (s_282) (by omega) ?_
            refine k_aload_n i_127_104 rfl ?_
            refine k_iload i_127_105 rfl ?_
            refine k_invV (n := 1) (o' := 8) (av := [vR (some 273), vI ((Int32.ofInt v).toInt16.toInt32.toInt)]) (rest := []) (el := [some (vR (some 273)), some (vI ((Int32.ofInt v).toInt16.toInt32.toInt))]) i_127_107 o_127 rfl v_124 rfl (s_273) rfl rfl rfl rfl rfl ?_
            refine c_124 ?_
            show Ok _ 127 110 [some (vR (some 273)), some (vI r), some (vI i), some (vI v), some (vI ((Int32.ofInt v).toInt16.toInt32.toInt))] [vI ((Int32.ofInt v).toInt16.toInt32.toInt)] (mu (mu M 282 ((40 * r) + i) ((Int32.ofInt v).toInt16.toInt32.toInt)) 273 6 0) _
            refine k_iret i_127_110 rfl ?_
            have ec : cutF (M 279 r) v = (Int32.ofInt v).toInt16.toInt32.toInt := by unfold cutF; simp [*]
            rw [ec] at k4
            exact k4 (by omega) (by omega) (by omega)
        · refine k_iload_n i_127_58 rfl ?_
          refine k_bipush i_127_59 (by decide) ?_
          refine k_ishl (z := (Int32.ofInt v <<< (Int32.ofInt 24 &&& 31)).toInt) i_127_61 rfl ?_
          refine k_bipush i_127_62 (by decide) ?_
          refine k_ishr (z := (Int32.ofInt v).toInt8.toInt32.toInt) i_127_64 (shl8 v) ?_
          refine k_goto (t := 89) i_127_65 rfl ?_
          refine k_istore (ls' := [some (vR (some 273)), some (vI r), some (vI i), some (vI v), some (vI ((Int32.ofInt v).toInt8.toInt32.toInt))]) i_127_89 rfl ?_
          refine k_aload_n i_127_91 rfl ?_
          refine k_getR (r := 282) i_127_92 o_127 rfl (by decide) (s_273) rfl ?_
          refine k_bipush i_127_95 (by decide) ?_
          refine k_iload_n i_127_97 rfl ?_
          refine k_imul i_127_98 (by omega) ?_
          refine k_iload_n i_127_99 rfl ?_
          refine k_iadd i_127_100 (by omega) ?_
          refine k_iload i_127_101 rfl ?_
          refine k_iast i_127_103 (s_282) (by omega) ?_
          refine k_aload_n i_127_104 rfl ?_
          refine k_iload i_127_105 rfl ?_
          refine k_invV (n := 1) (o' := 8) (av := [vR (some 273), vI ((Int32.ofInt v).toInt8.toInt32.toInt)]) (rest := []) (el := [some (vR (some 273)), some (vI ((Int32.ofInt v).toInt8.toInt32.toInt))]) i_127_107 o_127 rfl v_124 rfl (s_273) rfl rfl rfl rfl rfl ?_
          refine c_124 ?_
          show Ok _ 127 110 [some (vR (some 273)), some (vI r), some (vI i), some (vI v), some (vI ((Int32.ofInt v).toInt8.toInt32.toInt))] [vI ((Int32.ofInt v).toInt8.toInt32.toInt)] (mu (mu M 282 ((40 * r) + i) ((Int32.ofInt v).toInt8.toInt32.toInt)) 273 6 0) _
          refine k_iret i_127_110 rfl ?_
          have ec : cutF (M 279 r) v = (Int32.ofInt v).toInt8.toInt32.toInt := by unfold cutF; simp [*]
          rw [ec] at k4
          exact k4 (by omega) (by omega) (by omega)
      · refine k_aload_n i_127_43 rfl ?_
        refine k_iconst i_127_44 (by decide) ?_
        refine k_invV (n := 1) (o' := 8) (av := [vR (some 273), vI 2]) (rest := []) (el := [some (vR (some 273)), some (vI 2)]) i_127_45 o_127 rfl v_123 rfl (s_273) rfl rfl rfl rfl rfl ?_
        refine c_123 (by omega) ?_
        show Ok _ 127 48 [some (vR (some 273)), some (vI r), some (vI i), some (vI v), none] [vI (-1000010 - 2)] (mu M 273 6 2) _
        refine k_iret i_127_48 rfl ?_
        exact k3 (by omega) (by omega) (by omega)
    · refine k_aload_n i_127_19 rfl ?_
      refine k_iconst i_127_20 (by decide) ?_
      refine k_invV (n := 1) (o' := 8) (av := [vR (some 273), vI 1]) (rest := []) (el := [some (vR (some 273)), some (vI 1)]) i_127_21 o_127 rfl v_123 rfl (s_273) rfl rfl rfl rfl rfl ?_
      refine c_123 (by omega) ?_
      show Ok _ 127 24 [some (vR (some 273)), some (vI r), some (vI i), some (vI v), none] [vI (-1000010 - 1)] (mu M 273 6 1) _
      refine k_iret i_127_24 rfl ?_
      exact k2 (by omega) (by omega)
  · refine k_ldc (z := -1000001) i_127_7 o_127 rfl (by decide) ?_
    refine k_iret i_127_9 rfl ?_
    exact k1 (by omega)

theorem mcp_0 (M : Mem) (a : Nat) (sp : Int) (b : Nat) (dp : Int) : mcp M a sp b dp 0 = M := by
  funext c j
  unfold mcp
  rw [if_neg (by omega)]
/-- one more of a copy, the source another cell than the target -/
theorem mcp_s {M : Mem} {a b : Nat} {sp dp n : Int} (hab : a ≠ b) (h : 0 ≤ n) : mu (mcp M a sp b dp n) b (dp + n) (mcp M a sp b dp n a (sp + n)) = mcp M a sp b dp (n + 1) := by
  have e0 : mcp M a sp b dp n a (sp + n) = M a (sp + n) := if_neg (fun q => hab q.1)
  rw [e0]
  funext c j
  unfold mu mcp
  by_cases e : c = b ∧ j = dp + n
  · rw [if_pos e, if_pos (by omega), show sp + (j - dp) = sp + n by omega]
  · rw [if_neg e]
    by_cases e2 : c = b ∧ dp ≤ j ∧ j < dp + n
    · rw [if_pos e2, if_pos (by omega)]
    · rw [if_neg e2, if_neg (by omega)]

theorem l_128b {d : Nat} {M : Mem} {Q : Option Vv → Mem → Prop} {a i b j n : Int} (ha : 0 ≤ a ∧ a < 8) (hb : 0 ≤ b ∧ b < 8) (hn : 0 ≤ i ∧ 0 ≤ j ∧ 0 ≤ n ∧ i + n ≤ 40 ∧ j + n ≤ 40) (k : Q (some (vI n)) (mu (mcp (mcp M 282 (40 * a + i) 283 0 n) 283 0 282 (40 * b + j) n) 273 6 0)) : ∀ (f : Nat) (t : Int), (0 ≤ t ∧ t ≤ n) → (n - t).toNat < f → Ok (d + 2) 128 157 [some (vR (some 273)), some (vI a), some (vI i), some (vI b), some (vI j), some (vI n), some (vI t)] [] (mcp (mcp M 282 (40 * a + i) 283 0 n) 283 0 282 (40 * b + j) t) Q := by
  intro f
  induction f with
  | zero => intro t ht hf; exact absurd hf (Nat.not_lt_zero _)
  | succ f ih =>
    intro t ht hf
    refine k_iload i_128_157 rfl ?_
    refine k_iload i_128_159 rfl ?_
    refine k_icmp_ge (t := 192) i_128_161 rfl (fun h161 => ?_) (fun h161 => ?_)
    · refine k_aload_n i_128_192 rfl ?_
      refine k_iload i_128_193 rfl ?_
      refine k_invV (n := 1) (o' := 8) (av := [vR (some 273), vI n]) (rest := []) (el := [some (vR (some 273)), some (vI n)]) i_128_195 o_128 rfl v_124 rfl (s_273) rfl rfl rfl rfl rfl ?_
      refine c_124 ?_
      show Ok _ 128 198 [some (vR (some 273)), some (vI a), some (vI i), some (vI b), some (vI j), some (vI n), some (vI t)] [vI n] (mu (mcp (mcp M 282 (40 * a + i) 283 0 n) 283 0 282 (40 * b + j) t) 273 6 0) _
      refine k_iret i_128_198 rfl ?_
      obtain rfl : t = n := by omega
      exact k
    · refine k_aload_n i_128_164 rfl ?_
      refine k_getR (r := 282) i_128_165 o_128 rfl (by decide) (s_273) rfl ?_
      refine k_bipush i_128_168 (by decide) ?_
      refine k_iload_n i_128_170 rfl ?_
      refine k_imul i_128_171 (by omega) ?_
      refine k_iload i_128_172 rfl ?_
      refine k_iadd i_128_174 (by omega) ?_
      refine k_iload i_128_175 rfl ?_
      refine k_iadd i_128_177 (by omega) ?_
      refine k_aload_n i_128_178 rfl ?_
      refine k_getR (r := 283) i_128_179 o_128 rfl (by decide) (s_273) rfl ?_
      refine k_iload i_128_182 rfl ?_
      refine k_iald i_128_184 (s_283) (by omega) ?_
      refine k_iast i_128_185 (s_282) (by omega) ?_
      refine k_iinc (ls' := [some (vR (some 273)), some (vI a), some (vI i), some (vI b), some (vI j), some (vI n), some (vI (t + 1))]) i_128_186 rfl (by omega) rfl ?_
      refine k_goto (t := 157) i_128_189 rfl ?_
      have e1 := mcp_s (M := mcp M 282 (40 * a + i) 283 0 n) (a := 283) (b := 282) (sp := 0) (dp := 40 * b + j) (n := t) (by decide) ht.1
      rw [Int.zero_add] at e1
      rw [e1]
      exact ih (t + 1) (by omega) (by omega)

theorem l_128a {d : Nat} {M : Mem} {Q : Option Vv → Mem → Prop} {a i b j n : Int} (ha : 0 ≤ a ∧ a < 8) (hb : 0 ≤ b ∧ b < 8) (hn : 0 ≤ i ∧ 0 ≤ j ∧ 0 ≤ n ∧ i + n ≤ 40 ∧ j + n ≤ 40) (k : Q (some (vI n)) (mu (mcp (mcp M 282 (40 * a + i) 283 0 n) 283 0 282 (40 * b + j) n) 273 6 0)) : ∀ (f : Nat) (t : Int), (0 ≤ t ∧ t ≤ n) → (n - t).toNat < f → Ok (d + 2) 128 120 [some (vR (some 273)), some (vI a), some (vI i), some (vI b), some (vI j), some (vI n), some (vI t)] [] (mcp M 282 (40 * a + i) 283 0 t) Q := by
  intro f
  induction f with
  | zero => intro t ht hf; exact absurd hf (Nat.not_lt_zero _)
  | succ f ih =>
    intro t ht hf
    refine k_iload i_128_120 rfl ?_
    refine k_iload i_128_122 rfl ?_
    refine k_icmp_ge (t := 154) i_128_124 rfl (fun h124 => ?_) (fun h124 => ?_)
    · refine k_iconst i_128_154 (by decide) ?_
      refine k_istore (ls' := [some (vR (some 273)), some (vI a), some (vI i), some (vI b), some (vI j), some (vI n), some (vI 0)]) i_128_155 rfl ?_
      obtain rfl : t = n := by omega
      rw [← mcp_0 (mcp M 282 (40 * a + i) 283 0 t) 283 0 282 (40 * b + j)]
      exact l_128b ha hb hn k (t.toNat + 1) 0 (by omega) (by omega)
    · refine k_aload_n i_128_127 rfl ?_
      refine k_getR (r := 283) i_128_128 o_128 rfl (by decide) (s_273) rfl ?_
      refine k_iload i_128_131 rfl ?_
      refine k_aload_n i_128_133 rfl ?_
      refine k_getR (r := 282) i_128_134 o_128 rfl (by decide) (s_273) rfl ?_
      refine k_bipush i_128_137 (by decide) ?_
      refine k_iload_n i_128_139 rfl ?_
      refine k_imul i_128_140 (by omega) ?_
      refine k_iload_n i_128_141 rfl ?_
      refine k_iadd i_128_142 (by omega) ?_
      refine k_iload i_128_143 rfl ?_
      refine k_iadd i_128_145 (by omega) ?_
      refine k_iald i_128_146 (s_282) (by omega) ?_
      refine k_iast i_128_147 (s_283) (by omega) ?_
      refine k_iinc (ls' := [some (vR (some 273)), some (vI a), some (vI i), some (vI b), some (vI j), some (vI n), some (vI (t + 1))]) i_128_148 rfl (by omega) rfl ?_
      refine k_goto (t := 120) i_128_151 rfl ?_
      have e1 := mcp_s (M := M) (a := 282) (b := 283) (sp := 40 * a + i) (dp := 0) (n := t) (by decide) ht.1
      rw [Int.zero_add] at e1
      rw [e1]
      exact ih (t + 1) (by omega) (by omega)

/-- ElbowQueueModel.copy -/
theorem c_128 {d : Nat} {M : Mem} {Q : Option Vv → Mem → Prop} {a i b j n : Int} (hs : ∀ r : Int, 0 ≤ r → r < 8 → 0 ≤ M 280 r ∧ M 280 r ≤ 40) (hii : inR i) (hij : inR j) (hin : inR n) (k1 : ¬ (0 ≤ a ∧ a < 8 ∧ 0 ≤ b ∧ b < 8) → Q (some (vI (-1000001))) M) (k2 : (0 ≤ a ∧ a < 8 ∧ 0 ≤ b ∧ b < 8) → ¬ (¬ M 281 a = 0 ∧ ¬ M 281 b = 0) → Q (some (vI (-1000010 - 1))) (mu M 273 6 1)) (k3 : (0 ≤ a ∧ a < 8 ∧ 0 ≤ b ∧ b < 8) → (¬ M 281 a = 0 ∧ ¬ M 281 b = 0) → ¬ M 279 a = M 279 b → Q (some (vI (-1000010 - 5))) (mu M 273 6 5)) (k4 : (0 ≤ a ∧ a < 8 ∧ 0 ≤ b ∧ b < 8) → (¬ M 281 a = 0 ∧ ¬ M 281 b = 0) → M 279 a = M 279 b → ¬ (0 ≤ i ∧ 0 ≤ j ∧ 0 ≤ n ∧ i + n ≤ M 280 a ∧ j + n ≤ M 280 b) → Q (some (vI (-1000010 - 2))) (mu M 273 6 2)) (k5 : (0 ≤ a ∧ a < 8 ∧ 0 ≤ b ∧ b < 8) → (¬ M 281 a = 0 ∧ ¬ M 281 b = 0) → M 279 a = M 279 b → (0 ≤ i ∧ 0 ≤ j ∧ 0 ≤ n ∧ i + n ≤ M 280 a ∧ j + n ≤ M 280 b) → Q (some (vI n)) (mu (mcp (mcp M 282 (40 * a + i) 283 0 n) 283 0 282 (40 * b + j) n) 273 6 0)) : Ok (d + 2) 128 0 [some (vR (some 273)), some (vI a), some (vI i), some (vI b), some (vI j), some (vI n), none] [] M Q := by
  refine k_iload_n i_128_0 rfl ?_
  refine k_invS (n := 1) (av := [vI a]) (rest := []) (el := [some (vI a)]) i_128_1 o_128 rfl v_125 rfl rfl rfl rfl rfl rfl ?_
  refine c_125 (fun v1 hv1 => ?_)
  show Ok _ 128 4 [some (vR (some 273)), some (vI a), some (vI i), some (vI b), some (vI j), some (vI n), none] [vI v1] (M) _
  refine k_if_eq (t := 14) i_128_4 rfl (fun h4 => ?_) (fun h4 => ?_)
  · refine k_ldc (z := -1000001) i_128_14 o_128 rfl (by decide) ?_
    refine k_iret i_128_16 rfl ?_
    exact k1 (by omega)
  · refine k_iload_n i_128_7 rfl ?_
    refine k_invS (n := 1) (av := [vI b]) (rest := []) (el := [some (vI b)]) i_128_8 o_128 rfl v_125 rfl rfl rfl rfl rfl rfl ?_
    refine c_125 (fun v8 hv8 => ?_)
    show Ok _ 128 11 [some (vR (some 273)), some (vI a), some (vI i), some (vI b), some (vI j), some (vI n), none] [vI v8] (M) _
    refine k_if_ne (t := 17) i_128_11 rfl (fun h11 => ?_) (fun h11 => ?_)
    · have hs8 := hs a (by omega) (by omega)
      have hs9 := hs b (by omega) (by omega)
      refine k_aload_n i_128_17 rfl ?_
      refine k_getR (r := 281) i_128_18 o_128 rfl (by decide) (s_273) rfl ?_
      refine k_iload_n i_128_21 rfl ?_
      refine k_bald i_128_22 (s_281) (by omega) ?_
      refine k_if_eq (t := 35) i_128_23 rfl (fun h23 => ?_) (fun h23 => ?_)
      · refine k_aload_n i_128_35 rfl ?_
        refine k_iconst i_128_36 (by decide) ?_
        refine k_invV (n := 1) (o' := 8) (av := [vR (some 273), vI 1]) (rest := []) (el := [some (vR (some 273)), some (vI 1)]) i_128_37 o_128 rfl v_123 rfl (s_273) rfl rfl rfl rfl rfl ?_
        refine c_123 (by omega) ?_
        show Ok _ 128 40 [some (vR (some 273)), some (vI a), some (vI i), some (vI b), some (vI j), some (vI n), none] [vI (-1000010 - 1)] (mu M 273 6 1) _
        refine k_iret i_128_40 rfl ?_
        exact k2 (by omega) (by omega)
      · refine k_aload_n i_128_26 rfl ?_
        refine k_getR (r := 281) i_128_27 o_128 rfl (by decide) (s_273) rfl ?_
        refine k_iload_n i_128_30 rfl ?_
        refine k_bald i_128_31 (s_281) (by omega) ?_
        refine k_if_ne (t := 41) i_128_32 rfl (fun h32 => ?_) (fun h32 => ?_)
        · refine k_aload_n i_128_41 rfl ?_
          refine k_getR (r := 279) i_128_42 o_128 rfl (by decide) (s_273) rfl ?_
          refine k_iload_n i_128_45 rfl ?_
          refine k_iald i_128_46 (s_279) (by omega) ?_
          refine k_aload_n i_128_47 rfl ?_
          refine k_getR (r := 279) i_128_48 o_128 rfl (by decide) (s_273) rfl ?_
          refine k_iload_n i_128_51 rfl ?_
          refine k_iald i_128_52 (s_279) (by omega) ?_
          refine k_icmp_eq (t := 62) i_128_53 rfl (fun h53 => ?_) (fun h53 => ?_)
          · refine k_iload_n i_128_62 rfl ?_
            refine k_if_lt (t := 111) i_128_63 rfl (fun h63 => ?_) (fun h63 => ?_)
            · refine k_aload_n i_128_111 rfl ?_
              refine k_iconst i_128_112 (by decide) ?_
              refine k_invV (n := 1) (o' := 8) (av := [vR (some 273), vI 2]) (rest := []) (el := [some (vR (some 273)), some (vI 2)]) i_128_113 o_128 rfl v_123 rfl (s_273) rfl rfl rfl rfl rfl ?_
              refine c_123 (by omega) ?_
              show Ok _ 128 116 [some (vR (some 273)), some (vI a), some (vI i), some (vI b), some (vI j), some (vI n), none] [vI (-1000010 - 2)] (mu M 273 6 2) _
              refine k_iret i_128_116 rfl ?_
              exact k4 (by omega) (by omega) (by omega) (by omega)
            · refine k_iload i_128_66 rfl ?_
              refine k_if_lt (t := 111) i_128_68 rfl (fun h68 => ?_) (fun h68 => ?_)
              · refine k_aload_n i_128_111 rfl ?_
                refine k_iconst i_128_112 (by decide) ?_
                refine k_invV (n := 1) (o' := 8) (av := [vR (some 273), vI 2]) (rest := []) (el := [some (vR (some 273)), some (vI 2)]) i_128_113 o_128 rfl v_123 rfl (s_273) rfl rfl rfl rfl rfl ?_
                refine c_123 (by omega) ?_
                show Ok _ 128 116 [some (vR (some 273)), some (vI a), some (vI i), some (vI b), some (vI j), some (vI n), none] [vI (-1000010 - 2)] (mu M 273 6 2) _
                refine k_iret i_128_116 rfl ?_
                exact k4 (by omega) (by omega) (by omega) (by omega)
              · refine k_iload i_128_71 rfl ?_
                refine k_if_lt (t := 111) i_128_73 rfl (fun h73 => ?_) (fun h73 => ?_)
                · refine k_aload_n i_128_111 rfl ?_
                  refine k_iconst i_128_112 (by decide) ?_
                  refine k_invV (n := 1) (o' := 8) (av := [vR (some 273), vI 2]) (rest := []) (el := [some (vR (some 273)), some (vI 2)]) i_128_113 o_128 rfl v_123 rfl (s_273) rfl rfl rfl rfl rfl ?_
                  refine c_123 (by omega) ?_
                  show Ok _ 128 116 [some (vR (some 273)), some (vI a), some (vI i), some (vI b), some (vI j), some (vI n), none] [vI (-1000010 - 2)] (mu M 273 6 2) _
                  refine k_iret i_128_116 rfl ?_
                  exact k4 (by omega) (by omega) (by omega) (by omega)
                · refine k_iload_n i_128_76 rfl ?_
                  refine k_i2l i_128_77 ?_
                  refine k_iload i_128_78 rfl ?_
                  refine k_i2l i_128_80 ?_
                  refine k_ladd i_128_81 ⟨by omega, by omega⟩ ?_
                  refine k_aload_n i_128_82 rfl ?_
                  refine k_getR (r := 280) i_128_83 o_128 rfl (by decide) (s_273) rfl ?_
                  refine k_iload_n i_128_86 rfl ?_
                  refine k_iald i_128_87 (s_280) (by omega) ?_
                  refine k_i2l i_128_88 ?_
                  refine k_lcmp i_128_89 ?_
                  obtain ⟨z89, hz89⟩ : ∃ z : Int, z = (if ((i) + (n)) < (M 280 a) then (-1 : Int) else if ((i) + (n)) = (M 280 a) then 0 else 1) := ⟨_, rfl⟩
                  rw [← hz89]
                  have gz89 : (z89 = -1 ∧ ((i) + (n)) < (M 280 a)) ∨ (z89 = 0 ∧ ((i) + (n)) = (M 280 a)) ∨ (z89 = 1 ∧ (M 280 a) < ((i) + (n))) := by rw [hz89]; split <;> first | omega | (split <;> omega)
                  refine k_if_gt (t := 111) i_128_90 rfl (fun h90 => ?_) (fun h90 => ?_)
                  · refine k_aload_n i_128_111 rfl ?_
                    refine k_iconst i_128_112 (by decide) ?_
                    refine k_invV (n := 1) (o' := 8) (av := [vR (some 273), vI 2]) (rest := []) (el := [some (vR (some 273)), some (vI 2)]) i_128_113 o_128 rfl v_123 rfl (s_273) rfl rfl rfl rfl rfl ?_
                    refine c_123 (by omega) ?_
                    show Ok _ 128 116 [some (vR (some 273)), some (vI a), some (vI i), some (vI b), some (vI j), some (vI n), none] [vI (-1000010 - 2)] (mu M 273 6 2) _
                    refine k_iret i_128_116 rfl ?_
                    exact k4 (by omega) (by omega) (by omega) (by omega)
                  · refine k_iload i_128_93 rfl ?_
                    refine k_i2l i_128_95 ?_
                    refine k_iload i_128_96 rfl ?_
                    refine k_i2l i_128_98 ?_
                    refine k_ladd i_128_99 ⟨by omega, by omega⟩ ?_
                    refine k_aload_n i_128_100 rfl ?_
                    refine k_getR (r := 280) i_128_101 o_128 rfl (by decide) (s_273) rfl ?_
                    refine k_iload_n i_128_104 rfl ?_
                    refine k_iald i_128_105 (s_280) (by omega) ?_
                    refine k_i2l i_128_106 ?_
                    refine k_lcmp i_128_107 ?_
                    obtain ⟨z107, hz107⟩ : ∃ z : Int, z = (if ((j) + (n)) < (M 280 b) then (-1 : Int) else if ((j) + (n)) = (M 280 b) then 0 else 1) := ⟨_, rfl⟩
                    rw [← hz107]
                    have gz107 : (z107 = -1 ∧ ((j) + (n)) < (M 280 b)) ∨ (z107 = 0 ∧ ((j) + (n)) = (M 280 b)) ∨ (z107 = 1 ∧ (M 280 b) < ((j) + (n))) := by rw [hz107]; split <;> first | omega | (split <;> omega)
                    refine k_if_le (t := 117) i_128_108 rfl (fun h108 => ?_) (fun h108 => ?_)
                    · refine k_iconst i_128_117 (by decide) ?_
                      refine k_istore (ls' := [some (vR (some 273)), some (vI a), some (vI i), some (vI b), some (vI j), some (vI n), some (vI 0)]) i_128_118 rfl ?_
                      rw [← mcp_0 M 282 (40 * a + i) 283 0]
                      exact l_128a (by omega) (by omega) (by omega) (k5 (by omega) (by omega) (by omega) (by omega)) (n.toNat + 1) 0 (by omega) (by omega)
                    · refine k_aload_n i_128_111 rfl ?_
                      refine k_iconst i_128_112 (by decide) ?_
                      refine k_invV (n := 1) (o' := 8) (av := [vR (some 273), vI 2]) (rest := []) (el := [some (vR (some 273)), some (vI 2)]) i_128_113 o_128 rfl v_123 rfl (s_273) rfl rfl rfl rfl rfl ?_
                      refine c_123 (by omega) ?_
                      show Ok _ 128 116 [some (vR (some 273)), some (vI a), some (vI i), some (vI b), some (vI j), some (vI n), none] [vI (-1000010 - 2)] (mu M 273 6 2) _
                      refine k_iret i_128_116 rfl ?_
                      exact k4 (by omega) (by omega) (by omega) (by omega)
          · refine k_aload_n i_128_56 rfl ?_
            refine k_iconst i_128_57 (by decide) ?_
            refine k_invV (n := 1) (o' := 8) (av := [vR (some 273), vI 5]) (rest := []) (el := [some (vR (some 273)), some (vI 5)]) i_128_58 o_128 rfl v_123 rfl (s_273) rfl rfl rfl rfl rfl ?_
            refine c_123 (by omega) ?_
            show Ok _ 128 61 [some (vR (some 273)), some (vI a), some (vI i), some (vI b), some (vI j), some (vI n), none] [vI (-1000010 - 5)] (mu M 273 6 5) _
            refine k_iret i_128_61 rfl ?_
            exact k3 (by omega) (by omega) (by omega)
        · refine k_aload_n i_128_35 rfl ?_
          refine k_iconst i_128_36 (by decide) ?_
          refine k_invV (n := 1) (o' := 8) (av := [vR (some 273), vI 1]) (rest := []) (el := [some (vR (some 273)), some (vI 1)]) i_128_37 o_128 rfl v_123 rfl (s_273) rfl rfl rfl rfl rfl ?_
          refine c_123 (by omega) ?_
          show Ok _ 128 40 [some (vR (some 273)), some (vI a), some (vI i), some (vI b), some (vI j), some (vI n), none] [vI (-1000010 - 1)] (mu M 273 6 1) _
          refine k_iret i_128_40 rfl ?_
          exact k2 (by omega) (by omega)
    · refine k_ldc (z := -1000001) i_128_14 o_128 rfl (by decide) ?_
      refine k_iret i_128_16 rfl ?_
      exact k1 (by omega)

/-- ElbowQueueModel.drop -/
theorem c_129 {d : Nat} {M : Mem} {Q : Option Vv → Mem → Prop} {r : Int}  (k1 : ¬ (0 ≤ r ∧ r < 8) → Q (some (vI (-1000001))) M) (k2 : 0 ≤ r ∧ r < 8 → ¬ (¬ M 281 r = 0) → Q (some (vI (-1000010 - 1))) (mu M 273 6 1)) (k3 : 0 ≤ r ∧ r < 8 → (¬ M 281 r = 0) → Q (some (vI (mu M 281 r 0 280 r))) (mu (mu M 281 r 0) 273 6 0)) : Ok (d + 2) 129 0 [some (vR (some 273)), some (vI r)] [] M Q := by
  refine k_iload_n i_129_0 rfl ?_
  refine k_invS (n := 1) (av := [vI r]) (rest := []) (el := [some (vI r)]) i_129_1 o_129 rfl v_125 rfl rfl rfl rfl rfl rfl ?_
  refine c_125 (fun v1 hv1 => ?_)
  show Ok _ 129 4 [some (vR (some 273)), some (vI r)] [vI v1] (M) _
  refine k_if_ne (t := 10) i_129_4 rfl (fun h4 => ?_) (fun h4 => ?_)
  · refine k_aload_n i_129_10 rfl ?_
    refine k_getR (r := 281) i_129_11 o_129 rfl (by decide) (s_273) rfl ?_
    refine k_iload_n i_129_14 rfl ?_
    refine k_bald i_129_15 (s_281) (by omega) ?_
    refine k_if_ne (t := 25) i_129_16 rfl (fun h16 => ?_) (fun h16 => ?_)
    · refine k_aload_n i_129_25 rfl ?_
      refine k_getR (r := 281) i_129_26 o_129 rfl (by decide) (s_273) rfl ?_
      refine k_iload_n i_129_29 rfl ?_
      refine k_iconst i_129_30 (by decide) ?_
      refine k_bast i_129_31 (s_281) (by omega) (by omega) ?_
      refine k_aload_n i_129_32 rfl ?_
      refine k_aload_n i_129_33 rfl ?_
      refine k_getR (r := 280) i_129_34 o_129 rfl (by decide) (s_273) rfl ?_
      refine k_iload_n i_129_37 rfl ?_
      refine k_iald i_129_38 (s_280) (by omega) ?_
      rw [mu_ne (M := M) (a := 281) (b := 280) (i := r) (x := 0) (by omega)]
      refine k_invV (n := 1) (o' := 8) (av := [vR (some 273), vI (M 280 r)]) (rest := []) (el := [some (vR (some 273)), some (vI (M 280 r))]) i_129_39 o_129 rfl v_124 rfl (s_273) rfl rfl rfl rfl rfl ?_
      refine c_124 ?_
      show Ok _ 129 42 [some (vR (some 273)), some (vI r)] [vI (M 280 r)] (mu (mu M 281 (r) (0)) 273 6 0) _
      refine k_iret i_129_42 rfl ?_
      exact k3 (by omega) (by omega)
    · refine k_aload_n i_129_19 rfl ?_
      refine k_iconst i_129_20 (by decide) ?_
      refine k_invV (n := 1) (o' := 8) (av := [vR (some 273), vI 1]) (rest := []) (el := [some (vR (some 273)), some (vI 1)]) i_129_21 o_129 rfl v_123 rfl (s_273) rfl rfl rfl rfl rfl ?_
      refine c_123 (by omega) ?_
      show Ok _ 129 24 [some (vR (some 273)), some (vI r)] [vI (-1000010 - 1)] (mu M 273 6 1) _
      refine k_iret i_129_24 rfl ?_
      exact k2 (by omega) (by omega)
  · refine k_ldc (z := -1000001) i_129_7 o_129 rfl (by decide) ?_
    refine k_iret i_129_9 rfl ?_
    exact k1 (by omega)
