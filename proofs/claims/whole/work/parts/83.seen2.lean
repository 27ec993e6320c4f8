set_option maxRecDepth 100000 in
theorem tp_seen {d : Nat} {M : Mem} {row i n : Int} (h : Rel M) (hi0 : inR i) : Two (d + 24) 108 186 [some (vR (some 0)), some (vI row), some (vI i), some (vI n), none, none] [some (vR (some 273)), some (vI row), some (vI i), some (vI n), none, none, none] M := by
  obtain ⟨K, T, L, hW⟩ := h.2.2.2.2.1
  obtain ⟨hE, hKo, hS, hK12, hR, hKR, hRR, hA, hAR, hL, hti⟩ := id hW
  have hT := hS.1
  have hK : RepK M 20 K 0 := hK12.mono (by decide)
  have g0 := hKo.1
  have u3 := hT.2.2.1
  have mi9 := hS.2.2
  have k1 : M 20 7 = kPe K := hK.1
  have k2 : M 20 6 = kWt K := hK.2.1
  have q1 : M 274 229 = kPe K := hKR.1
  have q2 : M 274 230 = kPe K - kWt K := hKR.2.1
  obtain ⟨x6, x7, x8, x9, x10, xq, xp⟩ := id hR
  obtain ⟨y6, y7, y8, y9, y10, yq, yp⟩ := id hRR
  have hl28 := q28 hKo hT
  have hl16 : ((tQ T).length : Int) ≤ 16 := by omega
  have hib : -2147483648 ≤ i ∧ i ≤ 2147483647 := hi0
  show Ok (d + 24) 108 0 [some (vR (some 0)), some (vI row), some (vI i), some (vI n), none, none] [] M _
  refine k_aload_n i_108_0 rfl ?_
  refine k_getI (kz := 11) i_108_1 o_108 rfl (by decide) (s_0) rfl ?_
  refine k_if_ne (t := 10) i_108_4 rfl (fun h4 => ?_) (fun h4 => ?_)
  · refine k_iload_n i_108_10 rfl ?_
    refine k_invS (n := 1) (av := [vI row]) (rest := []) (el := [some (vI row)]) i_108_11 o_108 rfl v_45 rfl rfl rfl rfl rfl rfl ?_
    refine c_45 (fun v11 hv11 => ?_)
    show Ok _ 108 14 [some (vR (some 0)), some (vI row), some (vI i), some (vI n), none, none] [vI v11] (M) _
    refine k_if_eq (t := 26) i_108_14 rfl (fun h14 => ?_) (fun h14 => ?_)
    · refine k_ldc (z := -1000001) i_108_26 o_108 rfl (by decide) ?_
      refine k_iret i_108_28 rfl ?_
      show Ok (d + 24) 186 0 [some (vR (some 273)), some (vI row), some (vI i), some (vI n), none, none, none] [] M _
      refine k_aload_n i_186_0 rfl ?_
      refine k_invV (n := 0) (o' := 8) (av := [vR (some 273)]) (rest := []) (el := [some (vR (some 273))]) i_186_1 o_186 rfl v_144 rfl (s_273) rfl rfl rfl rfl rfl ?_
      refine c_144 (fun v1 hv1 => ?_)
      show Ok _ 186 4 [some (vR (some 273)), some (vI row), some (vI i), some (vI n), none, none, none] [vI v1] (M) _
      refine k_if_ne (t := 10) i_186_4 rfl (fun h4 => ?_) (fun h4 => ?_)
      · refine k_iload_n i_186_10 rfl ?_
        refine k_invS (n := 1) (av := [vI row]) (rest := []) (el := [some (vI row)]) i_186_11 o_186 rfl v_125 rfl rfl rfl rfl rfl rfl ?_
        refine c_125 (fun v11 hv11 => ?_)
        show Ok _ 186 14 [some (vR (some 273)), some (vI row), some (vI i), some (vI n), none, none, none] [vI v11] (M) _
        refine k_if_eq (t := 29) i_186_14 rfl (fun h14 => ?_) (fun h14 => ?_)
        · refine k_ldc (z := -1000001) i_186_29 o_186 rfl (by decide) ?_
          refine k_iret i_186_31 rfl ?_
          refine ⟨_, rfl, ?_, h⟩
          first
            | exact congrArg (fun z => some (vI z)) (by omega)
            | (exfalso; omega)
        · refine k_iload_n i_186_17 rfl ?_
          refine k_i2l i_186_18 ?_
          refine k_lconst (z := 0) i_186_19 rfl ?_
          refine k_ldc2 (z := 16) i_186_20 o_186 rfl (by decide) ?_
          refine k_invS (n := 3) (av := [vL n, vL 0, vL 16]) (rest := []) (el := [some (vL n), none, some (vL 0), none, some (vL 16), none]) i_186_23 o_186 rfl v_122 rfl rfl rfl rfl rfl rfl ?_
          refine c_122 (fun v23 hv23 => ?_)
          show Ok _ 186 26 [some (vR (some 273)), some (vI row), some (vI i), some (vI n), none, none, none] [vI v23] (M) _
          refine k_if_ne (t := 32) i_186_26 rfl (fun h26 => ?_) (fun h26 => ?_)
          · refine k_aload_n i_186_32 rfl ?_
            refine k_getR (r := 281) i_186_33 o_186 rfl (by decide) (s_273) rfl ?_
            refine k_iload_n i_186_36 rfl ?_
            refine k_bald i_186_37 (s_281) (by omega) ?_
            refine k_if_ne (t := 47) i_186_38 rfl (fun h38 => ?_) (fun h38 => ?_)
            · refine k_iload_n i_186_47 rfl ?_
              refine k_if_lt (t := 67) i_186_48 rfl (fun h48 => ?_) (fun h48 => ?_)
              · refine k_aload_n i_186_67 rfl ?_
                refine k_iconst i_186_68 (by decide) ?_
                refine k_invV (n := 1) (o' := 8) (av := [vR (some 273), vI 2]) (rest := []) (el := [some (vR (some 273)), some (vI 2)]) i_186_69 o_186 rfl v_123 rfl (s_273) rfl rfl rfl rfl rfl ?_
                refine c_123 (by omega) ?_
                show Ok _ 186 72 [some (vR (some 273)), some (vI row), some (vI i), some (vI n), none, none, none] [vI (-1000010 - 2)] (mu M 273 (6) (2)) _
                refine k_iret i_186_72 rfl ?_
                exfalso
                omega
              · refine k_iload_n i_186_51 rfl ?_
                refine k_i2l i_186_52 ?_
                refine k_iload_n i_186_53 rfl ?_
                refine k_i2l i_186_54 ?_
                refine k_ladd i_186_55 ⟨by omega, by omega⟩ ?_
                refine k_aload_n i_186_56 rfl ?_
                refine k_getR (r := 280) i_186_57 o_186 rfl (by decide) (s_273) rfl ?_
                refine k_iload_n i_186_60 rfl ?_
                refine k_iald i_186_61 (s_280) (by omega) ?_
                refine k_i2l i_186_62 ?_
                refine k_lcmp i_186_63 ?_
                obtain ⟨z63, hz63⟩ : ∃ z : Int, z = (if ((i) + (n)) < (M 280 row) then (-1 : Int) else if ((i) + (n)) = (M 280 row) then 0 else 1) := ⟨_, rfl⟩
                rw [← hz63]
                have gz63 : (z63 = -1 ∧ ((i) + (n)) < (M 280 row)) ∨ (z63 = 0 ∧ ((i) + (n)) = (M 280 row)) ∨ (z63 = 1 ∧ (M 280 row) < ((i) + (n))) := by rw [hz63]; split <;> first | omega | (split <;> omega)
                refine k_if_le (t := 73) i_186_64 rfl (fun h64 => ?_) (fun h64 => ?_)
                · refine k_iconst i_186_73 (by decide) ?_
                  refine k_istore (ls' := [some (vR (some 273)), some (vI row), some (vI i), some (vI n), some (vI 1), none, none]) i_186_74 rfl ?_
                  refine k_iconst i_186_76 (by decide) ?_
                  refine k_istore (ls' := [some (vR (some 273)), some (vI row), some (vI i), some (vI n), some (vI 1), some (vI 0), none]) i_186_77 rfl ?_
                  exfalso
                  omega
                · refine k_aload_n i_186_67 rfl ?_
                  refine k_iconst i_186_68 (by decide) ?_
                  refine k_invV (n := 1) (o' := 8) (av := [vR (some 273), vI 2]) (rest := []) (el := [some (vR (some 273)), some (vI 2)]) i_186_69 o_186 rfl v_123 rfl (s_273) rfl rfl rfl rfl rfl ?_
                  refine c_123 (by omega) ?_
                  show Ok _ 186 72 [some (vR (some 273)), some (vI row), some (vI i), some (vI n), none, none, none] [vI (-1000010 - 2)] (mu M 273 (6) (2)) _
                  refine k_iret i_186_72 rfl ?_
                  exfalso
                  omega
            · refine k_aload_n i_186_41 rfl ?_
              refine k_iconst i_186_42 (by decide) ?_
              refine k_invV (n := 1) (o' := 8) (av := [vR (some 273), vI 1]) (rest := []) (el := [some (vR (some 273)), some (vI 1)]) i_186_43 o_186 rfl v_123 rfl (s_273) rfl rfl rfl rfl rfl ?_
              refine c_123 (by omega) ?_
              show Ok _ 186 46 [some (vR (some 273)), some (vI row), some (vI i), some (vI n), none, none, none] [vI (-1000010 - 1)] (mu M 273 (6) (1)) _
              refine k_iret i_186_46 rfl ?_
              exfalso
              omega
          · refine k_ldc (z := -1000001) i_186_29 o_186 rfl (by decide) ?_
            refine k_iret i_186_31 rfl ?_
            refine ⟨_, rfl, ?_, h⟩
            first
              | exact congrArg (fun z => some (vI z)) (by omega)
              | (exfalso; omega)
      · refine k_ldc (z := -1000002) i_186_7 o_186 rfl (by decide) ?_
        refine k_iret i_186_9 rfl ?_
        refine ⟨_, rfl, ?_, h⟩
        first
          | exact congrArg (fun z => some (vI z)) (by omega)
          | (exfalso; omega)
    · refine k_iload_n i_108_17 rfl ?_
      refine k_bipush i_108_18 (by decide) ?_
      refine k_invS (n := 2) (av := [vI n, vI 16]) (rest := []) (el := [some (vI n), some (vI 16)]) i_108_20 o_108 rfl v_117 rfl rfl rfl rfl rfl rfl ?_
      refine c_117 (fun v20 hv20 => ?_)
      show Ok _ 108 23 [some (vR (some 0)), some (vI row), some (vI i), some (vI n), none, none] [vI v20] (M) _
      refine k_if_ne (t := 29) i_108_23 rfl (fun h23 => ?_) (fun h23 => ?_)
      · have hr1 := h.1 row (by omega) (by omega)
        refine k_aload_n i_108_29 rfl ?_
        refine k_getR (r := 1) i_108_30 o_108 rfl (by decide) (s_0) rfl ?_
        refine k_iload_n i_108_33 rfl ?_
        refine k_invV (n := 1) (o' := 4) (av := [vR (some 1), vI row]) (rest := []) (el := [some (vR (some 1)), some (vI row)]) i_108_34 o_108 rfl v_47 rfl (s_1) rfl rfl rfl rfl rfl ?_
        refine c_47 (by omega) (fun v34 hv34 => ?_)
        show Ok _ 108 37 [some (vR (some 0)), some (vI row), some (vI i), some (vI n), none, none] [vI v34] (M) _
        refine k_if_eq (t := 46) i_108_37 rfl (fun h37 => ?_) (fun h37 => ?_)
        · refine k_aload_n i_108_46 rfl ?_
          refine k_getR (r := 1) i_108_47 o_108 rfl (by decide) (s_0) rfl ?_
          refine k_iload_n i_108_50 rfl ?_
          refine k_iload_n i_108_51 rfl ?_
          refine k_iload_n i_108_52 rfl ?_
          refine k_invV (n := 3) (o' := 4) (av := [vR (some 1), vI row, vI i, vI n]) (rest := []) (el := [some (vR (some 1)), some (vI row), some (vI i), some (vI n)]) i_108_53 o_108 rfl v_50 rfl (s_1) rfl rfl rfl rfl rfl ?_
          refine c_50 (by omega) (by omega) (fun v53 hv53 => ?_)
          show Ok _ 108 56 [some (vR (some 0)), some (vI row), some (vI i), some (vI n), none, none] [vI v53] (M) _
          refine k_if_ne (t := 65) i_108_56 rfl (fun h56 => ?_) (fun h56 => ?_)
          · refine k_iconst i_108_65 (by decide) ?_
            refine k_istore (ls' := [some (vR (some 0)), some (vI row), some (vI i), some (vI n), some (vI 0), none]) i_108_66 rfl ?_
            have hrb : 0 ≤ row ∧ row < 8 := by omega
            have hr2 := hr1.2.2.2.2.resolve_left (fun q => by omega)
            have hit : ∀ q : Nat, (q : Int) < n → M 282 (40 * row + i + q) = M (3 + row.toNat) (i + q) := fun q hq => by
              rw [← hr2.2.2.2.2 (i + q) (by omega) (by omega), Int.add_assoc]
            refine l_108 (M0 := M) (K := K) hrb (by omega) k1 (fun N hN0 hbad => ?_) (fun x4 x5 N hN0 hall => ?_) 17 0 _ M (by omega) (fun _ _ _ => rfl) (fun q hq => by omega) (by omega)
            · show Ok (d + 24) 186 0 [some (vR (some 273)), some (vI row), some (vI i), some (vI n), none, none, none] [] N _
              have hz : ∀ (b : Nat) (j : Int), 200 < b → b ≠ 273 → N b j = M b j := fun b j hb hb2 => by
                exact hN0 b j (by omega)
              have z1 : N 274 231 = M 274 231 := hz _ _ (by omega) (by omega)
              have z2 : N 274 229 = kPe K := (hz _ _ (by omega) (by omega)).trans q1
              have z3 : N 281 row = M 281 row := hz _ _ (by omega) (by omega)
              have z4 : N 280 row = M 280 row := hz _ _ (by omega) (by omega)
              refine k_aload_n i_186_0 rfl ?_
              refine k_invV (n := 0) (o' := 8) (av := [vR (some 273)]) (rest := []) (el := [some (vR (some 273))]) i_186_1 o_186 rfl v_144 rfl (s_273) rfl rfl rfl rfl rfl ?_
              refine c_144 (fun v1 hv1 => ?_)
              show Ok _ 186 4 [some (vR (some 273)), some (vI row), some (vI i), some (vI n), none, none, none] [vI v1] (N) _
              refine k_if_ne (t := 10) i_186_4 rfl (fun h4 => ?_) (fun h4 => ?_)
              · refine k_iload_n i_186_10 rfl ?_
                refine k_invS (n := 1) (av := [vI row]) (rest := []) (el := [some (vI row)]) i_186_11 o_186 rfl v_125 rfl rfl rfl rfl rfl rfl ?_
                refine c_125 (fun v11 hv11 => ?_)
                show Ok _ 186 14 [some (vR (some 273)), some (vI row), some (vI i), some (vI n), none, none, none] [vI v11] (N) _
                refine k_if_eq (t := 29) i_186_14 rfl (fun h14 => ?_) (fun h14 => ?_)
                · refine k_ldc (z := -1000001) i_186_29 o_186 rfl (by decide) ?_
                  refine k_iret i_186_31 rfl ?_
                  exfalso
                  omega
                · refine k_iload_n i_186_17 rfl ?_
                  refine k_i2l i_186_18 ?_
                  refine k_lconst (z := 0) i_186_19 rfl ?_
                  refine k_ldc2 (z := 16) i_186_20 o_186 rfl (by decide) ?_
                  refine k_invS (n := 3) (av := [vL n, vL 0, vL 16]) (rest := []) (el := [some (vL n), none, some (vL 0), none, some (vL 16), none]) i_186_23 o_186 rfl v_122 rfl rfl rfl rfl rfl rfl ?_
                  refine c_122 (fun v23 hv23 => ?_)
                  show Ok _ 186 26 [some (vR (some 273)), some (vI row), some (vI i), some (vI n), none, none, none] [vI v23] (N) _
                  refine k_if_ne (t := 32) i_186_26 rfl (fun h26 => ?_) (fun h26 => ?_)
                  · refine k_aload_n i_186_32 rfl ?_
                    refine k_getR (r := 281) i_186_33 o_186 rfl (by decide) (s_273) rfl ?_
                    refine k_iload_n i_186_36 rfl ?_
                    refine k_bald i_186_37 (s_281) (by omega) ?_
                    refine k_if_ne (t := 47) i_186_38 rfl (fun h38 => ?_) (fun h38 => ?_)
                    · refine k_iload_n i_186_47 rfl ?_
                      refine k_if_lt (t := 67) i_186_48 rfl (fun h48 => ?_) (fun h48 => ?_)
                      · refine k_aload_n i_186_67 rfl ?_
                        refine k_iconst i_186_68 (by decide) ?_
                        refine k_invV (n := 1) (o' := 8) (av := [vR (some 273), vI 2]) (rest := []) (el := [some (vR (some 273)), some (vI 2)]) i_186_69 o_186 rfl v_123 rfl (s_273) rfl rfl rfl rfl rfl ?_
                        refine c_123 (by omega) ?_
                        show Ok _ 186 72 [some (vR (some 273)), some (vI row), some (vI i), some (vI n), none, none, none] [vI (-1000010 - 2)] (mu N 273 (6) (2)) _
                        refine k_iret i_186_72 rfl ?_
                        exfalso
                        omega
                      · refine k_iload_n i_186_51 rfl ?_
                        refine k_i2l i_186_52 ?_
                        refine k_iload_n i_186_53 rfl ?_
                        refine k_i2l i_186_54 ?_
                        refine k_ladd i_186_55 ⟨by omega, by omega⟩ ?_
                        refine k_aload_n i_186_56 rfl ?_
                        refine k_getR (r := 280) i_186_57 o_186 rfl (by decide) (s_273) rfl ?_
                        refine k_iload_n i_186_60 rfl ?_
                        refine k_iald i_186_61 (s_280) (by omega) ?_
                        refine k_i2l i_186_62 ?_
                        refine k_lcmp i_186_63 ?_
                        obtain ⟨z63, hz63⟩ : ∃ z : Int, z = (if ((i) + (n)) < (N 280 row) then (-1 : Int) else if ((i) + (n)) = (N 280 row) then 0 else 1) := ⟨_, rfl⟩
                        rw [← hz63]
                        have gz63 : (z63 = -1 ∧ ((i) + (n)) < (N 280 row)) ∨ (z63 = 0 ∧ ((i) + (n)) = (N 280 row)) ∨ (z63 = 1 ∧ (N 280 row) < ((i) + (n))) := by rw [hz63]; split <;> first | omega | (split <;> omega)
                        refine k_if_le (t := 73) i_186_64 rfl (fun h64 => ?_) (fun h64 => ?_)
                        · refine k_iconst i_186_73 (by decide) ?_
                          refine k_istore (ls' := [some (vR (some 273)), some (vI row), some (vI i), some (vI n), some (vI 1), none, none]) i_186_74 rfl ?_
                          refine k_iconst i_186_76 (by decide) ?_
                          refine k_istore (ls' := [some (vR (some 273)), some (vI row), some (vI i), some (vI n), some (vI 1), some (vI 0), none]) i_186_77 rfl ?_
                          refine l_186a (K := K) hrb (by omega) z2 (by omega) (fun rt x5 hrt => ?_) 17 0 1 (by omega) (Or.inl ⟨rfl, fun q hq => by omega⟩) (by omega)
                          have hrt0 : rt = 0 := by
                            rcases hrt with z | z
                            · obtain ⟨q, q1, q2⟩ := hbad
                              have z5 := z.2 q q1
                              rw [hz _ _ (by omega) (by omega), hit q q1] at z5
                              exact absurd z5 q2
                            · exact z.1
                          refine k_iload i_186_124 rfl ?_
                          refine k_if_ne (t := 132) i_186_126 rfl (fun h126 => (by exfalso; omega)) (fun h126 => ?_)
                          refine k_ldc (z := -1000001) i_186_129 o_186 rfl (by decide) ?_
                          refine k_iret i_186_131 rfl ?_
                          exact ⟨_, rfl, rfl, h.scr (fun b j b0 b1 b2 b3 b4 => hN0 b j (by omega))⟩
                        · refine k_aload_n i_186_67 rfl ?_
                          refine k_iconst i_186_68 (by decide) ?_
                          refine k_invV (n := 1) (o' := 8) (av := [vR (some 273), vI 2]) (rest := []) (el := [some (vR (some 273)), some (vI 2)]) i_186_69 o_186 rfl v_123 rfl (s_273) rfl rfl rfl rfl rfl ?_
                          refine c_123 (by omega) ?_
                          show Ok _ 186 72 [some (vR (some 273)), some (vI row), some (vI i), some (vI n), none, none, none] [vI (-1000010 - 2)] (mu N 273 (6) (2)) _
                          refine k_iret i_186_72 rfl ?_
                          exfalso
                          omega
                    · refine k_aload_n i_186_41 rfl ?_
                      refine k_iconst i_186_42 (by decide) ?_
                      refine k_invV (n := 1) (o' := 8) (av := [vR (some 273), vI 1]) (rest := []) (el := [some (vR (some 273)), some (vI 1)]) i_186_43 o_186 rfl v_123 rfl (s_273) rfl rfl rfl rfl rfl ?_
                      refine c_123 (by omega) ?_
                      show Ok _ 186 46 [some (vR (some 273)), some (vI row), some (vI i), some (vI n), none, none, none] [vI (-1000010 - 1)] (mu N 273 (6) (1)) _
                      refine k_iret i_186_46 rfl ?_
                      exfalso
                      omega
                  · refine k_ldc (z := -1000001) i_186_29 o_186 rfl (by decide) ?_
                    refine k_iret i_186_31 rfl ?_
                    exfalso
                    omega
              · refine k_ldc (z := -1000002) i_186_7 o_186 rfl (by decide) ?_
                refine k_iret i_186_9 rfl ?_
                exfalso
                omega
            · refine k_aload_n i_108_118 rfl ?_
              refine k_aload_n i_108_119 rfl ?_
              refine k_getR (r := 177) i_108_120 o_108 rfl (by decide) (s_0) rfl ?_
              refine k_iload_n i_108_123 rfl ?_
              refine k_invV (n := 1) (o' := 2) (av := [vR (some 177), vI n]) (rest := [vR (some 0)]) (el := [some (vR (some 177)), some (vI n)]) i_108_124 o_108 rfl v_21 rfl (s_177) rfl rfl rfl rfl rfl ?_
              refine c_21 hKo (hK.fr (fun b j h0 h1 => hN0 b j (by omega))) hT (hR.fr (fun b j h0 h1 => hN0 b j (by omega))) (by omega) (by omega) (fun vA M1 hvA ho1 => ?_)
              show Ok _ 108 127 [some (vR (some 0)), some (vI row), some (vI i), some (vI n), x4, x5] [vI vA, vR (some 0)] (M1) _
              refine k_invV (n := 1) (o' := 7) (av := [vR (some 0), vI vA]) (rest := []) (el := [some (vR (some 0)), some (vI vA)]) i_108_127 o_108 rfl v_120 rfl (s_0) rfl rfl rfl rfl rfl ?_
              refine c_120 ?_
              show Ok _ 108 130 [some (vR (some 0)), some (vI row), some (vI i), some (vI n), x4, x5] [vI vA] (mu M1 0 (13) (0)) _
              refine k_iret i_108_130 rfl ?_
              show Ok (d + 24) 186 0 [some (vR (some 273)), some (vI row), some (vI i), some (vI n), none, none, none] [] (mu M1 0 (13) (0)) _
              obtain ⟨P, hP⟩ : ∃ P : Mem, P = mu M1 0 (13) (0) := ⟨_, rfl⟩
              rw [← hP]
              have hz : ∀ (b : Nat) (j : Int), 200 < b → b ≠ 273 → P b j = M b j := fun b j hb hb2 => by
                rw [hP, mu_ne (by omega), ho1 b j (by omega), hN0 b j (by omega)]
              have z1 : P 274 231 = M 274 231 := hz _ _ (by omega) (by omega)
              have z2 : P 274 229 = kPe K := (hz _ _ (by omega) (by omega)).trans q1
              have z3 : P 281 row = M 281 row := hz _ _ (by omega) (by omega)
              have z4 : P 280 row = M 280 row := hz _ _ (by omega) (by omega)
              have hKP : RepKR P K 0 := hKR.fr (fun j => hz 274 j (by omega) (by omega))
              have hRP : RepR P K 0 T := hRR.off (fun j => hz 274 j (by omega) (by omega))
              refine k_aload_n i_186_0 rfl ?_
              refine k_invV (n := 0) (o' := 8) (av := [vR (some 273)]) (rest := []) (el := [some (vR (some 273))]) i_186_1 o_186 rfl v_144 rfl (s_273) rfl rfl rfl rfl rfl ?_
              refine c_144 (fun v1 hv1 => ?_)
              show Ok _ 186 4 [some (vR (some 273)), some (vI row), some (vI i), some (vI n), none, none, none] [vI v1] (P) _
              refine k_if_ne (t := 10) i_186_4 rfl (fun h4 => ?_) (fun h4 => ?_)
              · refine k_iload_n i_186_10 rfl ?_
                refine k_invS (n := 1) (av := [vI row]) (rest := []) (el := [some (vI row)]) i_186_11 o_186 rfl v_125 rfl rfl rfl rfl rfl rfl ?_
                refine c_125 (fun v11 hv11 => ?_)
                show Ok _ 186 14 [some (vR (some 273)), some (vI row), some (vI i), some (vI n), none, none, none] [vI v11] (P) _
                refine k_if_eq (t := 29) i_186_14 rfl (fun h14 => ?_) (fun h14 => ?_)
                · refine k_ldc (z := -1000001) i_186_29 o_186 rfl (by decide) ?_
                  refine k_iret i_186_31 rfl ?_
                  exfalso
                  omega
                · refine k_iload_n i_186_17 rfl ?_
                  refine k_i2l i_186_18 ?_
                  refine k_lconst (z := 0) i_186_19 rfl ?_
                  refine k_ldc2 (z := 16) i_186_20 o_186 rfl (by decide) ?_
                  refine k_invS (n := 3) (av := [vL n, vL 0, vL 16]) (rest := []) (el := [some (vL n), none, some (vL 0), none, some (vL 16), none]) i_186_23 o_186 rfl v_122 rfl rfl rfl rfl rfl rfl ?_
                  refine c_122 (fun v23 hv23 => ?_)
                  show Ok _ 186 26 [some (vR (some 273)), some (vI row), some (vI i), some (vI n), none, none, none] [vI v23] (P) _
                  refine k_if_ne (t := 32) i_186_26 rfl (fun h26 => ?_) (fun h26 => ?_)
                  · refine k_aload_n i_186_32 rfl ?_
                    refine k_getR (r := 281) i_186_33 o_186 rfl (by decide) (s_273) rfl ?_
                    refine k_iload_n i_186_36 rfl ?_
                    refine k_bald i_186_37 (s_281) (by omega) ?_
                    refine k_if_ne (t := 47) i_186_38 rfl (fun h38 => ?_) (fun h38 => ?_)
                    · refine k_iload_n i_186_47 rfl ?_
                      refine k_if_lt (t := 67) i_186_48 rfl (fun h48 => ?_) (fun h48 => ?_)
                      · refine k_aload_n i_186_67 rfl ?_
                        refine k_iconst i_186_68 (by decide) ?_
                        refine k_invV (n := 1) (o' := 8) (av := [vR (some 273), vI 2]) (rest := []) (el := [some (vR (some 273)), some (vI 2)]) i_186_69 o_186 rfl v_123 rfl (s_273) rfl rfl rfl rfl rfl ?_
                        refine c_123 (by omega) ?_
                        show Ok _ 186 72 [some (vR (some 273)), some (vI row), some (vI i), some (vI n), none, none, none] [vI (-1000010 - 2)] (mu P 273 (6) (2)) _
                        refine k_iret i_186_72 rfl ?_
                        exfalso
                        omega
                      · refine k_iload_n i_186_51 rfl ?_
                        refine k_i2l i_186_52 ?_
                        refine k_iload_n i_186_53 rfl ?_
                        refine k_i2l i_186_54 ?_
                        refine k_ladd i_186_55 ⟨by omega, by omega⟩ ?_
                        refine k_aload_n i_186_56 rfl ?_
                        refine k_getR (r := 280) i_186_57 o_186 rfl (by decide) (s_273) rfl ?_
                        refine k_iload_n i_186_60 rfl ?_
                        refine k_iald i_186_61 (s_280) (by omega) ?_
                        refine k_i2l i_186_62 ?_
                        refine k_lcmp i_186_63 ?_
                        obtain ⟨z63, hz63⟩ : ∃ z : Int, z = (if ((i) + (n)) < (P 280 row) then (-1 : Int) else if ((i) + (n)) = (P 280 row) then 0 else 1) := ⟨_, rfl⟩
                        rw [← hz63]
                        have gz63 : (z63 = -1 ∧ ((i) + (n)) < (P 280 row)) ∨ (z63 = 0 ∧ ((i) + (n)) = (P 280 row)) ∨ (z63 = 1 ∧ (P 280 row) < ((i) + (n))) := by rw [hz63]; split <;> first | omega | (split <;> omega)
                        refine k_if_le (t := 73) i_186_64 rfl (fun h64 => ?_) (fun h64 => ?_)
                        · refine k_iconst i_186_73 (by decide) ?_
                          refine k_istore (ls' := [some (vR (some 273)), some (vI row), some (vI i), some (vI n), some (vI 1), none, none]) i_186_74 rfl ?_
                          refine k_iconst i_186_76 (by decide) ?_
                          refine k_istore (ls' := [some (vR (some 273)), some (vI row), some (vI i), some (vI n), some (vI 1), some (vI 0), none]) i_186_77 rfl ?_
                          refine l_186a (K := K) hrb (by omega) z2 (by omega) (fun rt x5 hrt => ?_) 17 0 1 (by omega) (Or.inl ⟨rfl, fun q hq => by omega⟩) (by omega)
                          have hrt0 : rt = 1 := by
                            rcases hrt with z | z
                            · exact z.1
                            · obtain ⟨q, q1, q2⟩ := z.2
                              rw [hz _ _ (by omega) (by omega), hit q q1] at q2
                              exact absurd (hall q q1).2 q2
                          refine k_iload i_186_124 rfl ?_
                          refine k_if_ne (t := 132) i_186_126 rfl (fun h126 => ?_) (fun h126 => (by exfalso; omega))
                          refine k_iconst i_186_132 (by decide) ?_
                          refine k_istore (ls' := [some (vR (some 273)), some (vI row), some (vI i), some (vI n), some (vI rt), some (vI 0), none]) i_186_133 rfl ?_
                          refine k_aload_n i_186_135 rfl ?_
                          refine k_invV (n := 0) (o' := 8) (av := [vR (some 273)]) (rest := []) (el := [some (vR (some 273)), none]) i_186_136 o_186 rfl v_165 rfl (s_273) rfl rfl rfl rfl rfl ?_
                          refine c_165 ?_
                          show Ok _ 186 139 [some (vR (some 273)), some (vI row), some (vI i), some (vI n), some (vI rt), some (vI 0), none] [] (cpn P 274 278 232) _
                          refine l_186b (M0 := P) (K := K) (T := T) hKo hKP hT (by omega) hrb (by omega) (fun v2 M2 hv2 hw => ?_) 201 0 _ _ (by omega) (fun j hj => by omega) ((Wk.st P).r hRP) (OutR.rf _) (by omega)
                          have ev : v2 = vA := Fst.uq hv2 hvA (fun t _ => just_cg (fun j hj => by
                            show P 282 (40 * row + i + j) = N 178 j
                            rw [hz _ _ (by omega) (by omega), hit j hj, (hall j hj).1]))
                          refine ⟨_, rfl, congrArg (fun z => some (vI z)) ev, (h.st2 0).scr (fun b j b0 b1 b2 b3 b4 => ?_)⟩
                          show (if b = 273 ∧ j = 6 then (0 : Int) else M2 b j) = (if b = 273 ∧ j = 6 then (0 : Int) else if b = 0 ∧ j = 13 then (0 : Int) else M b j)
                          rw [hw.1 b j b1 b3 b4, hP]
                          show (if b = 273 ∧ j = 6 then (0 : Int) else if b = 0 ∧ j = 13 then (0 : Int) else M1 b j) = _
                          rw [ho1 b j (by omega), hN0 b j (by omega)]
                        · refine k_aload_n i_186_67 rfl ?_
                          refine k_iconst i_186_68 (by decide) ?_
                          refine k_invV (n := 1) (o' := 8) (av := [vR (some 273), vI 2]) (rest := []) (el := [some (vR (some 273)), some (vI 2)]) i_186_69 o_186 rfl v_123 rfl (s_273) rfl rfl rfl rfl rfl ?_
                          refine c_123 (by omega) ?_
                          show Ok _ 186 72 [some (vR (some 273)), some (vI row), some (vI i), some (vI n), none, none, none] [vI (-1000010 - 2)] (mu P 273 (6) (2)) _
                          refine k_iret i_186_72 rfl ?_
                          exfalso
                          omega
                    · refine k_aload_n i_186_41 rfl ?_
                      refine k_iconst i_186_42 (by decide) ?_
                      refine k_invV (n := 1) (o' := 8) (av := [vR (some 273), vI 1]) (rest := []) (el := [some (vR (some 273)), some (vI 1)]) i_186_43 o_186 rfl v_123 rfl (s_273) rfl rfl rfl rfl rfl ?_
                      refine c_123 (by omega) ?_
                      show Ok _ 186 46 [some (vR (some 273)), some (vI row), some (vI i), some (vI n), none, none, none] [vI (-1000010 - 1)] (mu P 273 (6) (1)) _
                      refine k_iret i_186_46 rfl ?_
                      exfalso
                      omega
                  · refine k_ldc (z := -1000001) i_186_29 o_186 rfl (by decide) ?_
                    refine k_iret i_186_31 rfl ?_
                    exfalso
                    omega
              · refine k_ldc (z := -1000002) i_186_7 o_186 rfl (by decide) ?_
                refine k_iret i_186_9 rfl ?_
                exfalso
                omega
          · refine k_aload_n i_108_59 rfl ?_
            refine k_iconst i_108_60 (by decide) ?_
            refine k_invV (n := 1) (o' := 7) (av := [vR (some 0), vI 2]) (rest := []) (el := [some (vR (some 0)), some (vI 2)]) i_108_61 o_108 rfl v_119 rfl (s_0) rfl rfl rfl rfl rfl ?_
            refine c_119 (by omega) ?_
            show Ok _ 108 64 [some (vR (some 0)), some (vI row), some (vI i), some (vI n), none, none] [vI (-1000010 - 2)] (mu M 0 (13) (2)) _
            refine k_iret i_108_64 rfl ?_
            show Ok (d + 24) 186 0 [some (vR (some 273)), some (vI row), some (vI i), some (vI n), none, none, none] [] (mu M 0 (13) (2)) _
            obtain ⟨N, hN⟩ : ∃ N : Mem, N = mu M 0 (13) (2) := ⟨_, rfl⟩
            rw [← hN]
            have hz : ∀ (b : Nat) (j : Int), 200 < b → b ≠ 273 → N b j = M b j := fun b j hb hb2 => by
              rw [hN, mu_ne (by omega)]
            have z1 : N 274 231 = M 274 231 := hz _ _ (by omega) (by omega)
            have z2 : N 274 229 = kPe K := (hz _ _ (by omega) (by omega)).trans q1
            have z3 : N 281 row = M 281 row := hz _ _ (by omega) (by omega)
            have z4 : N 280 row = M 280 row := hz _ _ (by omega) (by omega)
            refine k_aload_n i_186_0 rfl ?_
            refine k_invV (n := 0) (o' := 8) (av := [vR (some 273)]) (rest := []) (el := [some (vR (some 273))]) i_186_1 o_186 rfl v_144 rfl (s_273) rfl rfl rfl rfl rfl ?_
            refine c_144 (fun v1 hv1 => ?_)
            show Ok _ 186 4 [some (vR (some 273)), some (vI row), some (vI i), some (vI n), none, none, none] [vI v1] (N) _
            refine k_if_ne (t := 10) i_186_4 rfl (fun h4 => ?_) (fun h4 => ?_)
            · refine k_iload_n i_186_10 rfl ?_
              refine k_invS (n := 1) (av := [vI row]) (rest := []) (el := [some (vI row)]) i_186_11 o_186 rfl v_125 rfl rfl rfl rfl rfl rfl ?_
              refine c_125 (fun v11 hv11 => ?_)
              show Ok _ 186 14 [some (vR (some 273)), some (vI row), some (vI i), some (vI n), none, none, none] [vI v11] (N) _
              refine k_if_eq (t := 29) i_186_14 rfl (fun h14 => ?_) (fun h14 => ?_)
              · refine k_ldc (z := -1000001) i_186_29 o_186 rfl (by decide) ?_
                refine k_iret i_186_31 rfl ?_
                exfalso
                omega
              · refine k_iload_n i_186_17 rfl ?_
                refine k_i2l i_186_18 ?_
                refine k_lconst (z := 0) i_186_19 rfl ?_
                refine k_ldc2 (z := 16) i_186_20 o_186 rfl (by decide) ?_
                refine k_invS (n := 3) (av := [vL n, vL 0, vL 16]) (rest := []) (el := [some (vL n), none, some (vL 0), none, some (vL 16), none]) i_186_23 o_186 rfl v_122 rfl rfl rfl rfl rfl rfl ?_
                refine c_122 (fun v23 hv23 => ?_)
                show Ok _ 186 26 [some (vR (some 273)), some (vI row), some (vI i), some (vI n), none, none, none] [vI v23] (N) _
                refine k_if_ne (t := 32) i_186_26 rfl (fun h26 => ?_) (fun h26 => ?_)
                · refine k_aload_n i_186_32 rfl ?_
                  refine k_getR (r := 281) i_186_33 o_186 rfl (by decide) (s_273) rfl ?_
                  refine k_iload_n i_186_36 rfl ?_
                  refine k_bald i_186_37 (s_281) (by omega) ?_
                  refine k_if_ne (t := 47) i_186_38 rfl (fun h38 => ?_) (fun h38 => ?_)
                  · refine k_iload_n i_186_47 rfl ?_
                    refine k_if_lt (t := 67) i_186_48 rfl (fun h48 => ?_) (fun h48 => ?_)
                    · refine k_aload_n i_186_67 rfl ?_
                      refine k_iconst i_186_68 (by decide) ?_
                      refine k_invV (n := 1) (o' := 8) (av := [vR (some 273), vI 2]) (rest := []) (el := [some (vR (some 273)), some (vI 2)]) i_186_69 o_186 rfl v_123 rfl (s_273) rfl rfl rfl rfl rfl ?_
                      refine c_123 (by omega) ?_
                      show Ok _ 186 72 [some (vR (some 273)), some (vI row), some (vI i), some (vI n), none, none, none] [vI (-1000010 - 2)] (mu N 273 (6) (2)) _
                      refine k_iret i_186_72 rfl ?_
                      first
                        | (exfalso; omega)
                        | exact ⟨_, rfl, rfl, by rw [hN]; exact h.st2 2⟩
                    · refine k_iload_n i_186_51 rfl ?_
                      refine k_i2l i_186_52 ?_
                      refine k_iload_n i_186_53 rfl ?_
                      refine k_i2l i_186_54 ?_
                      refine k_ladd i_186_55 ⟨by omega, by omega⟩ ?_
                      refine k_aload_n i_186_56 rfl ?_
                      refine k_getR (r := 280) i_186_57 o_186 rfl (by decide) (s_273) rfl ?_
                      refine k_iload_n i_186_60 rfl ?_
                      refine k_iald i_186_61 (s_280) (by omega) ?_
                      refine k_i2l i_186_62 ?_
                      refine k_lcmp i_186_63 ?_
                      obtain ⟨z63, hz63⟩ : ∃ z : Int, z = (if ((i) + (n)) < (N 280 row) then (-1 : Int) else if ((i) + (n)) = (N 280 row) then 0 else 1) := ⟨_, rfl⟩
                      rw [← hz63]
                      have gz63 : (z63 = -1 ∧ ((i) + (n)) < (N 280 row)) ∨ (z63 = 0 ∧ ((i) + (n)) = (N 280 row)) ∨ (z63 = 1 ∧ (N 280 row) < ((i) + (n))) := by rw [hz63]; split <;> first | omega | (split <;> omega)
                      refine k_if_le (t := 73) i_186_64 rfl (fun h64 => ?_) (fun h64 => ?_)
                      · refine k_iconst i_186_73 (by decide) ?_
                        refine k_istore (ls' := [some (vR (some 273)), some (vI row), some (vI i), some (vI n), some (vI 1), none, none]) i_186_74 rfl ?_
                        refine k_iconst i_186_76 (by decide) ?_
                        refine k_istore (ls' := [some (vR (some 273)), some (vI row), some (vI i), some (vI n), some (vI 1), some (vI 0), none]) i_186_77 rfl ?_
                        exfalso
                        omega
                      · refine k_aload_n i_186_67 rfl ?_
                        refine k_iconst i_186_68 (by decide) ?_
                        refine k_invV (n := 1) (o' := 8) (av := [vR (some 273), vI 2]) (rest := []) (el := [some (vR (some 273)), some (vI 2)]) i_186_69 o_186 rfl v_123 rfl (s_273) rfl rfl rfl rfl rfl ?_
                        refine c_123 (by omega) ?_
                        show Ok _ 186 72 [some (vR (some 273)), some (vI row), some (vI i), some (vI n), none, none, none] [vI (-1000010 - 2)] (mu N 273 (6) (2)) _
                        refine k_iret i_186_72 rfl ?_
                        first
                          | (exfalso; omega)
                          | exact ⟨_, rfl, rfl, by rw [hN]; exact h.st2 2⟩
                  · refine k_aload_n i_186_41 rfl ?_
                    refine k_iconst i_186_42 (by decide) ?_
                    refine k_invV (n := 1) (o' := 8) (av := [vR (some 273), vI 1]) (rest := []) (el := [some (vR (some 273)), some (vI 1)]) i_186_43 o_186 rfl v_123 rfl (s_273) rfl rfl rfl rfl rfl ?_
                    refine c_123 (by omega) ?_
                    show Ok _ 186 46 [some (vR (some 273)), some (vI row), some (vI i), some (vI n), none, none, none] [vI (-1000010 - 1)] (mu N 273 (6) (1)) _
                    refine k_iret i_186_46 rfl ?_
                    first
                      | (exfalso; omega)
                      | exact ⟨_, rfl, rfl, by rw [hN]; exact h.st2 1⟩
                · refine k_ldc (z := -1000001) i_186_29 o_186 rfl (by decide) ?_
                  refine k_iret i_186_31 rfl ?_
                  exfalso
                  omega
            · refine k_ldc (z := -1000002) i_186_7 o_186 rfl (by decide) ?_
              refine k_iret i_186_9 rfl ?_
              exfalso
              omega
        · refine k_aload_n i_108_40 rfl ?_
          refine k_iconst i_108_41 (by decide) ?_
          refine k_invV (n := 1) (o' := 7) (av := [vR (some 0), vI 1]) (rest := []) (el := [some (vR (some 0)), some (vI 1)]) i_108_42 o_108 rfl v_119 rfl (s_0) rfl rfl rfl rfl rfl ?_
          refine c_119 (by omega) ?_
          show Ok _ 108 45 [some (vR (some 0)), some (vI row), some (vI i), some (vI n), none, none] [vI (-1000010 - 1)] (mu M 0 (13) (1)) _
          refine k_iret i_108_45 rfl ?_
          show Ok (d + 24) 186 0 [some (vR (some 273)), some (vI row), some (vI i), some (vI n), none, none, none] [] (mu M 0 (13) (1)) _
          obtain ⟨N, hN⟩ : ∃ N : Mem, N = mu M 0 (13) (1) := ⟨_, rfl⟩
          rw [← hN]
          have hz : ∀ (b : Nat) (j : Int), 200 < b → b ≠ 273 → N b j = M b j := fun b j hb hb2 => by
            rw [hN, mu_ne (by omega)]
          have z1 : N 274 231 = M 274 231 := hz _ _ (by omega) (by omega)
          have z2 : N 274 229 = kPe K := (hz _ _ (by omega) (by omega)).trans q1
          have z3 : N 281 row = M 281 row := hz _ _ (by omega) (by omega)
          have z4 : N 280 row = M 280 row := hz _ _ (by omega) (by omega)
          refine k_aload_n i_186_0 rfl ?_
          refine k_invV (n := 0) (o' := 8) (av := [vR (some 273)]) (rest := []) (el := [some (vR (some 273))]) i_186_1 o_186 rfl v_144 rfl (s_273) rfl rfl rfl rfl rfl ?_
          refine c_144 (fun v1 hv1 => ?_)
          show Ok _ 186 4 [some (vR (some 273)), some (vI row), some (vI i), some (vI n), none, none, none] [vI v1] (N) _
          refine k_if_ne (t := 10) i_186_4 rfl (fun h4 => ?_) (fun h4 => ?_)
          · refine k_iload_n i_186_10 rfl ?_
            refine k_invS (n := 1) (av := [vI row]) (rest := []) (el := [some (vI row)]) i_186_11 o_186 rfl v_125 rfl rfl rfl rfl rfl rfl ?_
            refine c_125 (fun v11 hv11 => ?_)
            show Ok _ 186 14 [some (vR (some 273)), some (vI row), some (vI i), some (vI n), none, none, none] [vI v11] (N) _
            refine k_if_eq (t := 29) i_186_14 rfl (fun h14 => ?_) (fun h14 => ?_)
            · refine k_ldc (z := -1000001) i_186_29 o_186 rfl (by decide) ?_
              refine k_iret i_186_31 rfl ?_
              exfalso
              omega
            · refine k_iload_n i_186_17 rfl ?_
              refine k_i2l i_186_18 ?_
              refine k_lconst (z := 0) i_186_19 rfl ?_
              refine k_ldc2 (z := 16) i_186_20 o_186 rfl (by decide) ?_
              refine k_invS (n := 3) (av := [vL n, vL 0, vL 16]) (rest := []) (el := [some (vL n), none, some (vL 0), none, some (vL 16), none]) i_186_23 o_186 rfl v_122 rfl rfl rfl rfl rfl rfl ?_
              refine c_122 (fun v23 hv23 => ?_)
              show Ok _ 186 26 [some (vR (some 273)), some (vI row), some (vI i), some (vI n), none, none, none] [vI v23] (N) _
              refine k_if_ne (t := 32) i_186_26 rfl (fun h26 => ?_) (fun h26 => ?_)
              · refine k_aload_n i_186_32 rfl ?_
                refine k_getR (r := 281) i_186_33 o_186 rfl (by decide) (s_273) rfl ?_
                refine k_iload_n i_186_36 rfl ?_
                refine k_bald i_186_37 (s_281) (by omega) ?_
                refine k_if_ne (t := 47) i_186_38 rfl (fun h38 => ?_) (fun h38 => ?_)
                · refine k_iload_n i_186_47 rfl ?_
                  refine k_if_lt (t := 67) i_186_48 rfl (fun h48 => ?_) (fun h48 => ?_)
                  · refine k_aload_n i_186_67 rfl ?_
                    refine k_iconst i_186_68 (by decide) ?_
                    refine k_invV (n := 1) (o' := 8) (av := [vR (some 273), vI 2]) (rest := []) (el := [some (vR (some 273)), some (vI 2)]) i_186_69 o_186 rfl v_123 rfl (s_273) rfl rfl rfl rfl rfl ?_
                    refine c_123 (by omega) ?_
                    show Ok _ 186 72 [some (vR (some 273)), some (vI row), some (vI i), some (vI n), none, none, none] [vI (-1000010 - 2)] (mu N 273 (6) (2)) _
                    refine k_iret i_186_72 rfl ?_
                    first
                      | (exfalso; omega)
                      | exact ⟨_, rfl, rfl, by rw [hN]; exact h.st2 2⟩
                  · refine k_iload_n i_186_51 rfl ?_
                    refine k_i2l i_186_52 ?_
                    refine k_iload_n i_186_53 rfl ?_
                    refine k_i2l i_186_54 ?_
                    refine k_ladd i_186_55 ⟨by omega, by omega⟩ ?_
                    refine k_aload_n i_186_56 rfl ?_
                    refine k_getR (r := 280) i_186_57 o_186 rfl (by decide) (s_273) rfl ?_
                    refine k_iload_n i_186_60 rfl ?_
                    refine k_iald i_186_61 (s_280) (by omega) ?_
                    refine k_i2l i_186_62 ?_
                    refine k_lcmp i_186_63 ?_
                    obtain ⟨z63, hz63⟩ : ∃ z : Int, z = (if ((i) + (n)) < (N 280 row) then (-1 : Int) else if ((i) + (n)) = (N 280 row) then 0 else 1) := ⟨_, rfl⟩
                    rw [← hz63]
                    have gz63 : (z63 = -1 ∧ ((i) + (n)) < (N 280 row)) ∨ (z63 = 0 ∧ ((i) + (n)) = (N 280 row)) ∨ (z63 = 1 ∧ (N 280 row) < ((i) + (n))) := by rw [hz63]; split <;> first | omega | (split <;> omega)
                    refine k_if_le (t := 73) i_186_64 rfl (fun h64 => ?_) (fun h64 => ?_)
                    · refine k_iconst i_186_73 (by decide) ?_
                      refine k_istore (ls' := [some (vR (some 273)), some (vI row), some (vI i), some (vI n), some (vI 1), none, none]) i_186_74 rfl ?_
                      refine k_iconst i_186_76 (by decide) ?_
                      refine k_istore (ls' := [some (vR (some 273)), some (vI row), some (vI i), some (vI n), some (vI 1), some (vI 0), none]) i_186_77 rfl ?_
                      exfalso
                      omega
                    · refine k_aload_n i_186_67 rfl ?_
                      refine k_iconst i_186_68 (by decide) ?_
                      refine k_invV (n := 1) (o' := 8) (av := [vR (some 273), vI 2]) (rest := []) (el := [some (vR (some 273)), some (vI 2)]) i_186_69 o_186 rfl v_123 rfl (s_273) rfl rfl rfl rfl rfl ?_
                      refine c_123 (by omega) ?_
                      show Ok _ 186 72 [some (vR (some 273)), some (vI row), some (vI i), some (vI n), none, none, none] [vI (-1000010 - 2)] (mu N 273 (6) (2)) _
                      refine k_iret i_186_72 rfl ?_
                      first
                        | (exfalso; omega)
                        | exact ⟨_, rfl, rfl, by rw [hN]; exact h.st2 2⟩
                · refine k_aload_n i_186_41 rfl ?_
                  refine k_iconst i_186_42 (by decide) ?_
                  refine k_invV (n := 1) (o' := 8) (av := [vR (some 273), vI 1]) (rest := []) (el := [some (vR (some 273)), some (vI 1)]) i_186_43 o_186 rfl v_123 rfl (s_273) rfl rfl rfl rfl rfl ?_
                  refine c_123 (by omega) ?_
                  show Ok _ 186 46 [some (vR (some 273)), some (vI row), some (vI i), some (vI n), none, none, none] [vI (-1000010 - 1)] (mu N 273 (6) (1)) _
                  refine k_iret i_186_46 rfl ?_
                  first
                    | (exfalso; omega)
                    | exact ⟨_, rfl, rfl, by rw [hN]; exact h.st2 1⟩
              · refine k_ldc (z := -1000001) i_186_29 o_186 rfl (by decide) ?_
                refine k_iret i_186_31 rfl ?_
                exfalso
                omega
          · refine k_ldc (z := -1000002) i_186_7 o_186 rfl (by decide) ?_
            refine k_iret i_186_9 rfl ?_
            exfalso
            omega
      · refine k_ldc (z := -1000001) i_108_26 o_108 rfl (by decide) ?_
        refine k_iret i_108_28 rfl ?_
        show Ok (d + 24) 186 0 [some (vR (some 273)), some (vI row), some (vI i), some (vI n), none, none, none] [] M _
        refine k_aload_n i_186_0 rfl ?_
        refine k_invV (n := 0) (o' := 8) (av := [vR (some 273)]) (rest := []) (el := [some (vR (some 273))]) i_186_1 o_186 rfl v_144 rfl (s_273) rfl rfl rfl rfl rfl ?_
        refine c_144 (fun v1 hv1 => ?_)
        show Ok _ 186 4 [some (vR (some 273)), some (vI row), some (vI i), some (vI n), none, none, none] [vI v1] (M) _
        refine k_if_ne (t := 10) i_186_4 rfl (fun h4 => ?_) (fun h4 => ?_)
        · refine k_iload_n i_186_10 rfl ?_
          refine k_invS (n := 1) (av := [vI row]) (rest := []) (el := [some (vI row)]) i_186_11 o_186 rfl v_125 rfl rfl rfl rfl rfl rfl ?_
          refine c_125 (fun v11 hv11 => ?_)
          show Ok _ 186 14 [some (vR (some 273)), some (vI row), some (vI i), some (vI n), none, none, none] [vI v11] (M) _
          refine k_if_eq (t := 29) i_186_14 rfl (fun h14 => ?_) (fun h14 => ?_)
          · refine k_ldc (z := -1000001) i_186_29 o_186 rfl (by decide) ?_
            refine k_iret i_186_31 rfl ?_
            refine ⟨_, rfl, ?_, h⟩
            first
              | exact congrArg (fun z => some (vI z)) (by omega)
              | (exfalso; omega)
          · refine k_iload_n i_186_17 rfl ?_
            refine k_i2l i_186_18 ?_
            refine k_lconst (z := 0) i_186_19 rfl ?_
            refine k_ldc2 (z := 16) i_186_20 o_186 rfl (by decide) ?_
            refine k_invS (n := 3) (av := [vL n, vL 0, vL 16]) (rest := []) (el := [some (vL n), none, some (vL 0), none, some (vL 16), none]) i_186_23 o_186 rfl v_122 rfl rfl rfl rfl rfl rfl ?_
            refine c_122 (fun v23 hv23 => ?_)
            show Ok _ 186 26 [some (vR (some 273)), some (vI row), some (vI i), some (vI n), none, none, none] [vI v23] (M) _
            refine k_if_ne (t := 32) i_186_26 rfl (fun h26 => ?_) (fun h26 => ?_)
            · refine k_aload_n i_186_32 rfl ?_
              refine k_getR (r := 281) i_186_33 o_186 rfl (by decide) (s_273) rfl ?_
              refine k_iload_n i_186_36 rfl ?_
              refine k_bald i_186_37 (s_281) (by omega) ?_
              refine k_if_ne (t := 47) i_186_38 rfl (fun h38 => ?_) (fun h38 => ?_)
              · refine k_iload_n i_186_47 rfl ?_
                refine k_if_lt (t := 67) i_186_48 rfl (fun h48 => ?_) (fun h48 => ?_)
                · refine k_aload_n i_186_67 rfl ?_
                  refine k_iconst i_186_68 (by decide) ?_
                  refine k_invV (n := 1) (o' := 8) (av := [vR (some 273), vI 2]) (rest := []) (el := [some (vR (some 273)), some (vI 2)]) i_186_69 o_186 rfl v_123 rfl (s_273) rfl rfl rfl rfl rfl ?_
                  refine c_123 (by omega) ?_
                  show Ok _ 186 72 [some (vR (some 273)), some (vI row), some (vI i), some (vI n), none, none, none] [vI (-1000010 - 2)] (mu M 273 (6) (2)) _
                  refine k_iret i_186_72 rfl ?_
                  exfalso
                  omega
                · refine k_iload_n i_186_51 rfl ?_
                  refine k_i2l i_186_52 ?_
                  refine k_iload_n i_186_53 rfl ?_
                  refine k_i2l i_186_54 ?_
                  refine k_ladd i_186_55 ⟨by omega, by omega⟩ ?_
                  refine k_aload_n i_186_56 rfl ?_
                  refine k_getR (r := 280) i_186_57 o_186 rfl (by decide) (s_273) rfl ?_
                  refine k_iload_n i_186_60 rfl ?_
                  refine k_iald i_186_61 (s_280) (by omega) ?_
                  refine k_i2l i_186_62 ?_
                  refine k_lcmp i_186_63 ?_
                  obtain ⟨z63, hz63⟩ : ∃ z : Int, z = (if ((i) + (n)) < (M 280 row) then (-1 : Int) else if ((i) + (n)) = (M 280 row) then 0 else 1) := ⟨_, rfl⟩
                  rw [← hz63]
                  have gz63 : (z63 = -1 ∧ ((i) + (n)) < (M 280 row)) ∨ (z63 = 0 ∧ ((i) + (n)) = (M 280 row)) ∨ (z63 = 1 ∧ (M 280 row) < ((i) + (n))) := by rw [hz63]; split <;> first | omega | (split <;> omega)
                  refine k_if_le (t := 73) i_186_64 rfl (fun h64 => ?_) (fun h64 => ?_)
                  · refine k_iconst i_186_73 (by decide) ?_
                    refine k_istore (ls' := [some (vR (some 273)), some (vI row), some (vI i), some (vI n), some (vI 1), none, none]) i_186_74 rfl ?_
                    refine k_iconst i_186_76 (by decide) ?_
                    refine k_istore (ls' := [some (vR (some 273)), some (vI row), some (vI i), some (vI n), some (vI 1), some (vI 0), none]) i_186_77 rfl ?_
                    exfalso
                    omega
                  · refine k_aload_n i_186_67 rfl ?_
                    refine k_iconst i_186_68 (by decide) ?_
                    refine k_invV (n := 1) (o' := 8) (av := [vR (some 273), vI 2]) (rest := []) (el := [some (vR (some 273)), some (vI 2)]) i_186_69 o_186 rfl v_123 rfl (s_273) rfl rfl rfl rfl rfl ?_
                    refine c_123 (by omega) ?_
                    show Ok _ 186 72 [some (vR (some 273)), some (vI row), some (vI i), some (vI n), none, none, none] [vI (-1000010 - 2)] (mu M 273 (6) (2)) _
                    refine k_iret i_186_72 rfl ?_
                    exfalso
                    omega
              · refine k_aload_n i_186_41 rfl ?_
                refine k_iconst i_186_42 (by decide) ?_
                refine k_invV (n := 1) (o' := 8) (av := [vR (some 273), vI 1]) (rest := []) (el := [some (vR (some 273)), some (vI 1)]) i_186_43 o_186 rfl v_123 rfl (s_273) rfl rfl rfl rfl rfl ?_
                refine c_123 (by omega) ?_
                show Ok _ 186 46 [some (vR (some 273)), some (vI row), some (vI i), some (vI n), none, none, none] [vI (-1000010 - 1)] (mu M 273 (6) (1)) _
                refine k_iret i_186_46 rfl ?_
                exfalso
                omega
            · refine k_ldc (z := -1000001) i_186_29 o_186 rfl (by decide) ?_
              refine k_iret i_186_31 rfl ?_
              refine ⟨_, rfl, ?_, h⟩
              first
                | exact congrArg (fun z => some (vI z)) (by omega)
                | (exfalso; omega)
        · refine k_ldc (z := -1000002) i_186_7 o_186 rfl (by decide) ?_
          refine k_iret i_186_9 rfl ?_
          refine ⟨_, rfl, ?_, h⟩
          first
            | exact congrArg (fun z => some (vI z)) (by omega)
            | (exfalso; omega)
  · refine k_ldc (z := -1000002) i_108_7 o_108 rfl (by decide) ?_
    refine k_iret i_108_9 rfl ?_
    show Ok (d + 24) 186 0 [some (vR (some 273)), some (vI row), some (vI i), some (vI n), none, none, none] [] M _
    refine k_aload_n i_186_0 rfl ?_
    refine k_invV (n := 0) (o' := 8) (av := [vR (some 273)]) (rest := []) (el := [some (vR (some 273))]) i_186_1 o_186 rfl v_144 rfl (s_273) rfl rfl rfl rfl rfl ?_
    refine c_144 (fun v1 hv1 => ?_)
    show Ok _ 186 4 [some (vR (some 273)), some (vI row), some (vI i), some (vI n), none, none, none] [vI v1] (M) _
    refine k_if_ne (t := 10) i_186_4 rfl (fun h4 => ?_) (fun h4 => ?_)
    · refine k_iload_n i_186_10 rfl ?_
      refine k_invS (n := 1) (av := [vI row]) (rest := []) (el := [some (vI row)]) i_186_11 o_186 rfl v_125 rfl rfl rfl rfl rfl rfl ?_
      refine c_125 (fun v11 hv11 => ?_)
      show Ok _ 186 14 [some (vR (some 273)), some (vI row), some (vI i), some (vI n), none, none, none] [vI v11] (M) _
      refine k_if_eq (t := 29) i_186_14 rfl (fun h14 => ?_) (fun h14 => ?_)
      · refine k_ldc (z := -1000001) i_186_29 o_186 rfl (by decide) ?_
        refine k_iret i_186_31 rfl ?_
        refine ⟨_, rfl, ?_, h⟩
        first
          | exact congrArg (fun z => some (vI z)) (by omega)
          | (exfalso; omega)
      · refine k_iload_n i_186_17 rfl ?_
        refine k_i2l i_186_18 ?_
        refine k_lconst (z := 0) i_186_19 rfl ?_
        refine k_ldc2 (z := 16) i_186_20 o_186 rfl (by decide) ?_
        refine k_invS (n := 3) (av := [vL n, vL 0, vL 16]) (rest := []) (el := [some (vL n), none, some (vL 0), none, some (vL 16), none]) i_186_23 o_186 rfl v_122 rfl rfl rfl rfl rfl rfl ?_
        refine c_122 (fun v23 hv23 => ?_)
        show Ok _ 186 26 [some (vR (some 273)), some (vI row), some (vI i), some (vI n), none, none, none] [vI v23] (M) _
        refine k_if_ne (t := 32) i_186_26 rfl (fun h26 => ?_) (fun h26 => ?_)
        · refine k_aload_n i_186_32 rfl ?_
          refine k_getR (r := 281) i_186_33 o_186 rfl (by decide) (s_273) rfl ?_
          refine k_iload_n i_186_36 rfl ?_
          refine k_bald i_186_37 (s_281) (by omega) ?_
          refine k_if_ne (t := 47) i_186_38 rfl (fun h38 => ?_) (fun h38 => ?_)
          · refine k_iload_n i_186_47 rfl ?_
            refine k_if_lt (t := 67) i_186_48 rfl (fun h48 => ?_) (fun h48 => ?_)
            · refine k_aload_n i_186_67 rfl ?_
              refine k_iconst i_186_68 (by decide) ?_
              refine k_invV (n := 1) (o' := 8) (av := [vR (some 273), vI 2]) (rest := []) (el := [some (vR (some 273)), some (vI 2)]) i_186_69 o_186 rfl v_123 rfl (s_273) rfl rfl rfl rfl rfl ?_
              refine c_123 (by omega) ?_
              show Ok _ 186 72 [some (vR (some 273)), some (vI row), some (vI i), some (vI n), none, none, none] [vI (-1000010 - 2)] (mu M 273 (6) (2)) _
              refine k_iret i_186_72 rfl ?_
              exfalso
              omega
            · refine k_iload_n i_186_51 rfl ?_
              refine k_i2l i_186_52 ?_
              refine k_iload_n i_186_53 rfl ?_
              refine k_i2l i_186_54 ?_
              refine k_ladd i_186_55 ⟨by omega, by omega⟩ ?_
              refine k_aload_n i_186_56 rfl ?_
              refine k_getR (r := 280) i_186_57 o_186 rfl (by decide) (s_273) rfl ?_
              refine k_iload_n i_186_60 rfl ?_
              refine k_iald i_186_61 (s_280) (by omega) ?_
              refine k_i2l i_186_62 ?_
              refine k_lcmp i_186_63 ?_
              obtain ⟨z63, hz63⟩ : ∃ z : Int, z = (if ((i) + (n)) < (M 280 row) then (-1 : Int) else if ((i) + (n)) = (M 280 row) then 0 else 1) := ⟨_, rfl⟩
              rw [← hz63]
              have gz63 : (z63 = -1 ∧ ((i) + (n)) < (M 280 row)) ∨ (z63 = 0 ∧ ((i) + (n)) = (M 280 row)) ∨ (z63 = 1 ∧ (M 280 row) < ((i) + (n))) := by rw [hz63]; split <;> first | omega | (split <;> omega)
              refine k_if_le (t := 73) i_186_64 rfl (fun h64 => ?_) (fun h64 => ?_)
              · refine k_iconst i_186_73 (by decide) ?_
                refine k_istore (ls' := [some (vR (some 273)), some (vI row), some (vI i), some (vI n), some (vI 1), none, none]) i_186_74 rfl ?_
                refine k_iconst i_186_76 (by decide) ?_
                refine k_istore (ls' := [some (vR (some 273)), some (vI row), some (vI i), some (vI n), some (vI 1), some (vI 0), none]) i_186_77 rfl ?_
                exfalso
                omega
              · refine k_aload_n i_186_67 rfl ?_
                refine k_iconst i_186_68 (by decide) ?_
                refine k_invV (n := 1) (o' := 8) (av := [vR (some 273), vI 2]) (rest := []) (el := [some (vR (some 273)), some (vI 2)]) i_186_69 o_186 rfl v_123 rfl (s_273) rfl rfl rfl rfl rfl ?_
                refine c_123 (by omega) ?_
                show Ok _ 186 72 [some (vR (some 273)), some (vI row), some (vI i), some (vI n), none, none, none] [vI (-1000010 - 2)] (mu M 273 (6) (2)) _
                refine k_iret i_186_72 rfl ?_
                exfalso
                omega
          · refine k_aload_n i_186_41 rfl ?_
            refine k_iconst i_186_42 (by decide) ?_
            refine k_invV (n := 1) (o' := 8) (av := [vR (some 273), vI 1]) (rest := []) (el := [some (vR (some 273)), some (vI 1)]) i_186_43 o_186 rfl v_123 rfl (s_273) rfl rfl rfl rfl rfl ?_
            refine c_123 (by omega) ?_
            show Ok _ 186 46 [some (vR (some 273)), some (vI row), some (vI i), some (vI n), none, none, none] [vI (-1000010 - 1)] (mu M 273 (6) (1)) _
            refine k_iret i_186_46 rfl ?_
            exfalso
            omega
        · refine k_ldc (z := -1000001) i_186_29 o_186 rfl (by decide) ?_
          refine k_iret i_186_31 rfl ?_
          refine ⟨_, rfl, ?_, h⟩
          first
            | exact congrArg (fun z => some (vI z)) (by omega)
            | (exfalso; omega)
    · refine k_ldc (z := -1000002) i_186_7 o_186 rfl (by decide) ?_
      refine k_iret i_186_9 rfl ?_
      refine ⟨_, rfl, ?_, h⟩
      first
        | exact congrArg (fun z => some (vI z)) (by omega)
        | (exfalso; omega)
