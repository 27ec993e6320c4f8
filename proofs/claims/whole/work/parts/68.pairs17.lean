set_option maxRecDepth 100000 in
theorem l_191_0 {d : Nat} {M : Mem} {Q : Option Vv → Mem → Prop} {i o : Int} (ho : 0 ≤ o ∧ o ≤ 5) (k1 : isaF 0 o → Q (some (vI i)) (mu M 273 6 0)) (k2 : ¬ isaF 0 o → Q (some (vI (-1000010 - 3))) (mu M 273 6 3)) : Ok (d + 1) 191 34 [some (vR (some 273)), some (vI i), some (vI o), some (vI 0)] [] M Q := by
  refine k_iload_n i_191_34 rfl ?_
  refine k_iload_n i_191_35 rfl ?_
  refine k_icmp_eq (t := 51) i_191_36 rfl (fun h36 => ?_) (fun h36 => ?_)
  · refine k_iload_n i_191_51 rfl ?_
    refine k_iload_n i_191_52 rfl ?_
    refine k_icmp_ne (t := 64) i_191_53 rfl (fun h53 => ?_) (fun h53 => ?_)
    · refine k_aload_n i_191_64 rfl ?_
      refine k_iconst i_191_65 (by decide) ?_
      refine k_invV (n := 1) (o' := 8) (av := [vR (some 273), vI 3]) (rest := []) (el := [some (vR (some 273)), some (vI 3)]) i_191_66 o_191 rfl v_123 rfl (s_273) rfl rfl rfl rfl rfl ?_
      refine c_123 (by omega) ?_
      show Ok _ 191 69 [some (vR (some 273)), some (vI i), some (vI o), some (vI 0)] [vI (-1000010 - 3)] (mu M 273 6 3) _
      refine k_iret i_191_69 rfl ?_
      refine k2 (by unfold isaF; omega)
    · refine k_aload_n i_191_56 rfl ?_
      refine k_iload_n i_191_57 rfl ?_
      refine k_invV (n := 1) (o' := 8) (av := [vR (some 273), vI i]) (rest := []) (el := [some (vR (some 273)), some (vI i)]) i_191_58 o_191 rfl v_124 rfl (s_273) rfl rfl rfl rfl rfl ?_
      refine c_124 ?_
      show Ok _ 191 61 [some (vR (some 273)), some (vI i), some (vI o), some (vI 0)] [vI i] (mu M 273 6 0) _
      refine k_goto (t := 69) i_191_61 rfl ?_
      refine k_iret i_191_69 rfl ?_
      refine k1 (by unfold isaF; omega)
  · refine k_iload_n i_191_39 rfl ?_
    refine k_if_eq (t := 51) i_191_40 rfl (fun h40 => ?_) (fun h40 => absurd h40 (by decide))
    refine k_iload_n i_191_51 rfl ?_
    refine k_iload_n i_191_52 rfl ?_
    refine k_icmp_ne (t := 64) i_191_53 rfl (fun h53 => ?_) (fun h53 => ?_)
    · refine k_aload_n i_191_64 rfl ?_
      refine k_iconst i_191_65 (by decide) ?_
      refine k_invV (n := 1) (o' := 8) (av := [vR (some 273), vI 3]) (rest := []) (el := [some (vR (some 273)), some (vI 3)]) i_191_66 o_191 rfl v_123 rfl (s_273) rfl rfl rfl rfl rfl ?_
      refine c_123 (by omega) ?_
      show Ok _ 191 69 [some (vR (some 273)), some (vI i), some (vI o), some (vI 0)] [vI (-1000010 - 3)] (mu M 273 6 3) _
      refine k_iret i_191_69 rfl ?_
      refine k2 (by unfold isaF; omega)
    · refine k_aload_n i_191_56 rfl ?_
      refine k_iload_n i_191_57 rfl ?_
      refine k_invV (n := 1) (o' := 8) (av := [vR (some 273), vI i]) (rest := []) (el := [some (vR (some 273)), some (vI i)]) i_191_58 o_191 rfl v_124 rfl (s_273) rfl rfl rfl rfl rfl ?_
      refine c_124 ?_
      show Ok _ 191 61 [some (vR (some 273)), some (vI i), some (vI o), some (vI 0)] [vI i] (mu M 273 6 0) _
      refine k_goto (t := 69) i_191_61 rfl ?_
      refine k_iret i_191_69 rfl ?_
      refine k1 (by unfold isaF; omega)

set_option maxRecDepth 100000 in
theorem l_191_1 {d : Nat} {M : Mem} {Q : Option Vv → Mem → Prop} {i o : Int} (ho : 0 ≤ o ∧ o ≤ 5) (k1 : isaF 1 o → Q (some (vI i)) (mu M 273 6 0)) (k2 : ¬ isaF 1 o → Q (some (vI (-1000010 - 3))) (mu M 273 6 3)) : Ok (d + 1) 191 34 [some (vR (some 273)), some (vI i), some (vI o), some (vI 1)] [] M Q := by
  refine k_iload_n i_191_34 rfl ?_
  refine k_iload_n i_191_35 rfl ?_
  refine k_icmp_eq (t := 51) i_191_36 rfl (fun h36 => ?_) (fun h36 => ?_)
  · refine k_iload_n i_191_51 rfl ?_
    refine k_iload_n i_191_52 rfl ?_
    refine k_icmp_ne (t := 64) i_191_53 rfl (fun h53 => ?_) (fun h53 => ?_)
    · refine k_aload_n i_191_64 rfl ?_
      refine k_iconst i_191_65 (by decide) ?_
      refine k_invV (n := 1) (o' := 8) (av := [vR (some 273), vI 3]) (rest := []) (el := [some (vR (some 273)), some (vI 3)]) i_191_66 o_191 rfl v_123 rfl (s_273) rfl rfl rfl rfl rfl ?_
      refine c_123 (by omega) ?_
      show Ok _ 191 69 [some (vR (some 273)), some (vI i), some (vI o), some (vI 1)] [vI (-1000010 - 3)] (mu M 273 6 3) _
      refine k_iret i_191_69 rfl ?_
      refine k2 (by unfold isaF; omega)
    · refine k_aload_n i_191_56 rfl ?_
      refine k_iload_n i_191_57 rfl ?_
      refine k_invV (n := 1) (o' := 8) (av := [vR (some 273), vI i]) (rest := []) (el := [some (vR (some 273)), some (vI i)]) i_191_58 o_191 rfl v_124 rfl (s_273) rfl rfl rfl rfl rfl ?_
      refine c_124 ?_
      show Ok _ 191 61 [some (vR (some 273)), some (vI i), some (vI o), some (vI 1)] [vI i] (mu M 273 6 0) _
      refine k_goto (t := 69) i_191_61 rfl ?_
      refine k_iret i_191_69 rfl ?_
      refine k1 (by unfold isaF; omega)
  · refine k_iload_n i_191_39 rfl ?_
    refine k_if_eq (t := 51) i_191_40 rfl (fun h40 => absurd h40 (by decide)) (fun h40 => ?_)
    refine k_iload_n i_191_43 rfl ?_
    refine k_invS (n := 1) (av := [vI 1]) (rest := []) (el := [some (vI 1)]) i_191_44 o_191 rfl v_190 rfl rfl rfl rfl rfl rfl ?_
    refine c_190 ?_
    rw [show (if (1 : Int) = 5 then (4 : Int) else if (1 : Int) = 2 ∨ (1 : Int) = 3 then 1 else 0) = 0 by decide]
    refine k_istore_n (ls' := [some (vR (some 273)), some (vI i), some (vI o), some (vI 0)]) i_191_47 rfl ?_
    refine k_goto (t := 34) i_191_48 rfl ?_
    refine k_iload_n i_191_34 rfl ?_
    refine k_iload_n i_191_35 rfl ?_
    refine k_icmp_eq (t := 51) i_191_36 rfl (fun h36 => ?_) (fun h36 => ?_)
    · refine k_iload_n i_191_51 rfl ?_
      refine k_iload_n i_191_52 rfl ?_
      refine k_icmp_ne (t := 64) i_191_53 rfl (fun h53 => ?_) (fun h53 => ?_)
      · refine k_aload_n i_191_64 rfl ?_
        refine k_iconst i_191_65 (by decide) ?_
        refine k_invV (n := 1) (o' := 8) (av := [vR (some 273), vI 3]) (rest := []) (el := [some (vR (some 273)), some (vI 3)]) i_191_66 o_191 rfl v_123 rfl (s_273) rfl rfl rfl rfl rfl ?_
        refine c_123 (by omega) ?_
        show Ok _ 191 69 [some (vR (some 273)), some (vI i), some (vI o), some (vI 0)] [vI (-1000010 - 3)] (mu M 273 6 3) _
        refine k_iret i_191_69 rfl ?_
        refine k2 (by unfold isaF; omega)
      · refine k_aload_n i_191_56 rfl ?_
        refine k_iload_n i_191_57 rfl ?_
        refine k_invV (n := 1) (o' := 8) (av := [vR (some 273), vI i]) (rest := []) (el := [some (vR (some 273)), some (vI i)]) i_191_58 o_191 rfl v_124 rfl (s_273) rfl rfl rfl rfl rfl ?_
        refine c_124 ?_
        show Ok _ 191 61 [some (vR (some 273)), some (vI i), some (vI o), some (vI 0)] [vI i] (mu M 273 6 0) _
        refine k_goto (t := 69) i_191_61 rfl ?_
        refine k_iret i_191_69 rfl ?_
        refine k1 (by unfold isaF; omega)
    · refine k_iload_n i_191_39 rfl ?_
      refine k_if_eq (t := 51) i_191_40 rfl (fun h40 => ?_) (fun h40 => absurd h40 (by decide))
      refine k_iload_n i_191_51 rfl ?_
      refine k_iload_n i_191_52 rfl ?_
      refine k_icmp_ne (t := 64) i_191_53 rfl (fun h53 => ?_) (fun h53 => ?_)
      · refine k_aload_n i_191_64 rfl ?_
        refine k_iconst i_191_65 (by decide) ?_
        refine k_invV (n := 1) (o' := 8) (av := [vR (some 273), vI 3]) (rest := []) (el := [some (vR (some 273)), some (vI 3)]) i_191_66 o_191 rfl v_123 rfl (s_273) rfl rfl rfl rfl rfl ?_
        refine c_123 (by omega) ?_
        show Ok _ 191 69 [some (vR (some 273)), some (vI i), some (vI o), some (vI 0)] [vI (-1000010 - 3)] (mu M 273 6 3) _
        refine k_iret i_191_69 rfl ?_
        refine k2 (by unfold isaF; omega)
      · refine k_aload_n i_191_56 rfl ?_
        refine k_iload_n i_191_57 rfl ?_
        refine k_invV (n := 1) (o' := 8) (av := [vR (some 273), vI i]) (rest := []) (el := [some (vR (some 273)), some (vI i)]) i_191_58 o_191 rfl v_124 rfl (s_273) rfl rfl rfl rfl rfl ?_
        refine c_124 ?_
        show Ok _ 191 61 [some (vR (some 273)), some (vI i), some (vI o), some (vI 0)] [vI i] (mu M 273 6 0) _
        refine k_goto (t := 69) i_191_61 rfl ?_
        refine k_iret i_191_69 rfl ?_
        refine k1 (by unfold isaF; omega)

set_option maxRecDepth 100000 in
theorem l_191_2 {d : Nat} {M : Mem} {Q : Option Vv → Mem → Prop} {i o : Int} (ho : 0 ≤ o ∧ o ≤ 5) (k1 : isaF 2 o → Q (some (vI i)) (mu M 273 6 0)) (k2 : ¬ isaF 2 o → Q (some (vI (-1000010 - 3))) (mu M 273 6 3)) : Ok (d + 1) 191 34 [some (vR (some 273)), some (vI i), some (vI o), some (vI 2)] [] M Q := by
  refine k_iload_n i_191_34 rfl ?_
  refine k_iload_n i_191_35 rfl ?_
  refine k_icmp_eq (t := 51) i_191_36 rfl (fun h36 => ?_) (fun h36 => ?_)
  · refine k_iload_n i_191_51 rfl ?_
    refine k_iload_n i_191_52 rfl ?_
    refine k_icmp_ne (t := 64) i_191_53 rfl (fun h53 => ?_) (fun h53 => ?_)
    · refine k_aload_n i_191_64 rfl ?_
      refine k_iconst i_191_65 (by decide) ?_
      refine k_invV (n := 1) (o' := 8) (av := [vR (some 273), vI 3]) (rest := []) (el := [some (vR (some 273)), some (vI 3)]) i_191_66 o_191 rfl v_123 rfl (s_273) rfl rfl rfl rfl rfl ?_
      refine c_123 (by omega) ?_
      show Ok _ 191 69 [some (vR (some 273)), some (vI i), some (vI o), some (vI 2)] [vI (-1000010 - 3)] (mu M 273 6 3) _
      refine k_iret i_191_69 rfl ?_
      refine k2 (by unfold isaF; omega)
    · refine k_aload_n i_191_56 rfl ?_
      refine k_iload_n i_191_57 rfl ?_
      refine k_invV (n := 1) (o' := 8) (av := [vR (some 273), vI i]) (rest := []) (el := [some (vR (some 273)), some (vI i)]) i_191_58 o_191 rfl v_124 rfl (s_273) rfl rfl rfl rfl rfl ?_
      refine c_124 ?_
      show Ok _ 191 61 [some (vR (some 273)), some (vI i), some (vI o), some (vI 2)] [vI i] (mu M 273 6 0) _
      refine k_goto (t := 69) i_191_61 rfl ?_
      refine k_iret i_191_69 rfl ?_
      refine k1 (by unfold isaF; omega)
  · refine k_iload_n i_191_39 rfl ?_
    refine k_if_eq (t := 51) i_191_40 rfl (fun h40 => absurd h40 (by decide)) (fun h40 => ?_)
    refine k_iload_n i_191_43 rfl ?_
    refine k_invS (n := 1) (av := [vI 2]) (rest := []) (el := [some (vI 2)]) i_191_44 o_191 rfl v_190 rfl rfl rfl rfl rfl rfl ?_
    refine c_190 ?_
    rw [show (if (2 : Int) = 5 then (4 : Int) else if (2 : Int) = 2 ∨ (2 : Int) = 3 then 1 else 0) = 1 by decide]
    refine k_istore_n (ls' := [some (vR (some 273)), some (vI i), some (vI o), some (vI 1)]) i_191_47 rfl ?_
    refine k_goto (t := 34) i_191_48 rfl ?_
    refine k_iload_n i_191_34 rfl ?_
    refine k_iload_n i_191_35 rfl ?_
    refine k_icmp_eq (t := 51) i_191_36 rfl (fun h36 => ?_) (fun h36 => ?_)
    · refine k_iload_n i_191_51 rfl ?_
      refine k_iload_n i_191_52 rfl ?_
      refine k_icmp_ne (t := 64) i_191_53 rfl (fun h53 => ?_) (fun h53 => ?_)
      · refine k_aload_n i_191_64 rfl ?_
        refine k_iconst i_191_65 (by decide) ?_
        refine k_invV (n := 1) (o' := 8) (av := [vR (some 273), vI 3]) (rest := []) (el := [some (vR (some 273)), some (vI 3)]) i_191_66 o_191 rfl v_123 rfl (s_273) rfl rfl rfl rfl rfl ?_
        refine c_123 (by omega) ?_
        show Ok _ 191 69 [some (vR (some 273)), some (vI i), some (vI o), some (vI 1)] [vI (-1000010 - 3)] (mu M 273 6 3) _
        refine k_iret i_191_69 rfl ?_
        refine k2 (by unfold isaF; omega)
      · refine k_aload_n i_191_56 rfl ?_
        refine k_iload_n i_191_57 rfl ?_
        refine k_invV (n := 1) (o' := 8) (av := [vR (some 273), vI i]) (rest := []) (el := [some (vR (some 273)), some (vI i)]) i_191_58 o_191 rfl v_124 rfl (s_273) rfl rfl rfl rfl rfl ?_
        refine c_124 ?_
        show Ok _ 191 61 [some (vR (some 273)), some (vI i), some (vI o), some (vI 1)] [vI i] (mu M 273 6 0) _
        refine k_goto (t := 69) i_191_61 rfl ?_
        refine k_iret i_191_69 rfl ?_
        refine k1 (by unfold isaF; omega)
    · refine k_iload_n i_191_39 rfl ?_
      refine k_if_eq (t := 51) i_191_40 rfl (fun h40 => absurd h40 (by decide)) (fun h40 => ?_)
      refine k_iload_n i_191_43 rfl ?_
      refine k_invS (n := 1) (av := [vI 1]) (rest := []) (el := [some (vI 1)]) i_191_44 o_191 rfl v_190 rfl rfl rfl rfl rfl rfl ?_
      refine c_190 ?_
      rw [show (if (1 : Int) = 5 then (4 : Int) else if (1 : Int) = 2 ∨ (1 : Int) = 3 then 1 else 0) = 0 by decide]
      refine k_istore_n (ls' := [some (vR (some 273)), some (vI i), some (vI o), some (vI 0)]) i_191_47 rfl ?_
      refine k_goto (t := 34) i_191_48 rfl ?_
      refine k_iload_n i_191_34 rfl ?_
      refine k_iload_n i_191_35 rfl ?_
      refine k_icmp_eq (t := 51) i_191_36 rfl (fun h36 => ?_) (fun h36 => ?_)
      · refine k_iload_n i_191_51 rfl ?_
        refine k_iload_n i_191_52 rfl ?_
        refine k_icmp_ne (t := 64) i_191_53 rfl (fun h53 => ?_) (fun h53 => ?_)
        · refine k_aload_n i_191_64 rfl ?_
          refine k_iconst i_191_65 (by decide) ?_
          refine k_invV (n := 1) (o' := 8) (av := [vR (some 273), vI 3]) (rest := []) (el := [some (vR (some 273)), some (vI 3)]) i_191_66 o_191 rfl v_123 rfl (s_273) rfl rfl rfl rfl rfl ?_
          refine c_123 (by omega) ?_
          show Ok _ 191 69 [some (vR (some 273)), some (vI i), some (vI o), some (vI 0)] [vI (-1000010 - 3)] (mu M 273 6 3) _
          refine k_iret i_191_69 rfl ?_
          refine k2 (by unfold isaF; omega)
        · refine k_aload_n i_191_56 rfl ?_
          refine k_iload_n i_191_57 rfl ?_
          refine k_invV (n := 1) (o' := 8) (av := [vR (some 273), vI i]) (rest := []) (el := [some (vR (some 273)), some (vI i)]) i_191_58 o_191 rfl v_124 rfl (s_273) rfl rfl rfl rfl rfl ?_
          refine c_124 ?_
          show Ok _ 191 61 [some (vR (some 273)), some (vI i), some (vI o), some (vI 0)] [vI i] (mu M 273 6 0) _
          refine k_goto (t := 69) i_191_61 rfl ?_
          refine k_iret i_191_69 rfl ?_
          refine k1 (by unfold isaF; omega)
      · refine k_iload_n i_191_39 rfl ?_
        refine k_if_eq (t := 51) i_191_40 rfl (fun h40 => ?_) (fun h40 => absurd h40 (by decide))
        refine k_iload_n i_191_51 rfl ?_
        refine k_iload_n i_191_52 rfl ?_
        refine k_icmp_ne (t := 64) i_191_53 rfl (fun h53 => ?_) (fun h53 => ?_)
        · refine k_aload_n i_191_64 rfl ?_
          refine k_iconst i_191_65 (by decide) ?_
          refine k_invV (n := 1) (o' := 8) (av := [vR (some 273), vI 3]) (rest := []) (el := [some (vR (some 273)), some (vI 3)]) i_191_66 o_191 rfl v_123 rfl (s_273) rfl rfl rfl rfl rfl ?_
          refine c_123 (by omega) ?_
          show Ok _ 191 69 [some (vR (some 273)), some (vI i), some (vI o), some (vI 0)] [vI (-1000010 - 3)] (mu M 273 6 3) _
          refine k_iret i_191_69 rfl ?_
          refine k2 (by unfold isaF; omega)
        · refine k_aload_n i_191_56 rfl ?_
          refine k_iload_n i_191_57 rfl ?_
          refine k_invV (n := 1) (o' := 8) (av := [vR (some 273), vI i]) (rest := []) (el := [some (vR (some 273)), some (vI i)]) i_191_58 o_191 rfl v_124 rfl (s_273) rfl rfl rfl rfl rfl ?_
          refine c_124 ?_
          show Ok _ 191 61 [some (vR (some 273)), some (vI i), some (vI o), some (vI 0)] [vI i] (mu M 273 6 0) _
          refine k_goto (t := 69) i_191_61 rfl ?_
          refine k_iret i_191_69 rfl ?_
          refine k1 (by unfold isaF; omega)

set_option maxRecDepth 100000 in
theorem l_191_3 {d : Nat} {M : Mem} {Q : Option Vv → Mem → Prop} {i o : Int} (ho : 0 ≤ o ∧ o ≤ 5) (k1 : isaF 3 o → Q (some (vI i)) (mu M 273 6 0)) (k2 : ¬ isaF 3 o → Q (some (vI (-1000010 - 3))) (mu M 273 6 3)) : Ok (d + 1) 191 34 [some (vR (some 273)), some (vI i), some (vI o), some (vI 3)] [] M Q := by
  refine k_iload_n i_191_34 rfl ?_
  refine k_iload_n i_191_35 rfl ?_
  refine k_icmp_eq (t := 51) i_191_36 rfl (fun h36 => ?_) (fun h36 => ?_)
  · refine k_iload_n i_191_51 rfl ?_
    refine k_iload_n i_191_52 rfl ?_
    refine k_icmp_ne (t := 64) i_191_53 rfl (fun h53 => ?_) (fun h53 => ?_)
    · refine k_aload_n i_191_64 rfl ?_
      refine k_iconst i_191_65 (by decide) ?_
      refine k_invV (n := 1) (o' := 8) (av := [vR (some 273), vI 3]) (rest := []) (el := [some (vR (some 273)), some (vI 3)]) i_191_66 o_191 rfl v_123 rfl (s_273) rfl rfl rfl rfl rfl ?_
      refine c_123 (by omega) ?_
      show Ok _ 191 69 [some (vR (some 273)), some (vI i), some (vI o), some (vI 3)] [vI (-1000010 - 3)] (mu M 273 6 3) _
      refine k_iret i_191_69 rfl ?_
      refine k2 (by unfold isaF; omega)
    · refine k_aload_n i_191_56 rfl ?_
      refine k_iload_n i_191_57 rfl ?_
      refine k_invV (n := 1) (o' := 8) (av := [vR (some 273), vI i]) (rest := []) (el := [some (vR (some 273)), some (vI i)]) i_191_58 o_191 rfl v_124 rfl (s_273) rfl rfl rfl rfl rfl ?_
      refine c_124 ?_
      show Ok _ 191 61 [some (vR (some 273)), some (vI i), some (vI o), some (vI 3)] [vI i] (mu M 273 6 0) _
      refine k_goto (t := 69) i_191_61 rfl ?_
      refine k_iret i_191_69 rfl ?_
      refine k1 (by unfold isaF; omega)
  · refine k_iload_n i_191_39 rfl ?_
    refine k_if_eq (t := 51) i_191_40 rfl (fun h40 => absurd h40 (by decide)) (fun h40 => ?_)
    refine k_iload_n i_191_43 rfl ?_
    refine k_invS (n := 1) (av := [vI 3]) (rest := []) (el := [some (vI 3)]) i_191_44 o_191 rfl v_190 rfl rfl rfl rfl rfl rfl ?_
    refine c_190 ?_
    rw [show (if (3 : Int) = 5 then (4 : Int) else if (3 : Int) = 2 ∨ (3 : Int) = 3 then 1 else 0) = 1 by decide]
    refine k_istore_n (ls' := [some (vR (some 273)), some (vI i), some (vI o), some (vI 1)]) i_191_47 rfl ?_
    refine k_goto (t := 34) i_191_48 rfl ?_
    refine k_iload_n i_191_34 rfl ?_
    refine k_iload_n i_191_35 rfl ?_
    refine k_icmp_eq (t := 51) i_191_36 rfl (fun h36 => ?_) (fun h36 => ?_)
    · refine k_iload_n i_191_51 rfl ?_
      refine k_iload_n i_191_52 rfl ?_
      refine k_icmp_ne (t := 64) i_191_53 rfl (fun h53 => ?_) (fun h53 => ?_)
      · refine k_aload_n i_191_64 rfl ?_
        refine k_iconst i_191_65 (by decide) ?_
        refine k_invV (n := 1) (o' := 8) (av := [vR (some 273), vI 3]) (rest := []) (el := [some (vR (some 273)), some (vI 3)]) i_191_66 o_191 rfl v_123 rfl (s_273) rfl rfl rfl rfl rfl ?_
        refine c_123 (by omega) ?_
        show Ok _ 191 69 [some (vR (some 273)), some (vI i), some (vI o), some (vI 1)] [vI (-1000010 - 3)] (mu M 273 6 3) _
        refine k_iret i_191_69 rfl ?_
        refine k2 (by unfold isaF; omega)
      · refine k_aload_n i_191_56 rfl ?_
        refine k_iload_n i_191_57 rfl ?_
        refine k_invV (n := 1) (o' := 8) (av := [vR (some 273), vI i]) (rest := []) (el := [some (vR (some 273)), some (vI i)]) i_191_58 o_191 rfl v_124 rfl (s_273) rfl rfl rfl rfl rfl ?_
        refine c_124 ?_
        show Ok _ 191 61 [some (vR (some 273)), some (vI i), some (vI o), some (vI 1)] [vI i] (mu M 273 6 0) _
        refine k_goto (t := 69) i_191_61 rfl ?_
        refine k_iret i_191_69 rfl ?_
        refine k1 (by unfold isaF; omega)
    · refine k_iload_n i_191_39 rfl ?_
      refine k_if_eq (t := 51) i_191_40 rfl (fun h40 => absurd h40 (by decide)) (fun h40 => ?_)
      refine k_iload_n i_191_43 rfl ?_
      refine k_invS (n := 1) (av := [vI 1]) (rest := []) (el := [some (vI 1)]) i_191_44 o_191 rfl v_190 rfl rfl rfl rfl rfl rfl ?_
      refine c_190 ?_
      rw [show (if (1 : Int) = 5 then (4 : Int) else if (1 : Int) = 2 ∨ (1 : Int) = 3 then 1 else 0) = 0 by decide]
      refine k_istore_n (ls' := [some (vR (some 273)), some (vI i), some (vI o), some (vI 0)]) i_191_47 rfl ?_
      refine k_goto (t := 34) i_191_48 rfl ?_
      refine k_iload_n i_191_34 rfl ?_
      refine k_iload_n i_191_35 rfl ?_
      refine k_icmp_eq (t := 51) i_191_36 rfl (fun h36 => ?_) (fun h36 => ?_)
      · refine k_iload_n i_191_51 rfl ?_
        refine k_iload_n i_191_52 rfl ?_
        refine k_icmp_ne (t := 64) i_191_53 rfl (fun h53 => ?_) (fun h53 => ?_)
        · refine k_aload_n i_191_64 rfl ?_
          refine k_iconst i_191_65 (by decide) ?_
          refine k_invV (n := 1) (o' := 8) (av := [vR (some 273), vI 3]) (rest := []) (el := [some (vR (some 273)), some (vI 3)]) i_191_66 o_191 rfl v_123 rfl (s_273) rfl rfl rfl rfl rfl ?_
          refine c_123 (by omega) ?_
          show Ok _ 191 69 [some (vR (some 273)), some (vI i), some (vI o), some (vI 0)] [vI (-1000010 - 3)] (mu M 273 6 3) _
          refine k_iret i_191_69 rfl ?_
          refine k2 (by unfold isaF; omega)
        · refine k_aload_n i_191_56 rfl ?_
          refine k_iload_n i_191_57 rfl ?_
          refine k_invV (n := 1) (o' := 8) (av := [vR (some 273), vI i]) (rest := []) (el := [some (vR (some 273)), some (vI i)]) i_191_58 o_191 rfl v_124 rfl (s_273) rfl rfl rfl rfl rfl ?_
          refine c_124 ?_
          show Ok _ 191 61 [some (vR (some 273)), some (vI i), some (vI o), some (vI 0)] [vI i] (mu M 273 6 0) _
          refine k_goto (t := 69) i_191_61 rfl ?_
          refine k_iret i_191_69 rfl ?_
          refine k1 (by unfold isaF; omega)
      · refine k_iload_n i_191_39 rfl ?_
        refine k_if_eq (t := 51) i_191_40 rfl (fun h40 => ?_) (fun h40 => absurd h40 (by decide))
        refine k_iload_n i_191_51 rfl ?_
        refine k_iload_n i_191_52 rfl ?_
        refine k_icmp_ne (t := 64) i_191_53 rfl (fun h53 => ?_) (fun h53 => ?_)
        · refine k_aload_n i_191_64 rfl ?_
          refine k_iconst i_191_65 (by decide) ?_
          refine k_invV (n := 1) (o' := 8) (av := [vR (some 273), vI 3]) (rest := []) (el := [some (vR (some 273)), some (vI 3)]) i_191_66 o_191 rfl v_123 rfl (s_273) rfl rfl rfl rfl rfl ?_
          refine c_123 (by omega) ?_
          show Ok _ 191 69 [some (vR (some 273)), some (vI i), some (vI o), some (vI 0)] [vI (-1000010 - 3)] (mu M 273 6 3) _
          refine k_iret i_191_69 rfl ?_
          refine k2 (by unfold isaF; omega)
        · refine k_aload_n i_191_56 rfl ?_
          refine k_iload_n i_191_57 rfl ?_
          refine k_invV (n := 1) (o' := 8) (av := [vR (some 273), vI i]) (rest := []) (el := [some (vR (some 273)), some (vI i)]) i_191_58 o_191 rfl v_124 rfl (s_273) rfl rfl rfl rfl rfl ?_
          refine c_124 ?_
          show Ok _ 191 61 [some (vR (some 273)), some (vI i), some (vI o), some (vI 0)] [vI i] (mu M 273 6 0) _
          refine k_goto (t := 69) i_191_61 rfl ?_
          refine k_iret i_191_69 rfl ?_
          refine k1 (by unfold isaF; omega)

set_option maxRecDepth 100000 in
theorem l_191_4 {d : Nat} {M : Mem} {Q : Option Vv → Mem → Prop} {i o : Int} (ho : 0 ≤ o ∧ o ≤ 5) (k1 : isaF 4 o → Q (some (vI i)) (mu M 273 6 0)) (k2 : ¬ isaF 4 o → Q (some (vI (-1000010 - 3))) (mu M 273 6 3)) : Ok (d + 1) 191 34 [some (vR (some 273)), some (vI i), some (vI o), some (vI 4)] [] M Q := by
  refine k_iload_n i_191_34 rfl ?_
  refine k_iload_n i_191_35 rfl ?_
  refine k_icmp_eq (t := 51) i_191_36 rfl (fun h36 => ?_) (fun h36 => ?_)
  · refine k_iload_n i_191_51 rfl ?_
    refine k_iload_n i_191_52 rfl ?_
    refine k_icmp_ne (t := 64) i_191_53 rfl (fun h53 => ?_) (fun h53 => ?_)
    · refine k_aload_n i_191_64 rfl ?_
      refine k_iconst i_191_65 (by decide) ?_
      refine k_invV (n := 1) (o' := 8) (av := [vR (some 273), vI 3]) (rest := []) (el := [some (vR (some 273)), some (vI 3)]) i_191_66 o_191 rfl v_123 rfl (s_273) rfl rfl rfl rfl rfl ?_
      refine c_123 (by omega) ?_
      show Ok _ 191 69 [some (vR (some 273)), some (vI i), some (vI o), some (vI 4)] [vI (-1000010 - 3)] (mu M 273 6 3) _
      refine k_iret i_191_69 rfl ?_
      refine k2 (by unfold isaF; omega)
    · refine k_aload_n i_191_56 rfl ?_
      refine k_iload_n i_191_57 rfl ?_
      refine k_invV (n := 1) (o' := 8) (av := [vR (some 273), vI i]) (rest := []) (el := [some (vR (some 273)), some (vI i)]) i_191_58 o_191 rfl v_124 rfl (s_273) rfl rfl rfl rfl rfl ?_
      refine c_124 ?_
      show Ok _ 191 61 [some (vR (some 273)), some (vI i), some (vI o), some (vI 4)] [vI i] (mu M 273 6 0) _
      refine k_goto (t := 69) i_191_61 rfl ?_
      refine k_iret i_191_69 rfl ?_
      refine k1 (by unfold isaF; omega)
  · refine k_iload_n i_191_39 rfl ?_
    refine k_if_eq (t := 51) i_191_40 rfl (fun h40 => absurd h40 (by decide)) (fun h40 => ?_)
    refine k_iload_n i_191_43 rfl ?_
    refine k_invS (n := 1) (av := [vI 4]) (rest := []) (el := [some (vI 4)]) i_191_44 o_191 rfl v_190 rfl rfl rfl rfl rfl rfl ?_
    refine c_190 ?_
    rw [show (if (4 : Int) = 5 then (4 : Int) else if (4 : Int) = 2 ∨ (4 : Int) = 3 then 1 else 0) = 0 by decide]
    refine k_istore_n (ls' := [some (vR (some 273)), some (vI i), some (vI o), some (vI 0)]) i_191_47 rfl ?_
    refine k_goto (t := 34) i_191_48 rfl ?_
    refine k_iload_n i_191_34 rfl ?_
    refine k_iload_n i_191_35 rfl ?_
    refine k_icmp_eq (t := 51) i_191_36 rfl (fun h36 => ?_) (fun h36 => ?_)
    · refine k_iload_n i_191_51 rfl ?_
      refine k_iload_n i_191_52 rfl ?_
      refine k_icmp_ne (t := 64) i_191_53 rfl (fun h53 => ?_) (fun h53 => ?_)
      · refine k_aload_n i_191_64 rfl ?_
        refine k_iconst i_191_65 (by decide) ?_
        refine k_invV (n := 1) (o' := 8) (av := [vR (some 273), vI 3]) (rest := []) (el := [some (vR (some 273)), some (vI 3)]) i_191_66 o_191 rfl v_123 rfl (s_273) rfl rfl rfl rfl rfl ?_
        refine c_123 (by omega) ?_
        show Ok _ 191 69 [some (vR (some 273)), some (vI i), some (vI o), some (vI 0)] [vI (-1000010 - 3)] (mu M 273 6 3) _
        refine k_iret i_191_69 rfl ?_
        refine k2 (by unfold isaF; omega)
      · refine k_aload_n i_191_56 rfl ?_
        refine k_iload_n i_191_57 rfl ?_
        refine k_invV (n := 1) (o' := 8) (av := [vR (some 273), vI i]) (rest := []) (el := [some (vR (some 273)), some (vI i)]) i_191_58 o_191 rfl v_124 rfl (s_273) rfl rfl rfl rfl rfl ?_
        refine c_124 ?_
        show Ok _ 191 61 [some (vR (some 273)), some (vI i), some (vI o), some (vI 0)] [vI i] (mu M 273 6 0) _
        refine k_goto (t := 69) i_191_61 rfl ?_
        refine k_iret i_191_69 rfl ?_
        refine k1 (by unfold isaF; omega)
    · refine k_iload_n i_191_39 rfl ?_
      refine k_if_eq (t := 51) i_191_40 rfl (fun h40 => ?_) (fun h40 => absurd h40 (by decide))
      refine k_iload_n i_191_51 rfl ?_
      refine k_iload_n i_191_52 rfl ?_
      refine k_icmp_ne (t := 64) i_191_53 rfl (fun h53 => ?_) (fun h53 => ?_)
      · refine k_aload_n i_191_64 rfl ?_
        refine k_iconst i_191_65 (by decide) ?_
        refine k_invV (n := 1) (o' := 8) (av := [vR (some 273), vI 3]) (rest := []) (el := [some (vR (some 273)), some (vI 3)]) i_191_66 o_191 rfl v_123 rfl (s_273) rfl rfl rfl rfl rfl ?_
        refine c_123 (by omega) ?_
        show Ok _ 191 69 [some (vR (some 273)), some (vI i), some (vI o), some (vI 0)] [vI (-1000010 - 3)] (mu M 273 6 3) _
        refine k_iret i_191_69 rfl ?_
        refine k2 (by unfold isaF; omega)
      · refine k_aload_n i_191_56 rfl ?_
        refine k_iload_n i_191_57 rfl ?_
        refine k_invV (n := 1) (o' := 8) (av := [vR (some 273), vI i]) (rest := []) (el := [some (vR (some 273)), some (vI i)]) i_191_58 o_191 rfl v_124 rfl (s_273) rfl rfl rfl rfl rfl ?_
        refine c_124 ?_
        show Ok _ 191 61 [some (vR (some 273)), some (vI i), some (vI o), some (vI 0)] [vI i] (mu M 273 6 0) _
        refine k_goto (t := 69) i_191_61 rfl ?_
        refine k_iret i_191_69 rfl ?_
        refine k1 (by unfold isaF; omega)

set_option maxRecDepth 100000 in
theorem l_191_5 {d : Nat} {M : Mem} {Q : Option Vv → Mem → Prop} {i o : Int} (ho : 0 ≤ o ∧ o ≤ 5) (k1 : isaF 5 o → Q (some (vI i)) (mu M 273 6 0)) (k2 : ¬ isaF 5 o → Q (some (vI (-1000010 - 3))) (mu M 273 6 3)) : Ok (d + 1) 191 34 [some (vR (some 273)), some (vI i), some (vI o), some (vI 5)] [] M Q := by
  refine k_iload_n i_191_34 rfl ?_
  refine k_iload_n i_191_35 rfl ?_
  refine k_icmp_eq (t := 51) i_191_36 rfl (fun h36 => ?_) (fun h36 => ?_)
  · refine k_iload_n i_191_51 rfl ?_
    refine k_iload_n i_191_52 rfl ?_
    refine k_icmp_ne (t := 64) i_191_53 rfl (fun h53 => ?_) (fun h53 => ?_)
    · refine k_aload_n i_191_64 rfl ?_
      refine k_iconst i_191_65 (by decide) ?_
      refine k_invV (n := 1) (o' := 8) (av := [vR (some 273), vI 3]) (rest := []) (el := [some (vR (some 273)), some (vI 3)]) i_191_66 o_191 rfl v_123 rfl (s_273) rfl rfl rfl rfl rfl ?_
      refine c_123 (by omega) ?_
      show Ok _ 191 69 [some (vR (some 273)), some (vI i), some (vI o), some (vI 5)] [vI (-1000010 - 3)] (mu M 273 6 3) _
      refine k_iret i_191_69 rfl ?_
      refine k2 (by unfold isaF; omega)
    · refine k_aload_n i_191_56 rfl ?_
      refine k_iload_n i_191_57 rfl ?_
      refine k_invV (n := 1) (o' := 8) (av := [vR (some 273), vI i]) (rest := []) (el := [some (vR (some 273)), some (vI i)]) i_191_58 o_191 rfl v_124 rfl (s_273) rfl rfl rfl rfl rfl ?_
      refine c_124 ?_
      show Ok _ 191 61 [some (vR (some 273)), some (vI i), some (vI o), some (vI 5)] [vI i] (mu M 273 6 0) _
      refine k_goto (t := 69) i_191_61 rfl ?_
      refine k_iret i_191_69 rfl ?_
      refine k1 (by unfold isaF; omega)
  · refine k_iload_n i_191_39 rfl ?_
    refine k_if_eq (t := 51) i_191_40 rfl (fun h40 => absurd h40 (by decide)) (fun h40 => ?_)
    refine k_iload_n i_191_43 rfl ?_
    refine k_invS (n := 1) (av := [vI 5]) (rest := []) (el := [some (vI 5)]) i_191_44 o_191 rfl v_190 rfl rfl rfl rfl rfl rfl ?_
    refine c_190 ?_
    rw [show (if (5 : Int) = 5 then (4 : Int) else if (5 : Int) = 2 ∨ (5 : Int) = 3 then 1 else 0) = 4 by decide]
    refine k_istore_n (ls' := [some (vR (some 273)), some (vI i), some (vI o), some (vI 4)]) i_191_47 rfl ?_
    refine k_goto (t := 34) i_191_48 rfl ?_
    refine k_iload_n i_191_34 rfl ?_
    refine k_iload_n i_191_35 rfl ?_
    refine k_icmp_eq (t := 51) i_191_36 rfl (fun h36 => ?_) (fun h36 => ?_)
    · refine k_iload_n i_191_51 rfl ?_
      refine k_iload_n i_191_52 rfl ?_
      refine k_icmp_ne (t := 64) i_191_53 rfl (fun h53 => ?_) (fun h53 => ?_)
      · refine k_aload_n i_191_64 rfl ?_
        refine k_iconst i_191_65 (by decide) ?_
        refine k_invV (n := 1) (o' := 8) (av := [vR (some 273), vI 3]) (rest := []) (el := [some (vR (some 273)), some (vI 3)]) i_191_66 o_191 rfl v_123 rfl (s_273) rfl rfl rfl rfl rfl ?_
        refine c_123 (by omega) ?_
        show Ok _ 191 69 [some (vR (some 273)), some (vI i), some (vI o), some (vI 4)] [vI (-1000010 - 3)] (mu M 273 6 3) _
        refine k_iret i_191_69 rfl ?_
        refine k2 (by unfold isaF; omega)
      · refine k_aload_n i_191_56 rfl ?_
        refine k_iload_n i_191_57 rfl ?_
        refine k_invV (n := 1) (o' := 8) (av := [vR (some 273), vI i]) (rest := []) (el := [some (vR (some 273)), some (vI i)]) i_191_58 o_191 rfl v_124 rfl (s_273) rfl rfl rfl rfl rfl ?_
        refine c_124 ?_
        show Ok _ 191 61 [some (vR (some 273)), some (vI i), some (vI o), some (vI 4)] [vI i] (mu M 273 6 0) _
        refine k_goto (t := 69) i_191_61 rfl ?_
        refine k_iret i_191_69 rfl ?_
        refine k1 (by unfold isaF; omega)
    · refine k_iload_n i_191_39 rfl ?_
      refine k_if_eq (t := 51) i_191_40 rfl (fun h40 => absurd h40 (by decide)) (fun h40 => ?_)
      refine k_iload_n i_191_43 rfl ?_
      refine k_invS (n := 1) (av := [vI 4]) (rest := []) (el := [some (vI 4)]) i_191_44 o_191 rfl v_190 rfl rfl rfl rfl rfl rfl ?_
      refine c_190 ?_
      rw [show (if (4 : Int) = 5 then (4 : Int) else if (4 : Int) = 2 ∨ (4 : Int) = 3 then 1 else 0) = 0 by decide]
      refine k_istore_n (ls' := [some (vR (some 273)), some (vI i), some (vI o), some (vI 0)]) i_191_47 rfl ?_
      refine k_goto (t := 34) i_191_48 rfl ?_
      refine k_iload_n i_191_34 rfl ?_
      refine k_iload_n i_191_35 rfl ?_
      refine k_icmp_eq (t := 51) i_191_36 rfl (fun h36 => ?_) (fun h36 => ?_)
      · refine k_iload_n i_191_51 rfl ?_
        refine k_iload_n i_191_52 rfl ?_
        refine k_icmp_ne (t := 64) i_191_53 rfl (fun h53 => ?_) (fun h53 => ?_)
        · refine k_aload_n i_191_64 rfl ?_
          refine k_iconst i_191_65 (by decide) ?_
          refine k_invV (n := 1) (o' := 8) (av := [vR (some 273), vI 3]) (rest := []) (el := [some (vR (some 273)), some (vI 3)]) i_191_66 o_191 rfl v_123 rfl (s_273) rfl rfl rfl rfl rfl ?_
          refine c_123 (by omega) ?_
          show Ok _ 191 69 [some (vR (some 273)), some (vI i), some (vI o), some (vI 0)] [vI (-1000010 - 3)] (mu M 273 6 3) _
          refine k_iret i_191_69 rfl ?_
          refine k2 (by unfold isaF; omega)
        · refine k_aload_n i_191_56 rfl ?_
          refine k_iload_n i_191_57 rfl ?_
          refine k_invV (n := 1) (o' := 8) (av := [vR (some 273), vI i]) (rest := []) (el := [some (vR (some 273)), some (vI i)]) i_191_58 o_191 rfl v_124 rfl (s_273) rfl rfl rfl rfl rfl ?_
          refine c_124 ?_
          show Ok _ 191 61 [some (vR (some 273)), some (vI i), some (vI o), some (vI 0)] [vI i] (mu M 273 6 0) _
          refine k_goto (t := 69) i_191_61 rfl ?_
          refine k_iret i_191_69 rfl ?_
          refine k1 (by unfold isaF; omega)
      · refine k_iload_n i_191_39 rfl ?_
        refine k_if_eq (t := 51) i_191_40 rfl (fun h40 => ?_) (fun h40 => absurd h40 (by decide))
        refine k_iload_n i_191_51 rfl ?_
        refine k_iload_n i_191_52 rfl ?_
        refine k_icmp_ne (t := 64) i_191_53 rfl (fun h53 => ?_) (fun h53 => ?_)
        · refine k_aload_n i_191_64 rfl ?_
          refine k_iconst i_191_65 (by decide) ?_
          refine k_invV (n := 1) (o' := 8) (av := [vR (some 273), vI 3]) (rest := []) (el := [some (vR (some 273)), some (vI 3)]) i_191_66 o_191 rfl v_123 rfl (s_273) rfl rfl rfl rfl rfl ?_
          refine c_123 (by omega) ?_
          show Ok _ 191 69 [some (vR (some 273)), some (vI i), some (vI o), some (vI 0)] [vI (-1000010 - 3)] (mu M 273 6 3) _
          refine k_iret i_191_69 rfl ?_
          refine k2 (by unfold isaF; omega)
        · refine k_aload_n i_191_56 rfl ?_
          refine k_iload_n i_191_57 rfl ?_
          refine k_invV (n := 1) (o' := 8) (av := [vR (some 273), vI i]) (rest := []) (el := [some (vR (some 273)), some (vI i)]) i_191_58 o_191 rfl v_124 rfl (s_273) rfl rfl rfl rfl rfl ?_
          refine c_124 ?_
          show Ok _ 191 61 [some (vR (some 273)), some (vI i), some (vI o), some (vI 0)] [vI i] (mu M 273 6 0) _
          refine k_goto (t := 69) i_191_61 rfl ?_
          refine k_iret i_191_69 rfl ?_
          refine k1 (by unfold isaF; omega)
