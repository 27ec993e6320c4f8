def acl (i : Nat) : List Sh := [(0, 3, [some 32, none, none]), (24, 24, (List.range 24).map (fun j => if j < i then some (33 + 6 * j) else none))] ++ (List.range i).flatMap (fun j => sTown (33 + 6 * j) 20 16)
def fol (i : Nat) : List Sh := [(2, 5, [some 178, some 25, some 179, some 185, some 191]), (20, 16, [])] ++ sTown 179 20 28 ++ sTown 185 20 16 ++ [(24, 9, (List.range 9).map (fun j => if j < i then some (192 + 6 * j) else none))] ++ (List.range i).flatMap (fun j => sTown (192 + 6 * j) 20 16)

set_option maxRecDepth 100000 in
theorem n_0 {d : Nat} {P : List Sh} {M : Mem} {Q : Option Vv → List Sh → Mem → Prop} (hP : P.length = 31) (hz : Zr M 31) (k : Q none (P ++ acl 24) M) : OkS (d + 1) 0 0 [some (vR (some 31)), some (vR (some 20)), none] [] (P ++ [(0, 3, [none, none, none])]) M Q := by
  refine j_aload_n i_0_0 rfl ?_
  refine j_obj i_0_1 o_0 rfl rfl ?_
  refine j_aload_n i_0_4 rfl ?_
  refine j_bipush i_0_5 (by decide) ?_
  refine j_newq (S' := ((P ++ [(0, 3, [none, none, none])]) ++ [(24, 24, [none, none, none, none, none, none, none, none, none, none, none, none, none, none, none, none, none, none, none, none, none, none, none, none])])) (a := 32) (nn := 24) i_0_7 o_0 rfl (by decide) (by (try simp only [List.append_assoc]); exact (lx hP).trans (by decide +kernel)) (by decide) (by decide) (hz.mono (by omega)) rfl ?_
  refine j_putR (S' := (P ++ acl 0)) i_0_10 o_0 y_0 rfl (by decide) (show ((P ++ [(0, 3, [none, none, none])]) ++ [(24, 24, [none, none, none, none, none, none, none, none, none, none, none, none, none, none, none, none, none, none, none, none, none, none, none, none])])[31]? = some (0, 3, [none, none, none]) by (try simp only [List.append_assoc]); exact (gx hP 0).trans (by decide +kernel)) rfl (by (try simp only [List.append_assoc]); exact (sx hP 0 _).trans (congrArg (P ++ ·) (by decide +kernel))) ?_
  refine j_iconst i_0_13 (by decide) ?_
  refine j_istore_n (ls' := [some (vR (some 31)), some (vR (some 20)), some (vI 0)]) i_0_14 rfl ?_
  refine j_iload_n i_0_15 rfl ?_
  refine j_bipush i_0_16 (by decide) ?_
  refine j_geF (t := 43) i_0_18 rfl (by decide) ?_
  refine j_aload_n i_0_21 rfl ?_
  refine j_getR (r := 32) i_0_22 o_0 rfl (by decide) (show (P ++ acl 0)[31]? = some (0, 3, [some 32, none, none]) by (try simp only [List.append_assoc]); exact (gx hP 0).trans (by decide +kernel)) rfl ?_
  refine j_iload_n i_0_25 rfl ?_
  refine j_new (S' := ((P ++ acl 0) ++ [(6, 11, [none, none, none, none, none, none, none, none, none, none, none])])) (a := 33) i_0_26 o_0 rfl (by decide) (by (try simp only [List.append_assoc]); exact (lx hP).trans (by decide +kernel)) (by decide) (hz.mono (by omega)) rfl ?_
  refine j_dup i_0_29 ?_
  refine j_aload_n i_0_30 rfl ?_
  refine j_bipush i_0_31 (by decide) ?_
  refine j_init (n := 2) (a := 33) (av := [vR (some 33), vR (some 20), vI 16]) (rest := [vR (some 33), vI 0, vR (some 32)]) (el := [some (vR (some 33)), some (vR (some 20)), some (vI 16)]) i_0_33 o_0 rfl w_60 rfl rfl rfl rfl rfl rfl ?_
  refine n_60_16 (P := (P ++ acl 0)) (a := 33) (t := 20) (by (try simp only [List.append_assoc]); exact (lx hP).trans (by decide +kernel)) (by decide) (hz.mono (by omega)) ?_
  show OkS _ 0 36 [some (vR (some 31)), some (vR (some 20)), some (vI 0)] [vR (some 33), vI 0, vR (some 32)] ((P ++ acl 0) ++ sTown 33 20 16) (M) _
  refine j_aast (S' := (P ++ acl 1)) i_0_36 (show ((P ++ acl 0) ++ sTown 33 20 16)[32]? = some (24, 24, [none, none, none, none, none, none, none, none, none, none, none, none, none, none, none, none, none, none, none, none, none, none, none, none]) by (try simp only [List.append_assoc]); exact (gx hP 1).trans (by decide +kernel)) (show ((P ++ acl 0) ++ sTown 33 20 16)[33]? = some (6, 11, [some 20, some 34, some 35, some 36, some 37, some 38, none, none, none, none, none]) by (try simp only [List.append_assoc]); exact (gx hP 2).trans (by decide +kernel)) (by decide) (by decide) (by (try simp only [List.append_assoc]); exact (sx hP 1 _).trans (congrArg (P ++ ·) (by decide +kernel))) ?_
  refine j_iinc (ls' := [some (vR (some 31)), some (vR (some 20)), some (vI 1)]) i_0_37 rfl (by omega) rfl ?_
  refine j_goto (t := 15) i_0_40 rfl ?_
  refine j_iload_n i_0_15 rfl ?_
  refine j_bipush i_0_16 (by decide) ?_
  refine j_geF (t := 43) i_0_18 rfl (by decide) ?_
  refine j_aload_n i_0_21 rfl ?_
  refine j_getR (r := 32) i_0_22 o_0 rfl (by decide) (show (P ++ acl 1)[31]? = some (0, 3, [some 32, none, none]) by (try simp only [List.append_assoc]); exact (gx hP 0).trans (by decide +kernel)) rfl ?_
  refine j_iload_n i_0_25 rfl ?_
  refine j_new (S' := ((P ++ acl 1) ++ [(6, 11, [none, none, none, none, none, none, none, none, none, none, none])])) (a := 39) i_0_26 o_0 rfl (by decide) (by (try simp only [List.append_assoc]); exact (lx hP).trans (by decide +kernel)) (by decide) (hz.mono (by omega)) rfl ?_
  refine j_dup i_0_29 ?_
  refine j_aload_n i_0_30 rfl ?_
  refine j_bipush i_0_31 (by decide) ?_
  refine j_init (n := 2) (a := 39) (av := [vR (some 39), vR (some 20), vI 16]) (rest := [vR (some 39), vI 1, vR (some 32)]) (el := [some (vR (some 39)), some (vR (some 20)), some (vI 16)]) i_0_33 o_0 rfl w_60 rfl rfl rfl rfl rfl rfl ?_
  refine n_60_16 (P := (P ++ acl 1)) (a := 39) (t := 20) (by (try simp only [List.append_assoc]); exact (lx hP).trans (by decide +kernel)) (by decide) (hz.mono (by omega)) ?_
  show OkS _ 0 36 [some (vR (some 31)), some (vR (some 20)), some (vI 1)] [vR (some 39), vI 1, vR (some 32)] ((P ++ acl 1) ++ sTown 39 20 16) (M) _
  refine j_aast (S' := (P ++ acl 2)) i_0_36 (show ((P ++ acl 1) ++ sTown 39 20 16)[32]? = some (24, 24, [some 33, none, none, none, none, none, none, none, none, none, none, none, none, none, none, none, none, none, none, none, none, none, none, none]) by (try simp only [List.append_assoc]); exact (gx hP 1).trans (by decide +kernel)) (show ((P ++ acl 1) ++ sTown 39 20 16)[39]? = some (6, 11, [some 20, some 40, some 41, some 42, some 43, some 44, none, none, none, none, none]) by (try simp only [List.append_assoc]); exact (gx hP 8).trans (by decide +kernel)) (by decide) (by decide) (by (try simp only [List.append_assoc]); exact (sx hP 1 _).trans (congrArg (P ++ ·) (by decide +kernel))) ?_
  refine j_iinc (ls' := [some (vR (some 31)), some (vR (some 20)), some (vI 2)]) i_0_37 rfl (by omega) rfl ?_
  refine j_goto (t := 15) i_0_40 rfl ?_
  refine j_iload_n i_0_15 rfl ?_
  refine j_bipush i_0_16 (by decide) ?_
  refine j_geF (t := 43) i_0_18 rfl (by decide) ?_
  refine j_aload_n i_0_21 rfl ?_
  refine j_getR (r := 32) i_0_22 o_0 rfl (by decide) (show (P ++ acl 2)[31]? = some (0, 3, [some 32, none, none]) by (try simp only [List.append_assoc]); exact (gx hP 0).trans (by decide +kernel)) rfl ?_
  refine j_iload_n i_0_25 rfl ?_
  refine j_new (S' := ((P ++ acl 2) ++ [(6, 11, [none, none, none, none, none, none, none, none, none, none, none])])) (a := 45) i_0_26 o_0 rfl (by decide) (by (try simp only [List.append_assoc]); exact (lx hP).trans (by decide +kernel)) (by decide) (hz.mono (by omega)) rfl ?_
  refine j_dup i_0_29 ?_
  refine j_aload_n i_0_30 rfl ?_
  refine j_bipush i_0_31 (by decide) ?_
  refine j_init (n := 2) (a := 45) (av := [vR (some 45), vR (some 20), vI 16]) (rest := [vR (some 45), vI 2, vR (some 32)]) (el := [some (vR (some 45)), some (vR (some 20)), some (vI 16)]) i_0_33 o_0 rfl w_60 rfl rfl rfl rfl rfl rfl ?_
  refine n_60_16 (P := (P ++ acl 2)) (a := 45) (t := 20) (by (try simp only [List.append_assoc]); exact (lx hP).trans (by decide +kernel)) (by decide) (hz.mono (by omega)) ?_
  show OkS _ 0 36 [some (vR (some 31)), some (vR (some 20)), some (vI 2)] [vR (some 45), vI 2, vR (some 32)] ((P ++ acl 2) ++ sTown 45 20 16) (M) _
  refine j_aast (S' := (P ++ acl 3)) i_0_36 (show ((P ++ acl 2) ++ sTown 45 20 16)[32]? = some (24, 24, [some 33, some 39, none, none, none, none, none, none, none, none, none, none, none, none, none, none, none, none, none, none, none, none, none, none]) by (try simp only [List.append_assoc]); exact (gx hP 1).trans (by decide +kernel)) (show ((P ++ acl 2) ++ sTown 45 20 16)[45]? = some (6, 11, [some 20, some 46, some 47, some 48, some 49, some 50, none, none, none, none, none]) by (try simp only [List.append_assoc]); exact (gx hP 14).trans (by decide +kernel)) (by decide) (by decide) (by (try simp only [List.append_assoc]); exact (sx hP 1 _).trans (congrArg (P ++ ·) (by decide +kernel))) ?_
  refine j_iinc (ls' := [some (vR (some 31)), some (vR (some 20)), some (vI 3)]) i_0_37 rfl (by omega) rfl ?_
  refine j_goto (t := 15) i_0_40 rfl ?_
  refine j_iload_n i_0_15 rfl ?_
  refine j_bipush i_0_16 (by decide) ?_
  refine j_geF (t := 43) i_0_18 rfl (by decide) ?_
  refine j_aload_n i_0_21 rfl ?_
  refine j_getR (r := 32) i_0_22 o_0 rfl (by decide) (show (P ++ acl 3)[31]? = some (0, 3, [some 32, none, none]) by (try simp only [List.append_assoc]); exact (gx hP 0).trans (by decide +kernel)) rfl ?_
  refine j_iload_n i_0_25 rfl ?_
  refine j_new (S' := ((P ++ acl 3) ++ [(6, 11, [none, none, none, none, none, none, none, none, none, none, none])])) (a := 51) i_0_26 o_0 rfl (by decide) (by (try simp only [List.append_assoc]); exact (lx hP).trans (by decide +kernel)) (by decide) (hz.mono (by omega)) rfl ?_
  refine j_dup i_0_29 ?_
  refine j_aload_n i_0_30 rfl ?_
  refine j_bipush i_0_31 (by decide) ?_
  refine j_init (n := 2) (a := 51) (av := [vR (some 51), vR (some 20), vI 16]) (rest := [vR (some 51), vI 3, vR (some 32)]) (el := [some (vR (some 51)), some (vR (some 20)), some (vI 16)]) i_0_33 o_0 rfl w_60 rfl rfl rfl rfl rfl rfl ?_
  refine n_60_16 (P := (P ++ acl 3)) (a := 51) (t := 20) (by (try simp only [List.append_assoc]); exact (lx hP).trans (by decide +kernel)) (by decide) (hz.mono (by omega)) ?_
  show OkS _ 0 36 [some (vR (some 31)), some (vR (some 20)), some (vI 3)] [vR (some 51), vI 3, vR (some 32)] ((P ++ acl 3) ++ sTown 51 20 16) (M) _
  refine j_aast (S' := (P ++ acl 4)) i_0_36 (show ((P ++ acl 3) ++ sTown 51 20 16)[32]? = some (24, 24, [some 33, some 39, some 45, none, none, none, none, none, none, none, none, none, none, none, none, none, none, none, none, none, none, none, none, none]) by (try simp only [List.append_assoc]); exact (gx hP 1).trans (by decide +kernel)) (show ((P ++ acl 3) ++ sTown 51 20 16)[51]? = some (6, 11, [some 20, some 52, some 53, some 54, some 55, some 56, none, none, none, none, none]) by (try simp only [List.append_assoc]); exact (gx hP 20).trans (by decide +kernel)) (by decide) (by decide) (by (try simp only [List.append_assoc]); exact (sx hP 1 _).trans (congrArg (P ++ ·) (by decide +kernel))) ?_
  refine j_iinc (ls' := [some (vR (some 31)), some (vR (some 20)), some (vI 4)]) i_0_37 rfl (by omega) rfl ?_
  refine j_goto (t := 15) i_0_40 rfl ?_
  refine j_iload_n i_0_15 rfl ?_
  refine j_bipush i_0_16 (by decide) ?_
  refine j_geF (t := 43) i_0_18 rfl (by decide) ?_
  refine j_aload_n i_0_21 rfl ?_
  refine j_getR (r := 32) i_0_22 o_0 rfl (by decide) (show (P ++ acl 4)[31]? = some (0, 3, [some 32, none, none]) by (try simp only [List.append_assoc]); exact (gx hP 0).trans (by decide +kernel)) rfl ?_
  refine j_iload_n i_0_25 rfl ?_
  refine j_new (S' := ((P ++ acl 4) ++ [(6, 11, [none, none, none, none, none, none, none, none, none, none, none])])) (a := 57) i_0_26 o_0 rfl (by decide) (by (try simp only [List.append_assoc]); exact (lx hP).trans (by decide +kernel)) (by decide) (hz.mono (by omega)) rfl ?_
  refine j_dup i_0_29 ?_
  refine j_aload_n i_0_30 rfl ?_
  refine j_bipush i_0_31 (by decide) ?_
  refine j_init (n := 2) (a := 57) (av := [vR (some 57), vR (some 20), vI 16]) (rest := [vR (some 57), vI 4, vR (some 32)]) (el := [some (vR (some 57)), some (vR (some 20)), some (vI 16)]) i_0_33 o_0 rfl w_60 rfl rfl rfl rfl rfl rfl ?_
  refine n_60_16 (P := (P ++ acl 4)) (a := 57) (t := 20) (by (try simp only [List.append_assoc]); exact (lx hP).trans (by decide +kernel)) (by decide) (hz.mono (by omega)) ?_
  show OkS _ 0 36 [some (vR (some 31)), some (vR (some 20)), some (vI 4)] [vR (some 57), vI 4, vR (some 32)] ((P ++ acl 4) ++ sTown 57 20 16) (M) _
  refine j_aast (S' := (P ++ acl 5)) i_0_36 (show ((P ++ acl 4) ++ sTown 57 20 16)[32]? = some (24, 24, [some 33, some 39, some 45, some 51, none, none, none, none, none, none, none, none, none, none, none, none, none, none, none, none, none, none, none, none]) by (try simp only [List.append_assoc]); exact (gx hP 1).trans (by decide +kernel)) (show ((P ++ acl 4) ++ sTown 57 20 16)[57]? = some (6, 11, [some 20, some 58, some 59, some 60, some 61, some 62, none, none, none, none, none]) by (try simp only [List.append_assoc]); exact (gx hP 26).trans (by decide +kernel)) (by decide) (by decide) (by (try simp only [List.append_assoc]); exact (sx hP 1 _).trans (congrArg (P ++ ·) (by decide +kernel))) ?_
  refine j_iinc (ls' := [some (vR (some 31)), some (vR (some 20)), some (vI 5)]) i_0_37 rfl (by omega) rfl ?_
  refine j_goto (t := 15) i_0_40 rfl ?_
  refine j_iload_n i_0_15 rfl ?_
  refine j_bipush i_0_16 (by decide) ?_
  refine j_geF (t := 43) i_0_18 rfl (by decide) ?_
  refine j_aload_n i_0_21 rfl ?_
  refine j_getR (r := 32) i_0_22 o_0 rfl (by decide) (show (P ++ acl 5)[31]? = some (0, 3, [some 32, none, none]) by (try simp only [List.append_assoc]); exact (gx hP 0).trans (by decide +kernel)) rfl ?_
  refine j_iload_n i_0_25 rfl ?_
  refine j_new (S' := ((P ++ acl 5) ++ [(6, 11, [none, none, none, none, none, none, none, none, none, none, none])])) (a := 63) i_0_26 o_0 rfl (by decide) (by (try simp only [List.append_assoc]); exact (lx hP).trans (by decide +kernel)) (by decide) (hz.mono (by omega)) rfl ?_
  refine j_dup i_0_29 ?_
  refine j_aload_n i_0_30 rfl ?_
  refine j_bipush i_0_31 (by decide) ?_
  refine j_init (n := 2) (a := 63) (av := [vR (some 63), vR (some 20), vI 16]) (rest := [vR (some 63), vI 5, vR (some 32)]) (el := [some (vR (some 63)), some (vR (some 20)), some (vI 16)]) i_0_33 o_0 rfl w_60 rfl rfl rfl rfl rfl rfl ?_
  refine n_60_16 (P := (P ++ acl 5)) (a := 63) (t := 20) (by (try simp only [List.append_assoc]); exact (lx hP).trans (by decide +kernel)) (by decide) (hz.mono (by omega)) ?_
  show OkS _ 0 36 [some (vR (some 31)), some (vR (some 20)), some (vI 5)] [vR (some 63), vI 5, vR (some 32)] ((P ++ acl 5) ++ sTown 63 20 16) (M) _
  refine j_aast (S' := (P ++ acl 6)) i_0_36 (show ((P ++ acl 5) ++ sTown 63 20 16)[32]? = some (24, 24, [some 33, some 39, some 45, some 51, some 57, none, none, none, none, none, none, none, none, none, none, none, none, none, none, none, none, none, none, none]) by (try simp only [List.append_assoc]); exact (gx hP 1).trans (by decide +kernel)) (show ((P ++ acl 5) ++ sTown 63 20 16)[63]? = some (6, 11, [some 20, some 64, some 65, some 66, some 67, some 68, none, none, none, none, none]) by (try simp only [List.append_assoc]); exact (gx hP 32).trans (by decide +kernel)) (by decide) (by decide) (by (try simp only [List.append_assoc]); exact (sx hP 1 _).trans (congrArg (P ++ ·) (by decide +kernel))) ?_
  refine j_iinc (ls' := [some (vR (some 31)), some (vR (some 20)), some (vI 6)]) i_0_37 rfl (by omega) rfl ?_
  refine j_goto (t := 15) i_0_40 rfl ?_
  refine j_iload_n i_0_15 rfl ?_
  refine j_bipush i_0_16 (by decide) ?_
  refine j_geF (t := 43) i_0_18 rfl (by decide) ?_
  refine j_aload_n i_0_21 rfl ?_
  refine j_getR (r := 32) i_0_22 o_0 rfl (by decide) (show (P ++ acl 6)[31]? = some (0, 3, [some 32, none, none]) by (try simp only [List.append_assoc]); exact (gx hP 0).trans (by decide +kernel)) rfl ?_
  refine j_iload_n i_0_25 rfl ?_
  refine j_new (S' := ((P ++ acl 6) ++ [(6, 11, [none, none, none, none, none, none, none, none, none, none, none])])) (a := 69) i_0_26 o_0 rfl (by decide) (by (try simp only [List.append_assoc]); exact (lx hP).trans (by decide +kernel)) (by decide) (hz.mono (by omega)) rfl ?_
  refine j_dup i_0_29 ?_
  refine j_aload_n i_0_30 rfl ?_
  refine j_bipush i_0_31 (by decide) ?_
  refine j_init (n := 2) (a := 69) (av := [vR (some 69), vR (some 20), vI 16]) (rest := [vR (some 69), vI 6, vR (some 32)]) (el := [some (vR (some 69)), some (vR (some 20)), some (vI 16)]) i_0_33 o_0 rfl w_60 rfl rfl rfl rfl rfl rfl ?_
  refine n_60_16 (P := (P ++ acl 6)) (a := 69) (t := 20) (by (try simp only [List.append_assoc]); exact (lx hP).trans (by decide +kernel)) (by decide) (hz.mono (by omega)) ?_
  show OkS _ 0 36 [some (vR (some 31)), some (vR (some 20)), some (vI 6)] [vR (some 69), vI 6, vR (some 32)] ((P ++ acl 6) ++ sTown 69 20 16) (M) _
  refine j_aast (S' := (P ++ acl 7)) i_0_36 (show ((P ++ acl 6) ++ sTown 69 20 16)[32]? = some (24, 24, [some 33, some 39, some 45, some 51, some 57, some 63, none, none, none, none, none, none, none, none, none, none, none, none, none, none, none, none, none, none]) by (try simp only [List.append_assoc]); exact (gx hP 1).trans (by decide +kernel)) (show ((P ++ acl 6) ++ sTown 69 20 16)[69]? = some (6, 11, [some 20, some 70, some 71, some 72, some 73, some 74, none, none, none, none, none]) by (try simp only [List.append_assoc]); exact (gx hP 38).trans (by decide +kernel)) (by decide) (by decide) (by (try simp only [List.append_assoc]); exact (sx hP 1 _).trans (congrArg (P ++ ·) (by decide +kernel))) ?_
  refine j_iinc (ls' := [some (vR (some 31)), some (vR (some 20)), some (vI 7)]) i_0_37 rfl (by omega) rfl ?_
  refine j_goto (t := 15) i_0_40 rfl ?_
  refine j_iload_n i_0_15 rfl ?_
  refine j_bipush i_0_16 (by decide) ?_
  refine j_geF (t := 43) i_0_18 rfl (by decide) ?_
  refine j_aload_n i_0_21 rfl ?_
  refine j_getR (r := 32) i_0_22 o_0 rfl (by decide) (show (P ++ acl 7)[31]? = some (0, 3, [some 32, none, none]) by (try simp only [List.append_assoc]); exact (gx hP 0).trans (by decide +kernel)) rfl ?_
  refine j_iload_n i_0_25 rfl ?_
  refine j_new (S' := ((P ++ acl 7) ++ [(6, 11, [none, none, none, none, none, none, none, none, none, none, none])])) (a := 75) i_0_26 o_0 rfl (by decide) (by (try simp only [List.append_assoc]); exact (lx hP).trans (by decide +kernel)) (by decide) (hz.mono (by omega)) rfl ?_
  refine j_dup i_0_29 ?_
  refine j_aload_n i_0_30 rfl ?_
  refine j_bipush i_0_31 (by decide) ?_
  refine j_init (n := 2) (a := 75) (av := [vR (some 75), vR (some 20), vI 16]) (rest := [vR (some 75), vI 7, vR (some 32)]) (el := [some (vR (some 75)), some (vR (some 20)), some (vI 16)]) i_0_33 o_0 rfl w_60 rfl rfl rfl rfl rfl rfl ?_
  refine n_60_16 (P := (P ++ acl 7)) (a := 75) (t := 20) (by (try simp only [List.append_assoc]); exact (lx hP).trans (by decide +kernel)) (by decide) (hz.mono (by omega)) ?_
  show OkS _ 0 36 [some (vR (some 31)), some (vR (some 20)), some (vI 7)] [vR (some 75), vI 7, vR (some 32)] ((P ++ acl 7) ++ sTown 75 20 16) (M) _
  refine j_aast (S' := (P ++ acl 8)) i_0_36 (show ((P ++ acl 7) ++ sTown 75 20 16)[32]? = some (24, 24, [some 33, some 39, some 45, some 51, some 57, some 63, some 69, none, none, none, none, none, none, none, none, none, none, none, none, none, none, none, none, none]) by (try simp only [List.append_assoc]); exact (gx hP 1).trans (by decide +kernel)) (show ((P ++ acl 7) ++ sTown 75 20 16)[75]? = some (6, 11, [some 20, some 76, some 77, some 78, some 79, some 80, none, none, none, none, none]) by (try simp only [List.append_assoc]); exact (gx hP 44).trans (by decide +kernel)) (by decide) (by decide) (by (try simp only [List.append_assoc]); exact (sx hP 1 _).trans (congrArg (P ++ ·) (by decide +kernel))) ?_
  refine j_iinc (ls' := [some (vR (some 31)), some (vR (some 20)), some (vI 8)]) i_0_37 rfl (by omega) rfl ?_
  refine j_goto (t := 15) i_0_40 rfl ?_
  refine j_iload_n i_0_15 rfl ?_
  refine j_bipush i_0_16 (by decide) ?_
  refine j_geF (t := 43) i_0_18 rfl (by decide) ?_
  refine j_aload_n i_0_21 rfl ?_
  refine j_getR (r := 32) i_0_22 o_0 rfl (by decide) (show (P ++ acl 8)[31]? = some (0, 3, [some 32, none, none]) by (try simp only [List.append_assoc]); exact (gx hP 0).trans (by decide +kernel)) rfl ?_
  refine j_iload_n i_0_25 rfl ?_
  refine j_new (S' := ((P ++ acl 8) ++ [(6, 11, [none, none, none, none, none, none, none, none, none, none, none])])) (a := 81) i_0_26 o_0 rfl (by decide) (by (try simp only [List.append_assoc]); exact (lx hP).trans (by decide +kernel)) (by decide) (hz.mono (by omega)) rfl ?_
  refine j_dup i_0_29 ?_
  refine j_aload_n i_0_30 rfl ?_
  refine j_bipush i_0_31 (by decide) ?_
  refine j_init (n := 2) (a := 81) (av := [vR (some 81), vR (some 20), vI 16]) (rest := [vR (some 81), vI 8, vR (some 32)]) (el := [some (vR (some 81)), some (vR (some 20)), some (vI 16)]) i_0_33 o_0 rfl w_60 rfl rfl rfl rfl rfl rfl ?_
  refine n_60_16 (P := (P ++ acl 8)) (a := 81) (t := 20) (by (try simp only [List.append_assoc]); exact (lx hP).trans (by decide +kernel)) (by decide) (hz.mono (by omega)) ?_
  show OkS _ 0 36 [some (vR (some 31)), some (vR (some 20)), some (vI 8)] [vR (some 81), vI 8, vR (some 32)] ((P ++ acl 8) ++ sTown 81 20 16) (M) _
  refine j_aast (S' := (P ++ acl 9)) i_0_36 (show ((P ++ acl 8) ++ sTown 81 20 16)[32]? = some (24, 24, [some 33, some 39, some 45, some 51, some 57, some 63, some 69, some 75, none, none, none, none, none, none, none, none, none, none, none, none, none, none, none, none]) by (try simp only [List.append_assoc]); exact (gx hP 1).trans (by decide +kernel)) (show ((P ++ acl 8) ++ sTown 81 20 16)[81]? = some (6, 11, [some 20, some 82, some 83, some 84, some 85, some 86, none, none, none, none, none]) by (try simp only [List.append_assoc]); exact (gx hP 50).trans (by decide +kernel)) (by decide) (by decide) (by (try simp only [List.append_assoc]); exact (sx hP 1 _).trans (congrArg (P ++ ·) (by decide +kernel))) ?_
  refine j_iinc (ls' := [some (vR (some 31)), some (vR (some 20)), some (vI 9)]) i_0_37 rfl (by omega) rfl ?_
  refine j_goto (t := 15) i_0_40 rfl ?_
  refine j_iload_n i_0_15 rfl ?_
  refine j_bipush i_0_16 (by decide) ?_
  refine j_geF (t := 43) i_0_18 rfl (by decide) ?_
  refine j_aload_n i_0_21 rfl ?_
  refine j_getR (r := 32) i_0_22 o_0 rfl (by decide) (show (P ++ acl 9)[31]? = some (0, 3, [some 32, none, none]) by (try simp only [List.append_assoc]); exact (gx hP 0).trans (by decide +kernel)) rfl ?_
  refine j_iload_n i_0_25 rfl ?_
  refine j_new (S' := ((P ++ acl 9) ++ [(6, 11, [none, none, none, none, none, none, none, none, none, none, none])])) (a := 87) i_0_26 o_0 rfl (by decide) (by (try simp only [List.append_assoc]); exact (lx hP).trans (by decide +kernel)) (by decide) (hz.mono (by omega)) rfl ?_
  refine j_dup i_0_29 ?_
  refine j_aload_n i_0_30 rfl ?_
  refine j_bipush i_0_31 (by decide) ?_
  refine j_init (n := 2) (a := 87) (av := [vR (some 87), vR (some 20), vI 16]) (rest := [vR (some 87), vI 9, vR (some 32)]) (el := [some (vR (some 87)), some (vR (some 20)), some (vI 16)]) i_0_33 o_0 rfl w_60 rfl rfl rfl rfl rfl rfl ?_
  refine n_60_16 (P := (P ++ acl 9)) (a := 87) (t := 20) (by (try simp only [List.append_assoc]); exact (lx hP).trans (by decide +kernel)) (by decide) (hz.mono (by omega)) ?_
  show OkS _ 0 36 [some (vR (some 31)), some (vR (some 20)), some (vI 9)] [vR (some 87), vI 9, vR (some 32)] ((P ++ acl 9) ++ sTown 87 20 16) (M) _
  refine j_aast (S' := (P ++ acl 10)) i_0_36 (show ((P ++ acl 9) ++ sTown 87 20 16)[32]? = some (24, 24, [some 33, some 39, some 45, some 51, some 57, some 63, some 69, some 75, some 81, none, none, none, none, none, none, none, none, none, none, none, none, none, none, none]) by (try simp only [List.append_assoc]); exact (gx hP 1).trans (by decide +kernel)) (show ((P ++ acl 9) ++ sTown 87 20 16)[87]? = some (6, 11, [some 20, some 88, some 89, some 90, some 91, some 92, none, none, none, none, none]) by (try simp only [List.append_assoc]); exact (gx hP 56).trans (by decide +kernel)) (by decide) (by decide) (by (try simp only [List.append_assoc]); exact (sx hP 1 _).trans (congrArg (P ++ ·) (by decide +kernel))) ?_
  refine j_iinc (ls' := [some (vR (some 31)), some (vR (some 20)), some (vI 10)]) i_0_37 rfl (by omega) rfl ?_
  refine j_goto (t := 15) i_0_40 rfl ?_
  refine j_iload_n i_0_15 rfl ?_
  refine j_bipush i_0_16 (by decide) ?_
  refine j_geF (t := 43) i_0_18 rfl (by decide) ?_
  refine j_aload_n i_0_21 rfl ?_
  refine j_getR (r := 32) i_0_22 o_0 rfl (by decide) (show (P ++ acl 10)[31]? = some (0, 3, [some 32, none, none]) by (try simp only [List.append_assoc]); exact (gx hP 0).trans (by decide +kernel)) rfl ?_
  refine j_iload_n i_0_25 rfl ?_
  refine j_new (S' := ((P ++ acl 10) ++ [(6, 11, [none, none, none, none, none, none, none, none, none, none, none])])) (a := 93) i_0_26 o_0 rfl (by decide) (by (try simp only [List.append_assoc]); exact (lx hP).trans (by decide +kernel)) (by decide) (hz.mono (by omega)) rfl ?_
  refine j_dup i_0_29 ?_
  refine j_aload_n i_0_30 rfl ?_
  refine j_bipush i_0_31 (by decide) ?_
  refine j_init (n := 2) (a := 93) (av := [vR (some 93), vR (some 20), vI 16]) (rest := [vR (some 93), vI 10, vR (some 32)]) (el := [some (vR (some 93)), some (vR (some 20)), some (vI 16)]) i_0_33 o_0 rfl w_60 rfl rfl rfl rfl rfl rfl ?_
  refine n_60_16 (P := (P ++ acl 10)) (a := 93) (t := 20) (by (try simp only [List.append_assoc]); exact (lx hP).trans (by decide +kernel)) (by decide) (hz.mono (by omega)) ?_
  show OkS _ 0 36 [some (vR (some 31)), some (vR (some 20)), some (vI 10)] [vR (some 93), vI 10, vR (some 32)] ((P ++ acl 10) ++ sTown 93 20 16) (M) _
  refine j_aast (S' := (P ++ acl 11)) i_0_36 (show ((P ++ acl 10) ++ sTown 93 20 16)[32]? = some (24, 24, [some 33, some 39, some 45, some 51, some 57, some 63, some 69, some 75, some 81, some 87, none, none, none, none, none, none, none, none, none, none, none, none, none, none]) by (try simp only [List.append_assoc]); exact (gx hP 1).trans (by decide +kernel)) (show ((P ++ acl 10) ++ sTown 93 20 16)[93]? = some (6, 11, [some 20, some 94, some 95, some 96, some 97, some 98, none, none, none, none, none]) by (try simp only [List.append_assoc]); exact (gx hP 62).trans (by decide +kernel)) (by decide) (by decide) (by (try simp only [List.append_assoc]); exact (sx hP 1 _).trans (congrArg (P ++ ·) (by decide +kernel))) ?_
  refine j_iinc (ls' := [some (vR (some 31)), some (vR (some 20)), some (vI 11)]) i_0_37 rfl (by omega) rfl ?_
  refine j_goto (t := 15) i_0_40 rfl ?_
  refine j_iload_n i_0_15 rfl ?_
  refine j_bipush i_0_16 (by decide) ?_
  refine j_geF (t := 43) i_0_18 rfl (by decide) ?_
  refine j_aload_n i_0_21 rfl ?_
  refine j_getR (r := 32) i_0_22 o_0 rfl (by decide) (show (P ++ acl 11)[31]? = some (0, 3, [some 32, none, none]) by (try simp only [List.append_assoc]); exact (gx hP 0).trans (by decide +kernel)) rfl ?_
  refine j_iload_n i_0_25 rfl ?_
  refine j_new (S' := ((P ++ acl 11) ++ [(6, 11, [none, none, none, none, none, none, none, none, none, none, none])])) (a := 99) i_0_26 o_0 rfl (by decide) (by (try simp only [List.append_assoc]); exact (lx hP).trans (by decide +kernel)) (by decide) (hz.mono (by omega)) rfl ?_
  refine j_dup i_0_29 ?_
  refine j_aload_n i_0_30 rfl ?_
  refine j_bipush i_0_31 (by decide) ?_
  refine j_init (n := 2) (a := 99) (av := [vR (some 99), vR (some 20), vI 16]) (rest := [vR (some 99), vI 11, vR (some 32)]) (el := [some (vR (some 99)), some (vR (some 20)), some (vI 16)]) i_0_33 o_0 rfl w_60 rfl rfl rfl rfl rfl rfl ?_
  refine n_60_16 (P := (P ++ acl 11)) (a := 99) (t := 20) (by (try simp only [List.append_assoc]); exact (lx hP).trans (by decide +kernel)) (by decide) (hz.mono (by omega)) ?_
  show OkS _ 0 36 [some (vR (some 31)), some (vR (some 20)), some (vI 11)] [vR (some 99), vI 11, vR (some 32)] ((P ++ acl 11) ++ sTown 99 20 16) (M) _
  refine j_aast (S' := (P ++ acl 12)) i_0_36 (show ((P ++ acl 11) ++ sTown 99 20 16)[32]? = some (24, 24, [some 33, some 39, some 45, some 51, some 57, some 63, some 69, some 75, some 81, some 87, some 93, none, none, none, none, none, none, none, none, none, none, none, none, none]) by (try simp only [List.append_assoc]); exact (gx hP 1).trans (by decide +kernel)) (show ((P ++ acl 11) ++ sTown 99 20 16)[99]? = some (6, 11, [some 20, some 100, some 101, some 102, some 103, some 104, none, none, none, none, none]) by (try simp only [List.append_assoc]); exact (gx hP 68).trans (by decide +kernel)) (by decide) (by decide) (by (try simp only [List.append_assoc]); exact (sx hP 1 _).trans (congrArg (P ++ ·) (by decide +kernel))) ?_
  refine j_iinc (ls' := [some (vR (some 31)), some (vR (some 20)), some (vI 12)]) i_0_37 rfl (by omega) rfl ?_
  refine j_goto (t := 15) i_0_40 rfl ?_
  refine j_iload_n i_0_15 rfl ?_
  refine j_bipush i_0_16 (by decide) ?_
  refine j_geF (t := 43) i_0_18 rfl (by decide) ?_
  refine j_aload_n i_0_21 rfl ?_
  refine j_getR (r := 32) i_0_22 o_0 rfl (by decide) (show (P ++ acl 12)[31]? = some (0, 3, [some 32, none, none]) by (try simp only [List.append_assoc]); exact (gx hP 0).trans (by decide +kernel)) rfl ?_
  refine j_iload_n i_0_25 rfl ?_
  refine j_new (S' := ((P ++ acl 12) ++ [(6, 11, [none, none, none, none, none, none, none, none, none, none, none])])) (a := 105) i_0_26 o_0 rfl (by decide) (by (try simp only [List.append_assoc]); exact (lx hP).trans (by decide +kernel)) (by decide) (hz.mono (by omega)) rfl ?_
  refine j_dup i_0_29 ?_
  refine j_aload_n i_0_30 rfl ?_
  refine j_bipush i_0_31 (by decide) ?_
  refine j_init (n := 2) (a := 105) (av := [vR (some 105), vR (some 20), vI 16]) (rest := [vR (some 105), vI 12, vR (some 32)]) (el := [some (vR (some 105)), some (vR (some 20)), some (vI 16)]) i_0_33 o_0 rfl w_60 rfl rfl rfl rfl rfl rfl ?_
  refine n_60_16 (P := (P ++ acl 12)) (a := 105) (t := 20) (by (try simp only [List.append_assoc]); exact (lx hP).trans (by decide +kernel)) (by decide) (hz.mono (by omega)) ?_
  show OkS _ 0 36 [some (vR (some 31)), some (vR (some 20)), some (vI 12)] [vR (some 105), vI 12, vR (some 32)] ((P ++ acl 12) ++ sTown 105 20 16) (M) _
  refine j_aast (S' := (P ++ acl 13)) i_0_36 (show ((P ++ acl 12) ++ sTown 105 20 16)[32]? = some (24, 24, [some 33, some 39, some 45, some 51, some 57, some 63, some 69, some 75, some 81, some 87, some 93, some 99, none, none, none, none, none, none, none, none, none, none, none, none]) by (try simp only [List.append_assoc]); exact (gx hP 1).trans (by decide +kernel)) (show ((P ++ acl 12) ++ sTown 105 20 16)[105]? = some (6, 11, [some 20, some 106, some 107, some 108, some 109, some 110, none, none, none, none, none]) by (try simp only [List.append_assoc]); exact (gx hP 74).trans (by decide +kernel)) (by decide) (by decide) (by (try simp only [List.append_assoc]); exact (sx hP 1 _).trans (congrArg (P ++ ·) (by decide +kernel))) ?_
  refine j_iinc (ls' := [some (vR (some 31)), some (vR (some 20)), some (vI 13)]) i_0_37 rfl (by omega) rfl ?_
  refine j_goto (t := 15) i_0_40 rfl ?_
  refine j_iload_n i_0_15 rfl ?_
  refine j_bipush i_0_16 (by decide) ?_
  refine j_geF (t := 43) i_0_18 rfl (by decide) ?_
  refine j_aload_n i_0_21 rfl ?_
  refine j_getR (r := 32) i_0_22 o_0 rfl (by decide) (show (P ++ acl 13)[31]? = some (0, 3, [some 32, none, none]) by (try simp only [List.append_assoc]); exact (gx hP 0).trans (by decide +kernel)) rfl ?_
  refine j_iload_n i_0_25 rfl ?_
  refine j_new (S' := ((P ++ acl 13) ++ [(6, 11, [none, none, none, none, none, none, none, none, none, none, none])])) (a := 111) i_0_26 o_0 rfl (by decide) (by (try simp only [List.append_assoc]); exact (lx hP).trans (by decide +kernel)) (by decide) (hz.mono (by omega)) rfl ?_
  refine j_dup i_0_29 ?_
  refine j_aload_n i_0_30 rfl ?_
  refine j_bipush i_0_31 (by decide) ?_
  refine j_init (n := 2) (a := 111) (av := [vR (some 111), vR (some 20), vI 16]) (rest := [vR (some 111), vI 13, vR (some 32)]) (el := [some (vR (some 111)), some (vR (some 20)), some (vI 16)]) i_0_33 o_0 rfl w_60 rfl rfl rfl rfl rfl rfl ?_
  refine n_60_16 (P := (P ++ acl 13)) (a := 111) (t := 20) (by (try simp only [List.append_assoc]); exact (lx hP).trans (by decide +kernel)) (by decide) (hz.mono (by omega)) ?_
  show OkS _ 0 36 [some (vR (some 31)), some (vR (some 20)), some (vI 13)] [vR (some 111), vI 13, vR (some 32)] ((P ++ acl 13) ++ sTown 111 20 16) (M) _
  refine j_aast (S' := (P ++ acl 14)) i_0_36 (show ((P ++ acl 13) ++ sTown 111 20 16)[32]? = some (24, 24, [some 33, some 39, some 45, some 51, some 57, some 63, some 69, some 75, some 81, some 87, some 93, some 99, some 105, none, none, none, none, none, none, none, none, none, none, none]) by (try simp only [List.append_assoc]); exact (gx hP 1).trans (by decide +kernel)) (show ((P ++ acl 13) ++ sTown 111 20 16)[111]? = some (6, 11, [some 20, some 112, some 113, some 114, some 115, some 116, none, none, none, none, none]) by (try simp only [List.append_assoc]); exact (gx hP 80).trans (by decide +kernel)) (by decide) (by decide) (by (try simp only [List.append_assoc]); exact (sx hP 1 _).trans (congrArg (P ++ ·) (by decide +kernel))) ?_
  refine j_iinc (ls' := [some (vR (some 31)), some (vR (some 20)), some (vI 14)]) i_0_37 rfl (by omega) rfl ?_
  refine j_goto (t := 15) i_0_40 rfl ?_
  refine j_iload_n i_0_15 rfl ?_
  refine j_bipush i_0_16 (by decide) ?_
  refine j_geF (t := 43) i_0_18 rfl (by decide) ?_
  refine j_aload_n i_0_21 rfl ?_
  refine j_getR (r := 32) i_0_22 o_0 rfl (by decide) (show (P ++ acl 14)[31]? = some (0, 3, [some 32, none, none]) by (try simp only [List.append_assoc]); exact (gx hP 0).trans (by decide +kernel)) rfl ?_
  refine j_iload_n i_0_25 rfl ?_
  refine j_new (S' := ((P ++ acl 14) ++ [(6, 11, [none, none, none, none, none, none, none, none, none, none, none])])) (a := 117) i_0_26 o_0 rfl (by decide) (by (try simp only [List.append_assoc]); exact (lx hP).trans (by decide +kernel)) (by decide) (hz.mono (by omega)) rfl ?_
  refine j_dup i_0_29 ?_
  refine j_aload_n i_0_30 rfl ?_
  refine j_bipush i_0_31 (by decide) ?_
  refine j_init (n := 2) (a := 117) (av := [vR (some 117), vR (some 20), vI 16]) (rest := [vR (some 117), vI 14, vR (some 32)]) (el := [some (vR (some 117)), some (vR (some 20)), some (vI 16)]) i_0_33 o_0 rfl w_60 rfl rfl rfl rfl rfl rfl ?_
  refine n_60_16 (P := (P ++ acl 14)) (a := 117) (t := 20) (by (try simp only [List.append_assoc]); exact (lx hP).trans (by decide +kernel)) (by decide) (hz.mono (by omega)) ?_
  show OkS _ 0 36 [some (vR (some 31)), some (vR (some 20)), some (vI 14)] [vR (some 117), vI 14, vR (some 32)] ((P ++ acl 14) ++ sTown 117 20 16) (M) _
  refine j_aast (S' := (P ++ acl 15)) i_0_36 (show ((P ++ acl 14) ++ sTown 117 20 16)[32]? = some (24, 24, [some 33, some 39, some 45, some 51, some 57, some 63, some 69, some 75, some 81, some 87, some 93, some 99, some 105, some 111, none, none, none, none, none, none, none, none, none, none]) by (try simp only [List.append_assoc]); exact (gx hP 1).trans (by decide +kernel)) (show ((P ++ acl 14) ++ sTown 117 20 16)[117]? = some (6, 11, [some 20, some 118, some 119, some 120, some 121, some 122, none, none, none, none, none]) by (try simp only [List.append_assoc]); exact (gx hP 86).trans (by decide +kernel)) (by decide) (by decide) (by (try simp only [List.append_assoc]); exact (sx hP 1 _).trans (congrArg (P ++ ·) (by decide +kernel))) ?_
  refine j_iinc (ls' := [some (vR (some 31)), some (vR (some 20)), some (vI 15)]) i_0_37 rfl (by omega) rfl ?_
  refine j_goto (t := 15) i_0_40 rfl ?_
  refine j_iload_n i_0_15 rfl ?_
  refine j_bipush i_0_16 (by decide) ?_
  refine j_geF (t := 43) i_0_18 rfl (by decide) ?_
  refine j_aload_n i_0_21 rfl ?_
  refine j_getR (r := 32) i_0_22 o_0 rfl (by decide) (show (P ++ acl 15)[31]? = some (0, 3, [some 32, none, none]) by (try simp only [List.append_assoc]); exact (gx hP 0).trans (by decide +kernel)) rfl ?_
  refine j_iload_n i_0_25 rfl ?_
  refine j_new (S' := ((P ++ acl 15) ++ [(6, 11, [none, none, none, none, none, none, none, none, none, none, none])])) (a := 123) i_0_26 o_0 rfl (by decide) (by (try simp only [List.append_assoc]); exact (lx hP).trans (by decide +kernel)) (by decide) (hz.mono (by omega)) rfl ?_
  refine j_dup i_0_29 ?_
  refine j_aload_n i_0_30 rfl ?_
  refine j_bipush i_0_31 (by decide) ?_
  refine j_init (n := 2) (a := 123) (av := [vR (some 123), vR (some 20), vI 16]) (rest := [vR (some 123), vI 15, vR (some 32)]) (el := [some (vR (some 123)), some (vR (some 20)), some (vI 16)]) i_0_33 o_0 rfl w_60 rfl rfl rfl rfl rfl rfl ?_
  refine n_60_16 (P := (P ++ acl 15)) (a := 123) (t := 20) (by (try simp only [List.append_assoc]); exact (lx hP).trans (by decide +kernel)) (by decide) (hz.mono (by omega)) ?_
  show OkS _ 0 36 [some (vR (some 31)), some (vR (some 20)), some (vI 15)] [vR (some 123), vI 15, vR (some 32)] ((P ++ acl 15) ++ sTown 123 20 16) (M) _
  refine j_aast (S' := (P ++ acl 16)) i_0_36 (show ((P ++ acl 15) ++ sTown 123 20 16)[32]? = some (24, 24, [some 33, some 39, some 45, some 51, some 57, some 63, some 69, some 75, some 81, some 87, some 93, some 99, some 105, some 111, some 117, none, none, none, none, none, none, none, none, none]) by (try simp only [List.append_assoc]); exact (gx hP 1).trans (by decide +kernel)) (show ((P ++ acl 15) ++ sTown 123 20 16)[123]? = some (6, 11, [some 20, some 124, some 125, some 126, some 127, some 128, none, none, none, none, none]) by (try simp only [List.append_assoc]); exact (gx hP 92).trans (by decide +kernel)) (by decide) (by decide) (by (try simp only [List.append_assoc]); exact (sx hP 1 _).trans (congrArg (P ++ ·) (by decide +kernel))) ?_
  refine j_iinc (ls' := [some (vR (some 31)), some (vR (some 20)), some (vI 16)]) i_0_37 rfl (by omega) rfl ?_
  refine j_goto (t := 15) i_0_40 rfl ?_
  refine j_iload_n i_0_15 rfl ?_
  refine j_bipush i_0_16 (by decide) ?_
  refine j_geF (t := 43) i_0_18 rfl (by decide) ?_
  refine j_aload_n i_0_21 rfl ?_
  refine j_getR (r := 32) i_0_22 o_0 rfl (by decide) (show (P ++ acl 16)[31]? = some (0, 3, [some 32, none, none]) by (try simp only [List.append_assoc]); exact (gx hP 0).trans (by decide +kernel)) rfl ?_
  refine j_iload_n i_0_25 rfl ?_
  refine j_new (S' := ((P ++ acl 16) ++ [(6, 11, [none, none, none, none, none, none, none, none, none, none, none])])) (a := 129) i_0_26 o_0 rfl (by decide) (by (try simp only [List.append_assoc]); exact (lx hP).trans (by decide +kernel)) (by decide) (hz.mono (by omega)) rfl ?_
  refine j_dup i_0_29 ?_
  refine j_aload_n i_0_30 rfl ?_
  refine j_bipush i_0_31 (by decide) ?_
  refine j_init (n := 2) (a := 129) (av := [vR (some 129), vR (some 20), vI 16]) (rest := [vR (some 129), vI 16, vR (some 32)]) (el := [some (vR (some 129)), some (vR (some 20)), some (vI 16)]) i_0_33 o_0 rfl w_60 rfl rfl rfl rfl rfl rfl ?_
  refine n_60_16 (P := (P ++ acl 16)) (a := 129) (t := 20) (by (try simp only [List.append_assoc]); exact (lx hP).trans (by decide +kernel)) (by decide) (hz.mono (by omega)) ?_
  show OkS _ 0 36 [some (vR (some 31)), some (vR (some 20)), some (vI 16)] [vR (some 129), vI 16, vR (some 32)] ((P ++ acl 16) ++ sTown 129 20 16) (M) _
  refine j_aast (S' := (P ++ acl 17)) i_0_36 (show ((P ++ acl 16) ++ sTown 129 20 16)[32]? = some (24, 24, [some 33, some 39, some 45, some 51, some 57, some 63, some 69, some 75, some 81, some 87, some 93, some 99, some 105, some 111, some 117, some 123, none, none, none, none, none, none, none, none]) by (try simp only [List.append_assoc]); exact (gx hP 1).trans (by decide +kernel)) (show ((P ++ acl 16) ++ sTown 129 20 16)[129]? = some (6, 11, [some 20, some 130, some 131, some 132, some 133, some 134, none, none, none, none, none]) by (try simp only [List.append_assoc]); exact (gx hP 98).trans (by decide +kernel)) (by decide) (by decide) (by (try simp only [List.append_assoc]); exact (sx hP 1 _).trans (congrArg (P ++ ·) (by decide +kernel))) ?_
  refine j_iinc (ls' := [some (vR (some 31)), some (vR (some 20)), some (vI 17)]) i_0_37 rfl (by omega) rfl ?_
  refine j_goto (t := 15) i_0_40 rfl ?_
  refine j_iload_n i_0_15 rfl ?_
  refine j_bipush i_0_16 (by decide) ?_
  refine j_geF (t := 43) i_0_18 rfl (by decide) ?_
  refine j_aload_n i_0_21 rfl ?_
  refine j_getR (r := 32) i_0_22 o_0 rfl (by decide) (show (P ++ acl 17)[31]? = some (0, 3, [some 32, none, none]) by (try simp only [List.append_assoc]); exact (gx hP 0).trans (by decide +kernel)) rfl ?_
  refine j_iload_n i_0_25 rfl ?_
  refine j_new (S' := ((P ++ acl 17) ++ [(6, 11, [none, none, none, none, none, none, none, none, none, none, none])])) (a := 135) i_0_26 o_0 rfl (by decide) (by (try simp only [List.append_assoc]); exact (lx hP).trans (by decide +kernel)) (by decide) (hz.mono (by omega)) rfl ?_
  refine j_dup i_0_29 ?_
  refine j_aload_n i_0_30 rfl ?_
  refine j_bipush i_0_31 (by decide) ?_
  refine j_init (n := 2) (a := 135) (av := [vR (some 135), vR (some 20), vI 16]) (rest := [vR (some 135), vI 17, vR (some 32)]) (el := [some (vR (some 135)), some (vR (some 20)), some (vI 16)]) i_0_33 o_0 rfl w_60 rfl rfl rfl rfl rfl rfl ?_
  refine n_60_16 (P := (P ++ acl 17)) (a := 135) (t := 20) (by (try simp only [List.append_assoc]); exact (lx hP).trans (by decide +kernel)) (by decide) (hz.mono (by omega)) ?_
  show OkS _ 0 36 [some (vR (some 31)), some (vR (some 20)), some (vI 17)] [vR (some 135), vI 17, vR (some 32)] ((P ++ acl 17) ++ sTown 135 20 16) (M) _
  refine j_aast (S' := (P ++ acl 18)) i_0_36 (show ((P ++ acl 17) ++ sTown 135 20 16)[32]? = some (24, 24, [some 33, some 39, some 45, some 51, some 57, some 63, some 69, some 75, some 81, some 87, some 93, some 99, some 105, some 111, some 117, some 123, some 129, none, none, none, none, none, none, none]) by (try simp only [List.append_assoc]); exact (gx hP 1).trans (by decide +kernel)) (show ((P ++ acl 17) ++ sTown 135 20 16)[135]? = some (6, 11, [some 20, some 136, some 137, some 138, some 139, some 140, none, none, none, none, none]) by (try simp only [List.append_assoc]); exact (gx hP 104).trans (by decide +kernel)) (by decide) (by decide) (by (try simp only [List.append_assoc]); exact (sx hP 1 _).trans (congrArg (P ++ ·) (by decide +kernel))) ?_
  refine j_iinc (ls' := [some (vR (some 31)), some (vR (some 20)), some (vI 18)]) i_0_37 rfl (by omega) rfl ?_
  refine j_goto (t := 15) i_0_40 rfl ?_
  refine j_iload_n i_0_15 rfl ?_
  refine j_bipush i_0_16 (by decide) ?_
  refine j_geF (t := 43) i_0_18 rfl (by decide) ?_
  refine j_aload_n i_0_21 rfl ?_
  refine j_getR (r := 32) i_0_22 o_0 rfl (by decide) (show (P ++ acl 18)[31]? = some (0, 3, [some 32, none, none]) by (try simp only [List.append_assoc]); exact (gx hP 0).trans (by decide +kernel)) rfl ?_
  refine j_iload_n i_0_25 rfl ?_
  refine j_new (S' := ((P ++ acl 18) ++ [(6, 11, [none, none, none, none, none, none, none, none, none, none, none])])) (a := 141) i_0_26 o_0 rfl (by decide) (by (try simp only [List.append_assoc]); exact (lx hP).trans (by decide +kernel)) (by decide) (hz.mono (by omega)) rfl ?_
  refine j_dup i_0_29 ?_
  refine j_aload_n i_0_30 rfl ?_
  refine j_bipush i_0_31 (by decide) ?_
  refine j_init (n := 2) (a := 141) (av := [vR (some 141), vR (some 20), vI 16]) (rest := [vR (some 141), vI 18, vR (some 32)]) (el := [some (vR (some 141)), some (vR (some 20)), some (vI 16)]) i_0_33 o_0 rfl w_60 rfl rfl rfl rfl rfl rfl ?_
  refine n_60_16 (P := (P ++ acl 18)) (a := 141) (t := 20) (by (try simp only [List.append_assoc]); exact (lx hP).trans (by decide +kernel)) (by decide) (hz.mono (by omega)) ?_
  show OkS _ 0 36 [some (vR (some 31)), some (vR (some 20)), some (vI 18)] [vR (some 141), vI 18, vR (some 32)] ((P ++ acl 18) ++ sTown 141 20 16) (M) _
  refine j_aast (S' := (P ++ acl 19)) i_0_36 (show ((P ++ acl 18) ++ sTown 141 20 16)[32]? = some (24, 24, [some 33, some 39, some 45, some 51, some 57, some 63, some 69, some 75, some 81, some 87, some 93, some 99, some 105, some 111, some 117, some 123, some 129, some 135, none, none, none, none, none, none]) by (try simp only [List.append_assoc]); exact (gx hP 1).trans (by decide +kernel)) (show ((P ++ acl 18) ++ sTown 141 20 16)[141]? = some (6, 11, [some 20, some 142, some 143, some 144, some 145, some 146, none, none, none, none, none]) by (try simp only [List.append_assoc]); exact (gx hP 110).trans (by decide +kernel)) (by decide) (by decide) (by (try simp only [List.append_assoc]); exact (sx hP 1 _).trans (congrArg (P ++ ·) (by decide +kernel))) ?_
  refine j_iinc (ls' := [some (vR (some 31)), some (vR (some 20)), some (vI 19)]) i_0_37 rfl (by omega) rfl ?_
  refine j_goto (t := 15) i_0_40 rfl ?_
  refine j_iload_n i_0_15 rfl ?_
  refine j_bipush i_0_16 (by decide) ?_
  refine j_geF (t := 43) i_0_18 rfl (by decide) ?_
  refine j_aload_n i_0_21 rfl ?_
  refine j_getR (r := 32) i_0_22 o_0 rfl (by decide) (show (P ++ acl 19)[31]? = some (0, 3, [some 32, none, none]) by (try simp only [List.append_assoc]); exact (gx hP 0).trans (by decide +kernel)) rfl ?_
  refine j_iload_n i_0_25 rfl ?_
  refine j_new (S' := ((P ++ acl 19) ++ [(6, 11, [none, none, none, none, none, none, none, none, none, none, none])])) (a := 147) i_0_26 o_0 rfl (by decide) (by (try simp only [List.append_assoc]); exact (lx hP).trans (by decide +kernel)) (by decide) (hz.mono (by omega)) rfl ?_
  refine j_dup i_0_29 ?_
  refine j_aload_n i_0_30 rfl ?_
  refine j_bipush i_0_31 (by decide) ?_
  refine j_init (n := 2) (a := 147) (av := [vR (some 147), vR (some 20), vI 16]) (rest := [vR (some 147), vI 19, vR (some 32)]) (el := [some (vR (some 147)), some (vR (some 20)), some (vI 16)]) i_0_33 o_0 rfl w_60 rfl rfl rfl rfl rfl rfl ?_
  refine n_60_16 (P := (P ++ acl 19)) (a := 147) (t := 20) (by (try simp only [List.append_assoc]); exact (lx hP).trans (by decide +kernel)) (by decide) (hz.mono (by omega)) ?_
  show OkS _ 0 36 [some (vR (some 31)), some (vR (some 20)), some (vI 19)] [vR (some 147), vI 19, vR (some 32)] ((P ++ acl 19) ++ sTown 147 20 16) (M) _
  refine j_aast (S' := (P ++ acl 20)) i_0_36 (show ((P ++ acl 19) ++ sTown 147 20 16)[32]? = some (24, 24, [some 33, some 39, some 45, some 51, some 57, some 63, some 69, some 75, some 81, some 87, some 93, some 99, some 105, some 111, some 117, some 123, some 129, some 135, some 141, none, none, none, none, none]) by (try simp only [List.append_assoc]); exact (gx hP 1).trans (by decide +kernel)) (show ((P ++ acl 19) ++ sTown 147 20 16)[147]? = some (6, 11, [some 20, some 148, some 149, some 150, some 151, some 152, none, none, none, none, none]) by (try simp only [List.append_assoc]); exact (gx hP 116).trans (by decide +kernel)) (by decide) (by decide) (by (try simp only [List.append_assoc]); exact (sx hP 1 _).trans (congrArg (P ++ ·) (by decide +kernel))) ?_
  refine j_iinc (ls' := [some (vR (some 31)), some (vR (some 20)), some (vI 20)]) i_0_37 rfl (by omega) rfl ?_
  refine j_goto (t := 15) i_0_40 rfl ?_
  refine j_iload_n i_0_15 rfl ?_
  refine j_bipush i_0_16 (by decide) ?_
  refine j_geF (t := 43) i_0_18 rfl (by decide) ?_
  refine j_aload_n i_0_21 rfl ?_
  refine j_getR (r := 32) i_0_22 o_0 rfl (by decide) (show (P ++ acl 20)[31]? = some (0, 3, [some 32, none, none]) by (try simp only [List.append_assoc]); exact (gx hP 0).trans (by decide +kernel)) rfl ?_
  refine j_iload_n i_0_25 rfl ?_
  refine j_new (S' := ((P ++ acl 20) ++ [(6, 11, [none, none, none, none, none, none, none, none, none, none, none])])) (a := 153) i_0_26 o_0 rfl (by decide) (by (try simp only [List.append_assoc]); exact (lx hP).trans (by decide +kernel)) (by decide) (hz.mono (by omega)) rfl ?_
  refine j_dup i_0_29 ?_
  refine j_aload_n i_0_30 rfl ?_
  refine j_bipush i_0_31 (by decide) ?_
  refine j_init (n := 2) (a := 153) (av := [vR (some 153), vR (some 20), vI 16]) (rest := [vR (some 153), vI 20, vR (some 32)]) (el := [some (vR (some 153)), some (vR (some 20)), some (vI 16)]) i_0_33 o_0 rfl w_60 rfl rfl rfl rfl rfl rfl ?_
  refine n_60_16 (P := (P ++ acl 20)) (a := 153) (t := 20) (by (try simp only [List.append_assoc]); exact (lx hP).trans (by decide +kernel)) (by decide) (hz.mono (by omega)) ?_
  show OkS _ 0 36 [some (vR (some 31)), some (vR (some 20)), some (vI 20)] [vR (some 153), vI 20, vR (some 32)] ((P ++ acl 20) ++ sTown 153 20 16) (M) _
  refine j_aast (S' := (P ++ acl 21)) i_0_36 (show ((P ++ acl 20) ++ sTown 153 20 16)[32]? = some (24, 24, [some 33, some 39, some 45, some 51, some 57, some 63, some 69, some 75, some 81, some 87, some 93, some 99, some 105, some 111, some 117, some 123, some 129, some 135, some 141, some 147, none, none, none, none]) by (try simp only [List.append_assoc]); exact (gx hP 1).trans (by decide +kernel)) (show ((P ++ acl 20) ++ sTown 153 20 16)[153]? = some (6, 11, [some 20, some 154, some 155, some 156, some 157, some 158, none, none, none, none, none]) by (try simp only [List.append_assoc]); exact (gx hP 122).trans (by decide +kernel)) (by decide) (by decide) (by (try simp only [List.append_assoc]); exact (sx hP 1 _).trans (congrArg (P ++ ·) (by decide +kernel))) ?_
  refine j_iinc (ls' := [some (vR (some 31)), some (vR (some 20)), some (vI 21)]) i_0_37 rfl (by omega) rfl ?_
  refine j_goto (t := 15) i_0_40 rfl ?_
  refine j_iload_n i_0_15 rfl ?_
  refine j_bipush i_0_16 (by decide) ?_
  refine j_geF (t := 43) i_0_18 rfl (by decide) ?_
  refine j_aload_n i_0_21 rfl ?_
  refine j_getR (r := 32) i_0_22 o_0 rfl (by decide) (show (P ++ acl 21)[31]? = some (0, 3, [some 32, none, none]) by (try simp only [List.append_assoc]); exact (gx hP 0).trans (by decide +kernel)) rfl ?_
  refine j_iload_n i_0_25 rfl ?_
  refine j_new (S' := ((P ++ acl 21) ++ [(6, 11, [none, none, none, none, none, none, none, none, none, none, none])])) (a := 159) i_0_26 o_0 rfl (by decide) (by (try simp only [List.append_assoc]); exact (lx hP).trans (by decide +kernel)) (by decide) (hz.mono (by omega)) rfl ?_
  refine j_dup i_0_29 ?_
  refine j_aload_n i_0_30 rfl ?_
  refine j_bipush i_0_31 (by decide) ?_
  refine j_init (n := 2) (a := 159) (av := [vR (some 159), vR (some 20), vI 16]) (rest := [vR (some 159), vI 21, vR (some 32)]) (el := [some (vR (some 159)), some (vR (some 20)), some (vI 16)]) i_0_33 o_0 rfl w_60 rfl rfl rfl rfl rfl rfl ?_
  refine n_60_16 (P := (P ++ acl 21)) (a := 159) (t := 20) (by (try simp only [List.append_assoc]); exact (lx hP).trans (by decide +kernel)) (by decide) (hz.mono (by omega)) ?_
  show OkS _ 0 36 [some (vR (some 31)), some (vR (some 20)), some (vI 21)] [vR (some 159), vI 21, vR (some 32)] ((P ++ acl 21) ++ sTown 159 20 16) (M) _
  refine j_aast (S' := (P ++ acl 22)) i_0_36 (show ((P ++ acl 21) ++ sTown 159 20 16)[32]? = some (24, 24, [some 33, some 39, some 45, some 51, some 57, some 63, some 69, some 75, some 81, some 87, some 93, some 99, some 105, some 111, some 117, some 123, some 129, some 135, some 141, some 147, some 153, none, none, none]) by (try simp only [List.append_assoc]); exact (gx hP 1).trans (by decide +kernel)) (show ((P ++ acl 21) ++ sTown 159 20 16)[159]? = some (6, 11, [some 20, some 160, some 161, some 162, some 163, some 164, none, none, none, none, none]) by (try simp only [List.append_assoc]); exact (gx hP 128).trans (by decide +kernel)) (by decide) (by decide) (by (try simp only [List.append_assoc]); exact (sx hP 1 _).trans (congrArg (P ++ ·) (by decide +kernel))) ?_
  refine j_iinc (ls' := [some (vR (some 31)), some (vR (some 20)), some (vI 22)]) i_0_37 rfl (by omega) rfl ?_
  refine j_goto (t := 15) i_0_40 rfl ?_
  refine j_iload_n i_0_15 rfl ?_
  refine j_bipush i_0_16 (by decide) ?_
  refine j_geF (t := 43) i_0_18 rfl (by decide) ?_
  refine j_aload_n i_0_21 rfl ?_
  refine j_getR (r := 32) i_0_22 o_0 rfl (by decide) (show (P ++ acl 22)[31]? = some (0, 3, [some 32, none, none]) by (try simp only [List.append_assoc]); exact (gx hP 0).trans (by decide +kernel)) rfl ?_
  refine j_iload_n i_0_25 rfl ?_
  refine j_new (S' := ((P ++ acl 22) ++ [(6, 11, [none, none, none, none, none, none, none, none, none, none, none])])) (a := 165) i_0_26 o_0 rfl (by decide) (by (try simp only [List.append_assoc]); exact (lx hP).trans (by decide +kernel)) (by decide) (hz.mono (by omega)) rfl ?_
  refine j_dup i_0_29 ?_
  refine j_aload_n i_0_30 rfl ?_
  refine j_bipush i_0_31 (by decide) ?_
  refine j_init (n := 2) (a := 165) (av := [vR (some 165), vR (some 20), vI 16]) (rest := [vR (some 165), vI 22, vR (some 32)]) (el := [some (vR (some 165)), some (vR (some 20)), some (vI 16)]) i_0_33 o_0 rfl w_60 rfl rfl rfl rfl rfl rfl ?_
  refine n_60_16 (P := (P ++ acl 22)) (a := 165) (t := 20) (by (try simp only [List.append_assoc]); exact (lx hP).trans (by decide +kernel)) (by decide) (hz.mono (by omega)) ?_
  show OkS _ 0 36 [some (vR (some 31)), some (vR (some 20)), some (vI 22)] [vR (some 165), vI 22, vR (some 32)] ((P ++ acl 22) ++ sTown 165 20 16) (M) _
  refine j_aast (S' := (P ++ acl 23)) i_0_36 (show ((P ++ acl 22) ++ sTown 165 20 16)[32]? = some (24, 24, [some 33, some 39, some 45, some 51, some 57, some 63, some 69, some 75, some 81, some 87, some 93, some 99, some 105, some 111, some 117, some 123, some 129, some 135, some 141, some 147, some 153, some 159, none, none]) by (try simp only [List.append_assoc]); exact (gx hP 1).trans (by decide +kernel)) (show ((P ++ acl 22) ++ sTown 165 20 16)[165]? = some (6, 11, [some 20, some 166, some 167, some 168, some 169, some 170, none, none, none, none, none]) by (try simp only [List.append_assoc]); exact (gx hP 134).trans (by decide +kernel)) (by decide) (by decide) (by (try simp only [List.append_assoc]); exact (sx hP 1 _).trans (congrArg (P ++ ·) (by decide +kernel))) ?_
  refine j_iinc (ls' := [some (vR (some 31)), some (vR (some 20)), some (vI 23)]) i_0_37 rfl (by omega) rfl ?_
  refine j_goto (t := 15) i_0_40 rfl ?_
  refine j_iload_n i_0_15 rfl ?_
  refine j_bipush i_0_16 (by decide) ?_
  refine j_geF (t := 43) i_0_18 rfl (by decide) ?_
  refine j_aload_n i_0_21 rfl ?_
  refine j_getR (r := 32) i_0_22 o_0 rfl (by decide) (show (P ++ acl 23)[31]? = some (0, 3, [some 32, none, none]) by (try simp only [List.append_assoc]); exact (gx hP 0).trans (by decide +kernel)) rfl ?_
  refine j_iload_n i_0_25 rfl ?_
  refine j_new (S' := ((P ++ acl 23) ++ [(6, 11, [none, none, none, none, none, none, none, none, none, none, none])])) (a := 171) i_0_26 o_0 rfl (by decide) (by (try simp only [List.append_assoc]); exact (lx hP).trans (by decide +kernel)) (by decide) (hz.mono (by omega)) rfl ?_
  refine j_dup i_0_29 ?_
  refine j_aload_n i_0_30 rfl ?_
  refine j_bipush i_0_31 (by decide) ?_
  refine j_init (n := 2) (a := 171) (av := [vR (some 171), vR (some 20), vI 16]) (rest := [vR (some 171), vI 23, vR (some 32)]) (el := [some (vR (some 171)), some (vR (some 20)), some (vI 16)]) i_0_33 o_0 rfl w_60 rfl rfl rfl rfl rfl rfl ?_
  refine n_60_16 (P := (P ++ acl 23)) (a := 171) (t := 20) (by (try simp only [List.append_assoc]); exact (lx hP).trans (by decide +kernel)) (by decide) (hz.mono (by omega)) ?_
  show OkS _ 0 36 [some (vR (some 31)), some (vR (some 20)), some (vI 23)] [vR (some 171), vI 23, vR (some 32)] ((P ++ acl 23) ++ sTown 171 20 16) (M) _
  refine j_aast (S' := (P ++ acl 24)) i_0_36 (show ((P ++ acl 23) ++ sTown 171 20 16)[32]? = some (24, 24, [some 33, some 39, some 45, some 51, some 57, some 63, some 69, some 75, some 81, some 87, some 93, some 99, some 105, some 111, some 117, some 123, some 129, some 135, some 141, some 147, some 153, some 159, some 165, none]) by (try simp only [List.append_assoc]); exact (gx hP 1).trans (by decide +kernel)) (show ((P ++ acl 23) ++ sTown 171 20 16)[171]? = some (6, 11, [some 20, some 172, some 173, some 174, some 175, some 176, none, none, none, none, none]) by (try simp only [List.append_assoc]); exact (gx hP 140).trans (by decide +kernel)) (by decide) (by decide) (by (try simp only [List.append_assoc]); exact (sx hP 1 _).trans (congrArg (P ++ ·) (by decide +kernel))) ?_
  refine j_iinc (ls' := [some (vR (some 31)), some (vR (some 20)), some (vI 24)]) i_0_37 rfl (by omega) rfl ?_
  refine j_goto (t := 15) i_0_40 rfl ?_
  refine j_iload_n i_0_15 rfl ?_
  refine j_bipush i_0_16 (by decide) ?_
  refine j_geT (t := 43) i_0_18 rfl (by decide) ?_
  refine j_vret i_0_43 rfl ?_
  exact k
