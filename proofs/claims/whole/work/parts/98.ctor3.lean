set_option maxRecDepth 100000 in
theorem n_13 {d : Nat} {P : List Sh} {M : Mem} {Q : Option Vv → List Sh → Mem → Prop} (hP : P.length = 177) (hz : Zr M 177) (k : Q none (P ++ fol 9) M) : OkS (d + 1) 13 0 [some (vR (some 177)), some (vR (some 20)), some (vR (some 25)), none] [] (P ++ [(2, 5, [none, none, none, none, none])]) M Q := by
  refine j_aload_n i_13_0 rfl ?_
  refine j_obj i_13_1 o_13 rfl rfl ?_
  refine j_aload_n i_13_4 rfl ?_
  refine j_bipush i_13_5 (by decide) ?_
  refine j_newI (S' := ((P ++ [(2, 5, [none, none, none, none, none])]) ++ [(20, 16, [])])) (a := 178) (nn := 16) i_13_7 (by (try simp only [List.append_assoc]); exact (lx hP).trans (by decide +kernel)) (by decide) (by decide) (hz.mono (by omega)) rfl ?_
  refine j_putR (S' := (P ++ [(2, 5, [some 178, none, none, none, none]), (20, 16, [])])) i_13_9 o_13 y_13 rfl (by decide) (show ((P ++ [(2, 5, [none, none, none, none, none])]) ++ [(20, 16, [])])[177]? = some (2, 5, [none, none, none, none, none]) by (try simp only [List.append_assoc]); exact (gx hP 0).trans (by decide +kernel)) rfl (by (try simp only [List.append_assoc]); exact (sx hP 0 _).trans (congrArg (P ++ ·) (by decide +kernel))) ?_
  refine j_aload_n i_13_12 rfl ?_
  refine j_aload_n i_13_13 rfl ?_
  refine j_putR (S' := (P ++ [(2, 5, [some 178, some 25, none, none, none]), (20, 16, [])])) i_13_14 o_13 y_13 rfl (by decide) (show (P ++ [(2, 5, [some 178, none, none, none, none]), (20, 16, [])])[177]? = some (2, 5, [some 178, none, none, none, none]) by (try simp only [List.append_assoc]); exact (gx hP 0).trans (by decide +kernel)) rfl (by (try simp only [List.append_assoc]); exact (sx hP 0 _).trans (congrArg (P ++ ·) (by decide +kernel))) ?_
  refine j_aload_n i_13_17 rfl ?_
  refine j_new (S' := ((P ++ [(2, 5, [some 178, some 25, none, none, none]), (20, 16, [])]) ++ [(6, 11, [none, none, none, none, none, none, none, none, none, none, none])])) (a := 179) i_13_18 o_13 rfl (by decide) (by (try simp only [List.append_assoc]); exact (lx hP).trans (by decide +kernel)) (by decide) (hz.mono (by omega)) rfl ?_
  refine j_dup i_13_21 ?_
  refine j_aload_n i_13_22 rfl ?_
  refine j_bipush i_13_23 (by decide) ?_
  refine j_init (n := 2) (a := 179) (av := [vR (some 179), vR (some 20), vI 28]) (rest := [vR (some 179), vR (some 177)]) (el := [some (vR (some 179)), some (vR (some 20)), some (vI 28)]) i_13_25 o_13 rfl w_60 rfl rfl rfl rfl rfl rfl ?_
  refine n_60_28 (P := (P ++ [(2, 5, [some 178, some 25, none, none, none]), (20, 16, [])])) (a := 179) (t := 20) (by (try simp only [List.append_assoc]); exact (lx hP).trans (by decide +kernel)) (by decide) (hz.mono (by omega)) ?_
  show OkS _ 13 28 [some (vR (some 177)), some (vR (some 20)), some (vR (some 25)), none] [vR (some 179), vR (some 177)] ((P ++ [(2, 5, [some 178, some 25, none, none, none]), (20, 16, [])]) ++ sTown 179 20 28) (M) _
  refine j_putR (S' := (P ++ [(2, 5, [some 178, some 25, some 179, none, none]), (20, 16, []), (6, 11, [some 20, some 180, some 181, some 182, some 183, some 184, none, none, none, none, none]), (20, 28, []), (20, 28, []), (20, 28, []), (20, 28, []), (20, 28, [])])) i_13_28 o_13 y_13 rfl (by decide) (show ((P ++ [(2, 5, [some 178, some 25, none, none, none]), (20, 16, [])]) ++ sTown 179 20 28)[177]? = some (2, 5, [some 178, some 25, none, none, none]) by (try simp only [List.append_assoc]); exact (gx hP 0).trans (by decide +kernel)) rfl (by (try simp only [List.append_assoc]); exact (sx hP 0 _).trans (congrArg (P ++ ·) (by decide +kernel))) ?_
  refine j_aload_n i_13_31 rfl ?_
  refine j_new (S' := ((P ++ [(2, 5, [some 178, some 25, some 179, none, none]), (20, 16, []), (6, 11, [some 20, some 180, some 181, some 182, some 183, some 184, none, none, none, none, none]), (20, 28, []), (20, 28, []), (20, 28, []), (20, 28, []), (20, 28, [])]) ++ [(6, 11, [none, none, none, none, none, none, none, none, none, none, none])])) (a := 185) i_13_32 o_13 rfl (by decide) (by (try simp only [List.append_assoc]); exact (lx hP).trans (by decide +kernel)) (by decide) (hz.mono (by omega)) rfl ?_
  refine j_dup i_13_35 ?_
  refine j_aload_n i_13_36 rfl ?_
  refine j_bipush i_13_37 (by decide) ?_
  refine j_init (n := 2) (a := 185) (av := [vR (some 185), vR (some 20), vI 16]) (rest := [vR (some 185), vR (some 177)]) (el := [some (vR (some 185)), some (vR (some 20)), some (vI 16)]) i_13_39 o_13 rfl w_60 rfl rfl rfl rfl rfl rfl ?_
  refine n_60_16 (P := (P ++ [(2, 5, [some 178, some 25, some 179, none, none]), (20, 16, []), (6, 11, [some 20, some 180, some 181, some 182, some 183, some 184, none, none, none, none, none]), (20, 28, []), (20, 28, []), (20, 28, []), (20, 28, []), (20, 28, [])])) (a := 185) (t := 20) (by (try simp only [List.append_assoc]); exact (lx hP).trans (by decide +kernel)) (by decide) (hz.mono (by omega)) ?_
  show OkS _ 13 42 [some (vR (some 177)), some (vR (some 20)), some (vR (some 25)), none] [vR (some 185), vR (some 177)] ((P ++ [(2, 5, [some 178, some 25, some 179, none, none]), (20, 16, []), (6, 11, [some 20, some 180, some 181, some 182, some 183, some 184, none, none, none, none, none]), (20, 28, []), (20, 28, []), (20, 28, []), (20, 28, []), (20, 28, [])]) ++ sTown 185 20 16) (M) _
  refine j_putR (S' := (P ++ [(2, 5, [some 178, some 25, some 179, some 185, none]), (20, 16, []), (6, 11, [some 20, some 180, some 181, some 182, some 183, some 184, none, none, none, none, none]), (20, 28, []), (20, 28, []), (20, 28, []), (20, 28, []), (20, 28, []), (6, 11, [some 20, some 186, some 187, some 188, some 189, some 190, none, none, none, none, none]), (20, 16, []), (20, 16, []), (20, 16, []), (20, 16, []), (20, 16, [])])) i_13_42 o_13 y_13 rfl (by decide) (show ((P ++ [(2, 5, [some 178, some 25, some 179, none, none]), (20, 16, []), (6, 11, [some 20, some 180, some 181, some 182, some 183, some 184, none, none, none, none, none]), (20, 28, []), (20, 28, []), (20, 28, []), (20, 28, []), (20, 28, [])]) ++ sTown 185 20 16)[177]? = some (2, 5, [some 178, some 25, some 179, none, none]) by (try simp only [List.append_assoc]); exact (gx hP 0).trans (by decide +kernel)) rfl (by (try simp only [List.append_assoc]); exact (sx hP 0 _).trans (congrArg (P ++ ·) (by decide +kernel))) ?_
  refine j_aload_n i_13_45 rfl ?_
  refine j_bipush i_13_46 (by decide) ?_
  refine j_newq (S' := ((P ++ [(2, 5, [some 178, some 25, some 179, some 185, none]), (20, 16, []), (6, 11, [some 20, some 180, some 181, some 182, some 183, some 184, none, none, none, none, none]), (20, 28, []), (20, 28, []), (20, 28, []), (20, 28, []), (20, 28, []), (6, 11, [some 20, some 186, some 187, some 188, some 189, some 190, none, none, none, none, none]), (20, 16, []), (20, 16, []), (20, 16, []), (20, 16, []), (20, 16, [])]) ++ [(24, 9, [none, none, none, none, none, none, none, none, none])])) (a := 191) (nn := 9) i_13_48 o_13 rfl (by decide) (by (try simp only [List.append_assoc]); exact (lx hP).trans (by decide +kernel)) (by decide) (by decide) (hz.mono (by omega)) rfl ?_
  refine j_putR (S' := (P ++ fol 0)) i_13_51 o_13 y_13 rfl (by decide) (show ((P ++ [(2, 5, [some 178, some 25, some 179, some 185, none]), (20, 16, []), (6, 11, [some 20, some 180, some 181, some 182, some 183, some 184, none, none, none, none, none]), (20, 28, []), (20, 28, []), (20, 28, []), (20, 28, []), (20, 28, []), (6, 11, [some 20, some 186, some 187, some 188, some 189, some 190, none, none, none, none, none]), (20, 16, []), (20, 16, []), (20, 16, []), (20, 16, []), (20, 16, [])]) ++ [(24, 9, [none, none, none, none, none, none, none, none, none])])[177]? = some (2, 5, [some 178, some 25, some 179, some 185, none]) by (try simp only [List.append_assoc]); exact (gx hP 0).trans (by decide +kernel)) rfl (by (try simp only [List.append_assoc]); exact (sx hP 0 _).trans (congrArg (P ++ ·) (by decide +kernel))) ?_
  refine j_iconst i_13_54 (by decide) ?_
  refine j_istore_n (ls' := [some (vR (some 177)), some (vR (some 20)), some (vR (some 25)), some (vI 0)]) i_13_55 rfl ?_
  refine j_iload_n i_13_56 rfl ?_
  refine j_aload_n i_13_57 rfl ?_
  refine j_getR (r := 191) i_13_58 o_13 rfl (by decide) (show (P ++ fol 0)[177]? = some (2, 5, [some 178, some 25, some 179, some 185, some 191]) by (try simp only [List.append_assoc]); exact (gx hP 0).trans (by decide +kernel)) rfl ?_
  refine j_alen (z := 9) i_13_61 (show (P ++ fol 0)[191]? = some (24, 9, [none, none, none, none, none, none, none, none, none]) by (try simp only [List.append_assoc]); exact (gx hP 14).trans (by decide +kernel)) (by decide) rfl ?_
  refine j_geF (t := 87) i_13_62 rfl (by decide) ?_
  refine j_aload_n i_13_65 rfl ?_
  refine j_getR (r := 191) i_13_66 o_13 rfl (by decide) (show (P ++ fol 0)[177]? = some (2, 5, [some 178, some 25, some 179, some 185, some 191]) by (try simp only [List.append_assoc]); exact (gx hP 0).trans (by decide +kernel)) rfl ?_
  refine j_iload_n i_13_69 rfl ?_
  refine j_new (S' := ((P ++ fol 0) ++ [(6, 11, [none, none, none, none, none, none, none, none, none, none, none])])) (a := 192) i_13_70 o_13 rfl (by decide) (by (try simp only [List.append_assoc]); exact (lx hP).trans (by decide +kernel)) (by decide) (hz.mono (by omega)) rfl ?_
  refine j_dup i_13_73 ?_
  refine j_aload_n i_13_74 rfl ?_
  refine j_bipush i_13_75 (by decide) ?_
  refine j_init (n := 2) (a := 192) (av := [vR (some 192), vR (some 20), vI 16]) (rest := [vR (some 192), vI 0, vR (some 191)]) (el := [some (vR (some 192)), some (vR (some 20)), some (vI 16)]) i_13_77 o_13 rfl w_60 rfl rfl rfl rfl rfl rfl ?_
  refine n_60_16 (P := (P ++ fol 0)) (a := 192) (t := 20) (by (try simp only [List.append_assoc]); exact (lx hP).trans (by decide +kernel)) (by decide) (hz.mono (by omega)) ?_
  show OkS _ 13 80 [some (vR (some 177)), some (vR (some 20)), some (vR (some 25)), some (vI 0)] [vR (some 192), vI 0, vR (some 191)] ((P ++ fol 0) ++ sTown 192 20 16) (M) _
  refine j_aast (S' := (P ++ fol 1)) i_13_80 (show ((P ++ fol 0) ++ sTown 192 20 16)[191]? = some (24, 9, [none, none, none, none, none, none, none, none, none]) by (try simp only [List.append_assoc]); exact (gx hP 14).trans (by decide +kernel)) (show ((P ++ fol 0) ++ sTown 192 20 16)[192]? = some (6, 11, [some 20, some 193, some 194, some 195, some 196, some 197, none, none, none, none, none]) by (try simp only [List.append_assoc]); exact (gx hP 15).trans (by decide +kernel)) (by decide) (by decide) (by (try simp only [List.append_assoc]); exact (sx hP 14 _).trans (congrArg (P ++ ·) (by decide +kernel))) ?_
  refine j_iinc (ls' := [some (vR (some 177)), some (vR (some 20)), some (vR (some 25)), some (vI 1)]) i_13_81 rfl (by omega) rfl ?_
  refine j_goto (t := 56) i_13_84 rfl ?_
  refine j_iload_n i_13_56 rfl ?_
  refine j_aload_n i_13_57 rfl ?_
  refine j_getR (r := 191) i_13_58 o_13 rfl (by decide) (show (P ++ fol 1)[177]? = some (2, 5, [some 178, some 25, some 179, some 185, some 191]) by (try simp only [List.append_assoc]); exact (gx hP 0).trans (by decide +kernel)) rfl ?_
  refine j_alen (z := 9) i_13_61 (show (P ++ fol 1)[191]? = some (24, 9, [some 192, none, none, none, none, none, none, none, none]) by (try simp only [List.append_assoc]); exact (gx hP 14).trans (by decide +kernel)) (by decide) rfl ?_
  refine j_geF (t := 87) i_13_62 rfl (by decide) ?_
  refine j_aload_n i_13_65 rfl ?_
  refine j_getR (r := 191) i_13_66 o_13 rfl (by decide) (show (P ++ fol 1)[177]? = some (2, 5, [some 178, some 25, some 179, some 185, some 191]) by (try simp only [List.append_assoc]); exact (gx hP 0).trans (by decide +kernel)) rfl ?_
  refine j_iload_n i_13_69 rfl ?_
  refine j_new (S' := ((P ++ fol 1) ++ [(6, 11, [none, none, none, none, none, none, none, none, none, none, none])])) (a := 198) i_13_70 o_13 rfl (by decide) (by (try simp only [List.append_assoc]); exact (lx hP).trans (by decide +kernel)) (by decide) (hz.mono (by omega)) rfl ?_
  refine j_dup i_13_73 ?_
  refine j_aload_n i_13_74 rfl ?_
  refine j_bipush i_13_75 (by decide) ?_
  refine j_init (n := 2) (a := 198) (av := [vR (some 198), vR (some 20), vI 16]) (rest := [vR (some 198), vI 1, vR (some 191)]) (el := [some (vR (some 198)), some (vR (some 20)), some (vI 16)]) i_13_77 o_13 rfl w_60 rfl rfl rfl rfl rfl rfl ?_
  refine n_60_16 (P := (P ++ fol 1)) (a := 198) (t := 20) (by (try simp only [List.append_assoc]); exact (lx hP).trans (by decide +kernel)) (by decide) (hz.mono (by omega)) ?_
  show OkS _ 13 80 [some (vR (some 177)), some (vR (some 20)), some (vR (some 25)), some (vI 1)] [vR (some 198), vI 1, vR (some 191)] ((P ++ fol 1) ++ sTown 198 20 16) (M) _
  refine j_aast (S' := (P ++ fol 2)) i_13_80 (show ((P ++ fol 1) ++ sTown 198 20 16)[191]? = some (24, 9, [some 192, none, none, none, none, none, none, none, none]) by (try simp only [List.append_assoc]); exact (gx hP 14).trans (by decide +kernel)) (show ((P ++ fol 1) ++ sTown 198 20 16)[198]? = some (6, 11, [some 20, some 199, some 200, some 201, some 202, some 203, none, none, none, none, none]) by (try simp only [List.append_assoc]); exact (gx hP 21).trans (by decide +kernel)) (by decide) (by decide) (by (try simp only [List.append_assoc]); exact (sx hP 14 _).trans (congrArg (P ++ ·) (by decide +kernel))) ?_
  refine j_iinc (ls' := [some (vR (some 177)), some (vR (some 20)), some (vR (some 25)), some (vI 2)]) i_13_81 rfl (by omega) rfl ?_
  refine j_goto (t := 56) i_13_84 rfl ?_
  refine j_iload_n i_13_56 rfl ?_
  refine j_aload_n i_13_57 rfl ?_
  refine j_getR (r := 191) i_13_58 o_13 rfl (by decide) (show (P ++ fol 2)[177]? = some (2, 5, [some 178, some 25, some 179, some 185, some 191]) by (try simp only [List.append_assoc]); exact (gx hP 0).trans (by decide +kernel)) rfl ?_
  refine j_alen (z := 9) i_13_61 (show (P ++ fol 2)[191]? = some (24, 9, [some 192, some 198, none, none, none, none, none, none, none]) by (try simp only [List.append_assoc]); exact (gx hP 14).trans (by decide +kernel)) (by decide) rfl ?_
  refine j_geF (t := 87) i_13_62 rfl (by decide) ?_
  refine j_aload_n i_13_65 rfl ?_
  refine j_getR (r := 191) i_13_66 o_13 rfl (by decide) (show (P ++ fol 2)[177]? = some (2, 5, [some 178, some 25, some 179, some 185, some 191]) by (try simp only [List.append_assoc]); exact (gx hP 0).trans (by decide +kernel)) rfl ?_
  refine j_iload_n i_13_69 rfl ?_
  refine j_new (S' := ((P ++ fol 2) ++ [(6, 11, [none, none, none, none, none, none, none, none, none, none, none])])) (a := 204) i_13_70 o_13 rfl (by decide) (by (try simp only [List.append_assoc]); exact (lx hP).trans (by decide +kernel)) (by decide) (hz.mono (by omega)) rfl ?_
  refine j_dup i_13_73 ?_
  refine j_aload_n i_13_74 rfl ?_
  refine j_bipush i_13_75 (by decide) ?_
  refine j_init (n := 2) (a := 204) (av := [vR (some 204), vR (some 20), vI 16]) (rest := [vR (some 204), vI 2, vR (some 191)]) (el := [some (vR (some 204)), some (vR (some 20)), some (vI 16)]) i_13_77 o_13 rfl w_60 rfl rfl rfl rfl rfl rfl ?_
  refine n_60_16 (P := (P ++ fol 2)) (a := 204) (t := 20) (by (try simp only [List.append_assoc]); exact (lx hP).trans (by decide +kernel)) (by decide) (hz.mono (by omega)) ?_
  show OkS _ 13 80 [some (vR (some 177)), some (vR (some 20)), some (vR (some 25)), some (vI 2)] [vR (some 204), vI 2, vR (some 191)] ((P ++ fol 2) ++ sTown 204 20 16) (M) _
  refine j_aast (S' := (P ++ fol 3)) i_13_80 (show ((P ++ fol 2) ++ sTown 204 20 16)[191]? = some (24, 9, [some 192, some 198, none, none, none, none, none, none, none]) by (try simp only [List.append_assoc]); exact (gx hP 14).trans (by decide +kernel)) (show ((P ++ fol 2) ++ sTown 204 20 16)[204]? = some (6, 11, [some 20, some 205, some 206, some 207, some 208, some 209, none, none, none, none, none]) by (try simp only [List.append_assoc]); exact (gx hP 27).trans (by decide +kernel)) (by decide) (by decide) (by (try simp only [List.append_assoc]); exact (sx hP 14 _).trans (congrArg (P ++ ·) (by decide +kernel))) ?_
  refine j_iinc (ls' := [some (vR (some 177)), some (vR (some 20)), some (vR (some 25)), some (vI 3)]) i_13_81 rfl (by omega) rfl ?_
  refine j_goto (t := 56) i_13_84 rfl ?_
  refine j_iload_n i_13_56 rfl ?_
  refine j_aload_n i_13_57 rfl ?_
  refine j_getR (r := 191) i_13_58 o_13 rfl (by decide) (show (P ++ fol 3)[177]? = some (2, 5, [some 178, some 25, some 179, some 185, some 191]) by (try simp only [List.append_assoc]); exact (gx hP 0).trans (by decide +kernel)) rfl ?_
  refine j_alen (z := 9) i_13_61 (show (P ++ fol 3)[191]? = some (24, 9, [some 192, some 198, some 204, none, none, none, none, none, none]) by (try simp only [List.append_assoc]); exact (gx hP 14).trans (by decide +kernel)) (by decide) rfl ?_
  refine j_geF (t := 87) i_13_62 rfl (by decide) ?_
  refine j_aload_n i_13_65 rfl ?_
  refine j_getR (r := 191) i_13_66 o_13 rfl (by decide) (show (P ++ fol 3)[177]? = some (2, 5, [some 178, some 25, some 179, some 185, some 191]) by (try simp only [List.append_assoc]); exact (gx hP 0).trans (by decide +kernel)) rfl ?_
  refine j_iload_n i_13_69 rfl ?_
  refine j_new (S' := ((P ++ fol 3) ++ [(6, 11, [none, none, none, none, none, none, none, none, none, none, none])])) (a := 210) i_13_70 o_13 rfl (by decide) (by (try simp only [List.append_assoc]); exact (lx hP).trans (by decide +kernel)) (by decide) (hz.mono (by omega)) rfl ?_
  refine j_dup i_13_73 ?_
  refine j_aload_n i_13_74 rfl ?_
  refine j_bipush i_13_75 (by decide) ?_
  refine j_init (n := 2) (a := 210) (av := [vR (some 210), vR (some 20), vI 16]) (rest := [vR (some 210), vI 3, vR (some 191)]) (el := [some (vR (some 210)), some (vR (some 20)), some (vI 16)]) i_13_77 o_13 rfl w_60 rfl rfl rfl rfl rfl rfl ?_
  refine n_60_16 (P := (P ++ fol 3)) (a := 210) (t := 20) (by (try simp only [List.append_assoc]); exact (lx hP).trans (by decide +kernel)) (by decide) (hz.mono (by omega)) ?_
  show OkS _ 13 80 [some (vR (some 177)), some (vR (some 20)), some (vR (some 25)), some (vI 3)] [vR (some 210), vI 3, vR (some 191)] ((P ++ fol 3) ++ sTown 210 20 16) (M) _
  refine j_aast (S' := (P ++ fol 4)) i_13_80 (show ((P ++ fol 3) ++ sTown 210 20 16)[191]? = some (24, 9, [some 192, some 198, some 204, none, none, none, none, none, none]) by (try simp only [List.append_assoc]); exact (gx hP 14).trans (by decide +kernel)) (show ((P ++ fol 3) ++ sTown 210 20 16)[210]? = some (6, 11, [some 20, some 211, some 212, some 213, some 214, some 215, none, none, none, none, none]) by (try simp only [List.append_assoc]); exact (gx hP 33).trans (by decide +kernel)) (by decide) (by decide) (by (try simp only [List.append_assoc]); exact (sx hP 14 _).trans (congrArg (P ++ ·) (by decide +kernel))) ?_
  refine j_iinc (ls' := [some (vR (some 177)), some (vR (some 20)), some (vR (some 25)), some (vI 4)]) i_13_81 rfl (by omega) rfl ?_
  refine j_goto (t := 56) i_13_84 rfl ?_
  refine j_iload_n i_13_56 rfl ?_
  refine j_aload_n i_13_57 rfl ?_
  refine j_getR (r := 191) i_13_58 o_13 rfl (by decide) (show (P ++ fol 4)[177]? = some (2, 5, [some 178, some 25, some 179, some 185, some 191]) by (try simp only [List.append_assoc]); exact (gx hP 0).trans (by decide +kernel)) rfl ?_
  refine j_alen (z := 9) i_13_61 (show (P ++ fol 4)[191]? = some (24, 9, [some 192, some 198, some 204, some 210, none, none, none, none, none]) by (try simp only [List.append_assoc]); exact (gx hP 14).trans (by decide +kernel)) (by decide) rfl ?_
  refine j_geF (t := 87) i_13_62 rfl (by decide) ?_
  refine j_aload_n i_13_65 rfl ?_
  refine j_getR (r := 191) i_13_66 o_13 rfl (by decide) (show (P ++ fol 4)[177]? = some (2, 5, [some 178, some 25, some 179, some 185, some 191]) by (try simp only [List.append_assoc]); exact (gx hP 0).trans (by decide +kernel)) rfl ?_
  refine j_iload_n i_13_69 rfl ?_
  refine j_new (S' := ((P ++ fol 4) ++ [(6, 11, [none, none, none, none, none, none, none, none, none, none, none])])) (a := 216) i_13_70 o_13 rfl (by decide) (by (try simp only [List.append_assoc]); exact (lx hP).trans (by decide +kernel)) (by decide) (hz.mono (by omega)) rfl ?_
  refine j_dup i_13_73 ?_
  refine j_aload_n i_13_74 rfl ?_
  refine j_bipush i_13_75 (by decide) ?_
  refine j_init (n := 2) (a := 216) (av := [vR (some 216), vR (some 20), vI 16]) (rest := [vR (some 216), vI 4, vR (some 191)]) (el := [some (vR (some 216)), some (vR (some 20)), some (vI 16)]) i_13_77 o_13 rfl w_60 rfl rfl rfl rfl rfl rfl ?_
  refine n_60_16 (P := (P ++ fol 4)) (a := 216) (t := 20) (by (try simp only [List.append_assoc]); exact (lx hP).trans (by decide +kernel)) (by decide) (hz.mono (by omega)) ?_
  show OkS _ 13 80 [some (vR (some 177)), some (vR (some 20)), some (vR (some 25)), some (vI 4)] [vR (some 216), vI 4, vR (some 191)] ((P ++ fol 4) ++ sTown 216 20 16) (M) _
  refine j_aast (S' := (P ++ fol 5)) i_13_80 (show ((P ++ fol 4) ++ sTown 216 20 16)[191]? = some (24, 9, [some 192, some 198, some 204, some 210, none, none, none, none, none]) by (try simp only [List.append_assoc]); exact (gx hP 14).trans (by decide +kernel)) (show ((P ++ fol 4) ++ sTown 216 20 16)[216]? = some (6, 11, [some 20, some 217, some 218, some 219, some 220, some 221, none, none, none, none, none]) by (try simp only [List.append_assoc]); exact (gx hP 39).trans (by decide +kernel)) (by decide) (by decide) (by (try simp only [List.append_assoc]); exact (sx hP 14 _).trans (congrArg (P ++ ·) (by decide +kernel))) ?_
  refine j_iinc (ls' := [some (vR (some 177)), some (vR (some 20)), some (vR (some 25)), some (vI 5)]) i_13_81 rfl (by omega) rfl ?_
  refine j_goto (t := 56) i_13_84 rfl ?_
  refine j_iload_n i_13_56 rfl ?_
  refine j_aload_n i_13_57 rfl ?_
  refine j_getR (r := 191) i_13_58 o_13 rfl (by decide) (show (P ++ fol 5)[177]? = some (2, 5, [some 178, some 25, some 179, some 185, some 191]) by (try simp only [List.append_assoc]); exact (gx hP 0).trans (by decide +kernel)) rfl ?_
  refine j_alen (z := 9) i_13_61 (show (P ++ fol 5)[191]? = some (24, 9, [some 192, some 198, some 204, some 210, some 216, none, none, none, none]) by (try simp only [List.append_assoc]); exact (gx hP 14).trans (by decide +kernel)) (by decide) rfl ?_
  refine j_geF (t := 87) i_13_62 rfl (by decide) ?_
  refine j_aload_n i_13_65 rfl ?_
  refine j_getR (r := 191) i_13_66 o_13 rfl (by decide) (show (P ++ fol 5)[177]? = some (2, 5, [some 178, some 25, some 179, some 185, some 191]) by (try simp only [List.append_assoc]); exact (gx hP 0).trans (by decide +kernel)) rfl ?_
  refine j_iload_n i_13_69 rfl ?_
  refine j_new (S' := ((P ++ fol 5) ++ [(6, 11, [none, none, none, none, none, none, none, none, none, none, none])])) (a := 222) i_13_70 o_13 rfl (by decide) (by (try simp only [List.append_assoc]); exact (lx hP).trans (by decide +kernel)) (by decide) (hz.mono (by omega)) rfl ?_
  refine j_dup i_13_73 ?_
  refine j_aload_n i_13_74 rfl ?_
  refine j_bipush i_13_75 (by decide) ?_
  refine j_init (n := 2) (a := 222) (av := [vR (some 222), vR (some 20), vI 16]) (rest := [vR (some 222), vI 5, vR (some 191)]) (el := [some (vR (some 222)), some (vR (some 20)), some (vI 16)]) i_13_77 o_13 rfl w_60 rfl rfl rfl rfl rfl rfl ?_
  refine n_60_16 (P := (P ++ fol 5)) (a := 222) (t := 20) (by (try simp only [List.append_assoc]); exact (lx hP).trans (by decide +kernel)) (by decide) (hz.mono (by omega)) ?_
  show OkS _ 13 80 [some (vR (some 177)), some (vR (some 20)), some (vR (some 25)), some (vI 5)] [vR (some 222), vI 5, vR (some 191)] ((P ++ fol 5) ++ sTown 222 20 16) (M) _
  refine j_aast (S' := (P ++ fol 6)) i_13_80 (show ((P ++ fol 5) ++ sTown 222 20 16)[191]? = some (24, 9, [some 192, some 198, some 204, some 210, some 216, none, none, none, none]) by (try simp only [List.append_assoc]); exact (gx hP 14).trans (by decide +kernel)) (show ((P ++ fol 5) ++ sTown 222 20 16)[222]? = some (6, 11, [some 20, some 223, some 224, some 225, some 226, some 227, none, none, none, none, none]) by (try simp only [List.append_assoc]); exact (gx hP 45).trans (by decide +kernel)) (by decide) (by decide) (by (try simp only [List.append_assoc]); exact (sx hP 14 _).trans (congrArg (P ++ ·) (by decide +kernel))) ?_
  refine j_iinc (ls' := [some (vR (some 177)), some (vR (some 20)), some (vR (some 25)), some (vI 6)]) i_13_81 rfl (by omega) rfl ?_
  refine j_goto (t := 56) i_13_84 rfl ?_
  refine j_iload_n i_13_56 rfl ?_
  refine j_aload_n i_13_57 rfl ?_
  refine j_getR (r := 191) i_13_58 o_13 rfl (by decide) (show (P ++ fol 6)[177]? = some (2, 5, [some 178, some 25, some 179, some 185, some 191]) by (try simp only [List.append_assoc]); exact (gx hP 0).trans (by decide +kernel)) rfl ?_
  refine j_alen (z := 9) i_13_61 (show (P ++ fol 6)[191]? = some (24, 9, [some 192, some 198, some 204, some 210, some 216, some 222, none, none, none]) by (try simp only [List.append_assoc]); exact (gx hP 14).trans (by decide +kernel)) (by decide) rfl ?_
  refine j_geF (t := 87) i_13_62 rfl (by decide) ?_
  refine j_aload_n i_13_65 rfl ?_
  refine j_getR (r := 191) i_13_66 o_13 rfl (by decide) (show (P ++ fol 6)[177]? = some (2, 5, [some 178, some 25, some 179, some 185, some 191]) by (try simp only [List.append_assoc]); exact (gx hP 0).trans (by decide +kernel)) rfl ?_
  refine j_iload_n i_13_69 rfl ?_
  refine j_new (S' := ((P ++ fol 6) ++ [(6, 11, [none, none, none, none, none, none, none, none, none, none, none])])) (a := 228) i_13_70 o_13 rfl (by decide) (by (try simp only [List.append_assoc]); exact (lx hP).trans (by decide +kernel)) (by decide) (hz.mono (by omega)) rfl ?_
  refine j_dup i_13_73 ?_
  refine j_aload_n i_13_74 rfl ?_
  refine j_bipush i_13_75 (by decide) ?_
  refine j_init (n := 2) (a := 228) (av := [vR (some 228), vR (some 20), vI 16]) (rest := [vR (some 228), vI 6, vR (some 191)]) (el := [some (vR (some 228)), some (vR (some 20)), some (vI 16)]) i_13_77 o_13 rfl w_60 rfl rfl rfl rfl rfl rfl ?_
  refine n_60_16 (P := (P ++ fol 6)) (a := 228) (t := 20) (by (try simp only [List.append_assoc]); exact (lx hP).trans (by decide +kernel)) (by decide) (hz.mono (by omega)) ?_
  show OkS _ 13 80 [some (vR (some 177)), some (vR (some 20)), some (vR (some 25)), some (vI 6)] [vR (some 228), vI 6, vR (some 191)] ((P ++ fol 6) ++ sTown 228 20 16) (M) _
  refine j_aast (S' := (P ++ fol 7)) i_13_80 (show ((P ++ fol 6) ++ sTown 228 20 16)[191]? = some (24, 9, [some 192, some 198, some 204, some 210, some 216, some 222, none, none, none]) by (try simp only [List.append_assoc]); exact (gx hP 14).trans (by decide +kernel)) (show ((P ++ fol 6) ++ sTown 228 20 16)[228]? = some (6, 11, [some 20, some 229, some 230, some 231, some 232, some 233, none, none, none, none, none]) by (try simp only [List.append_assoc]); exact (gx hP 51).trans (by decide +kernel)) (by decide) (by decide) (by (try simp only [List.append_assoc]); exact (sx hP 14 _).trans (congrArg (P ++ ·) (by decide +kernel))) ?_
  refine j_iinc (ls' := [some (vR (some 177)), some (vR (some 20)), some (vR (some 25)), some (vI 7)]) i_13_81 rfl (by omega) rfl ?_
  refine j_goto (t := 56) i_13_84 rfl ?_
  refine j_iload_n i_13_56 rfl ?_
  refine j_aload_n i_13_57 rfl ?_
  refine j_getR (r := 191) i_13_58 o_13 rfl (by decide) (show (P ++ fol 7)[177]? = some (2, 5, [some 178, some 25, some 179, some 185, some 191]) by (try simp only [List.append_assoc]); exact (gx hP 0).trans (by decide +kernel)) rfl ?_
  refine j_alen (z := 9) i_13_61 (show (P ++ fol 7)[191]? = some (24, 9, [some 192, some 198, some 204, some 210, some 216, some 222, some 228, none, none]) by (try simp only [List.append_assoc]); exact (gx hP 14).trans (by decide +kernel)) (by decide) rfl ?_
  refine j_geF (t := 87) i_13_62 rfl (by decide) ?_
  refine j_aload_n i_13_65 rfl ?_
  refine j_getR (r := 191) i_13_66 o_13 rfl (by decide) (show (P ++ fol 7)[177]? = some (2, 5, [some 178, some 25, some 179, some 185, some 191]) by (try simp only [List.append_assoc]); exact (gx hP 0).trans (by decide +kernel)) rfl ?_
  refine j_iload_n i_13_69 rfl ?_
  refine j_new (S' := ((P ++ fol 7) ++ [(6, 11, [none, none, none, none, none, none, none, none, none, none, none])])) (a := 234) i_13_70 o_13 rfl (by decide) (by (try simp only [List.append_assoc]); exact (lx hP).trans (by decide +kernel)) (by decide) (hz.mono (by omega)) rfl ?_
  refine j_dup i_13_73 ?_
  refine j_aload_n i_13_74 rfl ?_
  refine j_bipush i_13_75 (by decide) ?_
  refine j_init (n := 2) (a := 234) (av := [vR (some 234), vR (some 20), vI 16]) (rest := [vR (some 234), vI 7, vR (some 191)]) (el := [some (vR (some 234)), some (vR (some 20)), some (vI 16)]) i_13_77 o_13 rfl w_60 rfl rfl rfl rfl rfl rfl ?_
  refine n_60_16 (P := (P ++ fol 7)) (a := 234) (t := 20) (by (try simp only [List.append_assoc]); exact (lx hP).trans (by decide +kernel)) (by decide) (hz.mono (by omega)) ?_
  show OkS _ 13 80 [some (vR (some 177)), some (vR (some 20)), some (vR (some 25)), some (vI 7)] [vR (some 234), vI 7, vR (some 191)] ((P ++ fol 7) ++ sTown 234 20 16) (M) _
  refine j_aast (S' := (P ++ fol 8)) i_13_80 (show ((P ++ fol 7) ++ sTown 234 20 16)[191]? = some (24, 9, [some 192, some 198, some 204, some 210, some 216, some 222, some 228, none, none]) by (try simp only [List.append_assoc]); exact (gx hP 14).trans (by decide +kernel)) (show ((P ++ fol 7) ++ sTown 234 20 16)[234]? = some (6, 11, [some 20, some 235, some 236, some 237, some 238, some 239, none, none, none, none, none]) by (try simp only [List.append_assoc]); exact (gx hP 57).trans (by decide +kernel)) (by decide) (by decide) (by (try simp only [List.append_assoc]); exact (sx hP 14 _).trans (congrArg (P ++ ·) (by decide +kernel))) ?_
  refine j_iinc (ls' := [some (vR (some 177)), some (vR (some 20)), some (vR (some 25)), some (vI 8)]) i_13_81 rfl (by omega) rfl ?_
  refine j_goto (t := 56) i_13_84 rfl ?_
  refine j_iload_n i_13_56 rfl ?_
  refine j_aload_n i_13_57 rfl ?_
  refine j_getR (r := 191) i_13_58 o_13 rfl (by decide) (show (P ++ fol 8)[177]? = some (2, 5, [some 178, some 25, some 179, some 185, some 191]) by (try simp only [List.append_assoc]); exact (gx hP 0).trans (by decide +kernel)) rfl ?_
  refine j_alen (z := 9) i_13_61 (show (P ++ fol 8)[191]? = some (24, 9, [some 192, some 198, some 204, some 210, some 216, some 222, some 228, some 234, none]) by (try simp only [List.append_assoc]); exact (gx hP 14).trans (by decide +kernel)) (by decide) rfl ?_
  refine j_geF (t := 87) i_13_62 rfl (by decide) ?_
  refine j_aload_n i_13_65 rfl ?_
  refine j_getR (r := 191) i_13_66 o_13 rfl (by decide) (show (P ++ fol 8)[177]? = some (2, 5, [some 178, some 25, some 179, some 185, some 191]) by (try simp only [List.append_assoc]); exact (gx hP 0).trans (by decide +kernel)) rfl ?_
  refine j_iload_n i_13_69 rfl ?_
  refine j_new (S' := ((P ++ fol 8) ++ [(6, 11, [none, none, none, none, none, none, none, none, none, none, none])])) (a := 240) i_13_70 o_13 rfl (by decide) (by (try simp only [List.append_assoc]); exact (lx hP).trans (by decide +kernel)) (by decide) (hz.mono (by omega)) rfl ?_
  refine j_dup i_13_73 ?_
  refine j_aload_n i_13_74 rfl ?_
  refine j_bipush i_13_75 (by decide) ?_
  refine j_init (n := 2) (a := 240) (av := [vR (some 240), vR (some 20), vI 16]) (rest := [vR (some 240), vI 8, vR (some 191)]) (el := [some (vR (some 240)), some (vR (some 20)), some (vI 16)]) i_13_77 o_13 rfl w_60 rfl rfl rfl rfl rfl rfl ?_
  refine n_60_16 (P := (P ++ fol 8)) (a := 240) (t := 20) (by (try simp only [List.append_assoc]); exact (lx hP).trans (by decide +kernel)) (by decide) (hz.mono (by omega)) ?_
  show OkS _ 13 80 [some (vR (some 177)), some (vR (some 20)), some (vR (some 25)), some (vI 8)] [vR (some 240), vI 8, vR (some 191)] ((P ++ fol 8) ++ sTown 240 20 16) (M) _
  refine j_aast (S' := (P ++ fol 9)) i_13_80 (show ((P ++ fol 8) ++ sTown 240 20 16)[191]? = some (24, 9, [some 192, some 198, some 204, some 210, some 216, some 222, some 228, some 234, none]) by (try simp only [List.append_assoc]); exact (gx hP 14).trans (by decide +kernel)) (show ((P ++ fol 8) ++ sTown 240 20 16)[240]? = some (6, 11, [some 20, some 241, some 242, some 243, some 244, some 245, none, none, none, none, none]) by (try simp only [List.append_assoc]); exact (gx hP 63).trans (by decide +kernel)) (by decide) (by decide) (by (try simp only [List.append_assoc]); exact (sx hP 14 _).trans (congrArg (P ++ ·) (by decide +kernel))) ?_
  refine j_iinc (ls' := [some (vR (some 177)), some (vR (some 20)), some (vR (some 25)), some (vI 9)]) i_13_81 rfl (by omega) rfl ?_
  refine j_goto (t := 56) i_13_84 rfl ?_
  refine j_iload_n i_13_56 rfl ?_
  refine j_aload_n i_13_57 rfl ?_
  refine j_getR (r := 191) i_13_58 o_13 rfl (by decide) (show (P ++ fol 9)[177]? = some (2, 5, [some 178, some 25, some 179, some 185, some 191]) by (try simp only [List.append_assoc]); exact (gx hP 0).trans (by decide +kernel)) rfl ?_
  refine j_alen (z := 9) i_13_61 (show (P ++ fol 9)[191]? = some (24, 9, [some 192, some 198, some 204, some 210, some 216, some 222, some 228, some 234, some 240]) by (try simp only [List.append_assoc]); exact (gx hP 14).trans (by decide +kernel)) (by decide) rfl ?_
  refine j_geT (t := 87) i_13_62 rfl (by decide) ?_
  refine j_vret i_13_87 rfl ?_
  exact k
