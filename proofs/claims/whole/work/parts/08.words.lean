theorem lk_mem {α : Type} : ∀ {L : List (Nat × α)} {k : Nat} {v : α}, lk L k = some v → (k, v) ∈ L
  | [], _, _, h => by cases h
  | (a, b) :: r, k, v, h => by
    unfold lk at h
    split at h
    · next e =>
      cases h
      subst e
      exact List.mem_cons_self
    · exact List.mem_cons_of_mem _ (lk_mem h)
def Ct : Nat → u_T := fun k => match k with
  | 0 => TX0
  | 1 => TX1
  | 2 => TX2
  | 3 => TX3
  | 4 => TX4
  | 5 => TX5
  | 6 => TX6
  | 7 => TX7
  | _ => TX8
def Cty : Nat → Nat → FieldType := fun k => match k with
  | 0 => tyX0
  | 1 => tyX1
  | 2 => tyX2
  | 3 => tyX3
  | 4 => tyX4
  | 5 => tyX5
  | 6 => tyX6
  | 7 => tyX7
  | _ => tyX8
def wordF (q : Nat × Nat × Nat) : Cond := .fieldLink (cN (q.1 / 1000)) (q.1 % 1000) (Ct q.2.1 q.2.2).1 (Ct q.2.1 q.2.2).2.1 (Ct q.2.1 q.2.2).2.2.1
def wordC (q : Nat × Int) : Cond := .constant (cN (q.1 / 1000)) (q.1 % 1000) (Int32.ofInt q.2)
def wordL (q : Nat × Int) : Cond := .constantLong (cN (q.1 / 1000)) (q.1 % 1000) (Int64.ofInt q.2)
def cK (k : Nat) : String := if k = 22 then "[[I" else cN k
def wordK (q : Nat × Nat) : Cond := .classLink (cN (q.1 / 1000)) (q.1 % 1000) (cK q.2)
def sN : Nat → String := fun j => match j with
  | 0 => "PARENTS"
  | 1 => "SIZE_BODIES"
  | _ => "MARK_BODIES"
def wordS (q : Nat × Nat) : Cond := .fieldLink (cN (q.1 / 1000)) (q.1 % 1000) RX1 (sN q.2) "[I"
def arraycopyN : MethodName := ⟨"java/lang/System", "arraycopy", "(Ljava/lang/Object;ILjava/lang/Object;II)V"⟩
def mYY (k : Nat) : MethodName := if k = 1000 then arraycopyN else if k = 1001 then objectInit else if k = 1002 then Lib.Math.max.name else if k = 1003 then Lib.Math.min.name else mY k
/-- the one link of a nest mate's constructor -/
def isNest (q : Nat × Nat) : Bool := q.1 == 7018
def wordM (q : Nat × Nat) : Cond := if isNest q then .methodLinkNest (cN (q.1 / 1000)) (q.1 % 1000) (mYY q.2) "ElbowQueue" else .methodLink (cN (q.1 / 1000)) (q.1 % 1000) (mYY q.2)
set_option maxRecDepth 100000 in
theorem wF : ∀ q ∈ poolF, wordF q ∈ tables_1 := by decide +kernel
set_option maxRecDepth 100000 in
theorem wC : ∀ q ∈ poolC, wordC q ∈ tables_1 := by decide +kernel
set_option maxRecDepth 100000 in
theorem wL : ∀ q ∈ poolL, wordL q ∈ tables_1 := by decide +kernel
set_option maxRecDepth 100000 in
theorem wK : ∀ q ∈ poolK, wordK q ∈ tables_1 := by decide +kernel
set_option maxRecDepth 100000 in
theorem wS : ∀ q ∈ poolS, wordS q ∈ tables_1 := by decide +kernel
/-- the links of methods, each with its place among the words -/
def poolMP : List ((Nat × Nat) × Nat) := [((7001, 1001), 17), ((7009, 44), 22), ((4001, 1001), 25), ((3003, 1001), 44), ((7025, 56), 60), ((5003, 1001), 63), ((7035, 60), 108), ((6003, 1001), 111), ((7044, 0), 159), ((3, 1001), 162), ((17, 60), 165), ((7053, 13), 178), ((2003, 1001), 181), ((2021, 60), 183), ((7062, 5), 203), ((1003, 1001), 206), ((7079, 45), 269), ((7083, 46), 272), ((7087, 119), 276), ((7091, 51), 281), ((7095, 120), 285), ((7098, 47), 293), ((7101, 50), 297), ((7105, 52), 301), ((7109, 48), 309), ((7112, 53), 313), ((4021, 1000), 317), ((7116, 54), 324), ((7119, 117), 332), ((7123, 30), 335), ((7128, 31), 340), ((7131, 34), 348), ((3025, 57), 352), ((3030, 35), 356), ((3040, 39), 360), ((3054, 38), 364), ((3044, 41), 368), ((3074, 42), 372), ((3034, 36), 375), ((3057, 43), 379), ((3060, 58), 382), ((3037, 37), 386), ((3070, 40), 390), ((7140, 33), 395), ((7144, 59), 399), ((5037, 1000), 403), ((7147, 61), 404), ((6058, 81), 408), ((7150, 2), 412), ((7164, 3), 425), ((27, 62), 429), ((6062, 1003), 433), ((6068, 1000), 436), ((31, 1003), 437), ((7168, 72), 438), ((6086, 73), 442), ((6082, 63), 446), ((6100, 74), 450), ((6089, 75), 454), ((6093, 76), 458), ((6104, 77), 462), ((6096, 79), 466), ((6078, 68), 470), ((7175, 118), 478), ((7182, 63), 482), ((7185, 64), 483), ((7189, 66), 491), ((7193, 75), 497), ((7202, 1), 506), ((7205, 4), 510), ((7217, 65), 522), ((7220, 15), 530), ((2042, 62), 534), ((2046, 14), 535), ((2034, 69), 538), ((2038, 72), 542), ((7224, 67), 543), ((7227, 18), 555), ((2066, 16), 559), ((2050, 17), 563), ((2058, 70), 567), ((2062, 71), 571), ((7230, 22), 580), ((2070, 64), 584), ((7234, 19), 589), ((7238, 20), 597), ((7241, 23), 605), ((2074, 82), 609), ((2078, 83), 613), ((6113, 72), 617), ((6116, 80), 618), ((7244, 24), 626), ((2082, 25), 630), ((2097, 68), 634), ((2100, 26), 635), ((2088, 27), 640), ((7248, 28), 648), ((2104, 67), 652), ((7251, 49), 657), ((7257, 21), 661), ((7260, 62), 669), ((7265, 6), 682), ((7268, 8), 691), ((1031, 9), 695), ((1040, 10), 699), ((1047, 1002), 702), ((1044, 11), 709), ((1058, 12), 713), ((1067, 63), 717), ((7270, 7), 722), ((7273, 55), 731), ((7279, 32), 735), ((8001, 1001), 748), ((8067, 125), 820), ((8063, 122), 824), ((8074, 123), 829), ((8078, 124), 834), ((8122, 139), 860), ((8109, 133), 864), ((8094, 131), 868), ((8106, 134), 872), ((8100, 132), 876), ((8115, 138), 881), ((8112, 136), 885), ((8103, 135), 889), ((8119, 137), 892), ((8132, 142), 897), ((8157, 144), 909), ((8164, 154), 915), ((8167, 153), 919), ((8148, 148), 923), ((8135, 146), 927), ((8138, 147), 931), ((8144, 149), 935), ((8151, 151), 939), ((8141, 150), 943), ((8154, 152), 947), ((8171, 143), 955), ((8176, 156), 960), ((8179, 157), 964), ((8184, 159), 972), ((8193, 165), 1000), ((8196, 167), 1004), ((8199, 168), 1008), ((8202, 166), 1012), ((8205, 171), 1024), ((8208, 175), 1040), ((8213, 177), 1049), ((8216, 178), 1053), ((8223, 182), 1063), ((8226, 181), 1066), ((8230, 180), 1069), ((8233, 185), 1080), ((8237, 190), 1100), ((8270, 197), 1107), ((8255, 145), 1111), ((8258, 195), 1115), ((8243, 192), 1119), ((8249, 194), 1123), ((8246, 193), 1127), ((8261, 196), 1131), ((8252, 200), 1135), ((8267, 199), 1139), ((8264, 198), 1143), ((8273, 203), 1155), ((7018, 29), 41)]
/-- of each method: the places of its code, of its class as initialised, of static or instanceMethod (all in tables_1), of selects (in lw_tbl) -/
def mPl : List (Nat × Nat × Nat × Nat) := [(161, 6, 160, 0), (509, 6, 507, 575), (415, 6, 413, 481), (428, 6, 426, 494), (513, 6, 511, 579), (205, 8, 204, 0), (684, 8, 683, 0), (725, 8, 723, 791), (694, 8, 692, 760), (698, 8, 697, 20), (701, 8, 700, 0), (712, 8, 711, 21), (716, 8, 715, 22), (180, 7, 179, 0), (537, 7, 536, 0), (533, 7, 531, 599), (562, 7, 561, 16), (566, 7, 565, 17), (558, 7, 556, 624), (592, 7, 590, 658), (600, 7, 598, 666), (664, 7, 662, 730), (583, 7, 581, 649), (608, 7, 606, 674), (629, 7, 627, 695), (633, 7, 632, 18), (638, 7, 637, 19), (642, 7, 641, 0), (651, 7, 649, 717), (43, 3, 42, 0), (338, 3, 336, 404), (343, 3, 341, 409), (738, 3, 736, 804), (398, 3, 396, 464), (351, 3, 349, 417), (359, 3, 358, 2), (378, 3, 377, 6), (389, 3, 388, 7), (367, 3, 366, 4), (363, 3, 362, 3), (393, 3, 392, 8), (371, 3, 370, 5), (374, 3, 373, 0), (381, 3, 380, 0), (24, 2, 23, 0), (271, 2, 270, 0), (274, 2, 273, 0), (296, 2, 294, 362), (312, 2, 310, 378), (660, 2, 658, 726), (300, 2, 298, 366), (284, 2, 282, 350), (304, 2, 302, 370), (316, 2, 314, 382), (327, 2, 325, 393), (734, 2, 732, 800), (62, 4, 61, 0), (355, 4, 353, 421), (385, 4, 383, 451), (402, 4, 400, 468), (110, 5, 109, 0), (407, 5, 405, 473), (432, 5, 430, 498), (449, 5, 447, 515), (486, 5, 484, 552), (525, 5, 523, 591), (494, 5, 492, 560), (546, 5, 544, 612), (473, 5, 471, 539), (541, 5, 539, 607), (570, 5, 568, 636), (574, 5, 572, 640), (441, 5, 439, 507), (445, 5, 444, 10), (453, 5, 452, 11), (457, 5, 455, 523), (461, 5, 460, 12), (465, 5, 464, 13), (465, 5, 464, 13), (469, 5, 468, 14), (621, 5, 619, 687), (411, 5, 410, 9), (612, 5, 610, 678), (616, 5, 614, 682), (16, 1, 15, 0), (268, 1, 266, 334), (292, 1, 290, 358), (308, 1, 306, 374), (323, 1, 321, 389), (331, 1, 329, 397), (347, 1, 345, 413), (419, 1, 417, 485), (423, 1, 421, 489), (477, 1, 475, 543), (490, 1, 488, 556), (501, 1, 499, 567), (505, 1, 503, 571), (517, 1, 515, 583), (521, 1, 519, 587), (529, 1, 527, 595), (550, 1, 548, 616), (554, 1, 552, 620), (579, 1, 577, 645), (588, 1, 586, 654), (596, 1, 594, 662), (604, 1, 602, 670), (625, 1, 623, 691), (647, 1, 645, 713), (656, 1, 654, 722), (668, 1, 666, 734), (673, 1, 671, 739), (677, 1, 675, 743), (681, 1, 679, 747), (690, 1, 688, 756), (721, 1, 719, 787), (730, 1, 728, 796), (742, 1, 740, 808), (334, 1, 333, 0), (481, 1, 480, 15), (279, 1, 278, 0), (288, 1, 287, 1), (747, 9, 746, 0), (826, 9, 825, 0), (832, 9, 831, 23), (837, 9, 836, 24), (822, 9, 821, 0), (819, 9, 817, 885), (841, 9, 839, 907), (845, 9, 843, 911), (849, 9, 847, 915), (853, 9, 851, 919), (871, 9, 870, 27), (878, 9, 877, 0), (867, 9, 866, 26), (875, 9, 874, 28), (891, 9, 890, 0), (888, 9, 887, 30), (895, 9, 894, 31), (884, 9, 883, 29), (863, 9, 862, 25), (859, 9, 857, 925), (904, 9, 902, 970), (900, 9, 899, 32), (958, 9, 957, 43), (912, 9, 911, 33), (1114, 9, 1113, 57), (930, 9, 929, 37), (934, 9, 933, 38), (926, 9, 925, 36), (938, 9, 937, 39), (946, 9, 945, 41), (942, 9, 941, 40), (950, 9, 949, 42), (922, 9, 921, 35), (918, 9, 917, 34), (908, 9, 906, 974), (963, 9, 962, 44), (967, 9, 966, 45), (954, 9, 952, 1020), (975, 9, 974, 46), (971, 9, 969, 1037), (980, 9, 978, 1046), (985, 9, 983, 1051), (989, 9, 987, 1055), (994, 9, 992, 1060), (1003, 9, 1002, 47), (1015, 9, 1014, 50), (1007, 9, 1006, 48), (1011, 9, 1010, 49), (998, 9, 996, 1064), (1019, 9, 1017, 1085), (1027, 9, 1026, 51), (1023, 9, 1021, 1089), (1031, 9, 1029, 1097), (1035, 9, 1033, 1101), (1043, 9, 1042, 52), (1039, 9, 1037, 1105), (1052, 9, 1051, 53), (1056, 9, 1055, 54), (1047, 9, 1045, 1113), (1071, 9, 1070, 0), (1068, 9, 1067, 0), (1065, 9, 1064, 0), (1060, 9, 1058, 1126), (1075, 9, 1073, 1141), (1083, 9, 1082, 55), (1079, 9, 1077, 1145), (1087, 9, 1085, 1153), (1091, 9, 1089, 1157), (1095, 9, 1093, 1161), (1102, 9, 1101, 0), (1099, 9, 1097, 1165), (1122, 9, 1121, 59), (1130, 9, 1129, 61), (1126, 9, 1125, 60), (1118, 9, 1117, 58), (1134, 9, 1133, 62), (1110, 9, 1109, 56), (1146, 9, 1145, 65), (1142, 9, 1141, 64), (1138, 9, 1137, 63), (1106, 9, 1104, 1172), (1150, 9, 1148, 1216), (1158, 9, 1157, 66), (1154, 9, 1152, 1220), (1162, 9, 1160, 1228)]
set_option maxRecDepth 100000 in
theorem poolM_e : poolM = poolMP.map (fun x => x.1) := by decide +kernel
set_option maxRecDepth 100000 in
theorem wMP : ∀ x ∈ poolMP, tables_1[x.2]? = some (wordM x.1) := by decide +kernel
theorem wM : ∀ q ∈ poolM, wordM q ∈ tables_1 := fun q hq => by
  rw [poolM_e] at hq
  obtain ⟨x, hx, rfl⟩ := List.mem_map.mp hq
  exact List.mem_of_getElem? (wMP x hx)
def wCode (k : Nat) : Cond := .code (mY k) (mB k) (mL k) (mR k)
def wSt (k : Nat) : Cond := if mS k then .static (mY k) else .instanceMethod (mY k)
def wSel (k : Nat) : Cond := .selects (mY k).cls (mY k) (mY k)
def wIni (k : Nat) : Cond := .initialized (mY k).cls
set_option maxRecDepth 100000 in
theorem mW1 : mPl.map (fun q => tables_1[q.1]?) = mT.map (fun x => some (Cond.code x.2.1 x.2.2.1 x.2.2.2.1 x.2.2.2.2.1)) := rfl
set_option maxRecDepth 100000 in
theorem mW2 : (List.range 206).all (fun k => decide (tables_1[(mPl.getD k (0, 0, 0, 0)).2.1]? = some (wIni k))) = true := by decide +kernel
set_option maxRecDepth 100000 in
theorem mW3 : (List.range 206).all (fun k => decide (tables_1[(mPl.getD k (0, 0, 0, 0)).2.2.1]? = some (wSt k))) = true := by decide +kernel
set_option maxRecDepth 100000 in
theorem mW4 : (List.range 206).all (fun k => mS k || decide ((mY k).name = "<init>") || decide (lw_tbl[(mPl.getD k (0, 0, 0, 0)).2.2.2]? = some (wSel k))) = true := by decide +kernel
set_option maxRecDepth 100000 in
theorem mW5 : (List.range 206).all (fun k => decide ((mY k).cls = cN (mOwn k) ∧ mL k ≤ 20 ∧ (mY k).cls ≠ "java/lang/invoke/MethodHandle" ∧ (mY k).cls ≠ "java/lang/invoke/VarHandle" ∧ (parseMethodDescriptor (mY k).desc).map (fun d => d.parameters.length) = some (mP k))) = true := by decide +kernel
set_option maxRecDepth 100000 in
theorem pF_ok : ∀ q ∈ poolF, q.2.1 < 9 := by decide +kernel
/-- the words that stay when the tables grow warm -/
def gwT : List Cond := lw_tbl.filter goodWord
theorem tb_in {w : Cond} (h : w ∈ tables_1) (hg : goodWord w = true := by rfl) : w ∈ gwT := List.mem_filter.mpr ⟨List.mem_append_right _ h, hg⟩
set_option maxRecDepth 100000 in
theorem cls_cl : ∀ ci < 9, vwCl[ci]? = some (cN ci, Ct ci, fnum ci) := fun ci h => by
  rcases (show ci = 0 ∨ ci = 1 ∨ ci = 2 ∨ ci = 3 ∨ ci = 4 ∨ ci = 5 ∨ ci = 6 ∨ ci = 7 ∨ ci = 8 by omega) with rfl | rfl | rfl | rfl | rfl | rfl | rfl | rfl | rfl <;> rfl
set_option maxRecDepth 100000 in
theorem cls_ws : ∀ ci < 9, ∀ w ∈ u_ws (cN ci) (Ct ci) (fnum ci), w ∈ tables_1 := by decide +kernel
set_option maxRecDepth 100000 in
theorem cls_wsg : ∀ ci < 9, ∀ w ∈ u_ws (cN ci) (Ct ci) (fnum ci), goodWord w = true := by decide +kernel
theorem cls_in {ci : Nat} (h : ci < 9) : ∀ w ∈ u_ws (cN ci) (Ct ci) (fnum ci), w ∈ gwT := fun w hw => tb_in (cls_ws _ h w hw) (cls_wsg _ h w hw)
set_option maxRecDepth 100000 in
theorem cls_ty : ∀ ci < 9, ∀ k, k < fnum ci → parseFieldDescriptor (Ct ci k).2.2.1 = some (Cty ci k) := by decide +kernel
set_option maxRecDepth 100000 in
theorem cls_nm : ∀ ci < 9, ∀ a, a < fnum ci → ∀ b, b < fnum ci → a ≠ b → (Ct ci a).2.1 ≠ (Ct ci b).2.1 := by decide +kernel
set_option maxRecDepth 100000 in
theorem cls_inst : ∀ ci < 9, Cond.instantiable (cN ci) (fnum ci) ∈ tables_1 ∧ Cond.initialized (cN ci) ∈ tables_1 := by decide +kernel
set_option maxRecDepth 100000 in
theorem cls_fin : ∀ ci < 9, ∀ k, k < fnum ci → (Ct ci k).2.2.2 = ffi ci k ∧ (Ct ci k).1 = cN ci := by decide +kernel
def isRefT : FieldType → Bool := fun t => match t with
  | .object _ | .array _ => true
  | _ => false
set_option maxRecDepth 100000 in
theorem cls_fty : ∀ ci < 9, ∀ k, k < fnum ci → (fty ci k = 0 → Cty ci k = .int) ∧ (fty ci k = 1 → isRefT (Cty ci k) = true) ∧ (fty ci k = 2 → Cty ci k = .boolean) ∧ fty ci k ≤ 2 := by decide +kernel
