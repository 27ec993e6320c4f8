theorem lk_mem {α : Type} : ∀ {L : List (Nat × α)} {k : Nat} {v : α}, lk L k = some v → (k, v) ∈ L
  | [], _, _, h => by cases h
  | (a, b) :: r, k, v, h => by
    unfold lk at h
    split at h
    · next e =>
      cases h
      subst e
      exact List.mem_cons_self
    · exact List.mem_cons_of_mem _ (lk_mem h)
def Ct : Nat → u_T := fun k => match k with
  | 0 => TX0
  | 1 => TX1
  | 2 => TX2
  | 3 => TX3
  | 4 => TX4
  | 5 => TX5
  | 6 => TX6
  | 7 => TX7
  | _ => TX8
def Cty : Nat → Nat → FieldType := fun k => match k with
  | 0 => tyX0
  | 1 => tyX1
  | 2 => tyX2
  | 3 => tyX3
  | 4 => tyX4
  | 5 => tyX5
  | 6 => tyX6
  | 7 => tyX7
  | _ => tyX8
def wordF (q : Nat × Nat × Nat) : Cond := .fieldLink (cN (q.1 / 1000)) (q.1 % 1000) (Ct q.2.1 q.2.2).1 (Ct q.2.1 q.2.2).2.1 (Ct q.2.1 q.2.2).2.2.1
def wordC (q : Nat × Int) : Cond := .constant (cN (q.1 / 1000)) (q.1 % 1000) (Int32.ofInt q.2)
def wordL (q : Nat × Int) : Cond := .constantLong (cN (q.1 / 1000)) (q.1 % 1000) (Int64.ofInt q.2)
def cK (k : Nat) : String := if k = 22 then "[[I" else cN k
def wordK (q : Nat × Nat) : Cond := .classLink (cN (q.1 / 1000)) (q.1 % 1000) (cK q.2)
def sN : Nat → String := fun j => match j with
  | 0 => "PARENTS"
  | 1 => "SIZE_BODIES"
  | _ => "MARK_BODIES"
def wordS (q : Nat × Nat) : Cond := .fieldLink (cN (q.1 / 1000)) (q.1 % 1000) RX1 (sN q.2) "[I"
def arraycopyN : MethodName := ⟨"java/lang/System", "arraycopy", "(Ljava/lang/Object;ILjava/lang/Object;II)V"⟩
def mYY (k : Nat) : MethodName := if k = 1000 then arraycopyN else if k = 1001 then objectInit else if k = 1002 then Lib.Math.max.name else if k = 1003 then Lib.Math.min.name else mY k
/-- the one link of a nest mate's constructor -/
def isNest (q : Nat × Nat) : Bool := q.1 == 7018
def wordM (q : Nat × Nat) : Cond := if isNest q then .methodLinkNest (cN (q.1 / 1000)) (q.1 % 1000) (mYY q.2) "ElbowQueue" else .methodLink (cN (q.1 / 1000)) (q.1 % 1000) (mYY q.2)
set_option maxRecDepth 100000 in
theorem wF : ∀ q ∈ poolF, wordF q ∈ tables_1 := by decide +kernel
set_option maxRecDepth 100000 in
theorem wC : ∀ q ∈ poolC, wordC q ∈ tables_1 := by decide +kernel
set_option maxRecDepth 100000 in
theorem wL : ∀ q ∈ poolL, wordL q ∈ tables_1 := by decide +kernel
set_option maxRecDepth 100000 in
theorem wK : ∀ q ∈ poolK, wordK q ∈ tables_1 := by decide +kernel
set_option maxRecDepth 100000 in
theorem wS : ∀ q ∈ poolS, wordS q ∈ tables_1 := by decide +kernel
/-- the links of methods, each with its place among the words -/
def poolMP : List ((Nat × Nat) × Nat) := [((7001, 1001), 17), ((7009, 44), 22), ((4001, 1001), 25), ((3003, 1001), 44), ((7025, 56), 60), ((5003, 1001), 63), ((7035, 60), 108), ((6003, 1001), 111), ((7044, 0), 159), ((3, 1001), 162), ((17, 60), 165), ((7053, 13), 178), ((2003, 1001), 181), ((2021, 60), 183), ((7062, 5), 203), ((1003, 1001), 206), ((7079, 45), 269), ((7083, 46), 272), ((7087, 119), 276), ((7091, 51), 281), ((7095, 120), 285), ((7098, 47), 293), ((7101, 50), 297), ((7105, 52), 301), ((7109, 48), 309), ((7112, 53), 313), ((4021, 1000), 317), ((7116, 54), 324), ((7119, 117), 332), ((7123, 30), 335), ((7128, 31), 340), ((7131, 34), 348), ((3025, 57), 352), ((3030, 35), 356), ((3040, 39), 360), ((3054, 38), 364), ((3044, 41), 368), ((3074, 42), 372), ((3034, 36), 375), ((3057, 43), 379), ((3060, 58), 382), ((3037, 37), 386), ((3070, 40), 390), ((7140, 33), 395), ((7144, 59), 399), ((5037, 1000), 403), ((7147, 61), 404), ((6058, 81), 408), ((7150, 2), 412), ((7164, 3), 425), ((27, 62), 429), ((6062, 1003), 433), ((6068, 1000), 436), ((31, 1003), 437), ((7168, 72), 438), ((6086, 73), 442), ((6082, 63), 446), ((6100, 74), 450), ((6089, 75), 454), ((6093, 76), 458), ((6104, 77), 462), ((6110, 78), 466), ((6096, 79), 470), ((6078, 68), 474), ((7175, 118), 482), ((7182, 63), 486), ((7185, 64), 487), ((7189, 66), 495), ((7193, 75), 501), ((7202, 1), 510), ((7205, 4), 514), ((7217, 65), 526), ((7220, 15), 534), ((2042, 62), 538), ((2046, 14), 539), ((2034, 69), 542), ((2038, 72), 546), ((7224, 67), 547), ((7227, 18), 559), ((2066, 16), 563), ((2050, 17), 567), ((2058, 70), 571), ((2062, 71), 575), ((7230, 22), 584), ((2070, 64), 588), ((7234, 19), 593), ((7238, 20), 601), ((7241, 23), 609), ((2074, 82), 613), ((2078, 83), 617), ((6116, 72), 621), ((6119, 80), 622), ((7244, 24), 630), ((2082, 25), 634), ((2097, 68), 638), ((2100, 26), 639), ((2088, 27), 644), ((7248, 28), 652), ((2104, 67), 656), ((7251, 49), 661), ((7257, 21), 665), ((7260, 62), 673), ((7265, 6), 686), ((7268, 8), 695), ((1031, 9), 699), ((1040, 10), 703), ((1047, 1002), 706), ((1044, 11), 713), ((1058, 12), 717), ((1067, 63), 721), ((7270, 7), 726), ((7273, 55), 735), ((7279, 32), 739), ((8001, 1001), 752), ((8067, 125), 824), ((8063, 122), 828), ((8074, 123), 833), ((8078, 124), 838), ((8122, 139), 864), ((8109, 133), 868), ((8094, 131), 872), ((8106, 134), 876), ((8100, 132), 880), ((8115, 138), 885), ((8112, 136), 889), ((8103, 135), 893), ((8119, 137), 896), ((8132, 142), 901), ((8157, 144), 913), ((8164, 154), 919), ((8167, 153), 923), ((8148, 148), 927), ((8135, 146), 931), ((8138, 147), 935), ((8144, 149), 939), ((8151, 151), 943), ((8141, 150), 947), ((8154, 152), 951), ((8171, 143), 959), ((8176, 156), 964), ((8179, 157), 968), ((8184, 159), 976), ((8193, 165), 1004), ((8196, 167), 1008), ((8199, 168), 1012), ((8202, 166), 1016), ((8205, 171), 1028), ((8208, 175), 1044), ((8213, 177), 1053), ((8216, 178), 1057), ((8223, 182), 1067), ((8226, 181), 1070), ((8230, 180), 1073), ((8233, 185), 1084), ((8237, 190), 1104), ((8270, 197), 1111), ((8255, 145), 1115), ((8258, 195), 1119), ((8243, 192), 1123), ((8249, 194), 1127), ((8246, 193), 1131), ((8261, 196), 1135), ((8252, 200), 1139), ((8267, 199), 1143), ((8264, 198), 1147), ((8273, 203), 1159), ((7018, 29), 41)]
/-- of each method: the places of its code, of its class as initialised, of static or instanceMethod (all in tables_1), of selects (in lw_tbl) -/
def mPl : List (Nat × Nat × Nat × Nat) := [(161, 6, 160, 0), (513, 6, 511, 580), (415, 6, 413, 482), (428, 6, 426, 495), (517, 6, 515, 584), (205, 8, 204, 0), (688, 8, 687, 0), (729, 8, 727, 796), (698, 8, 696, 765), (702, 8, 701, 21), (705, 8, 704, 0), (716, 8, 715, 22), (720, 8, 719, 23), (180, 7, 179, 0), (541, 7, 540, 0), (537, 7, 535, 604), (566, 7, 565, 17), (570, 7, 569, 18), (562, 7, 560, 629), (596, 7, 594, 663), (604, 7, 602, 671), (668, 7, 666, 735), (587, 7, 585, 654), (612, 7, 610, 679), (633, 7, 631, 700), (637, 7, 636, 19), (642, 7, 641, 20), (646, 7, 645, 0), (655, 7, 653, 722), (43, 3, 42, 0), (338, 3, 336, 405), (343, 3, 341, 410), (742, 3, 740, 809), (398, 3, 396, 465), (351, 3, 349, 418), (359, 3, 358, 2), (378, 3, 377, 6), (389, 3, 388, 7), (367, 3, 366, 4), (363, 3, 362, 3), (393, 3, 392, 8), (371, 3, 370, 5), (374, 3, 373, 0), (381, 3, 380, 0), (24, 2, 23, 0), (271, 2, 270, 0), (274, 2, 273, 0), (296, 2, 294, 363), (312, 2, 310, 379), (664, 2, 662, 731), (300, 2, 298, 367), (284, 2, 282, 351), (304, 2, 302, 371), (316, 2, 314, 383), (327, 2, 325, 394), (738, 2, 736, 805), (62, 4, 61, 0), (355, 4, 353, 422), (385, 4, 383, 452), (402, 4, 400, 469), (110, 5, 109, 0), (407, 5, 405, 474), (432, 5, 430, 499), (449, 5, 447, 516), (490, 5, 488, 557), (529, 5, 527, 596), (498, 5, 496, 565), (550, 5, 548, 617), (477, 5, 475, 544), (545, 5, 543, 612), (574, 5, 572, 641), (578, 5, 576, 645), (441, 5, 439, 508), (445, 5, 444, 10), (453, 5, 452, 11), (457, 5, 455, 524), (461, 5, 460, 12), (465, 5, 464, 13), (469, 5, 468, 14), (473, 5, 472, 15), (625, 5, 623, 692), (411, 5, 410, 9), (616, 5, 614, 683), (620, 5, 618, 687), (16, 1, 15, 0), (268, 1, 266, 335), (292, 1, 290, 359), (308, 1, 306, 375), (323, 1, 321, 390), (331, 1, 329, 398), (347, 1, 345, 414), (419, 1, 417, 486), (423, 1, 421, 490), (481, 1, 479, 548), (494, 1, 492, 561), (505, 1, 503, 572), (509, 1, 507, 576), (521, 1, 519, 588), (525, 1, 523, 592), (533, 1, 531, 600), (554, 1, 552, 621), (558, 1, 556, 625), (583, 1, 581, 650), (592, 1, 590, 659), (600, 1, 598, 667), (608, 1, 606, 675), (629, 1, 627, 696), (651, 1, 649, 718), (660, 1, 658, 727), (672, 1, 670, 739), (677, 1, 675, 744), (681, 1, 679, 748), (685, 1, 683, 752), (694, 1, 692, 761), (725, 1, 723, 792), (734, 1, 732, 801), (746, 1, 744, 813), (334, 1, 333, 0), (485, 1, 484, 16), (279, 1, 278, 0), (288, 1, 287, 1), (751, 9, 750, 0), (830, 9, 829, 0), (836, 9, 835, 24), (841, 9, 840, 25), (826, 9, 825, 0), (823, 9, 821, 890), (845, 9, 843, 912), (849, 9, 847, 916), (853, 9, 851, 920), (857, 9, 855, 924), (875, 9, 874, 28), (882, 9, 881, 0), (871, 9, 870, 27), (879, 9, 878, 29), (895, 9, 894, 0), (892, 9, 891, 31), (899, 9, 898, 32), (888, 9, 887, 30), (867, 9, 866, 26), (863, 9, 861, 930), (908, 9, 906, 975), (904, 9, 903, 33), (962, 9, 961, 44), (916, 9, 915, 34), (1118, 9, 1117, 58), (934, 9, 933, 38), (938, 9, 937, 39), (930, 9, 929, 37), (942, 9, 941, 40), (950, 9, 949, 42), (946, 9, 945, 41), (954, 9, 953, 43), (926, 9, 925, 36), (922, 9, 921, 35), (912, 9, 910, 979), (967, 9, 966, 45), (971, 9, 970, 46), (958, 9, 956, 1025), (979, 9, 978, 47), (975, 9, 973, 1042), (984, 9, 982, 1051), (989, 9, 987, 1056), (993, 9, 991, 1060), (998, 9, 996, 1065), (1007, 9, 1006, 48), (1019, 9, 1018, 51), (1011, 9, 1010, 49), (1015, 9, 1014, 50), (1002, 9, 1000, 1069), (1023, 9, 1021, 1090), (1031, 9, 1030, 52), (1027, 9, 1025, 1094), (1035, 9, 1033, 1102), (1039, 9, 1037, 1106), (1047, 9, 1046, 53), (1043, 9, 1041, 1110), (1056, 9, 1055, 54), (1060, 9, 1059, 55), (1051, 9, 1049, 1118), (1075, 9, 1074, 0), (1072, 9, 1071, 0), (1069, 9, 1068, 0), (1064, 9, 1062, 1131), (1079, 9, 1077, 1146), (1087, 9, 1086, 56), (1083, 9, 1081, 1150), (1091, 9, 1089, 1158), (1095, 9, 1093, 1162), (1099, 9, 1097, 1166), (1106, 9, 1105, 0), (1103, 9, 1101, 1170), (1126, 9, 1125, 60), (1134, 9, 1133, 62), (1130, 9, 1129, 61), (1122, 9, 1121, 59), (1138, 9, 1137, 63), (1114, 9, 1113, 57), (1150, 9, 1149, 66), (1146, 9, 1145, 65), (1142, 9, 1141, 64), (1110, 9, 1108, 1177), (1154, 9, 1152, 1221), (1162, 9, 1161, 67), (1158, 9, 1156, 1225), (1166, 9, 1164, 1233)]
set_option maxRecDepth 100000 in
theorem poolM_e : poolM = poolMP.map (fun x => x.1) := by decide +kernel
set_option maxRecDepth 100000 in
theorem wMP : ∀ x ∈ poolMP, tables_1[x.2]? = some (wordM x.1) := by decide +kernel
theorem wM : ∀ q ∈ poolM, wordM q ∈ tables_1 := fun q hq => by
  rw [poolM_e] at hq
  obtain ⟨x, hx, rfl⟩ := List.mem_map.mp hq
  exact List.mem_of_getElem? (wMP x hx)
def wCode (k : Nat) : Cond := .code (mY k) (mB k) (mL k) (mR k)
def wSt (k : Nat) : Cond := if mS k then .static (mY k) else .instanceMethod (mY k)
def wSel (k : Nat) : Cond := .selects (mY k).cls (mY k) (mY k)
def wIni (k : Nat) : Cond := .initialized (mY k).cls
set_option maxRecDepth 100000 in
theorem mW1 : mPl.map (fun q => tables_1[q.1]?) = mT.map (fun x => some (Cond.code x.2.1 x.2.2.1 x.2.2.2.1 x.2.2.2.2.1)) := rfl
set_option maxRecDepth 100000 in
theorem mW2 : (List.range 206).all (fun k => decide (tables_1[(mPl.getD k (0, 0, 0, 0)).2.1]? = some (wIni k))) = true := by decide +kernel
set_option maxRecDepth 100000 in
theorem mW3 : (List.range 206).all (fun k => decide (tables_1[(mPl.getD k (0, 0, 0, 0)).2.2.1]? = some (wSt k))) = true := by decide +kernel
set_option maxRecDepth 100000 in
theorem mW4 : (List.range 206).all (fun k => mS k || decide ((mY k).name = "<init>") || decide (lw_tbl[(mPl.getD k (0, 0, 0, 0)).2.2.2]? = some (wSel k))) = true := by decide +kernel
set_option maxRecDepth 100000 in
theorem mW5 : (List.range 206).all (fun k => decide ((mY k).cls = cN (mOwn k) ∧ mL k ≤ 20 ∧ (mY k).cls ≠ "java/lang/invoke/MethodHandle" ∧ (mY k).cls ≠ "java/lang/invoke/VarHandle" ∧ (parseMethodDescriptor (mY k).desc).map (fun d => d.parameters.length) = some (mP k))) = true := by decide +kernel
set_option maxRecDepth 100000 in
theorem pF_ok : ∀ q ∈ poolF, q.2.1 < 9 := by decide +kernel
/-- the words that stay when the tables grow warm -/
def gwT : List Cond := lw_tbl.filter goodWord
theorem tb_in {w : Cond} (h : w ∈ tables_1) (hg : goodWord w = true := by rfl) : w ∈ gwT := List.mem_filter.mpr ⟨List.mem_append_right _ h, hg⟩
set_option maxRecDepth 100000 in
theorem cls_cl : ∀ ci < 9, vwCl[ci]? = some (cN ci, Ct ci, fnum ci) := fun ci h => by
  rcases (show ci = 0 ∨ ci = 1 ∨ ci = 2 ∨ ci = 3 ∨ ci = 4 ∨ ci = 5 ∨ ci = 6 ∨ ci = 7 ∨ ci = 8 by omega) with rfl | rfl | rfl | rfl | rfl | rfl | rfl | rfl | rfl <;> rfl
set_option maxRecDepth 100000 in
theorem cls_ws : ∀ ci < 9, ∀ w ∈ u_ws (cN ci) (Ct ci) (fnum ci), w ∈ tables_1 := by decide +kernel
set_option maxRecDepth 100000 in
theorem cls_wsg : ∀ ci < 9, ∀ w ∈ u_ws (cN ci) (Ct ci) (fnum ci), goodWord w = true := by decide +kernel
theorem cls_in {ci : Nat} (h : ci < 9) : ∀ w ∈ u_ws (cN ci) (Ct ci) (fnum ci), w ∈ gwT := fun w hw => tb_in (cls_ws _ h w hw) (cls_wsg _ h w hw)
set_option maxRecDepth 100000 in
theorem cls_ty : ∀ ci < 9, ∀ k, k < fnum ci → parseFieldDescriptor (Ct ci k).2.2.1 = some (Cty ci k) := by decide +kernel
set_option maxRecDepth 100000 in
theorem cls_nm : ∀ ci < 9, ∀ a, a < fnum ci → ∀ b, b < fnum ci → a ≠ b → (Ct ci a).2.1 ≠ (Ct ci b).2.1 := by decide +kernel
set_option maxRecDepth 100000 in
theorem cls_inst : ∀ ci < 9, Cond.instantiable (cN ci) (fnum ci) ∈ tables_1 ∧ Cond.initialized (cN ci) ∈ tables_1 := by decide +kernel
set_option maxRecDepth 100000 in
theorem cls_fin : ∀ ci < 9, ∀ k, k < fnum ci → (Ct ci k).2.2.2 = ffi ci k ∧ (Ct ci k).1 = cN ci := by decide +kernel
def isRefT : FieldType → Bool := fun t => match t with
  | .object _ | .array _ => true
  | _ => false
set_option maxRecDepth 100000 in
theorem cls_fty : ∀ ci < 9, ∀ k, k < fnum ci → (fty ci k = 0 → Cty ci k = .int) ∧ (fty ci k = 1 → isRefT (Cty ci k) = true) ∧ (fty ci k = 2 → Cty ci k = .boolean) ∧ fty ci k ≤ 2 := by decide +kernel
