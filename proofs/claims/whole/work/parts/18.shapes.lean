/-- the shapes behind both constructors -/
def SS : List Sh := [(7, 14, [some 1, some 13, some 15, some 20, some 25, some 31, some 177, some 246, some 248, some 249, some 250, none, none, none]),
  (4, 3, [some 2, some 11, some 12]),
  (22, 8, [some 3, some 4, some 5, some 6, some 7, some 8, some 9, some 10]),
  (20, 40, []),
  (20, 40, []),
  (20, 40, []),
  (20, 40, []),
  (20, 40, []),
  (20, 40, []),
  (20, 40, []),
  (20, 40, []),
  (20, 8, []),
  (20, 8, []),
  (3, 4, [some 14, none, none, none]),
  (20, 160, []),
  (5, 8, [some 16, some 17, some 18, some 19, none, none, none, none]),
  (20, 28, []),
  (20, 28, []),
  (20, 16, []),
  (20, 16, []),
  (5, 8, [some 21, some 22, some 23, some 24, none, none, none, none]),
  (20, 28, []),
  (20, 28, []),
  (20, 16, []),
  (20, 16, []),
  (6, 11, [some 20, some 26, some 27, some 28, some 29, some 30, none, none, none, none, none]),
  (20, 16, []),
  (20, 16, []),
  (20, 16, []),
  (20, 16, []),
  (20, 16, []),
  (0, 3, [some 32, none, none]),
  (24, 24, [some 33, some 39, some 45, some 51, some 57, some 63, some 69, some 75, some 81, some 87, some 93, some 99, some 105, some 111, some 117, some 123, some 129, some 135, some 141, some 147, some 153, some 159, some 165, some 171]),
  (6, 11, [some 20, some 34, some 35, some 36, some 37, some 38, none, none, none, none, none]),
  (20, 16, []),
  (20, 16, []),
  (20, 16, []),
  (20, 16, []),
  (20, 16, []),
  (6, 11, [some 20, some 40, some 41, some 42, some 43, some 44, none, none, none, none, none]),
  (20, 16, []),
  (20, 16, []),
  (20, 16, []),
  (20, 16, []),
  (20, 16, []),
  (6, 11, [some 20, some 46, some 47, some 48, some 49, some 50, none, none, none, none, none]),
  (20, 16, []),
  (20, 16, []),
  (20, 16, []),
  (20, 16, []),
  (20, 16, []),
  (6, 11, [some 20, some 52, some 53, some 54, some 55, some 56, none, none, none, none, none]),
  (20, 16, []),
  (20, 16, []),
  (20, 16, []),
  (20, 16, []),
  (20, 16, []),
  (6, 11, [some 20, some 58, some 59, some 60, some 61, some 62, none, none, none, none, none]),
  (20, 16, []),
  (20, 16, []),
  (20, 16, []),
  (20, 16, []),
  (20, 16, []),
  (6, 11, [some 20, some 64, some 65, some 66, some 67, some 68, none, none, none, none, none]),
  (20, 16, []),
  (20, 16, []),
  (20, 16, []),
  (20, 16, []),
  (20, 16, []),
  (6, 11, [some 20, some 70, some 71, some 72, some 73, some 74, none, none, none, none, none]),
  (20, 16, []),
  (20, 16, []),
  (20, 16, []),
  (20, 16, []),
  (20, 16, []),
  (6, 11, [some 20, some 76, some 77, some 78, some 79, some 80, none, none, none, none, none]),
  (20, 16, []),
  (20, 16, []),
  (20, 16, []),
  (20, 16, []),
  (20, 16, []),
  (6, 11, [some 20, some 82, some 83, some 84, some 85, some 86, none, none, none, none, none]),
  (20, 16, []),
  (20, 16, []),
  (20, 16, []),
  (20, 16, []),
  (20, 16, []),
  (6, 11, [some 20, some 88, some 89, some 90, some 91, some 92, none, none, none, none, none]),
  (20, 16, []),
  (20, 16, []),
  (20, 16, []),
  (20, 16, []),
  (20, 16, []),
  (6, 11, [some 20, some 94, some 95, some 96, some 97, some 98, none, none, none, none, none]),
  (20, 16, []),
  (20, 16, []),
  (20, 16, []),
  (20, 16, []),
  (20, 16, []),
  (6, 11, [some 20, some 100, some 101, some 102, some 103, some 104, none, none, none, none, none]),
  (20, 16, []),
  (20, 16, []),
  (20, 16, []),
  (20, 16, []),
  (20, 16, []),
  (6, 11, [some 20, some 106, some 107, some 108, some 109, some 110, none, none, none, none, none]),
  (20, 16, []),
  (20, 16, []),
  (20, 16, []),
  (20, 16, []),
  (20, 16, []),
  (6, 11, [some 20, some 112, some 113, some 114, some 115, some 116, none, none, none, none, none]),
  (20, 16, []),
  (20, 16, []),
  (20, 16, []),
  (20, 16, []),
  (20, 16, []),
  (6, 11, [some 20, some 118, some 119, some 120, some 121, some 122, none, none, none, none, none]),
  (20, 16, []),
  (20, 16, []),
  (20, 16, []),
  (20, 16, []),
  (20, 16, []),
  (6, 11, [some 20, some 124, some 125, some 126, some 127, some 128, none, none, none, none, none]),
  (20, 16, []),
  (20, 16, []),
  (20, 16, []),
  (20, 16, []),
  (20, 16, []),
  (6, 11, [some 20, some 130, some 131, some 132, some 133, some 134, none, none, none, none, none]),
  (20, 16, []),
  (20, 16, []),
  (20, 16, []),
  (20, 16, []),
  (20, 16, []),
  (6, 11, [some 20, some 136, some 137, some 138, some 139, some 140, none, none, none, none, none]),
  (20, 16, []),
  (20, 16, []),
  (20, 16, []),
  (20, 16, []),
  (20, 16, []),
  (6, 11, [some 20, some 142, some 143, some 144, some 145, some 146, none, none, none, none, none]),
  (20, 16, []),
  (20, 16, []),
  (20, 16, []),
  (20, 16, []),
  (20, 16, []),
  (6, 11, [some 20, some 148, some 149, some 150, some 151, some 152, none, none, none, none, none]),
  (20, 16, []),
  (20, 16, []),
  (20, 16, []),
  (20, 16, []),
  (20, 16, []),
  (6, 11, [some 20, some 154, some 155, some 156, some 157, some 158, none, none, none, none, none]),
  (20, 16, []),
  (20, 16, []),
  (20, 16, []),
  (20, 16, []),
  (20, 16, []),
  (6, 11, [some 20, some 160, some 161, some 162, some 163, some 164, none, none, none, none, none]),
  (20, 16, []),
  (20, 16, []),
  (20, 16, []),
  (20, 16, []),
  (20, 16, []),
  (6, 11, [some 20, some 166, some 167, some 168, some 169, some 170, none, none, none, none, none]),
  (20, 16, []),
  (20, 16, []),
  (20, 16, []),
  (20, 16, []),
  (20, 16, []),
  (6, 11, [some 20, some 172, some 173, some 174, some 175, some 176, none, none, none, none, none]),
  (20, 16, []),
  (20, 16, []),
  (20, 16, []),
  (20, 16, []),
  (20, 16, []),
  (2, 5, [some 178, some 25, some 179, some 185, some 191]),
  (20, 16, []),
  (6, 11, [some 20, some 180, some 181, some 182, some 183, some 184, none, none, none, none, none]),
  (20, 28, []),
  (20, 28, []),
  (20, 28, []),
  (20, 28, []),
  (20, 28, []),
  (6, 11, [some 20, some 186, some 187, some 188, some 189, some 190, none, none, none, none, none]),
  (20, 16, []),
  (20, 16, []),
  (20, 16, []),
  (20, 16, []),
  (20, 16, []),
  (24, 9, [some 192, some 198, some 204, some 210, some 216, some 222, some 228, some 234, some 240]),
  (6, 11, [some 20, some 193, some 194, some 195, some 196, some 197, none, none, none, none, none]),
  (20, 16, []),
  (20, 16, []),
  (20, 16, []),
  (20, 16, []),
  (20, 16, []),
  (6, 11, [some 20, some 199, some 200, some 201, some 202, some 203, none, none, none, none, none]),
  (20, 16, []),
  (20, 16, []),
  (20, 16, []),
  (20, 16, []),
  (20, 16, []),
  (6, 11, [some 20, some 205, some 206, some 207, some 208, some 209, none, none, none, none, none]),
  (20, 16, []),
  (20, 16, []),
  (20, 16, []),
  (20, 16, []),
  (20, 16, []),
  (6, 11, [some 20, some 211, some 212, some 213, some 214, some 215, none, none, none, none, none]),
  (20, 16, []),
  (20, 16, []),
  (20, 16, []),
  (20, 16, []),
  (20, 16, []),
  (6, 11, [some 20, some 217, some 218, some 219, some 220, some 221, none, none, none, none, none]),
  (20, 16, []),
  (20, 16, []),
  (20, 16, []),
  (20, 16, []),
  (20, 16, []),
  (6, 11, [some 20, some 223, some 224, some 225, some 226, some 227, none, none, none, none, none]),
  (20, 16, []),
  (20, 16, []),
  (20, 16, []),
  (20, 16, []),
  (20, 16, []),
  (6, 11, [some 20, some 229, some 230, some 231, some 232, some 233, none, none, none, none, none]),
  (20, 16, []),
  (20, 16, []),
  (20, 16, []),
  (20, 16, []),
  (20, 16, []),
  (6, 11, [some 20, some 235, some 236, some 237, some 238, some 239, none, none, none, none, none]),
  (20, 16, []),
  (20, 16, []),
  (20, 16, []),
  (20, 16, []),
  (20, 16, []),
  (6, 11, [some 20, some 241, some 242, some 243, some 244, some 245, none, none, none, none, none]),
  (20, 16, []),
  (20, 16, []),
  (20, 16, []),
  (20, 16, []),
  (20, 16, []),
  (1, 4, [some 20, some 25, some 247, none]),
  (20, 16, []),
  (23, 2, [some 251, some 262]),
  (24, 2, [some 256, some 267]),
  (21, 2, []),
  (5, 8, [some 252, some 253, some 254, some 255, none, none, none, none]),
  (20, 28, []),
  (20, 28, []),
  (20, 16, []),
  (20, 16, []),
  (6, 11, [some 251, some 257, some 258, some 259, some 260, some 261, none, none, none, none, none]),
  (20, 16, []),
  (20, 16, []),
  (20, 16, []),
  (20, 16, []),
  (20, 16, []),
  (5, 8, [some 263, some 264, some 265, some 266, none, none, none, none]),
  (20, 28, []),
  (20, 28, []),
  (20, 16, []),
  (20, 16, []),
  (6, 11, [some 262, some 268, some 269, some 270, some 271, some 272, none, none, none, none, none]),
  (20, 16, []),
  (20, 16, []),
  (20, 16, []),
  (20, 16, []),
  (20, 16, []),
  (8, 22, [some 274, some 275, some 276, some 277, none, some 278, none, some 279, some 280, some 281, some 282, some 283, some 284, none, none, none, none, some 285, some 286, some 287, some 288, none]),
  (20, 232, []),
  (20, 464, []),
  (21, 2, []),
  (20, 3480, []),
  (20, 232, []),
  (20, 8, []),
  (20, 8, []),
  (21, 8, []),
  (20, 320, []),
  (20, 40, []),
  (20, 160, []),
  (20, 232, []),
  (20, 28, []),
  (20, 28, []),
  (20, 16, [])]
theorem s_0 : SS[0]? = some (7, 14, [some 1, some 13, some 15, some 20, some 25, some 31, some 177, some 246, some 248, some 249, some 250, none, none, none]) := by decide +kernel
theorem s_1 : SS[1]? = some (4, 3, [some 2, some 11, some 12]) := by decide +kernel
theorem s_2 : SS[2]? = some (22, 8, [some 3, some 4, some 5, some 6, some 7, some 8, some 9, some 10]) := by decide +kernel
theorem s_3 : SS[3]? = some (20, 40, []) := by decide +kernel
theorem s_4 : SS[4]? = some (20, 40, []) := by decide +kernel
theorem s_5 : SS[5]? = some (20, 40, []) := by decide +kernel
theorem s_6 : SS[6]? = some (20, 40, []) := by decide +kernel
theorem s_7 : SS[7]? = some (20, 40, []) := by decide +kernel
theorem s_8 : SS[8]? = some (20, 40, []) := by decide +kernel
theorem s_9 : SS[9]? = some (20, 40, []) := by decide +kernel
theorem s_10 : SS[10]? = some (20, 40, []) := by decide +kernel
theorem s_11 : SS[11]? = some (20, 8, []) := by decide +kernel
theorem s_12 : SS[12]? = some (20, 8, []) := by decide +kernel
theorem s_13 : SS[13]? = some (3, 4, [some 14, none, none, none]) := by decide +kernel
theorem s_14 : SS[14]? = some (20, 160, []) := by decide +kernel
theorem s_15 : SS[15]? = some (5, 8, [some 16, some 17, some 18, some 19, none, none, none, none]) := by decide +kernel
theorem s_16 : SS[16]? = some (20, 28, []) := by decide +kernel
theorem s_17 : SS[17]? = some (20, 28, []) := by decide +kernel
theorem s_18 : SS[18]? = some (20, 16, []) := by decide +kernel
theorem s_19 : SS[19]? = some (20, 16, []) := by decide +kernel
theorem s_20 : SS[20]? = some (5, 8, [some 21, some 22, some 23, some 24, none, none, none, none]) := by decide +kernel
theorem s_21 : SS[21]? = some (20, 28, []) := by decide +kernel
theorem s_22 : SS[22]? = some (20, 28, []) := by decide +kernel
theorem s_23 : SS[23]? = some (20, 16, []) := by decide +kernel
theorem s_24 : SS[24]? = some (20, 16, []) := by decide +kernel
theorem s_25 : SS[25]? = some (6, 11, [some 20, some 26, some 27, some 28, some 29, some 30, none, none, none, none, none]) := by decide +kernel
theorem s_26 : SS[26]? = some (20, 16, []) := by decide +kernel
theorem s_27 : SS[27]? = some (20, 16, []) := by decide +kernel
theorem s_28 : SS[28]? = some (20, 16, []) := by decide +kernel
theorem s_29 : SS[29]? = some (20, 16, []) := by decide +kernel
theorem s_30 : SS[30]? = some (20, 16, []) := by decide +kernel
theorem s_31 : SS[31]? = some (0, 3, [some 32, none, none]) := by decide +kernel
theorem s_32 : SS[32]? = some (24, 24, [some 33, some 39, some 45, some 51, some 57, some 63, some 69, some 75, some 81, some 87, some 93, some 99, some 105, some 111, some 117, some 123, some 129, some 135, some 141, some 147, some 153, some 159, some 165, some 171]) := by decide +kernel
theorem s_33 : SS[33]? = some (6, 11, [some 20, some 34, some 35, some 36, some 37, some 38, none, none, none, none, none]) := by decide +kernel
theorem s_34 : SS[34]? = some (20, 16, []) := by decide +kernel
theorem s_35 : SS[35]? = some (20, 16, []) := by decide +kernel
theorem s_36 : SS[36]? = some (20, 16, []) := by decide +kernel
theorem s_37 : SS[37]? = some (20, 16, []) := by decide +kernel
theorem s_38 : SS[38]? = some (20, 16, []) := by decide +kernel
theorem s_39 : SS[39]? = some (6, 11, [some 20, some 40, some 41, some 42, some 43, some 44, none, none, none, none, none]) := by decide +kernel
theorem s_40 : SS[40]? = some (20, 16, []) := by decide +kernel
theorem s_41 : SS[41]? = some (20, 16, []) := by decide +kernel
theorem s_42 : SS[42]? = some (20, 16, []) := by decide +kernel
theorem s_43 : SS[43]? = some (20, 16, []) := by decide +kernel
theorem s_44 : SS[44]? = some (20, 16, []) := by decide +kernel
theorem s_45 : SS[45]? = some (6, 11, [some 20, some 46, some 47, some 48, some 49, some 50, none, none, none, none, none]) := by decide +kernel
theorem s_46 : SS[46]? = some (20, 16, []) := by decide +kernel
theorem s_47 : SS[47]? = some (20, 16, []) := by decide +kernel
theorem s_48 : SS[48]? = some (20, 16, []) := by decide +kernel
theorem s_49 : SS[49]? = some (20, 16, []) := by decide +kernel
theorem s_50 : SS[50]? = some (20, 16, []) := by decide +kernel
theorem s_51 : SS[51]? = some (6, 11, [some 20, some 52, some 53, some 54, some 55, some 56, none, none, none, none, none]) := by decide +kernel
theorem s_52 : SS[52]? = some (20, 16, []) := by decide +kernel
theorem s_53 : SS[53]? = some (20, 16, []) := by decide +kernel
theorem s_54 : SS[54]? = some (20, 16, []) := by decide +kernel
theorem s_55 : SS[55]? = some (20, 16, []) := by decide +kernel
theorem s_56 : SS[56]? = some (20, 16, []) := by decide +kernel
theorem s_57 : SS[57]? = some (6, 11, [some 20, some 58, some 59, some 60, some 61, some 62, none, none, none, none, none]) := by decide +kernel
theorem s_58 : SS[58]? = some (20, 16, []) := by decide +kernel
theorem s_59 : SS[59]? = some (20, 16, []) := by decide +kernel
theorem s_60 : SS[60]? = some (20, 16, []) := by decide +kernel
theorem s_61 : SS[61]? = some (20, 16, []) := by decide +kernel
theorem s_62 : SS[62]? = some (20, 16, []) := by decide +kernel
theorem s_63 : SS[63]? = some (6, 11, [some 20, some 64, some 65, some 66, some 67, some 68, none, none, none, none, none]) := by decide +kernel
theorem s_64 : SS[64]? = some (20, 16, []) := by decide +kernel
theorem s_65 : SS[65]? = some (20, 16, []) := by decide +kernel
theorem s_66 : SS[66]? = some (20, 16, []) := by decide +kernel
theorem s_67 : SS[67]? = some (20, 16, []) := by decide +kernel
theorem s_68 : SS[68]? = some (20, 16, []) := by decide +kernel
theorem s_69 : SS[69]? = some (6, 11, [some 20, some 70, some 71, some 72, some 73, some 74, none, none, none, none, none]) := by decide +kernel
theorem s_70 : SS[70]? = some (20, 16, []) := by decide +kernel
theorem s_71 : SS[71]? = some (20, 16, []) := by decide +kernel
theorem s_72 : SS[72]? = some (20, 16, []) := by decide +kernel
theorem s_73 : SS[73]? = some (20, 16, []) := by decide +kernel
theorem s_74 : SS[74]? = some (20, 16, []) := by decide +kernel
theorem s_75 : SS[75]? = some (6, 11, [some 20, some 76, some 77, some 78, some 79, some 80, none, none, none, none, none]) := by decide +kernel
theorem s_76 : SS[76]? = some (20, 16, []) := by decide +kernel
theorem s_77 : SS[77]? = some (20, 16, []) := by decide +kernel
theorem s_78 : SS[78]? = some (20, 16, []) := by decide +kernel
theorem s_79 : SS[79]? = some (20, 16, []) := by decide +kernel
theorem s_80 : SS[80]? = some (20, 16, []) := by decide +kernel
theorem s_81 : SS[81]? = some (6, 11, [some 20, some 82, some 83, some 84, some 85, some 86, none, none, none, none, none]) := by decide +kernel
theorem s_82 : SS[82]? = some (20, 16, []) := by decide +kernel
theorem s_83 : SS[83]? = some (20, 16, []) := by decide +kernel
theorem s_84 : SS[84]? = some (20, 16, []) := by decide +kernel
theorem s_85 : SS[85]? = some (20, 16, []) := by decide +kernel
theorem s_86 : SS[86]? = some (20, 16, []) := by decide +kernel
theorem s_87 : SS[87]? = some (6, 11, [some 20, some 88, some 89, some 90, some 91, some 92, none, none, none, none, none]) := by decide +kernel
theorem s_88 : SS[88]? = some (20, 16, []) := by decide +kernel
theorem s_89 : SS[89]? = some (20, 16, []) := by decide +kernel
theorem s_90 : SS[90]? = some (20, 16, []) := by decide +kernel
theorem s_91 : SS[91]? = some (20, 16, []) := by decide +kernel
theorem s_92 : SS[92]? = some (20, 16, []) := by decide +kernel
theorem s_93 : SS[93]? = some (6, 11, [some 20, some 94, some 95, some 96, some 97, some 98, none, none, none, none, none]) := by decide +kernel
theorem s_94 : SS[94]? = some (20, 16, []) := by decide +kernel
theorem s_95 : SS[95]? = some (20, 16, []) := by decide +kernel
theorem s_96 : SS[96]? = some (20, 16, []) := by decide +kernel
theorem s_97 : SS[97]? = some (20, 16, []) := by decide +kernel
theorem s_98 : SS[98]? = some (20, 16, []) := by decide +kernel
theorem s_99 : SS[99]? = some (6, 11, [some 20, some 100, some 101, some 102, some 103, some 104, none, none, none, none, none]) := by decide +kernel
theorem s_100 : SS[100]? = some (20, 16, []) := by decide +kernel
theorem s_101 : SS[101]? = some (20, 16, []) := by decide +kernel
theorem s_102 : SS[102]? = some (20, 16, []) := by decide +kernel
theorem s_103 : SS[103]? = some (20, 16, []) := by decide +kernel
theorem s_104 : SS[104]? = some (20, 16, []) := by decide +kernel
theorem s_105 : SS[105]? = some (6, 11, [some 20, some 106, some 107, some 108, some 109, some 110, none, none, none, none, none]) := by decide +kernel
theorem s_106 : SS[106]? = some (20, 16, []) := by decide +kernel
theorem s_107 : SS[107]? = some (20, 16, []) := by decide +kernel
theorem s_108 : SS[108]? = some (20, 16, []) := by decide +kernel
theorem s_109 : SS[109]? = some (20, 16, []) := by decide +kernel
theorem s_110 : SS[110]? = some (20, 16, []) := by decide +kernel
theorem s_111 : SS[111]? = some (6, 11, [some 20, some 112, some 113, some 114, some 115, some 116, none, none, none, none, none]) := by decide +kernel
theorem s_112 : SS[112]? = some (20, 16, []) := by decide +kernel
theorem s_113 : SS[113]? = some (20, 16, []) := by decide +kernel
theorem s_114 : SS[114]? = some (20, 16, []) := by decide +kernel
theorem s_115 : SS[115]? = some (20, 16, []) := by decide +kernel
theorem s_116 : SS[116]? = some (20, 16, []) := by decide +kernel
theorem s_117 : SS[117]? = some (6, 11, [some 20, some 118, some 119, some 120, some 121, some 122, none, none, none, none, none]) := by decide +kernel
theorem s_118 : SS[118]? = some (20, 16, []) := by decide +kernel
theorem s_119 : SS[119]? = some (20, 16, []) := by decide +kernel
theorem s_120 : SS[120]? = some (20, 16, []) := by decide +kernel
theorem s_121 : SS[121]? = some (20, 16, []) := by decide +kernel
theorem s_122 : SS[122]? = some (20, 16, []) := by decide +kernel
theorem s_123 : SS[123]? = some (6, 11, [some 20, some 124, some 125, some 126, some 127, some 128, none, none, none, none, none]) := by decide +kernel
theorem s_124 : SS[124]? = some (20, 16, []) := by decide +kernel
theorem s_125 : SS[125]? = some (20, 16, []) := by decide +kernel
theorem s_126 : SS[126]? = some (20, 16, []) := by decide +kernel
theorem s_127 : SS[127]? = some (20, 16, []) := by decide +kernel
theorem s_128 : SS[128]? = some (20, 16, []) := by decide +kernel
theorem s_129 : SS[129]? = some (6, 11, [some 20, some 130, some 131, some 132, some 133, some 134, none, none, none, none, none]) := by decide +kernel
theorem s_130 : SS[130]? = some (20, 16, []) := by decide +kernel
theorem s_131 : SS[131]? = some (20, 16, []) := by decide +kernel
theorem s_132 : SS[132]? = some (20, 16, []) := by decide +kernel
theorem s_133 : SS[133]? = some (20, 16, []) := by decide +kernel
theorem s_134 : SS[134]? = some (20, 16, []) := by decide +kernel
theorem s_135 : SS[135]? = some (6, 11, [some 20, some 136, some 137, some 138, some 139, some 140, none, none, none, none, none]) := by decide +kernel
theorem s_136 : SS[136]? = some (20, 16, []) := by decide +kernel
theorem s_137 : SS[137]? = some (20, 16, []) := by decide +kernel
theorem s_138 : SS[138]? = some (20, 16, []) := by decide +kernel
theorem s_139 : SS[139]? = some (20, 16, []) := by decide +kernel
theorem s_140 : SS[140]? = some (20, 16, []) := by decide +kernel
theorem s_141 : SS[141]? = some (6, 11, [some 20, some 142, some 143, some 144, some 145, some 146, none, none, none, none, none]) := by decide +kernel
theorem s_142 : SS[142]? = some (20, 16, []) := by decide +kernel
theorem s_143 : SS[143]? = some (20, 16, []) := by decide +kernel
theorem s_144 : SS[144]? = some (20, 16, []) := by decide +kernel
theorem s_145 : SS[145]? = some (20, 16, []) := by decide +kernel
theorem s_146 : SS[146]? = some (20, 16, []) := by decide +kernel
theorem s_147 : SS[147]? = some (6, 11, [some 20, some 148, some 149, some 150, some 151, some 152, none, none, none, none, none]) := by decide +kernel
theorem s_148 : SS[148]? = some (20, 16, []) := by decide +kernel
theorem s_149 : SS[149]? = some (20, 16, []) := by decide +kernel
theorem s_150 : SS[150]? = some (20, 16, []) := by decide +kernel
theorem s_151 : SS[151]? = some (20, 16, []) := by decide +kernel
theorem s_152 : SS[152]? = some (20, 16, []) := by decide +kernel
theorem s_153 : SS[153]? = some (6, 11, [some 20, some 154, some 155, some 156, some 157, some 158, none, none, none, none, none]) := by decide +kernel
theorem s_154 : SS[154]? = some (20, 16, []) := by decide +kernel
theorem s_155 : SS[155]? = some (20, 16, []) := by decide +kernel
theorem s_156 : SS[156]? = some (20, 16, []) := by decide +kernel
theorem s_157 : SS[157]? = some (20, 16, []) := by decide +kernel
theorem s_158 : SS[158]? = some (20, 16, []) := by decide +kernel
theorem s_159 : SS[159]? = some (6, 11, [some 20, some 160, some 161, some 162, some 163, some 164, none, none, none, none, none]) := by decide +kernel
theorem s_160 : SS[160]? = some (20, 16, []) := by decide +kernel
theorem s_161 : SS[161]? = some (20, 16, []) := by decide +kernel
theorem s_162 : SS[162]? = some (20, 16, []) := by decide +kernel
theorem s_163 : SS[163]? = some (20, 16, []) := by decide +kernel
theorem s_164 : SS[164]? = some (20, 16, []) := by decide +kernel
theorem s_165 : SS[165]? = some (6, 11, [some 20, some 166, some 167, some 168, some 169, some 170, none, none, none, none, none]) := by decide +kernel
theorem s_166 : SS[166]? = some (20, 16, []) := by decide +kernel
theorem s_167 : SS[167]? = some (20, 16, []) := by decide +kernel
theorem s_168 : SS[168]? = some (20, 16, []) := by decide +kernel
theorem s_169 : SS[169]? = some (20, 16, []) := by decide +kernel
theorem s_170 : SS[170]? = some (20, 16, []) := by decide +kernel
theorem s_171 : SS[171]? = some (6, 11, [some 20, some 172, some 173, some 174, some 175, some 176, none, none, none, none, none]) := by decide +kernel
theorem s_172 : SS[172]? = some (20, 16, []) := by decide +kernel
theorem s_173 : SS[173]? = some (20, 16, []) := by decide +kernel
theorem s_174 : SS[174]? = some (20, 16, []) := by decide +kernel
theorem s_175 : SS[175]? = some (20, 16, []) := by decide +kernel
theorem s_176 : SS[176]? = some (20, 16, []) := by decide +kernel
theorem s_177 : SS[177]? = some (2, 5, [some 178, some 25, some 179, some 185, some 191]) := by decide +kernel
theorem s_178 : SS[178]? = some (20, 16, []) := by decide +kernel
theorem s_179 : SS[179]? = some (6, 11, [some 20, some 180, some 181, some 182, some 183, some 184, none, none, none, none, none]) := by decide +kernel
theorem s_180 : SS[180]? = some (20, 28, []) := by decide +kernel
theorem s_181 : SS[181]? = some (20, 28, []) := by decide +kernel
theorem s_182 : SS[182]? = some (20, 28, []) := by decide +kernel
theorem s_183 : SS[183]? = some (20, 28, []) := by decide +kernel
theorem s_184 : SS[184]? = some (20, 28, []) := by decide +kernel
theorem s_185 : SS[185]? = some (6, 11, [some 20, some 186, some 187, some 188, some 189, some 190, none, none, none, none, none]) := by decide +kernel
theorem s_186 : SS[186]? = some (20, 16, []) := by decide +kernel
theorem s_187 : SS[187]? = some (20, 16, []) := by decide +kernel
theorem s_188 : SS[188]? = some (20, 16, []) := by decide +kernel
theorem s_189 : SS[189]? = some (20, 16, []) := by decide +kernel
theorem s_190 : SS[190]? = some (20, 16, []) := by decide +kernel
theorem s_191 : SS[191]? = some (24, 9, [some 192, some 198, some 204, some 210, some 216, some 222, some 228, some 234, some 240]) := by decide +kernel
theorem s_192 : SS[192]? = some (6, 11, [some 20, some 193, some 194, some 195, some 196, some 197, none, none, none, none, none]) := by decide +kernel
theorem s_193 : SS[193]? = some (20, 16, []) := by decide +kernel
theorem s_194 : SS[194]? = some (20, 16, []) := by decide +kernel
theorem s_195 : SS[195]? = some (20, 16, []) := by decide +kernel
theorem s_196 : SS[196]? = some (20, 16, []) := by decide +kernel
theorem s_197 : SS[197]? = some (20, 16, []) := by decide +kernel
theorem s_198 : SS[198]? = some (6, 11, [some 20, some 199, some 200, some 201, some 202, some 203, none, none, none, none, none]) := by decide +kernel
theorem s_199 : SS[199]? = some (20, 16, []) := by decide +kernel
theorem s_200 : SS[200]? = some (20, 16, []) := by decide +kernel
theorem s_201 : SS[201]? = some (20, 16, []) := by decide +kernel
theorem s_202 : SS[202]? = some (20, 16, []) := by decide +kernel
theorem s_203 : SS[203]? = some (20, 16, []) := by decide +kernel
theorem s_204 : SS[204]? = some (6, 11, [some 20, some 205, some 206, some 207, some 208, some 209, none, none, none, none, none]) := by decide +kernel
theorem s_205 : SS[205]? = some (20, 16, []) := by decide +kernel
theorem s_206 : SS[206]? = some (20, 16, []) := by decide +kernel
theorem s_207 : SS[207]? = some (20, 16, []) := by decide +kernel
theorem s_208 : SS[208]? = some (20, 16, []) := by decide +kernel
theorem s_209 : SS[209]? = some (20, 16, []) := by decide +kernel
theorem s_210 : SS[210]? = some (6, 11, [some 20, some 211, some 212, some 213, some 214, some 215, none, none, none, none, none]) := by decide +kernel
theorem s_211 : SS[211]? = some (20, 16, []) := by decide +kernel
theorem s_212 : SS[212]? = some (20, 16, []) := by decide +kernel
theorem s_213 : SS[213]? = some (20, 16, []) := by decide +kernel
theorem s_214 : SS[214]? = some (20, 16, []) := by decide +kernel
theorem s_215 : SS[215]? = some (20, 16, []) := by decide +kernel
theorem s_216 : SS[216]? = some (6, 11, [some 20, some 217, some 218, some 219, some 220, some 221, none, none, none, none, none]) := by decide +kernel
theorem s_217 : SS[217]? = some (20, 16, []) := by decide +kernel
theorem s_218 : SS[218]? = some (20, 16, []) := by decide +kernel
theorem s_219 : SS[219]? = some (20, 16, []) := by decide +kernel
theorem s_220 : SS[220]? = some (20, 16, []) := by decide +kernel
theorem s_221 : SS[221]? = some (20, 16, []) := by decide +kernel
theorem s_222 : SS[222]? = some (6, 11, [some 20, some 223, some 224, some 225, some 226, some 227, none, none, none, none, none]) := by decide +kernel
theorem s_223 : SS[223]? = some (20, 16, []) := by decide +kernel
theorem s_224 : SS[224]? = some (20, 16, []) := by decide +kernel
theorem s_225 : SS[225]? = some (20, 16, []) := by decide +kernel
theorem s_226 : SS[226]? = some (20, 16, []) := by decide +kernel
theorem s_227 : SS[227]? = some (20, 16, []) := by decide +kernel
theorem s_228 : SS[228]? = some (6, 11, [some 20, some 229, some 230, some 231, some 232, some 233, none, none, none, none, none]) := by decide +kernel
theorem s_229 : SS[229]? = some (20, 16, []) := by decide +kernel
theorem s_230 : SS[230]? = some (20, 16, []) := by decide +kernel
theorem s_231 : SS[231]? = some (20, 16, []) := by decide +kernel
theorem s_232 : SS[232]? = some (20, 16, []) := by decide +kernel
theorem s_233 : SS[233]? = some (20, 16, []) := by decide +kernel
theorem s_234 : SS[234]? = some (6, 11, [some 20, some 235, some 236, some 237, some 238, some 239, none, none, none, none, none]) := by decide +kernel
theorem s_235 : SS[235]? = some (20, 16, []) := by decide +kernel
theorem s_236 : SS[236]? = some (20, 16, []) := by decide +kernel
theorem s_237 : SS[237]? = some (20, 16, []) := by decide +kernel
theorem s_238 : SS[238]? = some (20, 16, []) := by decide +kernel
theorem s_239 : SS[239]? = some (20, 16, []) := by decide +kernel
theorem s_240 : SS[240]? = some (6, 11, [some 20, some 241, some 242, some 243, some 244, some 245, none, none, none, none, none]) := by decide +kernel
theorem s_241 : SS[241]? = some (20, 16, []) := by decide +kernel
theorem s_242 : SS[242]? = some (20, 16, []) := by decide +kernel
theorem s_243 : SS[243]? = some (20, 16, []) := by decide +kernel
theorem s_244 : SS[244]? = some (20, 16, []) := by decide +kernel
theorem s_245 : SS[245]? = some (20, 16, []) := by decide +kernel
theorem s_246 : SS[246]? = some (1, 4, [some 20, some 25, some 247, none]) := by decide +kernel
theorem s_247 : SS[247]? = some (20, 16, []) := by decide +kernel
theorem s_248 : SS[248]? = some (23, 2, [some 251, some 262]) := by decide +kernel
theorem s_249 : SS[249]? = some (24, 2, [some 256, some 267]) := by decide +kernel
theorem s_250 : SS[250]? = some (21, 2, []) := by decide +kernel
theorem s_251 : SS[251]? = some (5, 8, [some 252, some 253, some 254, some 255, none, none, none, none]) := by decide +kernel
theorem s_252 : SS[252]? = some (20, 28, []) := by decide +kernel
theorem s_253 : SS[253]? = some (20, 28, []) := by decide +kernel
theorem s_254 : SS[254]? = some (20, 16, []) := by decide +kernel
theorem s_255 : SS[255]? = some (20, 16, []) := by decide +kernel
theorem s_256 : SS[256]? = some (6, 11, [some 251, some 257, some 258, some 259, some 260, some 261, none, none, none, none, none]) := by decide +kernel
theorem s_257 : SS[257]? = some (20, 16, []) := by decide +kernel
theorem s_258 : SS[258]? = some (20, 16, []) := by decide +kernel
theorem s_259 : SS[259]? = some (20, 16, []) := by decide +kernel
theorem s_260 : SS[260]? = some (20, 16, []) := by decide +kernel
theorem s_261 : SS[261]? = some (20, 16, []) := by decide +kernel
theorem s_262 : SS[262]? = some (5, 8, [some 263, some 264, some 265, some 266, none, none, none, none]) := by decide +kernel
theorem s_263 : SS[263]? = some (20, 28, []) := by decide +kernel
theorem s_264 : SS[264]? = some (20, 28, []) := by decide +kernel
theorem s_265 : SS[265]? = some (20, 16, []) := by decide +kernel
theorem s_266 : SS[266]? = some (20, 16, []) := by decide +kernel
theorem s_267 : SS[267]? = some (6, 11, [some 262, some 268, some 269, some 270, some 271, some 272, none, none, none, none, none]) := by decide +kernel
theorem s_268 : SS[268]? = some (20, 16, []) := by decide +kernel
theorem s_269 : SS[269]? = some (20, 16, []) := by decide +kernel
theorem s_270 : SS[270]? = some (20, 16, []) := by decide +kernel
theorem s_271 : SS[271]? = some (20, 16, []) := by decide +kernel
theorem s_272 : SS[272]? = some (20, 16, []) := by decide +kernel
theorem s_273 : SS[273]? = some (8, 22, [some 274, some 275, some 276, some 277, none, some 278, none, some 279, some 280, some 281, some 282, some 283, some 284, none, none, none, none, some 285, some 286, some 287, some 288, none]) := by decide +kernel
theorem s_274 : SS[274]? = some (20, 232, []) := by decide +kernel
theorem s_275 : SS[275]? = some (20, 464, []) := by decide +kernel
theorem s_276 : SS[276]? = some (21, 2, []) := by decide +kernel
theorem s_277 : SS[277]? = some (20, 3480, []) := by decide +kernel
theorem s_278 : SS[278]? = some (20, 232, []) := by decide +kernel
theorem s_279 : SS[279]? = some (20, 8, []) := by decide +kernel
theorem s_280 : SS[280]? = some (20, 8, []) := by decide +kernel
theorem s_281 : SS[281]? = some (21, 8, []) := by decide +kernel
theorem s_282 : SS[282]? = some (20, 320, []) := by decide +kernel
theorem s_283 : SS[283]? = some (20, 40, []) := by decide +kernel
theorem s_284 : SS[284]? = some (20, 160, []) := by decide +kernel
theorem s_285 : SS[285]? = some (20, 232, []) := by decide +kernel
theorem s_286 : SS[286]? = some (20, 28, []) := by decide +kernel
theorem s_287 : SS[287]? = some (20, 28, []) := by decide +kernel
theorem s_288 : SS[288]? = some (20, 16, []) := by decide +kernel
