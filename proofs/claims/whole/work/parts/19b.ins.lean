theorem o_84 : mOwn 84 = 7 := rfl
theorem i_84_0 : ins 84 0 = some (.aload_n 0) := by decide +kernel
theorem i_84_1 : ins 84 1 = some (.invokespecial 1) := by decide +kernel
theorem i_84_4 : ins 84 4 = some (.aload_n 0) := by decide +kernel
theorem i_84_5 : ins 84 5 = some (.new 7) := by decide +kernel
theorem i_84_8 : ins 84 8 = some (.dup) := by decide +kernel
theorem i_84_9 : ins 84 9 = some (.invokespecial 9) := by decide +kernel
theorem i_84_12 : ins 84 12 = some (.putfield 10) := by decide +kernel
theorem i_84_15 : ins 84 15 = some (.aload_n 0) := by decide +kernel
theorem i_84_16 : ins 84 16 = some (.new 16) := by decide +kernel
theorem i_84_19 : ins 84 19 = some (.dup) := by decide +kernel
theorem i_84_20 : ins 84 20 = some (.invokespecial 18) := by decide +kernel
theorem i_84_23 : ins 84 23 = some (.putfield 19) := by decide +kernel
theorem i_84_26 : ins 84 26 = some (.aload_n 0) := by decide +kernel
theorem i_84_27 : ins 84 27 = some (.new 23) := by decide +kernel
theorem i_84_30 : ins 84 30 = some (.dup) := by decide +kernel
theorem i_84_31 : ins 84 31 = some (.invokespecial 25) := by decide +kernel
theorem i_84_34 : ins 84 34 = some (.putfield 26) := by decide +kernel
theorem i_84_37 : ins 84 37 = some (.aload_n 0) := by decide +kernel
theorem i_84_38 : ins 84 38 = some (.new 23) := by decide +kernel
theorem i_84_41 : ins 84 41 = some (.dup) := by decide +kernel
theorem i_84_42 : ins 84 42 = some (.invokespecial 25) := by decide +kernel
theorem i_84_45 : ins 84 45 = some (.putfield 30) := by decide +kernel
theorem i_84_48 : ins 84 48 = some (.aload_n 0) := by decide +kernel
theorem i_84_49 : ins 84 49 = some (.new 33) := by decide +kernel
theorem i_84_52 : ins 84 52 = some (.dup) := by decide +kernel
theorem i_84_53 : ins 84 53 = some (.aload_n 0) := by decide +kernel
theorem i_84_54 : ins 84 54 = some (.getfield 30) := by decide +kernel
theorem i_84_57 : ins 84 57 = some (.bipush 16) := by decide +kernel
theorem i_84_59 : ins 84 59 = some (.invokespecial 35) := by decide +kernel
theorem i_84_62 : ins 84 62 = some (.putfield 38) := by decide +kernel
theorem i_84_65 : ins 84 65 = some (.aload_n 0) := by decide +kernel
theorem i_84_66 : ins 84 66 = some (.new 42) := by decide +kernel
theorem i_84_69 : ins 84 69 = some (.dup) := by decide +kernel
theorem i_84_70 : ins 84 70 = some (.aload_n 0) := by decide +kernel
theorem i_84_71 : ins 84 71 = some (.getfield 30) := by decide +kernel
theorem i_84_74 : ins 84 74 = some (.invokespecial 44) := by decide +kernel
theorem i_84_77 : ins 84 77 = some (.putfield 47) := by decide +kernel
theorem i_84_80 : ins 84 80 = some (.aload_n 0) := by decide +kernel
theorem i_84_81 : ins 84 81 = some (.new 51) := by decide +kernel
theorem i_84_84 : ins 84 84 = some (.dup) := by decide +kernel
theorem i_84_85 : ins 84 85 = some (.aload_n 0) := by decide +kernel
theorem i_84_86 : ins 84 86 = some (.getfield 30) := by decide +kernel
theorem i_84_89 : ins 84 89 = some (.aload_n 0) := by decide +kernel
theorem i_84_90 : ins 84 90 = some (.getfield 38) := by decide +kernel
theorem i_84_93 : ins 84 93 = some (.invokespecial 53) := by decide +kernel
theorem i_84_96 : ins 84 96 = some (.putfield 56) := by decide +kernel
theorem i_84_99 : ins 84 99 = some (.aload_n 0) := by decide +kernel
theorem i_84_100 : ins 84 100 = some (.new 60) := by decide +kernel
theorem i_84_103 : ins 84 103 = some (.dup) := by decide +kernel
theorem i_84_104 : ins 84 104 = some (.aload_n 0) := by decide +kernel
theorem i_84_105 : ins 84 105 = some (.getfield 30) := by decide +kernel
theorem i_84_108 : ins 84 108 = some (.aload_n 0) := by decide +kernel
theorem i_84_109 : ins 84 109 = some (.getfield 38) := by decide +kernel
theorem i_84_112 : ins 84 112 = some (.invokespecial 62) := by decide +kernel
theorem i_84_115 : ins 84 115 = some (.putfield 63) := by decide +kernel
theorem i_84_118 : ins 84 118 = some (.aload_n 0) := by decide +kernel
theorem i_84_119 : ins 84 119 = some (.iconst 2) := by decide +kernel
theorem i_84_120 : ins 84 120 = some (.anewarray 23) := by decide +kernel
theorem i_84_123 : ins 84 123 = some (.putfield 67) := by decide +kernel
theorem i_84_126 : ins 84 126 = some (.aload_n 0) := by decide +kernel
theorem i_84_127 : ins 84 127 = some (.iconst 2) := by decide +kernel
theorem i_84_128 : ins 84 128 = some (.anewarray 33) := by decide +kernel
theorem i_84_131 : ins 84 131 = some (.putfield 71) := by decide +kernel
theorem i_84_134 : ins 84 134 = some (.aload_n 0) := by decide +kernel
theorem i_84_135 : ins 84 135 = some (.iconst 2) := by decide +kernel
theorem i_84_136 : ins 84 136 = some (.newarray .boolean) := by decide +kernel
theorem i_84_138 : ins 84 138 = some (.putfield 75) := by decide +kernel
theorem i_84_141 : ins 84 141 = some (.iconst 0) := by decide +kernel
theorem i_84_142 : ins 84 142 = some (.istore_n 1) := by decide +kernel
theorem i_84_143 : ins 84 143 = some (.iload_n 1) := by decide +kernel
theorem i_84_144 : ins 84 144 = some (.iconst 2) := by decide +kernel
theorem i_84_145 : ins 84 145 = some (.if_icmp .ge 43) := by decide +kernel
theorem i_84_148 : ins 84 148 = some (.aload_n 0) := by decide +kernel
theorem i_84_149 : ins 84 149 = some (.getfield 67) := by decide +kernel
theorem i_84_152 : ins 84 152 = some (.iload_n 1) := by decide +kernel
theorem i_84_153 : ins 84 153 = some (.new 23) := by decide +kernel
theorem i_84_156 : ins 84 156 = some (.dup) := by decide +kernel
theorem i_84_157 : ins 84 157 = some (.invokespecial 25) := by decide +kernel
theorem i_84_160 : ins 84 160 = some (.aastore) := by decide +kernel
theorem i_84_161 : ins 84 161 = some (.aload_n 0) := by decide +kernel
theorem i_84_162 : ins 84 162 = some (.getfield 71) := by decide +kernel
theorem i_84_165 : ins 84 165 = some (.iload_n 1) := by decide +kernel
theorem i_84_166 : ins 84 166 = some (.new 33) := by decide +kernel
theorem i_84_169 : ins 84 169 = some (.dup) := by decide +kernel
theorem i_84_170 : ins 84 170 = some (.aload_n 0) := by decide +kernel
theorem i_84_171 : ins 84 171 = some (.getfield 67) := by decide +kernel
theorem i_84_174 : ins 84 174 = some (.iload_n 1) := by decide +kernel
theorem i_84_175 : ins 84 175 = some (.aaload) := by decide +kernel
theorem i_84_176 : ins 84 176 = some (.bipush 16) := by decide +kernel
theorem i_84_178 : ins 84 178 = some (.invokespecial 35) := by decide +kernel
theorem i_84_181 : ins 84 181 = some (.aastore) := by decide +kernel
theorem i_84_182 : ins 84 182 = some (.iinc 1 1) := by decide +kernel
theorem i_84_185 : ins 84 185 = some (.goto (-42)) := by decide +kernel
theorem i_84_188 : ins 84 188 = some (.return_) := by decide +kernel
theorem o_85 : mOwn 85 = 7 := rfl
theorem i_85_0 : ins 85 0 = some (.iload_n 1) := by decide +kernel
theorem i_85_1 : ins 85 1 = some (.invokestatic 79) := by decide +kernel
theorem i_85_4 : ins 85 4 = some (.ifCond .eq 16) := by decide +kernel
theorem i_85_7 : ins 85 7 = some (.iload_n 2) := by decide +kernel
theorem i_85_8 : ins 85 8 = some (.invokestatic 83) := by decide +kernel
theorem i_85_11 : ins 85 11 = some (.ifCond .eq 9) := by decide +kernel
theorem i_85_14 : ins 85 14 = some (.iload_n 3) := by decide +kernel
theorem i_85_15 : ins 85 15 = some (.bipush 40) := by decide +kernel
theorem i_85_17 : ins 85 17 = some (.if_icmp .le 6) := by decide +kernel
theorem i_85_20 : ins 85 20 = some (.ldc 86) := by decide +kernel
theorem i_85_22 : ins 85 22 = some (.ireturn) := by decide +kernel
theorem i_85_23 : ins 85 23 = some (.iload_n 3) := by decide +kernel
theorem i_85_24 : ins 85 24 = some (.ifCond .ge 9) := by decide +kernel
theorem i_85_27 : ins 85 27 = some (.aload_n 0) := by decide +kernel
theorem i_85_28 : ins 85 28 = some (.iconst 4) := by decide +kernel
theorem i_85_29 : ins 85 29 = some (.invokevirtual 87) := by decide +kernel
theorem i_85_32 : ins 85 32 = some (.ireturn) := by decide +kernel
theorem i_85_33 : ins 85 33 = some (.aload_n 0) := by decide +kernel
theorem i_85_34 : ins 85 34 = some (.getfield 10) := by decide +kernel
theorem i_85_37 : ins 85 37 = some (.iload_n 1) := by decide +kernel
theorem i_85_38 : ins 85 38 = some (.iload_n 2) := by decide +kernel
theorem i_85_39 : ins 85 39 = some (.iload_n 3) := by decide +kernel
theorem i_85_40 : ins 85 40 = some (.invokevirtual 91) := by decide +kernel
theorem i_85_43 : ins 85 43 = some (.aload_n 0) := by decide +kernel
theorem i_85_44 : ins 85 44 = some (.iload_n 3) := by decide +kernel
theorem i_85_45 : ins 85 45 = some (.invokevirtual 95) := by decide +kernel
theorem i_85_48 : ins 85 48 = some (.ireturn) := by decide +kernel
theorem o_86 : mOwn 86 = 7 := rfl
theorem i_86_0 : ins 86 0 = some (.iload_n 1) := by decide +kernel
theorem i_86_1 : ins 86 1 = some (.invokestatic 79) := by decide +kernel
theorem i_86_4 : ins 86 4 = some (.ifCond .ne 6) := by decide +kernel
theorem i_86_7 : ins 86 7 = some (.ldc 86) := by decide +kernel
theorem i_86_9 : ins 86 9 = some (.ireturn) := by decide +kernel
theorem i_86_10 : ins 86 10 = some (.aload_n 0) := by decide +kernel
theorem i_86_11 : ins 86 11 = some (.getfield 10) := by decide +kernel
theorem i_86_14 : ins 86 14 = some (.iload_n 1) := by decide +kernel
theorem i_86_15 : ins 86 15 = some (.invokevirtual 98) := by decide +kernel
theorem i_86_18 : ins 86 18 = some (.ifCond .eq 9) := by decide +kernel
theorem i_86_21 : ins 86 21 = some (.aload_n 0) := by decide +kernel
theorem i_86_22 : ins 86 22 = some (.iconst 1) := by decide +kernel
theorem i_86_23 : ins 86 23 = some (.invokevirtual 87) := by decide +kernel
theorem i_86_26 : ins 86 26 = some (.ireturn) := by decide +kernel
theorem i_86_27 : ins 86 27 = some (.aload_n 0) := by decide +kernel
theorem i_86_28 : ins 86 28 = some (.getfield 10) := by decide +kernel
theorem i_86_31 : ins 86 31 = some (.iload_n 1) := by decide +kernel
theorem i_86_32 : ins 86 32 = some (.iload_n 2) := by decide +kernel
theorem i_86_33 : ins 86 33 = some (.iconst 1) := by decide +kernel
theorem i_86_34 : ins 86 34 = some (.invokevirtual 101) := by decide +kernel
theorem i_86_37 : ins 86 37 = some (.ifCond .ne 9) := by decide +kernel
theorem i_86_40 : ins 86 40 = some (.aload_n 0) := by decide +kernel
theorem i_86_41 : ins 86 41 = some (.iconst 2) := by decide +kernel
theorem i_86_42 : ins 86 42 = some (.invokevirtual 87) := by decide +kernel
theorem i_86_45 : ins 86 45 = some (.ireturn) := by decide +kernel
theorem i_86_46 : ins 86 46 = some (.aload_n 0) := by decide +kernel
theorem i_86_47 : ins 86 47 = some (.aload_n 0) := by decide +kernel
theorem i_86_48 : ins 86 48 = some (.getfield 10) := by decide +kernel
theorem i_86_51 : ins 86 51 = some (.iload_n 1) := by decide +kernel
theorem i_86_52 : ins 86 52 = some (.iload_n 2) := by decide +kernel
theorem i_86_53 : ins 86 53 = some (.iload_n 3) := by decide +kernel
theorem i_86_54 : ins 86 54 = some (.invokevirtual 105) := by decide +kernel
theorem i_86_57 : ins 86 57 = some (.invokevirtual 95) := by decide +kernel
theorem i_86_60 : ins 86 60 = some (.ireturn) := by decide +kernel
theorem o_87 : mOwn 87 = 7 := rfl
theorem i_87_0 : ins 87 0 = some (.iload_n 1) := by decide +kernel
theorem i_87_1 : ins 87 1 = some (.invokestatic 79) := by decide +kernel
theorem i_87_4 : ins 87 4 = some (.ifCond .eq 10) := by decide +kernel
theorem i_87_7 : ins 87 7 = some (.iload_n 3) := by decide +kernel
theorem i_87_8 : ins 87 8 = some (.invokestatic 79) := by decide +kernel
theorem i_87_11 : ins 87 11 = some (.ifCond .ne 6) := by decide +kernel
theorem i_87_14 : ins 87 14 = some (.ldc 86) := by decide +kernel
theorem i_87_16 : ins 87 16 = some (.ireturn) := by decide +kernel
theorem i_87_17 : ins 87 17 = some (.aload_n 0) := by decide +kernel
theorem i_87_18 : ins 87 18 = some (.getfield 10) := by decide +kernel
theorem i_87_21 : ins 87 21 = some (.iload_n 1) := by decide +kernel
theorem i_87_22 : ins 87 22 = some (.invokevirtual 98) := by decide +kernel
theorem i_87_25 : ins 87 25 = some (.ifCond .ne 14) := by decide +kernel
theorem i_87_28 : ins 87 28 = some (.aload_n 0) := by decide +kernel
theorem i_87_29 : ins 87 29 = some (.getfield 10) := by decide +kernel
theorem i_87_32 : ins 87 32 = some (.iload_n 3) := by decide +kernel
theorem i_87_33 : ins 87 33 = some (.invokevirtual 98) := by decide +kernel
theorem i_87_36 : ins 87 36 = some (.ifCond .eq 9) := by decide +kernel
theorem i_87_39 : ins 87 39 = some (.aload_n 0) := by decide +kernel
theorem i_87_40 : ins 87 40 = some (.iconst 1) := by decide +kernel
theorem i_87_41 : ins 87 41 = some (.invokevirtual 87) := by decide +kernel
theorem i_87_44 : ins 87 44 = some (.ireturn) := by decide +kernel
theorem i_87_45 : ins 87 45 = some (.aload_n 0) := by decide +kernel
theorem i_87_46 : ins 87 46 = some (.getfield 10) := by decide +kernel
theorem i_87_49 : ins 87 49 = some (.iload_n 1) := by decide +kernel
theorem i_87_50 : ins 87 50 = some (.invokevirtual 109) := by decide +kernel
theorem i_87_53 : ins 87 53 = some (.aload_n 0) := by decide +kernel
theorem i_87_54 : ins 87 54 = some (.getfield 10) := by decide +kernel
theorem i_87_57 : ins 87 57 = some (.iload_n 3) := by decide +kernel
theorem i_87_58 : ins 87 58 = some (.invokevirtual 109) := by decide +kernel
theorem i_87_61 : ins 87 61 = some (.if_icmp .eq 9) := by decide +kernel
theorem i_87_64 : ins 87 64 = some (.aload_n 0) := by decide +kernel
theorem i_87_65 : ins 87 65 = some (.iconst 5) := by decide +kernel
theorem i_87_66 : ins 87 66 = some (.invokevirtual 87) := by decide +kernel
theorem i_87_69 : ins 87 69 = some (.ireturn) := by decide +kernel
theorem i_87_70 : ins 87 70 = some (.aload_n 0) := by decide +kernel
theorem i_87_71 : ins 87 71 = some (.getfield 10) := by decide +kernel
theorem i_87_74 : ins 87 74 = some (.iload_n 1) := by decide +kernel
theorem i_87_75 : ins 87 75 = some (.iload_n 2) := by decide +kernel
theorem i_87_76 : ins 87 76 = some (.iload 5) := by decide +kernel
theorem i_87_78 : ins 87 78 = some (.invokevirtual 101) := by decide +kernel
theorem i_87_81 : ins 87 81 = some (.ifCond .eq 18) := by decide +kernel
theorem i_87_84 : ins 87 84 = some (.aload_n 0) := by decide +kernel
theorem i_87_85 : ins 87 85 = some (.getfield 10) := by decide +kernel
theorem i_87_88 : ins 87 88 = some (.iload_n 3) := by decide +kernel
theorem i_87_89 : ins 87 89 = some (.iload 4) := by decide +kernel
theorem i_87_91 : ins 87 91 = some (.iload 5) := by decide +kernel
theorem i_87_93 : ins 87 93 = some (.invokevirtual 101) := by decide +kernel
theorem i_87_96 : ins 87 96 = some (.ifCond .ne 9) := by decide +kernel
theorem i_87_99 : ins 87 99 = some (.aload_n 0) := by decide +kernel
theorem i_87_100 : ins 87 100 = some (.iconst 2) := by decide +kernel
theorem i_87_101 : ins 87 101 = some (.invokevirtual 87) := by decide +kernel
theorem i_87_104 : ins 87 104 = some (.ireturn) := by decide +kernel
theorem i_87_105 : ins 87 105 = some (.aload_n 0) := by decide +kernel
theorem i_87_106 : ins 87 106 = some (.getfield 10) := by decide +kernel
theorem i_87_109 : ins 87 109 = some (.iload_n 1) := by decide +kernel
theorem i_87_110 : ins 87 110 = some (.iload_n 2) := by decide +kernel
theorem i_87_111 : ins 87 111 = some (.iload_n 3) := by decide +kernel
theorem i_87_112 : ins 87 112 = some (.iload 4) := by decide +kernel
theorem i_87_114 : ins 87 114 = some (.iload 5) := by decide +kernel
theorem i_87_116 : ins 87 116 = some (.invokevirtual 112) := by decide +kernel
theorem i_87_119 : ins 87 119 = some (.aload_n 0) := by decide +kernel
theorem i_87_120 : ins 87 120 = some (.iload 5) := by decide +kernel
theorem i_87_122 : ins 87 122 = some (.invokevirtual 95) := by decide +kernel
theorem i_87_125 : ins 87 125 = some (.ireturn) := by decide +kernel
theorem o_88 : mOwn 88 = 7 := rfl
theorem i_88_0 : ins 88 0 = some (.iload_n 1) := by decide +kernel
theorem i_88_1 : ins 88 1 = some (.invokestatic 79) := by decide +kernel
theorem i_88_4 : ins 88 4 = some (.ifCond .ne 6) := by decide +kernel
theorem i_88_7 : ins 88 7 = some (.ldc 86) := by decide +kernel
theorem i_88_9 : ins 88 9 = some (.ireturn) := by decide +kernel
theorem i_88_10 : ins 88 10 = some (.aload_n 0) := by decide +kernel
theorem i_88_11 : ins 88 11 = some (.getfield 10) := by decide +kernel
theorem i_88_14 : ins 88 14 = some (.iload_n 1) := by decide +kernel
theorem i_88_15 : ins 88 15 = some (.invokevirtual 98) := by decide +kernel
theorem i_88_18 : ins 88 18 = some (.ifCond .eq 9) := by decide +kernel
theorem i_88_21 : ins 88 21 = some (.aload_n 0) := by decide +kernel
theorem i_88_22 : ins 88 22 = some (.iconst 1) := by decide +kernel
theorem i_88_23 : ins 88 23 = some (.invokevirtual 87) := by decide +kernel
theorem i_88_26 : ins 88 26 = some (.ireturn) := by decide +kernel
theorem i_88_27 : ins 88 27 = some (.aload_n 0) := by decide +kernel
theorem i_88_28 : ins 88 28 = some (.aload_n 0) := by decide +kernel
theorem i_88_29 : ins 88 29 = some (.getfield 10) := by decide +kernel
theorem i_88_32 : ins 88 32 = some (.iload_n 1) := by decide +kernel
theorem i_88_33 : ins 88 33 = some (.invokevirtual 116) := by decide +kernel
theorem i_88_36 : ins 88 36 = some (.invokevirtual 95) := by decide +kernel
theorem i_88_39 : ins 88 39 = some (.ireturn) := by decide +kernel
theorem o_89 : mOwn 89 = 7 := rfl
theorem i_89_0 : ins 89 0 = some (.iload_n 1) := by decide +kernel
theorem i_89_1 : ins 89 1 = some (.sipush 255) := by decide +kernel
theorem i_89_4 : ins 89 4 = some (.invokestatic 119) := by decide +kernel
theorem i_89_7 : ins 89 7 = some (.ifCond .ne 6) := by decide +kernel
theorem i_89_10 : ins 89 10 = some (.ldc 86) := by decide +kernel
theorem i_89_12 : ins 89 12 = some (.ireturn) := by decide +kernel
theorem i_89_13 : ins 89 13 = some (.aload_n 0) := by decide +kernel
theorem i_89_14 : ins 89 14 = some (.getfield 19) := by decide +kernel
theorem i_89_17 : ins 89 17 = some (.invokevirtual 123) := by decide +kernel
theorem i_89_20 : ins 89 20 = some (.ifCond .eq 8) := by decide +kernel
theorem i_89_23 : ins 89 23 = some (.ldc 127) := by decide +kernel
theorem i_89_25 : ins 89 25 = some (.goto 11) := by decide +kernel
theorem i_89_28 : ins 89 28 = some (.aload_n 0) := by decide +kernel
theorem i_89_29 : ins 89 29 = some (.getfield 19) := by decide +kernel
theorem i_89_32 : ins 89 32 = some (.iload_n 1) := by decide +kernel
theorem i_89_33 : ins 89 33 = some (.invokevirtual 128) := by decide +kernel
theorem i_89_36 : ins 89 36 = some (.ireturn) := by decide +kernel
theorem o_90 : mOwn 90 = 7 := rfl
theorem i_90_0 : ins 90 0 = some (.aload_n 0) := by decide +kernel
theorem i_90_1 : ins 90 1 = some (.getfield 19) := by decide +kernel
theorem i_90_4 : ins 90 4 = some (.aload_n 0) := by decide +kernel
theorem i_90_5 : ins 90 5 = some (.getfield 26) := by decide +kernel
theorem i_90_8 : ins 90 8 = some (.invokevirtual 131) := by decide +kernel
theorem i_90_11 : ins 90 11 = some (.istore_n 1) := by decide +kernel
theorem i_90_12 : ins 90 12 = some (.iload_n 1) := by decide +kernel
theorem i_90_13 : ins 90 13 = some (.ifCond .eq 19) := by decide +kernel
theorem i_90_16 : ins 90 16 = some (.aload_n 0) := by decide +kernel
theorem i_90_17 : ins 90 17 = some (.iload_n 1) := by decide +kernel
theorem i_90_18 : ins 90 18 = some (.putfield 135) := by decide +kernel
theorem i_90_21 : ins 90 21 = some (.ldc 139) := by decide +kernel
theorem i_90_23 : ins 90 23 = some (.aload_n 0) := by decide +kernel
theorem i_90_24 : ins 90 24 = some (.getfield 19) := by decide +kernel
theorem i_90_27 : ins 90 27 = some (.invokevirtual 140) := by decide +kernel
theorem i_90_30 : ins 90 30 = some (.isub) := by decide +kernel
theorem i_90_31 : ins 90 31 = some (.ireturn) := by decide +kernel
theorem i_90_32 : ins 90 32 = some (.aload_n 0) := by decide +kernel
theorem i_90_33 : ins 90 33 = some (.getfield 30) := by decide +kernel
theorem i_90_36 : ins 90 36 = some (.aload_n 0) := by decide +kernel
theorem i_90_37 : ins 90 37 = some (.getfield 26) := by decide +kernel
theorem i_90_40 : ins 90 40 = some (.invokevirtual 144) := by decide +kernel
theorem i_90_43 : ins 90 43 = some (.aload_n 0) := by decide +kernel
theorem i_90_44 : ins 90 44 = some (.getfield 38) := by decide +kernel
theorem i_90_47 : ins 90 47 = some (.invokevirtual 147) := by decide +kernel
theorem i_90_50 : ins 90 50 = some (.aload_n 0) := by decide +kernel
theorem i_90_51 : ins 90 51 = some (.getfield 47) := by decide +kernel
theorem i_90_54 : ins 90 54 = some (.invokevirtual 150) := by decide +kernel
theorem i_90_57 : ins 90 57 = some (.aload_n 0) := by decide +kernel
theorem i_90_58 : ins 90 58 = some (.iconst 1) := by decide +kernel
theorem i_90_59 : ins 90 59 = some (.putfield 153) := by decide +kernel
theorem i_90_62 : ins 90 62 = some (.aload_n 0) := by decide +kernel
theorem i_90_63 : ins 90 63 = some (.getfield 30) := by decide +kernel
theorem i_90_66 : ins 90 66 = some (.getfield 157) := by decide +kernel
theorem i_90_69 : ins 90 69 = some (.ireturn) := by decide +kernel
theorem o_91 : mOwn 91 = 7 := rfl
theorem i_91_0 : ins 91 0 = some (.aload_n 0) := by decide +kernel
theorem i_91_1 : ins 91 1 = some (.getfield 135) := by decide +kernel
theorem i_91_4 : ins 91 4 = some (.ireturn) := by decide +kernel
theorem o_92 : mOwn 92 = 7 := rfl
theorem i_92_0 : ins 92 0 = some (.aload_n 0) := by decide +kernel
theorem i_92_1 : ins 92 1 = some (.getfield 153) := by decide +kernel
theorem i_92_4 : ins 92 4 = some (.ifCond .ne 6) := by decide +kernel
theorem i_92_7 : ins 92 7 = some (.ldc 160) := by decide +kernel
theorem i_92_9 : ins 92 9 = some (.ireturn) := by decide +kernel
theorem i_92_10 : ins 92 10 = some (.iload_n 1) := by decide +kernel
theorem i_92_11 : ins 92 11 = some (.iconst 1) := by decide +kernel
theorem i_92_12 : ins 92 12 = some (.if_icmp .lt 9) := by decide +kernel
theorem i_92_15 : ins 92 15 = some (.iload_n 1) := by decide +kernel
theorem i_92_16 : ins 92 16 = some (.bipush 20) := by decide +kernel
theorem i_92_18 : ins 92 18 = some (.if_icmp .le 6) := by decide +kernel
theorem i_92_21 : ins 92 21 = some (.ldc 86) := by decide +kernel
theorem i_92_23 : ins 92 23 = some (.ireturn) := by decide +kernel
theorem i_92_24 : ins 92 24 = some (.aload_n 0) := by decide +kernel
theorem i_92_25 : ins 92 25 = some (.getfield 38) := by decide +kernel
theorem i_92_28 : ins 92 28 = some (.getfield 161) := by decide +kernel
theorem i_92_31 : ins 92 31 = some (.iload_n 1) := by decide +kernel
theorem i_92_32 : ins 92 32 = some (.iadd) := by decide +kernel
theorem i_92_33 : ins 92 33 = some (.sipush 999) := by decide +kernel
theorem i_92_36 : ins 92 36 = some (.if_icmp .le 6) := by decide +kernel
theorem i_92_39 : ins 92 39 = some (.ldc 127) := by decide +kernel
theorem i_92_41 : ins 92 41 = some (.ireturn) := by decide +kernel
theorem i_92_42 : ins 92 42 = some (.iconst 0) := by decide +kernel
theorem i_92_43 : ins 92 43 = some (.istore_n 2) := by decide +kernel
theorem i_92_44 : ins 92 44 = some (.iload_n 2) := by decide +kernel
theorem i_92_45 : ins 92 45 = some (.iload_n 1) := by decide +kernel
theorem i_92_46 : ins 92 46 = some (.if_icmp .ge 28) := by decide +kernel
theorem i_92_49 : ins 92 49 = some (.aload_n 0) := by decide +kernel
theorem i_92_50 : ins 92 50 = some (.getfield 47) := by decide +kernel
theorem i_92_53 : ins 92 53 = some (.aload_n 0) := by decide +kernel
theorem i_92_54 : ins 92 54 = some (.getfield 38) := by decide +kernel
theorem i_92_57 : ins 92 57 = some (.invokevirtual 164) := by decide +kernel
theorem i_92_60 : ins 92 60 = some (.aload_n 0) := by decide +kernel
theorem i_92_61 : ins 92 61 = some (.getfield 38) := by decide +kernel
theorem i_92_64 : ins 92 64 = some (.iconst 1) := by decide +kernel
theorem i_92_65 : ins 92 65 = some (.invokevirtual 168) := by decide +kernel
theorem i_92_68 : ins 92 68 = some (.iinc 2 1) := by decide +kernel
theorem i_92_71 : ins 92 71 = some (.goto (-27)) := by decide +kernel
theorem i_92_74 : ins 92 74 = some (.aload_n 0) := by decide +kernel
theorem i_92_75 : ins 92 75 = some (.getfield 38) := by decide +kernel
theorem i_92_78 : ins 92 78 = some (.getfield 172) := by decide +kernel
theorem i_92_81 : ins 92 81 = some (.ireturn) := by decide +kernel
theorem o_93 : mOwn 93 = 7 := rfl
theorem i_93_0 : ins 93 0 = some (.aload_n 0) := by decide +kernel
theorem i_93_1 : ins 93 1 = some (.iload_n 1) := by decide +kernel
theorem i_93_2 : ins 93 2 = some (.invokevirtual 175) := by decide +kernel
theorem i_93_5 : ins 93 5 = some (.ifCond .eq 11) := by decide +kernel
theorem i_93_8 : ins 93 8 = some (.iload_n 2) := by decide +kernel
theorem i_93_9 : ins 93 9 = some (.iconst 3) := by decide +kernel
theorem i_93_10 : ins 93 10 = some (.invokestatic 119) := by decide +kernel
theorem i_93_13 : ins 93 13 = some (.ifCond .ne 6) := by decide +kernel
theorem i_93_16 : ins 93 16 = some (.ldc 86) := by decide +kernel
theorem i_93_18 : ins 93 18 = some (.ireturn) := by decide +kernel
theorem i_93_19 : ins 93 19 = some (.aload_n 0) := by decide +kernel
theorem i_93_20 : ins 93 20 = some (.getfield 38) := by decide +kernel
theorem i_93_23 : ins 93 23 = some (.getfield 178) := by decide +kernel
theorem i_93_26 : ins 93 26 = some (.iload_n 1) := by decide +kernel
theorem i_93_27 : ins 93 27 = some (.iaload) := by decide +kernel
theorem i_93_28 : ins 93 28 = some (.iconst 1) := by decide +kernel
theorem i_93_29 : ins 93 29 = some (.if_icmp .eq 6) := by decide +kernel
theorem i_93_32 : ins 93 32 = some (.ldc 160) := by decide +kernel
theorem i_93_34 : ins 93 34 = some (.ireturn) := by decide +kernel
theorem i_93_35 : ins 93 35 = some (.aload_n 0) := by decide +kernel
theorem i_93_36 : ins 93 36 = some (.getfield 38) := by decide +kernel
theorem i_93_39 : ins 93 39 = some (.iload_n 1) := by decide +kernel
theorem i_93_40 : ins 93 40 = some (.invokevirtual 182) := by decide +kernel
theorem i_93_43 : ins 93 43 = some (.istore_n 3) := by decide +kernel
theorem i_93_44 : ins 93 44 = some (.aload_n 0) := by decide +kernel
theorem i_93_45 : ins 93 45 = some (.getfield 47) := by decide +kernel
theorem i_93_48 : ins 93 48 = some (.aload_n 0) := by decide +kernel
theorem i_93_49 : ins 93 49 = some (.getfield 38) := by decide +kernel
theorem i_93_52 : ins 93 52 = some (.invokevirtual 164) := by decide +kernel
theorem i_93_55 : ins 93 55 = some (.aload_n 0) := by decide +kernel
theorem i_93_56 : ins 93 56 = some (.getfield 38) := by decide +kernel
theorem i_93_59 : ins 93 59 = some (.iload_n 1) := by decide +kernel
theorem i_93_60 : ins 93 60 = some (.iload_n 2) := by decide +kernel
theorem i_93_61 : ins 93 61 = some (.invokevirtual 185) := by decide +kernel
theorem i_93_64 : ins 93 64 = some (.iload_n 3) := by decide +kernel
theorem i_93_65 : ins 93 65 = some (.ireturn) := by decide +kernel
theorem o_94 : mOwn 94 = 7 := rfl
theorem i_94_0 : ins 94 0 = some (.aload_n 0) := by decide +kernel
theorem i_94_1 : ins 94 1 = some (.iload_n 1) := by decide +kernel
theorem i_94_2 : ins 94 2 = some (.invokevirtual 175) := by decide +kernel
theorem i_94_5 : ins 94 5 = some (.ifCond .ne 6) := by decide +kernel
theorem i_94_8 : ins 94 8 = some (.ldc 86) := by decide +kernel
theorem i_94_10 : ins 94 10 = some (.ireturn) := by decide +kernel
theorem i_94_11 : ins 94 11 = some (.aload_n 0) := by decide +kernel
theorem i_94_12 : ins 94 12 = some (.getfield 38) := by decide +kernel
theorem i_94_15 : ins 94 15 = some (.iload_n 1) := by decide +kernel
theorem i_94_16 : ins 94 16 = some (.invokevirtual 189) := by decide +kernel
theorem i_94_19 : ins 94 19 = some (.istore_n 2) := by decide +kernel
theorem i_94_20 : ins 94 20 = some (.iload_n 2) := by decide +kernel
theorem i_94_21 : ins 94 21 = some (.ldc 192) := by decide +kernel
theorem i_94_23 : ins 94 23 = some (.if_icmp .ne 6) := by decide +kernel
theorem i_94_26 : ins 94 26 = some (.ldc 160) := by decide +kernel
theorem i_94_28 : ins 94 28 = some (.ireturn) := by decide +kernel
theorem i_94_29 : ins 94 29 = some (.aload_n 0) := by decide +kernel
theorem i_94_30 : ins 94 30 = some (.getfield 47) := by decide +kernel
theorem i_94_33 : ins 94 33 = some (.aload_n 0) := by decide +kernel
theorem i_94_34 : ins 94 34 = some (.getfield 38) := by decide +kernel
theorem i_94_37 : ins 94 37 = some (.invokevirtual 164) := by decide +kernel
theorem i_94_40 : ins 94 40 = some (.aload_n 0) := by decide +kernel
theorem i_94_41 : ins 94 41 = some (.getfield 38) := by decide +kernel
theorem i_94_44 : ins 94 44 = some (.iload_n 2) := by decide +kernel
theorem i_94_45 : ins 94 45 = some (.iconst 3) := by decide +kernel
theorem i_94_46 : ins 94 46 = some (.invokevirtual 193) := by decide +kernel
theorem i_94_49 : ins 94 49 = some (.aload_n 0) := by decide +kernel
theorem i_94_50 : ins 94 50 = some (.getfield 38) := by decide +kernel
theorem i_94_53 : ins 94 53 = some (.getfield 172) := by decide +kernel
theorem i_94_56 : ins 94 56 = some (.ireturn) := by decide +kernel
theorem o_95 : mOwn 95 = 7 := rfl
theorem i_95_0 : ins 95 0 = some (.aload_n 0) := by decide +kernel
theorem i_95_1 : ins 95 1 = some (.getfield 153) := by decide +kernel
theorem i_95_4 : ins 95 4 = some (.ifCond .ne 6) := by decide +kernel
theorem i_95_7 : ins 95 7 = some (.ldc 160) := by decide +kernel
theorem i_95_9 : ins 95 9 = some (.ireturn) := by decide +kernel
theorem i_95_10 : ins 95 10 = some (.iload_n 1) := by decide +kernel
theorem i_95_11 : ins 95 11 = some (.iconst 3) := by decide +kernel
theorem i_95_12 : ins 95 12 = some (.invokestatic 119) := by decide +kernel
theorem i_95_15 : ins 95 15 = some (.ifCond .eq 12) := by decide +kernel
theorem i_95_18 : ins 95 18 = some (.iload_n 2) := by decide +kernel
theorem i_95_19 : ins 95 19 = some (.bipush 9) := by decide +kernel
theorem i_95_21 : ins 95 21 = some (.invokestatic 119) := by decide +kernel
theorem i_95_24 : ins 95 24 = some (.ifCond .ne 6) := by decide +kernel
theorem i_95_27 : ins 95 27 = some (.ldc 86) := by decide +kernel
theorem i_95_29 : ins 95 29 = some (.ireturn) := by decide +kernel
theorem i_95_30 : ins 95 30 = some (.bipush 10) := by decide +kernel
theorem i_95_32 : ins 95 32 = some (.aload_n 0) := by decide +kernel
theorem i_95_33 : ins 95 33 = some (.getfield 38) := by decide +kernel
theorem i_95_36 : ins 95 36 = some (.getfield 196) := by decide +kernel
theorem i_95_39 : ins 95 39 = some (.imul) := by decide +kernel
theorem i_95_40 : ins 95 40 = some (.aload_n 0) := by decide +kernel
theorem i_95_41 : ins 95 41 = some (.getfield 38) := by decide +kernel
theorem i_95_44 : ins 95 44 = some (.getfield 199) := by decide +kernel
theorem i_95_47 : ins 95 47 = some (.iadd) := by decide +kernel
theorem i_95_48 : ins 95 48 = some (.istore_n 3) := by decide +kernel
theorem i_95_49 : ins 95 49 = some (.aload_n 0) := by decide +kernel
theorem i_95_50 : ins 95 50 = some (.getfield 47) := by decide +kernel
theorem i_95_53 : ins 95 53 = some (.aload_n 0) := by decide +kernel
theorem i_95_54 : ins 95 54 = some (.getfield 38) := by decide +kernel
theorem i_95_57 : ins 95 57 = some (.invokevirtual 164) := by decide +kernel
theorem i_95_60 : ins 95 60 = some (.aload_n 0) := by decide +kernel
theorem i_95_61 : ins 95 61 = some (.getfield 38) := by decide +kernel
theorem i_95_64 : ins 95 64 = some (.iload_n 1) := by decide +kernel
theorem i_95_65 : ins 95 65 = some (.putfield 196) := by decide +kernel
theorem i_95_68 : ins 95 68 = some (.aload_n 0) := by decide +kernel
theorem i_95_69 : ins 95 69 = some (.getfield 38) := by decide +kernel
theorem i_95_72 : ins 95 72 = some (.iload_n 2) := by decide +kernel
theorem i_95_73 : ins 95 73 = some (.putfield 199) := by decide +kernel
theorem i_95_76 : ins 95 76 = some (.iload_n 3) := by decide +kernel
theorem i_95_77 : ins 95 77 = some (.ireturn) := by decide +kernel
theorem o_96 : mOwn 96 = 7 := rfl
theorem i_96_0 : ins 96 0 = some (.aload_n 0) := by decide +kernel
theorem i_96_1 : ins 96 1 = some (.getfield 47) := by decide +kernel
theorem i_96_4 : ins 96 4 = some (.invokevirtual 202) := by decide +kernel
theorem i_96_7 : ins 96 7 = some (.ifCond .ne 6) := by decide +kernel
theorem i_96_10 : ins 96 10 = some (.ldc 160) := by decide +kernel
theorem i_96_12 : ins 96 12 = some (.ireturn) := by decide +kernel
theorem i_96_13 : ins 96 13 = some (.aload_n 0) := by decide +kernel
theorem i_96_14 : ins 96 14 = some (.getfield 47) := by decide +kernel
theorem i_96_17 : ins 96 17 = some (.aload_n 0) := by decide +kernel
theorem i_96_18 : ins 96 18 = some (.getfield 38) := by decide +kernel
theorem i_96_21 : ins 96 21 = some (.invokevirtual 205) := by decide +kernel
theorem i_96_24 : ins 96 24 = some (.aload_n 0) := by decide +kernel
theorem i_96_25 : ins 96 25 = some (.getfield 47) := by decide +kernel
theorem i_96_28 : ins 96 28 = some (.invokevirtual 202) := by decide +kernel
theorem i_96_31 : ins 96 31 = some (.ireturn) := by decide +kernel
theorem o_97 : mOwn 97 = 7 := rfl
theorem i_97_0 : ins 97 0 = some (.aload_n 0) := by decide +kernel
theorem i_97_1 : ins 97 1 = some (.iload_n 1) := by decide +kernel
theorem i_97_2 : ins 97 2 = some (.invokevirtual 175) := by decide +kernel
theorem i_97_5 : ins 97 5 = some (.ifCond .ne 6) := by decide +kernel
theorem i_97_8 : ins 97 8 = some (.ldc 86) := by decide +kernel
theorem i_97_10 : ins 97 10 = some (.ireturn) := by decide +kernel
theorem i_97_11 : ins 97 11 = some (.iload_n 2) := by decide +kernel
theorem i_97_12 : ins 97 12 = some (.tableswitch 98 0 5 #[40, 49, 59, 69, 78, 88]) := by decide +kernel
theorem i_97_52 : ins 97 52 = some (.aload_n 0) := by decide +kernel
theorem i_97_53 : ins 97 53 = some (.getfield 38) := by decide +kernel
theorem i_97_56 : ins 97 56 = some (.iload_n 1) := by decide +kernel
theorem i_97_57 : ins 97 57 = some (.invokevirtual 189) := by decide +kernel
theorem i_97_60 : ins 97 60 = some (.ireturn) := by decide +kernel
theorem i_97_61 : ins 97 61 = some (.aload_n 0) := by decide +kernel
theorem i_97_62 : ins 97 62 = some (.getfield 38) := by decide +kernel
theorem i_97_65 : ins 97 65 = some (.getfield 178) := by decide +kernel
theorem i_97_68 : ins 97 68 = some (.iload_n 1) := by decide +kernel
theorem i_97_69 : ins 97 69 = some (.iaload) := by decide +kernel
theorem i_97_70 : ins 97 70 = some (.ireturn) := by decide +kernel
theorem i_97_71 : ins 97 71 = some (.aload_n 0) := by decide +kernel
theorem i_97_72 : ins 97 72 = some (.getfield 38) := by decide +kernel
theorem i_97_75 : ins 97 75 = some (.getfield 208) := by decide +kernel
theorem i_97_78 : ins 97 78 = some (.iload_n 1) := by decide +kernel
theorem i_97_79 : ins 97 79 = some (.iaload) := by decide +kernel
theorem i_97_80 : ins 97 80 = some (.ireturn) := by decide +kernel
theorem i_97_81 : ins 97 81 = some (.aload_n 0) := by decide +kernel
theorem i_97_82 : ins 97 82 = some (.getfield 38) := by decide +kernel
theorem i_97_85 : ins 97 85 = some (.iload_n 1) := by decide +kernel
theorem i_97_86 : ins 97 86 = some (.invokevirtual 182) := by decide +kernel
theorem i_97_89 : ins 97 89 = some (.ireturn) := by decide +kernel
theorem i_97_90 : ins 97 90 = some (.aload_n 0) := by decide +kernel
theorem i_97_91 : ins 97 91 = some (.getfield 30) := by decide +kernel
theorem i_97_94 : ins 97 94 = some (.getfield 211) := by decide +kernel
theorem i_97_97 : ins 97 97 = some (.iload_n 1) := by decide +kernel
theorem i_97_98 : ins 97 98 = some (.iaload) := by decide +kernel
theorem i_97_99 : ins 97 99 = some (.ireturn) := by decide +kernel
theorem i_97_100 : ins 97 100 = some (.aload_n 0) := by decide +kernel
theorem i_97_101 : ins 97 101 = some (.getfield 38) := by decide +kernel
theorem i_97_104 : ins 97 104 = some (.getfield 214) := by decide +kernel
theorem i_97_107 : ins 97 107 = some (.iload_n 1) := by decide +kernel
theorem i_97_108 : ins 97 108 = some (.iaload) := by decide +kernel
theorem i_97_109 : ins 97 109 = some (.ireturn) := by decide +kernel
theorem i_97_110 : ins 97 110 = some (.ldc 86) := by decide +kernel
theorem i_97_112 : ins 97 112 = some (.ireturn) := by decide +kernel
theorem o_98 : mOwn 98 = 7 := rfl
theorem i_98_0 : ins 98 0 = some (.iload_n 1) := by decide +kernel
theorem i_98_1 : ins 98 1 = some (.ifCond .ge 8) := by decide +kernel
theorem i_98_4 : ins 98 4 = some (.ldc 86) := by decide +kernel
theorem i_98_6 : ins 98 6 = some (.goto 11) := by decide +kernel
theorem i_98_9 : ins 98 9 = some (.aload_n 0) := by decide +kernel
theorem i_98_10 : ins 98 10 = some (.getfield 38) := by decide +kernel
theorem i_98_13 : ins 98 13 = some (.iload_n 1) := by decide +kernel
theorem i_98_14 : ins 98 14 = some (.invokevirtual 217) := by decide +kernel
theorem i_98_17 : ins 98 17 = some (.ireturn) := by decide +kernel
theorem o_99 : mOwn 99 = 7 := rfl
theorem i_99_0 : ins 99 0 = some (.aload_n 0) := by decide +kernel
theorem i_99_1 : ins 99 1 = some (.getfield 153) := by decide +kernel
theorem i_99_4 : ins 99 4 = some (.ifCond .ne 6) := by decide +kernel
theorem i_99_7 : ins 99 7 = some (.ldc 160) := by decide +kernel
theorem i_99_9 : ins 99 9 = some (.ireturn) := by decide +kernel
theorem i_99_10 : ins 99 10 = some (.iload_n 1) := by decide +kernel
theorem i_99_11 : ins 99 11 = some (.bipush 60) := by decide +kernel
theorem i_99_13 : ins 99 13 = some (.invokestatic 119) := by decide +kernel
theorem i_99_16 : ins 99 16 = some (.ifCond .eq 11) := by decide +kernel
theorem i_99_19 : ins 99 19 = some (.iload_n 2) := by decide +kernel
theorem i_99_20 : ins 99 20 = some (.iconst 3) := by decide +kernel
theorem i_99_21 : ins 99 21 = some (.invokestatic 119) := by decide +kernel
theorem i_99_24 : ins 99 24 = some (.ifCond .ne 6) := by decide +kernel
theorem i_99_27 : ins 99 27 = some (.ldc 86) := by decide +kernel
theorem i_99_29 : ins 99 29 = some (.ireturn) := by decide +kernel
theorem i_99_30 : ins 99 30 = some (.aload_n 0) := by decide +kernel
theorem i_99_31 : ins 99 31 = some (.getfield 56) := by decide +kernel
theorem i_99_34 : ins 99 34 = some (.iload_n 1) := by decide +kernel
theorem i_99_35 : ins 99 35 = some (.invokevirtual 220) := by decide +kernel
theorem i_99_38 : ins 99 38 = some (.iconst 1) := by decide +kernel
theorem i_99_39 : ins 99 39 = some (.iload_n 2) := by decide +kernel
theorem i_99_40 : ins 99 40 = some (.iadd) := by decide +kernel
theorem i_99_41 : ins 99 41 = some (.invokevirtual 224) := by decide +kernel
theorem i_99_44 : ins 99 44 = some (.ireturn) := by decide +kernel
theorem o_100 : mOwn 100 = 7 := rfl
theorem i_100_0 : ins 100 0 = some (.aload_n 0) := by decide +kernel
theorem i_100_1 : ins 100 1 = some (.getfield 153) := by decide +kernel
theorem i_100_4 : ins 100 4 = some (.ifCond .ne 6) := by decide +kernel
theorem i_100_7 : ins 100 7 = some (.ldc 160) := by decide +kernel
theorem i_100_9 : ins 100 9 = some (.ireturn) := by decide +kernel
theorem i_100_10 : ins 100 10 = some (.iload_n 1) := by decide +kernel
theorem i_100_11 : ins 100 11 = some (.bipush 60) := by decide +kernel
theorem i_100_13 : ins 100 13 = some (.invokestatic 119) := by decide +kernel
theorem i_100_16 : ins 100 16 = some (.ifCond .eq 7) := by decide +kernel
theorem i_100_19 : ins 100 19 = some (.iload_n 2) := by decide +kernel
theorem i_100_20 : ins 100 20 = some (.ifCond .ge 6) := by decide +kernel
theorem i_100_23 : ins 100 23 = some (.ldc 86) := by decide +kernel
theorem i_100_25 : ins 100 25 = some (.ireturn) := by decide +kernel
theorem i_100_26 : ins 100 26 = some (.aload_n 0) := by decide +kernel
theorem i_100_27 : ins 100 27 = some (.getfield 56) := by decide +kernel
theorem i_100_30 : ins 100 30 = some (.iload_n 1) := by decide +kernel
theorem i_100_31 : ins 100 31 = some (.invokevirtual 220) := by decide +kernel
theorem i_100_34 : ins 100 34 = some (.iload_n 2) := by decide +kernel
theorem i_100_35 : ins 100 35 = some (.invokevirtual 217) := by decide +kernel
theorem i_100_38 : ins 100 38 = some (.ireturn) := by decide +kernel
theorem o_101 : mOwn 101 = 7 := rfl
theorem i_101_0 : ins 101 0 = some (.aload_n 0) := by decide +kernel
theorem i_101_1 : ins 101 1 = some (.getfield 153) := by decide +kernel
theorem i_101_4 : ins 101 4 = some (.ifCond .eq 13) := by decide +kernel
theorem i_101_7 : ins 101 7 = some (.aload_n 0) := by decide +kernel
theorem i_101_8 : ins 101 8 = some (.getfield 56) := by decide +kernel
theorem i_101_11 : ins 101 11 = some (.invokevirtual 227) := by decide +kernel
theorem i_101_14 : ins 101 14 = some (.goto 5) := by decide +kernel
theorem i_101_17 : ins 101 17 = some (.ldc 160) := by decide +kernel
theorem i_101_19 : ins 101 19 = some (.ireturn) := by decide +kernel
theorem o_102 : mOwn 102 = 7 := rfl
theorem i_102_0 : ins 102 0 = some (.aload_n 0) := by decide +kernel
theorem i_102_1 : ins 102 1 = some (.getfield 153) := by decide +kernel
theorem i_102_4 : ins 102 4 = some (.ifCond .ne 6) := by decide +kernel
theorem i_102_7 : ins 102 7 = some (.ldc 160) := by decide +kernel
theorem i_102_9 : ins 102 9 = some (.ireturn) := by decide +kernel
theorem i_102_10 : ins 102 10 = some (.iload_n 1) := by decide +kernel
theorem i_102_11 : ins 102 11 = some (.ifCond .lt 11) := by decide +kernel
theorem i_102_14 : ins 102 14 = some (.iload_n 2) := by decide +kernel
theorem i_102_15 : ins 102 15 = some (.iconst 1) := by decide +kernel
theorem i_102_16 : ins 102 16 = some (.invokestatic 119) := by decide +kernel
theorem i_102_19 : ins 102 19 = some (.ifCond .ne 6) := by decide +kernel
theorem i_102_22 : ins 102 22 = some (.ldc 86) := by decide +kernel
theorem i_102_24 : ins 102 24 = some (.ireturn) := by decide +kernel
theorem i_102_25 : ins 102 25 = some (.aload_n 0) := by decide +kernel
theorem i_102_26 : ins 102 26 = some (.getfield 38) := by decide +kernel
theorem i_102_29 : ins 102 29 = some (.iload_n 1) := by decide +kernel
theorem i_102_30 : ins 102 30 = some (.invokevirtual 217) := by decide +kernel
theorem i_102_33 : ins 102 33 = some (.istore_n 3) := by decide +kernel
theorem i_102_34 : ins 102 34 = some (.iload_n 3) := by decide +kernel
theorem i_102_35 : ins 102 35 = some (.ldc 192) := by decide +kernel
theorem i_102_37 : ins 102 37 = some (.if_icmp .ne 8) := by decide +kernel
theorem i_102_40 : ins 102 40 = some (.ldc 192) := by decide +kernel
theorem i_102_42 : ins 102 42 = some (.goto 20) := by decide +kernel
theorem i_102_45 : ins 102 45 = some (.aload_n 0) := by decide +kernel
theorem i_102_46 : ins 102 46 = some (.getfield 56) := by decide +kernel
theorem i_102_49 : ins 102 49 = some (.iload_n 3) := by decide +kernel
theorem i_102_50 : ins 102 50 = some (.iload_n 2) := by decide +kernel
theorem i_102_51 : ins 102 51 = some (.ifCond .ne 7) := by decide +kernel
theorem i_102_54 : ins 102 54 = some (.iconst 1) := by decide +kernel
theorem i_102_55 : ins 102 55 = some (.goto 4) := by decide +kernel
theorem i_102_58 : ins 102 58 = some (.iconst 0) := by decide +kernel
theorem i_102_59 : ins 102 59 = some (.invokevirtual 230) := by decide +kernel
theorem i_102_62 : ins 102 62 = some (.ireturn) := by decide +kernel
theorem o_103 : mOwn 103 = 7 := rfl
theorem i_103_0 : ins 103 0 = some (.aload_n 0) := by decide +kernel
theorem i_103_1 : ins 103 1 = some (.iload_n 1) := by decide +kernel
theorem i_103_2 : ins 103 2 = some (.invokevirtual 175) := by decide +kernel
theorem i_103_5 : ins 103 5 = some (.ifCond .eq 11) := by decide +kernel
theorem i_103_8 : ins 103 8 = some (.iload_n 2) := by decide +kernel
theorem i_103_9 : ins 103 9 = some (.iconst 1) := by decide +kernel
theorem i_103_10 : ins 103 10 = some (.invokestatic 119) := by decide +kernel
theorem i_103_13 : ins 103 13 = some (.ifCond .ne 6) := by decide +kernel
theorem i_103_16 : ins 103 16 = some (.ldc 86) := by decide +kernel
theorem i_103_18 : ins 103 18 = some (.ireturn) := by decide +kernel
theorem i_103_19 : ins 103 19 = some (.aload_n 0) := by decide +kernel
theorem i_103_20 : ins 103 20 = some (.getfield 56) := by decide +kernel
theorem i_103_23 : ins 103 23 = some (.iload_n 1) := by decide +kernel
theorem i_103_24 : ins 103 24 = some (.iload_n 2) := by decide +kernel
theorem i_103_25 : ins 103 25 = some (.ifCond .ne 7) := by decide +kernel
theorem i_103_28 : ins 103 28 = some (.iconst 2) := by decide +kernel
theorem i_103_29 : ins 103 29 = some (.goto 4) := by decide +kernel
theorem i_103_32 : ins 103 32 = some (.iconst 3) := by decide +kernel
theorem i_103_33 : ins 103 33 = some (.invokevirtual 234) := by decide +kernel
theorem i_103_36 : ins 103 36 = some (.ireturn) := by decide +kernel
theorem o_104 : mOwn 104 = 7 := rfl
theorem i_104_0 : ins 104 0 = some (.aload_n 0) := by decide +kernel
theorem i_104_1 : ins 104 1 = some (.getfield 153) := by decide +kernel
theorem i_104_4 : ins 104 4 = some (.ifCond .ne 6) := by decide +kernel
theorem i_104_7 : ins 104 7 = some (.ldc 160) := by decide +kernel
theorem i_104_9 : ins 104 9 = some (.ireturn) := by decide +kernel
theorem i_104_10 : ins 104 10 = some (.iload_n 1) := by decide +kernel
theorem i_104_11 : ins 104 11 = some (.iconst 3) := by decide +kernel
theorem i_104_12 : ins 104 12 = some (.invokestatic 119) := by decide +kernel
theorem i_104_15 : ins 104 15 = some (.ifCond .eq 14) := by decide +kernel
theorem i_104_18 : ins 104 18 = some (.aload_n 0) := by decide +kernel
theorem i_104_19 : ins 104 19 = some (.getfield 56) := by decide +kernel
theorem i_104_22 : ins 104 22 = some (.iload_n 1) := by decide +kernel
theorem i_104_23 : ins 104 23 = some (.invokevirtual 238) := by decide +kernel
theorem i_104_26 : ins 104 26 = some (.goto 5) := by decide +kernel
theorem i_104_29 : ins 104 29 = some (.ldc 86) := by decide +kernel
theorem i_104_31 : ins 104 31 = some (.ireturn) := by decide +kernel
theorem o_105 : mOwn 105 = 7 := rfl
theorem i_105_0 : ins 105 0 = some (.aload_n 0) := by decide +kernel
theorem i_105_1 : ins 105 1 = some (.getfield 153) := by decide +kernel
theorem i_105_4 : ins 105 4 = some (.ifCond .ne 6) := by decide +kernel
theorem i_105_7 : ins 105 7 = some (.ldc 160) := by decide +kernel
theorem i_105_9 : ins 105 9 = some (.ireturn) := by decide +kernel
theorem i_105_10 : ins 105 10 = some (.iload_n 1) := by decide +kernel
theorem i_105_11 : ins 105 11 = some (.bipush 8) := by decide +kernel
theorem i_105_13 : ins 105 13 = some (.invokestatic 119) := by decide +kernel
theorem i_105_16 : ins 105 16 = some (.ifCond .eq 14) := by decide +kernel
theorem i_105_19 : ins 105 19 = some (.aload_n 0) := by decide +kernel
theorem i_105_20 : ins 105 20 = some (.getfield 56) := by decide +kernel
theorem i_105_23 : ins 105 23 = some (.iload_n 1) := by decide +kernel
theorem i_105_24 : ins 105 24 = some (.invokevirtual 241) := by decide +kernel
theorem i_105_27 : ins 105 27 = some (.goto 5) := by decide +kernel
theorem i_105_30 : ins 105 30 = some (.ldc 86) := by decide +kernel
theorem i_105_32 : ins 105 32 = some (.ireturn) := by decide +kernel
theorem o_106 : mOwn 106 = 7 := rfl
theorem i_106_0 : ins 106 0 = some (.aload_n 0) := by decide +kernel
theorem i_106_1 : ins 106 1 = some (.getfield 153) := by decide +kernel
theorem i_106_4 : ins 106 4 = some (.ifCond .ne 6) := by decide +kernel
theorem i_106_7 : ins 106 7 = some (.ldc 160) := by decide +kernel
theorem i_106_9 : ins 106 9 = some (.ireturn) := by decide +kernel
theorem i_106_10 : ins 106 10 = some (.iload_n 1) := by decide +kernel
theorem i_106_11 : ins 106 11 = some (.bipush 16) := by decide +kernel
theorem i_106_13 : ins 106 13 = some (.invokestatic 119) := by decide +kernel
theorem i_106_16 : ins 106 16 = some (.ifCond .eq 30) := by decide +kernel
theorem i_106_19 : ins 106 19 = some (.iload_n 2) := by decide +kernel
theorem i_106_20 : ins 106 20 = some (.bipush 8) := by decide +kernel
theorem i_106_22 : ins 106 22 = some (.invokestatic 119) := by decide +kernel
theorem i_106_25 : ins 106 25 = some (.ifCond .eq 21) := by decide +kernel
theorem i_106_28 : ins 106 28 = some (.iload_n 3) := by decide +kernel
theorem i_106_29 : ins 106 29 = some (.bipush 10) := by decide +kernel
theorem i_106_31 : ins 106 31 = some (.invokestatic 119) := by decide +kernel
theorem i_106_34 : ins 106 34 = some (.ifCond .eq 12) := by decide +kernel
theorem i_106_37 : ins 106 37 = some (.iload 4) := by decide +kernel
theorem i_106_39 : ins 106 39 = some (.iconst 1) := by decide +kernel
theorem i_106_40 : ins 106 40 = some (.invokestatic 119) := by decide +kernel
theorem i_106_43 : ins 106 43 = some (.ifCond .ne 6) := by decide +kernel
theorem i_106_46 : ins 106 46 = some (.ldc 86) := by decide +kernel
theorem i_106_48 : ins 106 48 = some (.ireturn) := by decide +kernel
theorem i_106_49 : ins 106 49 = some (.aload_n 0) := by decide +kernel
theorem i_106_50 : ins 106 50 = some (.getfield 56) := by decide +kernel
theorem i_106_53 : ins 106 53 = some (.iload_n 1) := by decide +kernel
theorem i_106_54 : ins 106 54 = some (.iload_n 2) := by decide +kernel
theorem i_106_55 : ins 106 55 = some (.iload_n 3) := by decide +kernel
theorem i_106_56 : ins 106 56 = some (.iload 4) := by decide +kernel
theorem i_106_58 : ins 106 58 = some (.ifCond .ne 7) := by decide +kernel
theorem i_106_61 : ins 106 61 = some (.iconst 1) := by decide +kernel
theorem i_106_62 : ins 106 62 = some (.goto 4) := by decide +kernel
theorem i_106_65 : ins 106 65 = some (.iconst 0) := by decide +kernel
theorem i_106_66 : ins 106 66 = some (.invokevirtual 244) := by decide +kernel
theorem i_106_69 : ins 106 69 = some (.ireturn) := by decide +kernel
theorem o_107 : mOwn 107 = 7 := rfl
theorem i_107_0 : ins 107 0 = some (.aload_n 0) := by decide +kernel
theorem i_107_1 : ins 107 1 = some (.getfield 153) := by decide +kernel
theorem i_107_4 : ins 107 4 = some (.ifCond .ne 6) := by decide +kernel
theorem i_107_7 : ins 107 7 = some (.ldc 160) := by decide +kernel
theorem i_107_9 : ins 107 9 = some (.ireturn) := by decide +kernel
theorem i_107_10 : ins 107 10 = some (.iload_n 1) := by decide +kernel
theorem i_107_11 : ins 107 11 = some (.iconst 1) := by decide +kernel
theorem i_107_12 : ins 107 12 = some (.if_icmp .lt 17) := by decide +kernel
theorem i_107_15 : ins 107 15 = some (.iload_n 1) := by decide +kernel
theorem i_107_16 : ins 107 16 = some (.bipush 9) := by decide +kernel
theorem i_107_18 : ins 107 18 = some (.if_icmp .gt 11) := by decide +kernel
theorem i_107_21 : ins 107 21 = some (.iload_n 2) := by decide +kernel
theorem i_107_22 : ins 107 22 = some (.iconst 1) := by decide +kernel
theorem i_107_23 : ins 107 23 = some (.invokestatic 119) := by decide +kernel
theorem i_107_26 : ins 107 26 = some (.ifCond .ne 6) := by decide +kernel
theorem i_107_29 : ins 107 29 = some (.ldc 86) := by decide +kernel
theorem i_107_31 : ins 107 31 = some (.ireturn) := by decide +kernel
theorem i_107_32 : ins 107 32 = some (.aload_n 0) := by decide +kernel
theorem i_107_33 : ins 107 33 = some (.getfield 56) := by decide +kernel
theorem i_107_36 : ins 107 36 = some (.iload_n 1) := by decide +kernel
theorem i_107_37 : ins 107 37 = some (.iload_n 2) := by decide +kernel
theorem i_107_38 : ins 107 38 = some (.ifCond .ne 7) := by decide +kernel
theorem i_107_41 : ins 107 41 = some (.iconst 1) := by decide +kernel
theorem i_107_42 : ins 107 42 = some (.goto 4) := by decide +kernel
theorem i_107_45 : ins 107 45 = some (.iconst 0) := by decide +kernel
theorem i_107_46 : ins 107 46 = some (.invokevirtual 248) := by decide +kernel
theorem i_107_49 : ins 107 49 = some (.ireturn) := by decide +kernel
theorem o_108 : mOwn 108 = 7 := rfl
theorem i_108_0 : ins 108 0 = some (.aload_n 0) := by decide +kernel
theorem i_108_1 : ins 108 1 = some (.getfield 153) := by decide +kernel
theorem i_108_4 : ins 108 4 = some (.ifCond .ne 6) := by decide +kernel
theorem i_108_7 : ins 108 7 = some (.ldc 160) := by decide +kernel
theorem i_108_9 : ins 108 9 = some (.ireturn) := by decide +kernel
theorem i_108_10 : ins 108 10 = some (.iload_n 1) := by decide +kernel
theorem i_108_11 : ins 108 11 = some (.invokestatic 79) := by decide +kernel
theorem i_108_14 : ins 108 14 = some (.ifCond .eq 12) := by decide +kernel
theorem i_108_17 : ins 108 17 = some (.iload_n 3) := by decide +kernel
theorem i_108_18 : ins 108 18 = some (.bipush 16) := by decide +kernel
theorem i_108_20 : ins 108 20 = some (.invokestatic 119) := by decide +kernel
theorem i_108_23 : ins 108 23 = some (.ifCond .ne 6) := by decide +kernel
theorem i_108_26 : ins 108 26 = some (.ldc 86) := by decide +kernel
theorem i_108_28 : ins 108 28 = some (.ireturn) := by decide +kernel
theorem i_108_29 : ins 108 29 = some (.aload_n 0) := by decide +kernel
theorem i_108_30 : ins 108 30 = some (.getfield 10) := by decide +kernel
theorem i_108_33 : ins 108 33 = some (.iload_n 1) := by decide +kernel
theorem i_108_34 : ins 108 34 = some (.invokevirtual 98) := by decide +kernel
theorem i_108_37 : ins 108 37 = some (.ifCond .eq 9) := by decide +kernel
theorem i_108_40 : ins 108 40 = some (.aload_n 0) := by decide +kernel
theorem i_108_41 : ins 108 41 = some (.iconst 1) := by decide +kernel
theorem i_108_42 : ins 108 42 = some (.invokevirtual 87) := by decide +kernel
theorem i_108_45 : ins 108 45 = some (.ireturn) := by decide +kernel
theorem i_108_46 : ins 108 46 = some (.aload_n 0) := by decide +kernel
theorem i_108_47 : ins 108 47 = some (.getfield 10) := by decide +kernel
theorem i_108_50 : ins 108 50 = some (.iload_n 1) := by decide +kernel
theorem i_108_51 : ins 108 51 = some (.iload_n 2) := by decide +kernel
theorem i_108_52 : ins 108 52 = some (.iload_n 3) := by decide +kernel
theorem i_108_53 : ins 108 53 = some (.invokevirtual 101) := by decide +kernel
theorem i_108_56 : ins 108 56 = some (.ifCond .ne 9) := by decide +kernel
theorem i_108_59 : ins 108 59 = some (.aload_n 0) := by decide +kernel
theorem i_108_60 : ins 108 60 = some (.iconst 2) := by decide +kernel
theorem i_108_61 : ins 108 61 = some (.invokevirtual 87) := by decide +kernel
theorem i_108_64 : ins 108 64 = some (.ireturn) := by decide +kernel
theorem i_108_65 : ins 108 65 = some (.iconst 0) := by decide +kernel
theorem i_108_66 : ins 108 66 = some (.istore 4) := by decide +kernel
theorem i_108_68 : ins 108 68 = some (.iload 4) := by decide +kernel
theorem i_108_70 : ins 108 70 = some (.iload_n 3) := by decide +kernel
theorem i_108_71 : ins 108 71 = some (.if_icmp .ge 47) := by decide +kernel
theorem i_108_74 : ins 108 74 = some (.aload_n 0) := by decide +kernel
theorem i_108_75 : ins 108 75 = some (.getfield 10) := by decide +kernel
theorem i_108_78 : ins 108 78 = some (.iload_n 1) := by decide +kernel
theorem i_108_79 : ins 108 79 = some (.iload_n 2) := by decide +kernel
theorem i_108_80 : ins 108 80 = some (.iload 4) := by decide +kernel
theorem i_108_82 : ins 108 82 = some (.iadd) := by decide +kernel
theorem i_108_83 : ins 108 83 = some (.invokevirtual 251) := by decide +kernel
theorem i_108_86 : ins 108 86 = some (.istore 5) := by decide +kernel
theorem i_108_88 : ins 108 88 = some (.aload_n 0) := by decide +kernel
theorem i_108_89 : ins 108 89 = some (.iload 5) := by decide +kernel
theorem i_108_91 : ins 108 91 = some (.invokevirtual 175) := by decide +kernel
theorem i_108_94 : ins 108 94 = some (.ifCond .ne 6) := by decide +kernel
theorem i_108_97 : ins 108 97 = some (.ldc 86) := by decide +kernel
theorem i_108_99 : ins 108 99 = some (.ireturn) := by decide +kernel
theorem i_108_100 : ins 108 100 = some (.aload_n 0) := by decide +kernel
theorem i_108_101 : ins 108 101 = some (.getfield 56) := by decide +kernel
theorem i_108_104 : ins 108 104 = some (.getfield 254) := by decide +kernel
theorem i_108_107 : ins 108 107 = some (.iload 4) := by decide +kernel
theorem i_108_109 : ins 108 109 = some (.iload 5) := by decide +kernel
theorem i_108_111 : ins 108 111 = some (.iastore) := by decide +kernel
theorem i_108_112 : ins 108 112 = some (.iinc 4 1) := by decide +kernel
theorem i_108_115 : ins 108 115 = some (.goto (-47)) := by decide +kernel
theorem i_108_118 : ins 108 118 = some (.aload_n 0) := by decide +kernel
theorem i_108_119 : ins 108 119 = some (.aload_n 0) := by decide +kernel
theorem i_108_120 : ins 108 120 = some (.getfield 56) := by decide +kernel
theorem i_108_123 : ins 108 123 = some (.iload_n 3) := by decide +kernel
theorem i_108_124 : ins 108 124 = some (.invokevirtual 257) := by decide +kernel
theorem i_108_127 : ins 108 127 = some (.invokevirtual 95) := by decide +kernel
theorem i_108_130 : ins 108 130 = some (.ireturn) := by decide +kernel
theorem o_109 : mOwn 109 = 7 := rfl
theorem i_109_0 : ins 109 0 = some (.iload_n 1) := by decide +kernel
theorem i_109_1 : ins 109 1 = some (.iconst 1) := by decide +kernel
theorem i_109_2 : ins 109 2 = some (.invokestatic 119) := by decide +kernel
theorem i_109_5 : ins 109 5 = some (.ifCond .ne 6) := by decide +kernel
theorem i_109_8 : ins 109 8 = some (.ldc 86) := by decide +kernel
theorem i_109_10 : ins 109 10 = some (.ireturn) := by decide +kernel
theorem i_109_11 : ins 109 11 = some (.aload_n 0) := by decide +kernel
theorem i_109_12 : ins 109 12 = some (.getfield 153) := by decide +kernel
theorem i_109_15 : ins 109 15 = some (.ifCond .ne 6) := by decide +kernel
theorem i_109_18 : ins 109 18 = some (.ldc 160) := by decide +kernel
theorem i_109_20 : ins 109 20 = some (.ireturn) := by decide +kernel
theorem i_109_21 : ins 109 21 = some (.aload_n 0) := by decide +kernel
theorem i_109_22 : ins 109 22 = some (.getfield 67) := by decide +kernel
theorem i_109_25 : ins 109 25 = some (.iload_n 1) := by decide +kernel
theorem i_109_26 : ins 109 26 = some (.aaload) := by decide +kernel
theorem i_109_27 : ins 109 27 = some (.aload_n 0) := by decide +kernel
theorem i_109_28 : ins 109 28 = some (.getfield 30) := by decide +kernel
theorem i_109_31 : ins 109 31 = some (.invokevirtual 144) := by decide +kernel
theorem i_109_34 : ins 109 34 = some (.aload_n 0) := by decide +kernel
theorem i_109_35 : ins 109 35 = some (.getfield 71) := by decide +kernel
theorem i_109_38 : ins 109 38 = some (.iload_n 1) := by decide +kernel
theorem i_109_39 : ins 109 39 = some (.aaload) := by decide +kernel
theorem i_109_40 : ins 109 40 = some (.aload_n 0) := by decide +kernel
theorem i_109_41 : ins 109 41 = some (.getfield 38) := by decide +kernel
theorem i_109_44 : ins 109 44 = some (.invokevirtual 260) := by decide +kernel
theorem i_109_47 : ins 109 47 = some (.aload_n 0) := by decide +kernel
theorem i_109_48 : ins 109 48 = some (.getfield 75) := by decide +kernel
theorem i_109_51 : ins 109 51 = some (.iload_n 1) := by decide +kernel
theorem i_109_52 : ins 109 52 = some (.iconst 1) := by decide +kernel
theorem i_109_53 : ins 109 53 = some (.bastore) := by decide +kernel
theorem i_109_54 : ins 109 54 = some (.iconst 1) := by decide +kernel
theorem i_109_55 : ins 109 55 = some (.ireturn) := by decide +kernel
theorem o_110 : mOwn 110 = 7 := rfl
theorem i_110_0 : ins 110 0 = some (.iload_n 1) := by decide +kernel
theorem i_110_1 : ins 110 1 = some (.iconst 1) := by decide +kernel
theorem i_110_2 : ins 110 2 = some (.invokestatic 119) := by decide +kernel
theorem i_110_5 : ins 110 5 = some (.ifCond .ne 6) := by decide +kernel
theorem i_110_8 : ins 110 8 = some (.ldc 86) := by decide +kernel
theorem i_110_10 : ins 110 10 = some (.ireturn) := by decide +kernel
theorem i_110_11 : ins 110 11 = some (.aload_n 0) := by decide +kernel
theorem i_110_12 : ins 110 12 = some (.getfield 75) := by decide +kernel
theorem i_110_15 : ins 110 15 = some (.iload_n 1) := by decide +kernel
theorem i_110_16 : ins 110 16 = some (.baload) := by decide +kernel
theorem i_110_17 : ins 110 17 = some (.ifCond .ne 6) := by decide +kernel
theorem i_110_20 : ins 110 20 = some (.ldc 160) := by decide +kernel
theorem i_110_22 : ins 110 22 = some (.ireturn) := by decide +kernel
theorem i_110_23 : ins 110 23 = some (.aload_n 0) := by decide +kernel
theorem i_110_24 : ins 110 24 = some (.getfield 30) := by decide +kernel
theorem i_110_27 : ins 110 27 = some (.aload_n 0) := by decide +kernel
theorem i_110_28 : ins 110 28 = some (.getfield 67) := by decide +kernel
theorem i_110_31 : ins 110 31 = some (.iload_n 1) := by decide +kernel
theorem i_110_32 : ins 110 32 = some (.aaload) := by decide +kernel
theorem i_110_33 : ins 110 33 = some (.invokevirtual 144) := by decide +kernel
theorem i_110_36 : ins 110 36 = some (.aload_n 0) := by decide +kernel
theorem i_110_37 : ins 110 37 = some (.getfield 38) := by decide +kernel
theorem i_110_40 : ins 110 40 = some (.aload_n 0) := by decide +kernel
theorem i_110_41 : ins 110 41 = some (.getfield 71) := by decide +kernel
theorem i_110_44 : ins 110 44 = some (.iload_n 1) := by decide +kernel
theorem i_110_45 : ins 110 45 = some (.aaload) := by decide +kernel
theorem i_110_46 : ins 110 46 = some (.invokevirtual 260) := by decide +kernel
theorem i_110_49 : ins 110 49 = some (.aload_n 0) := by decide +kernel
theorem i_110_50 : ins 110 50 = some (.getfield 47) := by decide +kernel
theorem i_110_53 : ins 110 53 = some (.invokevirtual 150) := by decide +kernel
theorem i_110_56 : ins 110 56 = some (.iconst 1) := by decide +kernel
theorem i_110_57 : ins 110 57 = some (.ireturn) := by decide +kernel
theorem o_111 : mOwn 111 = 7 := rfl
theorem i_111_0 : ins 111 0 = some (.aload_n 0) := by decide +kernel
theorem i_111_1 : ins 111 1 = some (.iload_n 1) := by decide +kernel
theorem i_111_2 : ins 111 2 = some (.invokevirtual 175) := by decide +kernel
theorem i_111_5 : ins 111 5 = some (.ifCond .eq 15) := by decide +kernel
theorem i_111_8 : ins 111 8 = some (.aload_n 0) := by decide +kernel
theorem i_111_9 : ins 111 9 = some (.getfield 30) := by decide +kernel
theorem i_111_12 : ins 111 12 = some (.getfield 262) := by decide +kernel
theorem i_111_15 : ins 111 15 = some (.iload_n 1) := by decide +kernel
theorem i_111_16 : ins 111 16 = some (.iaload) := by decide +kernel
theorem i_111_17 : ins 111 17 = some (.goto 5) := by decide +kernel
theorem i_111_20 : ins 111 20 = some (.ldc 86) := by decide +kernel
theorem i_111_22 : ins 111 22 = some (.ireturn) := by decide +kernel
theorem o_112 : mOwn 112 = 7 := rfl
theorem i_112_0 : ins 112 0 = some (.aload_n 0) := by decide +kernel
theorem i_112_1 : ins 112 1 = some (.iload_n 1) := by decide +kernel
theorem i_112_2 : ins 112 2 = some (.invokevirtual 175) := by decide +kernel
theorem i_112_5 : ins 112 5 = some (.ifCond .eq 11) := by decide +kernel
theorem i_112_8 : ins 112 8 = some (.iload_n 2) := by decide +kernel
theorem i_112_9 : ins 112 9 = some (.iconst 5) := by decide +kernel
theorem i_112_10 : ins 112 10 = some (.invokestatic 119) := by decide +kernel
theorem i_112_13 : ins 112 13 = some (.ifCond .ne 6) := by decide +kernel
theorem i_112_16 : ins 112 16 = some (.ldc 86) := by decide +kernel
theorem i_112_18 : ins 112 18 = some (.ireturn) := by decide +kernel
theorem i_112_19 : ins 112 19 = some (.aload_n 0) := by decide +kernel
theorem i_112_20 : ins 112 20 = some (.getfield 30) := by decide +kernel
theorem i_112_23 : ins 112 23 = some (.getfield 262) := by decide +kernel
theorem i_112_26 : ins 112 26 = some (.iload_n 1) := by decide +kernel
theorem i_112_27 : ins 112 27 = some (.iaload) := by decide +kernel
theorem i_112_28 : ins 112 28 = some (.iload_n 2) := by decide +kernel
theorem i_112_29 : ins 112 29 = some (.invokestatic 265) := by decide +kernel
theorem i_112_32 : ins 112 32 = some (.ifCond .eq 11) := by decide +kernel
theorem i_112_35 : ins 112 35 = some (.aload_n 0) := by decide +kernel
theorem i_112_36 : ins 112 36 = some (.iload_n 1) := by decide +kernel
theorem i_112_37 : ins 112 37 = some (.invokevirtual 95) := by decide +kernel
theorem i_112_40 : ins 112 40 = some (.goto 8) := by decide +kernel
theorem i_112_43 : ins 112 43 = some (.aload_n 0) := by decide +kernel
theorem i_112_44 : ins 112 44 = some (.iconst 3) := by decide +kernel
theorem i_112_45 : ins 112 45 = some (.invokevirtual 87) := by decide +kernel
theorem i_112_48 : ins 112 48 = some (.ireturn) := by decide +kernel
theorem o_113 : mOwn 113 = 7 := rfl
theorem i_113_0 : ins 113 0 = some (.aload_n 0) := by decide +kernel
theorem i_113_1 : ins 113 1 = some (.iload_n 1) := by decide +kernel
theorem i_113_2 : ins 113 2 = some (.invokevirtual 175) := by decide +kernel
theorem i_113_5 : ins 113 5 = some (.ifCond .eq 11) := by decide +kernel
theorem i_113_8 : ins 113 8 = some (.iload_n 2) := by decide +kernel
theorem i_113_9 : ins 113 9 = some (.iconst 1) := by decide +kernel
theorem i_113_10 : ins 113 10 = some (.invokestatic 119) := by decide +kernel
theorem i_113_13 : ins 113 13 = some (.ifCond .ne 6) := by decide +kernel
theorem i_113_16 : ins 113 16 = some (.ldc 86) := by decide +kernel
theorem i_113_18 : ins 113 18 = some (.ireturn) := by decide +kernel
theorem i_113_19 : ins 113 19 = some (.aload_n 0) := by decide +kernel
theorem i_113_20 : ins 113 20 = some (.getfield 63) := by decide +kernel
theorem i_113_23 : ins 113 23 = some (.iload_n 1) := by decide +kernel
theorem i_113_24 : ins 113 24 = some (.iload_n 2) := by decide +kernel
theorem i_113_25 : ins 113 25 = some (.invokevirtual 268) := by decide +kernel
theorem i_113_28 : ins 113 28 = some (.ireturn) := by decide +kernel
theorem o_114 : mOwn 114 = 7 := rfl
theorem i_114_0 : ins 114 0 = some (.aload_n 0) := by decide +kernel
theorem i_114_1 : ins 114 1 = some (.getfield 63) := by decide +kernel
theorem i_114_4 : ins 114 4 = some (.iload_n 1) := by decide +kernel
theorem i_114_5 : ins 114 5 = some (.invokevirtual 270) := by decide +kernel
theorem i_114_8 : ins 114 8 = some (.ireturn) := by decide +kernel
theorem o_115 : mOwn 115 = 7 := rfl
theorem i_115_0 : ins 115 0 = some (.iload_n 1) := by decide +kernel
theorem i_115_1 : ins 115 1 = some (.tableswitch 131 0 8 #[51, 59, 67, 83, 91, 99, 107, 115, 123]) := by decide +kernel
theorem i_115_52 : ins 115 52 = some (.aload_n 0) := by decide +kernel
theorem i_115_53 : ins 115 53 = some (.getfield 10) := by decide +kernel
theorem i_115_56 : ins 115 56 = some (.invokevirtual 273) := by decide +kernel
theorem i_115_59 : ins 115 59 = some (.ireturn) := by decide +kernel
theorem i_115_60 : ins 115 60 = some (.aload_n 0) := by decide +kernel
theorem i_115_61 : ins 115 61 = some (.getfield 30) := by decide +kernel
theorem i_115_64 : ins 115 64 = some (.getfield 157) := by decide +kernel
theorem i_115_67 : ins 115 67 = some (.ireturn) := by decide +kernel
theorem i_115_68 : ins 115 68 = some (.aload_n 0) := by decide +kernel
theorem i_115_69 : ins 115 69 = some (.getfield 30) := by decide +kernel
theorem i_115_72 : ins 115 72 = some (.getfield 157) := by decide +kernel
theorem i_115_75 : ins 115 75 = some (.aload_n 0) := by decide +kernel
theorem i_115_76 : ins 115 76 = some (.getfield 30) := by decide +kernel
theorem i_115_79 : ins 115 79 = some (.getfield 276) := by decide +kernel
theorem i_115_82 : ins 115 82 = some (.isub) := by decide +kernel
theorem i_115_83 : ins 115 83 = some (.ireturn) := by decide +kernel
theorem i_115_84 : ins 115 84 = some (.aload_n 0) := by decide +kernel
theorem i_115_85 : ins 115 85 = some (.getfield 38) := by decide +kernel
theorem i_115_88 : ins 115 88 = some (.getfield 161) := by decide +kernel
theorem i_115_91 : ins 115 91 = some (.ireturn) := by decide +kernel
theorem i_115_92 : ins 115 92 = some (.aload_n 0) := by decide +kernel
theorem i_115_93 : ins 115 93 = some (.getfield 38) := by decide +kernel
theorem i_115_96 : ins 115 96 = some (.getfield 172) := by decide +kernel
theorem i_115_99 : ins 115 99 = some (.ireturn) := by decide +kernel
theorem i_115_100 : ins 115 100 = some (.aload_n 0) := by decide +kernel
theorem i_115_101 : ins 115 101 = some (.getfield 38) := by decide +kernel
theorem i_115_104 : ins 115 104 = some (.getfield 196) := by decide +kernel
theorem i_115_107 : ins 115 107 = some (.ireturn) := by decide +kernel
theorem i_115_108 : ins 115 108 = some (.aload_n 0) := by decide +kernel
theorem i_115_109 : ins 115 109 = some (.getfield 38) := by decide +kernel
theorem i_115_112 : ins 115 112 = some (.getfield 199) := by decide +kernel
theorem i_115_115 : ins 115 115 = some (.ireturn) := by decide +kernel
theorem i_115_116 : ins 115 116 = some (.aload_n 0) := by decide +kernel
theorem i_115_117 : ins 115 117 = some (.getfield 47) := by decide +kernel
theorem i_115_120 : ins 115 120 = some (.invokevirtual 202) := by decide +kernel
theorem i_115_123 : ins 115 123 = some (.ireturn) := by decide +kernel
theorem i_115_124 : ins 115 124 = some (.aload_n 0) := by decide +kernel
theorem i_115_125 : ins 115 125 = some (.getfield 19) := by decide +kernel
theorem i_115_128 : ins 115 128 = some (.invokevirtual 279) := by decide +kernel
theorem i_115_131 : ins 115 131 = some (.ireturn) := by decide +kernel
theorem i_115_132 : ins 115 132 = some (.ldc 86) := by decide +kernel
theorem i_115_134 : ins 115 134 = some (.ireturn) := by decide +kernel
theorem o_116 : mOwn 116 = 7 := rfl
theorem i_116_0 : ins 116 0 = some (.aload_n 0) := by decide +kernel
theorem i_116_1 : ins 116 1 = some (.getfield 282) := by decide +kernel
theorem i_116_4 : ins 116 4 = some (.ireturn) := by decide +kernel
theorem o_117 : mOwn 117 = 7 := rfl
theorem i_117_0 : ins 117 0 = some (.iload_n 0) := by decide +kernel
theorem i_117_1 : ins 117 1 = some (.ifCond .lt 12) := by decide +kernel
theorem i_117_4 : ins 117 4 = some (.iload_n 0) := by decide +kernel
theorem i_117_5 : ins 117 5 = some (.iload_n 1) := by decide +kernel
theorem i_117_6 : ins 117 6 = some (.if_icmp .gt 7) := by decide +kernel
theorem i_117_9 : ins 117 9 = some (.iconst 1) := by decide +kernel
theorem i_117_10 : ins 117 10 = some (.goto 4) := by decide +kernel
theorem i_117_13 : ins 117 13 = some (.iconst 0) := by decide +kernel
theorem i_117_14 : ins 117 14 = some (.ireturn) := by decide +kernel
theorem o_118 : mOwn 118 = 7 := rfl
theorem i_118_0 : ins 118 0 = some (.iload_n 1) := by decide +kernel
theorem i_118_1 : ins 118 1 = some (.ifCond .lt 18) := by decide +kernel
theorem i_118_4 : ins 118 4 = some (.iload_n 1) := by decide +kernel
theorem i_118_5 : ins 118 5 = some (.aload_n 0) := by decide +kernel
theorem i_118_6 : ins 118 6 = some (.getfield 30) := by decide +kernel
theorem i_118_9 : ins 118 9 = some (.getfield 157) := by decide +kernel
theorem i_118_12 : ins 118 12 = some (.if_icmp .ge 7) := by decide +kernel
theorem i_118_15 : ins 118 15 = some (.iconst 1) := by decide +kernel
theorem i_118_16 : ins 118 16 = some (.goto 4) := by decide +kernel
theorem i_118_19 : ins 118 19 = some (.iconst 0) := by decide +kernel
theorem i_118_20 : ins 118 20 = some (.ireturn) := by decide +kernel
theorem o_119 : mOwn 119 = 7 := rfl
theorem i_119_0 : ins 119 0 = some (.aload_n 0) := by decide +kernel
theorem i_119_1 : ins 119 1 = some (.iload_n 1) := by decide +kernel
theorem i_119_2 : ins 119 2 = some (.putfield 282) := by decide +kernel
theorem i_119_5 : ins 119 5 = some (.ldc_w 285) := by decide +kernel
theorem i_119_8 : ins 119 8 = some (.iload_n 1) := by decide +kernel
theorem i_119_9 : ins 119 9 = some (.isub) := by decide +kernel
theorem i_119_10 : ins 119 10 = some (.ireturn) := by decide +kernel
theorem o_120 : mOwn 120 = 7 := rfl
theorem i_120_0 : ins 120 0 = some (.aload_n 0) := by decide +kernel
theorem i_120_1 : ins 120 1 = some (.iconst 0) := by decide +kernel
theorem i_120_2 : ins 120 2 = some (.putfield 282) := by decide +kernel
theorem i_120_5 : ins 120 5 = some (.iload_n 1) := by decide +kernel
theorem i_120_6 : ins 120 6 = some (.ireturn) := by decide +kernel
