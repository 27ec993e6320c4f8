theorem o_0 : mOwn 0 = 0 := rfl
theorem i_0_0 : ins 0 0 = some (.aload_n 0) := by decide +kernel
theorem i_0_1 : ins 0 1 = some (.invokespecial 3) := by decide +kernel
theorem i_0_4 : ins 0 4 = some (.aload_n 0) := by decide +kernel
theorem i_0_5 : ins 0 5 = some (.bipush 24) := by decide +kernel
theorem i_0_7 : ins 0 7 = some (.anewarray 11) := by decide +kernel
theorem i_0_10 : ins 0 10 = some (.putfield 13) := by decide +kernel
theorem i_0_13 : ins 0 13 = some (.iconst 0) := by decide +kernel
theorem i_0_14 : ins 0 14 = some (.istore_n 2) := by decide +kernel
theorem i_0_15 : ins 0 15 = some (.iload_n 2) := by decide +kernel
theorem i_0_16 : ins 0 16 = some (.bipush 24) := by decide +kernel
theorem i_0_18 : ins 0 18 = some (.if_icmp .ge 25) := by decide +kernel
theorem i_0_21 : ins 0 21 = some (.aload_n 0) := by decide +kernel
theorem i_0_22 : ins 0 22 = some (.getfield 13) := by decide +kernel
theorem i_0_25 : ins 0 25 = some (.iload_n 2) := by decide +kernel
theorem i_0_26 : ins 0 26 = some (.new 11) := by decide +kernel
theorem i_0_29 : ins 0 29 = some (.dup) := by decide +kernel
theorem i_0_30 : ins 0 30 = some (.aload_n 1) := by decide +kernel
theorem i_0_31 : ins 0 31 = some (.bipush 16) := by decide +kernel
theorem i_0_33 : ins 0 33 = some (.invokespecial 17) := by decide +kernel
theorem i_0_36 : ins 0 36 = some (.aastore) := by decide +kernel
theorem i_0_37 : ins 0 37 = some (.iinc 2 1) := by decide +kernel
theorem i_0_40 : ins 0 40 = some (.goto (-25)) := by decide +kernel
theorem i_0_43 : ins 0 43 = some (.return_) := by decide +kernel
theorem o_1 : mOwn 1 = 0 := rfl
theorem i_1_0 : ins 1 0 = some (.aload_n 0) := by decide +kernel
theorem i_1_1 : ins 1 1 = some (.getfield 20) := by decide +kernel
theorem i_1_4 : ins 1 4 = some (.ireturn) := by decide +kernel
theorem o_2 : mOwn 2 = 0 := rfl
theorem i_2_0 : ins 2 0 = some (.aload_n 0) := by decide +kernel
theorem i_2_1 : ins 2 1 = some (.iconst 0) := by decide +kernel
theorem i_2_2 : ins 2 2 = some (.putfield 20) := by decide +kernel
theorem i_2_5 : ins 2 5 = some (.return_) := by decide +kernel
theorem o_3 : mOwn 3 = 0 := rfl
theorem i_3_0 : ins 3 0 = some (.aload_n 0) := by decide +kernel
theorem i_3_1 : ins 3 1 = some (.getfield 13) := by decide +kernel
theorem i_3_4 : ins 3 4 = some (.aload_n 0) := by decide +kernel
theorem i_3_5 : ins 3 5 = some (.getfield 24) := by decide +kernel
theorem i_3_8 : ins 3 8 = some (.aaload) := by decide +kernel
theorem i_3_9 : ins 3 9 = some (.aload_n 1) := by decide +kernel
theorem i_3_10 : ins 3 10 = some (.invokevirtual 27) := by decide +kernel
theorem i_3_13 : ins 3 13 = some (.aload_n 0) := by decide +kernel
theorem i_3_14 : ins 3 14 = some (.aload_n 0) := by decide +kernel
theorem i_3_15 : ins 3 15 = some (.getfield 24) := by decide +kernel
theorem i_3_18 : ins 3 18 = some (.iconst 1) := by decide +kernel
theorem i_3_19 : ins 3 19 = some (.iadd) := by decide +kernel
theorem i_3_20 : ins 3 20 = some (.bipush 24) := by decide +kernel
theorem i_3_22 : ins 3 22 = some (.if_icmp .ge 12) := by decide +kernel
theorem i_3_25 : ins 3 25 = some (.aload_n 0) := by decide +kernel
theorem i_3_26 : ins 3 26 = some (.getfield 24) := by decide +kernel
theorem i_3_29 : ins 3 29 = some (.iconst 1) := by decide +kernel
theorem i_3_30 : ins 3 30 = some (.iadd) := by decide +kernel
theorem i_3_31 : ins 3 31 = some (.goto 4) := by decide +kernel
theorem i_3_34 : ins 3 34 = some (.iconst 0) := by decide +kernel
theorem i_3_35 : ins 3 35 = some (.putfield 24) := by decide +kernel
theorem i_3_38 : ins 3 38 = some (.aload_n 0) := by decide +kernel
theorem i_3_39 : ins 3 39 = some (.aload_n 0) := by decide +kernel
theorem i_3_40 : ins 3 40 = some (.getfield 20) := by decide +kernel
theorem i_3_43 : ins 3 43 = some (.iconst 1) := by decide +kernel
theorem i_3_44 : ins 3 44 = some (.iadd) := by decide +kernel
theorem i_3_45 : ins 3 45 = some (.bipush 24) := by decide +kernel
theorem i_3_47 : ins 3 47 = some (.invokestatic 31) := by decide +kernel
theorem i_3_50 : ins 3 50 = some (.putfield 20) := by decide +kernel
theorem i_3_53 : ins 3 53 = some (.return_) := by decide +kernel
theorem o_4 : mOwn 4 = 0 := rfl
theorem i_4_0 : ins 4 0 = some (.aload_n 0) := by decide +kernel
theorem i_4_1 : ins 4 1 = some (.aload_n 0) := by decide +kernel
theorem i_4_2 : ins 4 2 = some (.getfield 24) := by decide +kernel
theorem i_4_5 : ins 4 5 = some (.ifCond .le 12) := by decide +kernel
theorem i_4_8 : ins 4 8 = some (.aload_n 0) := by decide +kernel
theorem i_4_9 : ins 4 9 = some (.getfield 24) := by decide +kernel
theorem i_4_12 : ins 4 12 = some (.iconst 1) := by decide +kernel
theorem i_4_13 : ins 4 13 = some (.isub) := by decide +kernel
theorem i_4_14 : ins 4 14 = some (.goto 5) := by decide +kernel
theorem i_4_17 : ins 4 17 = some (.bipush 23) := by decide +kernel
theorem i_4_19 : ins 4 19 = some (.putfield 24) := by decide +kernel
theorem i_4_22 : ins 4 22 = some (.aload_n 0) := by decide +kernel
theorem i_4_23 : ins 4 23 = some (.dup) := by decide +kernel
theorem i_4_24 : ins 4 24 = some (.getfield 20) := by decide +kernel
theorem i_4_27 : ins 4 27 = some (.iconst 1) := by decide +kernel
theorem i_4_28 : ins 4 28 = some (.isub) := by decide +kernel
theorem i_4_29 : ins 4 29 = some (.putfield 20) := by decide +kernel
theorem i_4_32 : ins 4 32 = some (.aload_n 1) := by decide +kernel
theorem i_4_33 : ins 4 33 = some (.aload_n 0) := by decide +kernel
theorem i_4_34 : ins 4 34 = some (.getfield 13) := by decide +kernel
theorem i_4_37 : ins 4 37 = some (.aload_n 0) := by decide +kernel
theorem i_4_38 : ins 4 38 = some (.getfield 24) := by decide +kernel
theorem i_4_41 : ins 4 41 = some (.aaload) := by decide +kernel
theorem i_4_42 : ins 4 42 = some (.invokevirtual 27) := by decide +kernel
theorem i_4_45 : ins 4 45 = some (.return_) := by decide +kernel
theorem o_5 : mOwn 5 = 1 := rfl
theorem i_5_0 : ins 5 0 = some (.aload_n 0) := by decide +kernel
theorem i_5_1 : ins 5 1 = some (.invokespecial 3) := by decide +kernel
theorem i_5_4 : ins 5 4 = some (.aload_n 0) := by decide +kernel
theorem i_5_5 : ins 5 5 = some (.bipush 16) := by decide +kernel
theorem i_5_7 : ins 5 7 = some (.newarray .int) := by decide +kernel
theorem i_5_9 : ins 5 9 = some (.putfield 11) := by decide +kernel
theorem i_5_12 : ins 5 12 = some (.aload_n 0) := by decide +kernel
theorem i_5_13 : ins 5 13 = some (.aload_n 1) := by decide +kernel
theorem i_5_14 : ins 5 14 = some (.putfield 15) := by decide +kernel
theorem i_5_17 : ins 5 17 = some (.aload_n 0) := by decide +kernel
theorem i_5_18 : ins 5 18 = some (.aload_n 2) := by decide +kernel
theorem i_5_19 : ins 5 19 = some (.putfield 19) := by decide +kernel
theorem i_5_22 : ins 5 22 = some (.return_) := by decide +kernel
theorem o_6 : mOwn 6 = 1 := rfl
theorem i_6_0 : ins 6 0 = some (.iload_n 0) := by decide +kernel
theorem i_6_1 : ins 6 1 = some (.istore_n 2) := by decide +kernel
theorem i_6_2 : ins 6 2 = some (.iconst 0) := by decide +kernel
theorem i_6_3 : ins 6 3 = some (.istore_n 3) := by decide +kernel
theorem i_6_4 : ins 6 4 = some (.iload_n 3) := by decide +kernel
theorem i_6_5 : ins 6 5 = some (.bipush 6) := by decide +kernel
theorem i_6_7 : ins 6 7 = some (.if_icmp .ge 26) := by decide +kernel
theorem i_6_10 : ins 6 10 = some (.iload_n 2) := by decide +kernel
theorem i_6_11 : ins 6 11 = some (.ifCond .lt 22) := by decide +kernel
theorem i_6_14 : ins 6 14 = some (.iload_n 2) := by decide +kernel
theorem i_6_15 : ins 6 15 = some (.iload_n 1) := by decide +kernel
theorem i_6_16 : ins 6 16 = some (.if_icmp .ne 5) := by decide +kernel
theorem i_6_19 : ins 6 19 = some (.iconst 1) := by decide +kernel
theorem i_6_20 : ins 6 20 = some (.ireturn) := by decide +kernel
theorem i_6_21 : ins 6 21 = some (.getstatic 23) := by decide +kernel
theorem i_6_24 : ins 6 24 = some (.iload_n 2) := by decide +kernel
theorem i_6_25 : ins 6 25 = some (.iaload) := by decide +kernel
theorem i_6_26 : ins 6 26 = some (.istore_n 2) := by decide +kernel
theorem i_6_27 : ins 6 27 = some (.iinc 3 1) := by decide +kernel
theorem i_6_30 : ins 6 30 = some (.goto (-26)) := by decide +kernel
theorem i_6_33 : ins 6 33 = some (.iconst 0) := by decide +kernel
theorem i_6_34 : ins 6 34 = some (.ireturn) := by decide +kernel
theorem o_7 : mOwn 7 = 1 := rfl
theorem i_7_0 : ins 7 0 = some (.iload_n 1) := by decide +kernel
theorem i_7_1 : ins 7 1 = some (.ifCond .lt 20) := by decide +kernel
theorem i_7_4 : ins 7 4 = some (.iload_n 1) := by decide +kernel
theorem i_7_5 : ins 7 5 = some (.aload_n 0) := by decide +kernel
theorem i_7_6 : ins 7 6 = some (.getfield 26) := by decide +kernel
theorem i_7_9 : ins 7 9 = some (.if_icmp .ge 12) := by decide +kernel
theorem i_7_12 : ins 7 12 = some (.aload_n 0) := by decide +kernel
theorem i_7_13 : ins 7 13 = some (.getfield 11) := by decide +kernel
theorem i_7_16 : ins 7 16 = some (.iload_n 1) := by decide +kernel
theorem i_7_17 : ins 7 17 = some (.iaload) := by decide +kernel
theorem i_7_18 : ins 7 18 = some (.goto 5) := by decide +kernel
theorem i_7_21 : ins 7 21 = some (.ldc 30) := by decide +kernel
theorem i_7_23 : ins 7 23 = some (.ireturn) := by decide +kernel
theorem o_8 : mOwn 8 = 1 := rfl
theorem i_8_0 : ins 8 0 = some (.aload_n 0) := by decide +kernel
theorem i_8_1 : ins 8 1 = some (.iconst 0) := by decide +kernel
theorem i_8_2 : ins 8 2 = some (.putfield 26) := by decide +kernel
theorem i_8_5 : ins 8 5 = some (.aload_n 0) := by decide +kernel
theorem i_8_6 : ins 8 6 = some (.iload_n 1) := by decide +kernel
theorem i_8_7 : ins 8 7 = some (.iload_n 2) := by decide +kernel
theorem i_8_8 : ins 8 8 = some (.iconst 0) := by decide +kernel
theorem i_8_9 : ins 8 9 = some (.invokevirtual 31) := by decide +kernel
theorem i_8_12 : ins 8 12 = some (.ireturn) := by decide +kernel
theorem o_9 : mOwn 9 = 1 := rfl
theorem i_9_0 : ins 9 0 = some (.aload_n 0) := by decide +kernel
theorem i_9_1 : ins 9 1 = some (.getfield 15) := by decide +kernel
theorem i_9_4 : ins 9 4 = some (.getfield 35) := by decide +kernel
theorem i_9_7 : ins 9 7 = some (.iload_n 1) := by decide +kernel
theorem i_9_8 : ins 9 8 = some (.iaload) := by decide +kernel
theorem i_9_9 : ins 9 9 = some (.istore 4) := by decide +kernel
theorem i_9_11 : ins 9 11 = some (.iconst 0) := by decide +kernel
theorem i_9_12 : ins 9 12 = some (.istore 5) := by decide +kernel
theorem i_9_14 : ins 9 14 = some (.iload 5) := by decide +kernel
theorem i_9_16 : ins 9 16 = some (.bipush 6) := by decide +kernel
theorem i_9_18 : ins 9 18 = some (.if_icmp .ge 26) := by decide +kernel
theorem i_9_21 : ins 9 21 = some (.iload 4) := by decide +kernel
theorem i_9_23 : ins 9 23 = some (.iload_n 2) := by decide +kernel
theorem i_9_24 : ins 9 24 = some (.invokestatic 40) := by decide +kernel
theorem i_9_27 : ins 9 27 = some (.ifCond .ne 17) := by decide +kernel
theorem i_9_30 : ins 9 30 = some (.getstatic 23) := by decide +kernel
theorem i_9_33 : ins 9 33 = some (.iload 4) := by decide +kernel
theorem i_9_35 : ins 9 35 = some (.iaload) := by decide +kernel
theorem i_9_36 : ins 9 36 = some (.istore 4) := by decide +kernel
theorem i_9_38 : ins 9 38 = some (.iinc 5 1) := by decide +kernel
theorem i_9_41 : ins 9 41 = some (.goto (-27)) := by decide +kernel
theorem i_9_44 : ins 9 44 = some (.aload_n 0) := by decide +kernel
theorem i_9_45 : ins 9 45 = some (.iload 4) := by decide +kernel
theorem i_9_47 : ins 9 47 = some (.iload_n 2) := by decide +kernel
theorem i_9_48 : ins 9 48 = some (.invokestatic 40) := by decide +kernel
theorem i_9_51 : ins 9 51 = some (.iload_n 1) := by decide +kernel
theorem i_9_52 : ins 9 52 = some (.iload_n 3) := by decide +kernel
theorem i_9_53 : ins 9 53 = some (.iconst 1) := by decide +kernel
theorem i_9_54 : ins 9 54 = some (.iadd) := by decide +kernel
theorem i_9_55 : ins 9 55 = some (.invokevirtual 44) := by decide +kernel
theorem i_9_58 : ins 9 58 = some (.ireturn) := by decide +kernel
theorem o_10 : mOwn 10 = 1 := rfl
theorem i_10_0 : ins 10 0 = some (.iload_n 0) := by decide +kernel
theorem i_10_1 : ins 10 1 = some (.iconst 0) := by decide +kernel
theorem i_10_2 : ins 10 2 = some (.invokestatic 47) := by decide +kernel
theorem i_10_5 : ins 10 5 = some (.istore_n 2) := by decide +kernel
theorem i_10_6 : ins 10 6 = some (.iload_n 1) := by decide +kernel
theorem i_10_7 : ins 10 7 = some (.ifCond .ne 11) := by decide +kernel
theorem i_10_10 : ins 10 10 = some (.getstatic 52) := by decide +kernel
theorem i_10_13 : ins 10 13 = some (.iload_n 2) := by decide +kernel
theorem i_10_14 : ins 10 14 = some (.iaload) := by decide +kernel
theorem i_10_15 : ins 10 15 = some (.goto 8) := by decide +kernel
theorem i_10_18 : ins 10 18 = some (.getstatic 55) := by decide +kernel
theorem i_10_21 : ins 10 21 = some (.iload_n 2) := by decide +kernel
theorem i_10_22 : ins 10 22 = some (.iaload) := by decide +kernel
theorem i_10_23 : ins 10 23 = some (.ireturn) := by decide +kernel
theorem o_11 : mOwn 11 = 1 := rfl
theorem i_11_0 : ins 11 0 = some (.iload_n 3) := by decide +kernel
theorem i_11_1 : ins 11 1 = some (.bipush 20) := by decide +kernel
theorem i_11_3 : ins 11 3 = some (.if_icmp .le 5) := by decide +kernel
theorem i_11_6 : ins 11 6 = some (.iconst 0) := by decide +kernel
theorem i_11_7 : ins 11 7 = some (.ireturn) := by decide +kernel
theorem i_11_8 : ins 11 8 = some (.aload_n 0) := by decide +kernel
theorem i_11_9 : ins 11 9 = some (.iload_n 1) := by decide +kernel
theorem i_11_10 : ins 11 10 = some (.invokevirtual 58) := by decide +kernel
theorem i_11_13 : ins 11 13 = some (.iload_n 1) := by decide +kernel
theorem i_11_14 : ins 11 14 = some (.tableswitch 215 10 24 #[74, 84, 105, 117, 131, 215, 215, 215, 215, 215, 144, 146, 166, 181, 202]) := by decide +kernel
theorem i_11_88 : ins 11 88 = some (.aload_n 0) := by decide +kernel
theorem i_11_89 : ins 11 89 = some (.getfield 19) := by decide +kernel
theorem i_11_92 : ins 11 92 = some (.getfield 62) := by decide +kernel
theorem i_11_95 : ins 11 95 = some (.iload_n 2) := by decide +kernel
theorem i_11_96 : ins 11 96 = some (.iaload) := by decide +kernel
theorem i_11_97 : ins 11 97 = some (.ireturn) := by decide +kernel
theorem i_11_98 : ins 11 98 = some (.aload_n 0) := by decide +kernel
theorem i_11_99 : ins 11 99 = some (.bipush 10) := by decide +kernel
theorem i_11_101 : ins 11 101 = some (.iload_n 2) := by decide +kernel
theorem i_11_102 : ins 11 102 = some (.iload_n 3) := by decide +kernel
theorem i_11_103 : ins 11 103 = some (.iconst 1) := by decide +kernel
theorem i_11_104 : ins 11 104 = some (.iadd) := by decide +kernel
theorem i_11_105 : ins 11 105 = some (.invokevirtual 44) := by decide +kernel
theorem i_11_108 : ins 11 108 = some (.aload_n 0) := by decide +kernel
theorem i_11_109 : ins 11 109 = some (.iload_n 2) := by decide +kernel
theorem i_11_110 : ins 11 110 = some (.iconst 1) := by decide +kernel
theorem i_11_111 : ins 11 111 = some (.iload_n 3) := by decide +kernel
theorem i_11_112 : ins 11 112 = some (.iconst 1) := by decide +kernel
theorem i_11_113 : ins 11 113 = some (.iadd) := by decide +kernel
theorem i_11_114 : ins 11 114 = some (.invokevirtual 31) := by decide +kernel
theorem i_11_117 : ins 11 117 = some (.iadd) := by decide +kernel
theorem i_11_118 : ins 11 118 = some (.ireturn) := by decide +kernel
theorem i_11_119 : ins 11 119 = some (.aload_n 0) := by decide +kernel
theorem i_11_120 : ins 11 120 = some (.bipush 11) := by decide +kernel
theorem i_11_122 : ins 11 122 = some (.iload_n 2) := by decide +kernel
theorem i_11_123 : ins 11 123 = some (.iload_n 3) := by decide +kernel
theorem i_11_124 : ins 11 124 = some (.iconst 1) := by decide +kernel
theorem i_11_125 : ins 11 125 = some (.iadd) := by decide +kernel
theorem i_11_126 : ins 11 126 = some (.invokevirtual 44) := by decide +kernel
theorem i_11_129 : ins 11 129 = some (.ineg) := by decide +kernel
theorem i_11_130 : ins 11 130 = some (.ireturn) := by decide +kernel
theorem i_11_131 : ins 11 131 = some (.aload_n 0) := by decide +kernel
theorem i_11_132 : ins 11 132 = some (.bipush 10) := by decide +kernel
theorem i_11_134 : ins 11 134 = some (.iload_n 2) := by decide +kernel
theorem i_11_135 : ins 11 135 = some (.iload_n 3) := by decide +kernel
theorem i_11_136 : ins 11 136 = some (.iconst 1) := by decide +kernel
theorem i_11_137 : ins 11 137 = some (.iadd) := by decide +kernel
theorem i_11_138 : ins 11 138 = some (.invokevirtual 44) := by decide +kernel
theorem i_11_141 : ins 11 141 = some (.bipush 100) := by decide +kernel
theorem i_11_143 : ins 11 143 = some (.isub) := by decide +kernel
theorem i_11_144 : ins 11 144 = some (.ireturn) := by decide +kernel
theorem i_11_145 : ins 11 145 = some (.iconst 2) := by decide +kernel
theorem i_11_146 : ins 11 146 = some (.aload_n 0) := by decide +kernel
theorem i_11_147 : ins 11 147 = some (.bipush 13) := by decide +kernel
theorem i_11_149 : ins 11 149 = some (.iload_n 2) := by decide +kernel
theorem i_11_150 : ins 11 150 = some (.iload_n 3) := by decide +kernel
theorem i_11_151 : ins 11 151 = some (.iconst 1) := by decide +kernel
theorem i_11_152 : ins 11 152 = some (.iadd) := by decide +kernel
theorem i_11_153 : ins 11 153 = some (.invokevirtual 44) := by decide +kernel
theorem i_11_156 : ins 11 156 = some (.imul) := by decide +kernel
theorem i_11_157 : ins 11 157 = some (.ireturn) := by decide +kernel
theorem i_11_158 : ins 11 158 = some (.iload_n 2) := by decide +kernel
theorem i_11_159 : ins 11 159 = some (.ireturn) := by decide +kernel
theorem i_11_160 : ins 11 160 = some (.aload_n 0) := by decide +kernel
theorem i_11_161 : ins 11 161 = some (.bipush 20) := by decide +kernel
theorem i_11_163 : ins 11 163 = some (.iload_n 2) := by decide +kernel
theorem i_11_164 : ins 11 164 = some (.iload_n 3) := by decide +kernel
theorem i_11_165 : ins 11 165 = some (.iconst 1) := by decide +kernel
theorem i_11_166 : ins 11 166 = some (.iadd) := by decide +kernel
theorem i_11_167 : ins 11 167 = some (.invokevirtual 44) := by decide +kernel
theorem i_11_170 : ins 11 170 = some (.aload_n 0) := by decide +kernel
theorem i_11_171 : ins 11 171 = some (.getfield 19) := by decide +kernel
theorem i_11_174 : ins 11 174 = some (.iload_n 2) := by decide +kernel
theorem i_11_175 : ins 11 175 = some (.invokevirtual 67) := by decide +kernel
theorem i_11_178 : ins 11 178 = some (.iadd) := by decide +kernel
theorem i_11_179 : ins 11 179 = some (.ireturn) := by decide +kernel
theorem i_11_180 : ins 11 180 = some (.aload_n 0) := by decide +kernel
theorem i_11_181 : ins 11 181 = some (.bipush 21) := by decide +kernel
theorem i_11_183 : ins 11 183 = some (.iload_n 2) := by decide +kernel
theorem i_11_184 : ins 11 184 = some (.iload_n 3) := by decide +kernel
theorem i_11_185 : ins 11 185 = some (.iconst 1) := by decide +kernel
theorem i_11_186 : ins 11 186 = some (.iadd) := by decide +kernel
theorem i_11_187 : ins 11 187 = some (.invokevirtual 44) := by decide +kernel
theorem i_11_190 : ins 11 190 = some (.sipush 1000) := by decide +kernel
theorem i_11_193 : ins 11 193 = some (.isub) := by decide +kernel
theorem i_11_194 : ins 11 194 = some (.ireturn) := by decide +kernel
theorem i_11_195 : ins 11 195 = some (.aload_n 0) := by decide +kernel
theorem i_11_196 : ins 11 196 = some (.bipush 20) := by decide +kernel
theorem i_11_198 : ins 11 198 = some (.iload_n 2) := by decide +kernel
theorem i_11_199 : ins 11 199 = some (.iload_n 3) := by decide +kernel
theorem i_11_200 : ins 11 200 = some (.iconst 1) := by decide +kernel
theorem i_11_201 : ins 11 201 = some (.iadd) := by decide +kernel
theorem i_11_202 : ins 11 202 = some (.invokevirtual 44) := by decide +kernel
theorem i_11_205 : ins 11 205 = some (.aload_n 0) := by decide +kernel
theorem i_11_206 : ins 11 206 = some (.iload_n 2) := by decide +kernel
theorem i_11_207 : ins 11 207 = some (.iconst 0) := by decide +kernel
theorem i_11_208 : ins 11 208 = some (.iload_n 3) := by decide +kernel
theorem i_11_209 : ins 11 209 = some (.iconst 1) := by decide +kernel
theorem i_11_210 : ins 11 210 = some (.iadd) := by decide +kernel
theorem i_11_211 : ins 11 211 = some (.invokevirtual 31) := by decide +kernel
theorem i_11_214 : ins 11 214 = some (.isub) := by decide +kernel
theorem i_11_215 : ins 11 215 = some (.ireturn) := by decide +kernel
theorem i_11_216 : ins 11 216 = some (.iconst 2) := by decide +kernel
theorem i_11_217 : ins 11 217 = some (.aload_n 0) := by decide +kernel
theorem i_11_218 : ins 11 218 = some (.bipush 21) := by decide +kernel
theorem i_11_220 : ins 11 220 = some (.iload_n 2) := by decide +kernel
theorem i_11_221 : ins 11 221 = some (.iload_n 3) := by decide +kernel
theorem i_11_222 : ins 11 222 = some (.iconst 1) := by decide +kernel
theorem i_11_223 : ins 11 223 = some (.iadd) := by decide +kernel
theorem i_11_224 : ins 11 224 = some (.invokevirtual 44) := by decide +kernel
theorem i_11_227 : ins 11 227 = some (.imul) := by decide +kernel
theorem i_11_228 : ins 11 228 = some (.ireturn) := by decide +kernel
theorem i_11_229 : ins 11 229 = some (.iconst 0) := by decide +kernel
theorem i_11_230 : ins 11 230 = some (.ireturn) := by decide +kernel
theorem o_12 : mOwn 12 = 1 := rfl
theorem i_12_0 : ins 12 0 = some (.aload_n 0) := by decide +kernel
theorem i_12_1 : ins 12 1 = some (.getfield 26) := by decide +kernel
theorem i_12_4 : ins 12 4 = some (.bipush 16) := by decide +kernel
theorem i_12_6 : ins 12 6 = some (.if_icmp .ge 23) := by decide +kernel
theorem i_12_9 : ins 12 9 = some (.aload_n 0) := by decide +kernel
theorem i_12_10 : ins 12 10 = some (.getfield 11) := by decide +kernel
theorem i_12_13 : ins 12 13 = some (.aload_n 0) := by decide +kernel
theorem i_12_14 : ins 12 14 = some (.getfield 26) := by decide +kernel
theorem i_12_17 : ins 12 17 = some (.iload_n 1) := by decide +kernel
theorem i_12_18 : ins 12 18 = some (.iastore) := by decide +kernel
theorem i_12_19 : ins 12 19 = some (.aload_n 0) := by decide +kernel
theorem i_12_20 : ins 12 20 = some (.dup) := by decide +kernel
theorem i_12_21 : ins 12 21 = some (.getfield 26) := by decide +kernel
theorem i_12_24 : ins 12 24 = some (.iconst 1) := by decide +kernel
theorem i_12_25 : ins 12 25 = some (.iadd) := by decide +kernel
theorem i_12_26 : ins 12 26 = some (.putfield 26) := by decide +kernel
theorem i_12_29 : ins 12 29 = some (.return_) := by decide +kernel
theorem o_13 : mOwn 13 = 2 := rfl
theorem i_13_0 : ins 13 0 = some (.aload_n 0) := by decide +kernel
theorem i_13_1 : ins 13 1 = some (.invokespecial 3) := by decide +kernel
theorem i_13_4 : ins 13 4 = some (.aload_n 0) := by decide +kernel
theorem i_13_5 : ins 13 5 = some (.bipush 16) := by decide +kernel
theorem i_13_7 : ins 13 7 = some (.newarray .int) := by decide +kernel
theorem i_13_9 : ins 13 9 = some (.putfield 9) := by decide +kernel
theorem i_13_12 : ins 13 12 = some (.aload_n 0) := by decide +kernel
theorem i_13_13 : ins 13 13 = some (.aload_n 2) := by decide +kernel
theorem i_13_14 : ins 13 14 = some (.putfield 15) := by decide +kernel
theorem i_13_17 : ins 13 17 = some (.aload_n 0) := by decide +kernel
theorem i_13_18 : ins 13 18 = some (.new 19) := by decide +kernel
theorem i_13_21 : ins 13 21 = some (.dup) := by decide +kernel
theorem i_13_22 : ins 13 22 = some (.aload_n 1) := by decide +kernel
theorem i_13_23 : ins 13 23 = some (.bipush 28) := by decide +kernel
theorem i_13_25 : ins 13 25 = some (.invokespecial 21) := by decide +kernel
theorem i_13_28 : ins 13 28 = some (.putfield 24) := by decide +kernel
theorem i_13_31 : ins 13 31 = some (.aload_n 0) := by decide +kernel
theorem i_13_32 : ins 13 32 = some (.new 19) := by decide +kernel
theorem i_13_35 : ins 13 35 = some (.dup) := by decide +kernel
theorem i_13_36 : ins 13 36 = some (.aload_n 1) := by decide +kernel
theorem i_13_37 : ins 13 37 = some (.bipush 16) := by decide +kernel
theorem i_13_39 : ins 13 39 = some (.invokespecial 21) := by decide +kernel
theorem i_13_42 : ins 13 42 = some (.putfield 27) := by decide +kernel
theorem i_13_45 : ins 13 45 = some (.aload_n 0) := by decide +kernel
theorem i_13_46 : ins 13 46 = some (.bipush 9) := by decide +kernel
theorem i_13_48 : ins 13 48 = some (.anewarray 19) := by decide +kernel
theorem i_13_51 : ins 13 51 = some (.putfield 30) := by decide +kernel
theorem i_13_54 : ins 13 54 = some (.iconst 0) := by decide +kernel
theorem i_13_55 : ins 13 55 = some (.istore_n 3) := by decide +kernel
theorem i_13_56 : ins 13 56 = some (.iload_n 3) := by decide +kernel
theorem i_13_57 : ins 13 57 = some (.aload_n 0) := by decide +kernel
theorem i_13_58 : ins 13 58 = some (.getfield 30) := by decide +kernel
theorem i_13_61 : ins 13 61 = some (.arraylength) := by decide +kernel
theorem i_13_62 : ins 13 62 = some (.if_icmp .ge 25) := by decide +kernel
theorem i_13_65 : ins 13 65 = some (.aload_n 0) := by decide +kernel
theorem i_13_66 : ins 13 66 = some (.getfield 30) := by decide +kernel
theorem i_13_69 : ins 13 69 = some (.iload_n 3) := by decide +kernel
theorem i_13_70 : ins 13 70 = some (.new 19) := by decide +kernel
theorem i_13_73 : ins 13 73 = some (.dup) := by decide +kernel
theorem i_13_74 : ins 13 74 = some (.aload_n 1) := by decide +kernel
theorem i_13_75 : ins 13 75 = some (.bipush 16) := by decide +kernel
theorem i_13_77 : ins 13 77 = some (.invokespecial 21) := by decide +kernel
theorem i_13_80 : ins 13 80 = some (.aastore) := by decide +kernel
theorem i_13_81 : ins 13 81 = some (.iinc 3 1) := by decide +kernel
theorem i_13_84 : ins 13 84 = some (.goto (-28)) := by decide +kernel
theorem i_13_87 : ins 13 87 = some (.return_) := by decide +kernel
theorem o_14 : mOwn 14 = 2 := rfl
theorem i_14_0 : ins 14 0 = some (.iconst 0) := by decide +kernel
theorem i_14_1 : ins 14 1 = some (.istore_n 2) := by decide +kernel
theorem i_14_2 : ins 14 2 = some (.iload_n 2) := by decide +kernel
theorem i_14_3 : ins 14 3 = some (.iload_n 1) := by decide +kernel
theorem i_14_4 : ins 14 4 = some (.if_icmp .ge 21) := by decide +kernel
theorem i_14_7 : ins 14 7 = some (.aload_n 0) := by decide +kernel
theorem i_14_8 : ins 14 8 = some (.invokevirtual 34) := by decide +kernel
theorem i_14_11 : ins 14 11 = some (.ifCond .ne 14) := by decide +kernel
theorem i_14_14 : ins 14 14 = some (.aload_n 0) := by decide +kernel
theorem i_14_15 : ins 14 15 = some (.iconst 1) := by decide +kernel
theorem i_14_16 : ins 14 16 = some (.invokevirtual 38) := by decide +kernel
theorem i_14_19 : ins 14 19 = some (.iinc 2 1) := by decide +kernel
theorem i_14_22 : ins 14 22 = some (.goto (-20)) := by decide +kernel
theorem i_14_25 : ins 14 25 = some (.return_) := by decide +kernel
theorem o_15 : mOwn 15 = 2 := rfl
theorem i_15_0 : ins 15 0 = some (.aload_n 0) := by decide +kernel
theorem i_15_1 : ins 15 1 = some (.getfield 24) := by decide +kernel
theorem i_15_4 : ins 15 4 = some (.aload_n 0) := by decide +kernel
theorem i_15_5 : ins 15 5 = some (.getfield 15) := by decide +kernel
theorem i_15_8 : ins 15 8 = some (.invokevirtual 42) := by decide +kernel
theorem i_15_11 : ins 15 11 = some (.aload_n 0) := by decide +kernel
theorem i_15_12 : ins 15 12 = some (.getfield 24) := by decide +kernel
theorem i_15_15 : ins 15 15 = some (.iload_n 1) := by decide +kernel
theorem i_15_16 : ins 15 16 = some (.invokestatic 46) := by decide +kernel
theorem i_15_19 : ins 15 19 = some (.aload_n 0) := by decide +kernel
theorem i_15_20 : ins 15 20 = some (.getfield 24) := by decide +kernel
theorem i_15_23 : ins 15 23 = some (.areturn) := by decide +kernel
theorem o_16 : mOwn 16 = 2 := rfl
theorem i_16_0 : ins 16 0 = some (.iconst 0) := by decide +kernel
theorem i_16_1 : ins 16 1 = some (.istore 5) := by decide +kernel
theorem i_16_3 : ins 16 3 = some (.iload 5) := by decide +kernel
theorem i_16_5 : ins 16 5 = some (.iload_n 1) := by decide +kernel
theorem i_16_6 : ins 16 6 = some (.if_icmp .gt 44) := by decide +kernel
theorem i_16_9 : ins 16 9 = some (.aload_n 0) := by decide +kernel
theorem i_16_10 : ins 16 10 = some (.iload_n 2) := by decide +kernel
theorem i_16_11 : ins 16 11 = some (.iload_n 3) := by decide +kernel
theorem i_16_12 : ins 16 12 = some (.iload 4) := by decide +kernel
theorem i_16_14 : ins 16 14 = some (.invokevirtual 50) := by decide +kernel
theorem i_16_17 : ins 16 17 = some (.ifCond .eq 6) := by decide +kernel
theorem i_16_20 : ins 16 20 = some (.iload 5) := by decide +kernel
theorem i_16_22 : ins 16 22 = some (.ireturn) := by decide +kernel
theorem i_16_23 : ins 16 23 = some (.aload_n 0) := by decide +kernel
theorem i_16_24 : ins 16 24 = some (.getfield 24) := by decide +kernel
theorem i_16_27 : ins 16 27 = some (.invokevirtual 34) := by decide +kernel
theorem i_16_30 : ins 16 30 = some (.ifCond .eq 6) := by decide +kernel
theorem i_16_33 : ins 16 33 = some (.ldc 54) := by decide +kernel
theorem i_16_35 : ins 16 35 = some (.ireturn) := by decide +kernel
theorem i_16_36 : ins 16 36 = some (.aload_n 0) := by decide +kernel
theorem i_16_37 : ins 16 37 = some (.getfield 24) := by decide +kernel
theorem i_16_40 : ins 16 40 = some (.iconst 1) := by decide +kernel
theorem i_16_41 : ins 16 41 = some (.invokevirtual 38) := by decide +kernel
theorem i_16_44 : ins 16 44 = some (.iinc 5 1) := by decide +kernel
theorem i_16_47 : ins 16 47 = some (.goto (-44)) := by decide +kernel
theorem i_16_50 : ins 16 50 = some (.ldc 54) := by decide +kernel
theorem i_16_52 : ins 16 52 = some (.ireturn) := by decide +kernel
theorem o_17 : mOwn 17 = 2 := rfl
theorem i_17_0 : ins 17 0 = some (.iload_n 1) := by decide +kernel
theorem i_17_1 : ins 17 1 = some (.tableswitch 68 1 3 #[27, 46, 55]) := by decide +kernel
theorem i_17_28 : ins 17 28 = some (.aload_n 0) := by decide +kernel
theorem i_17_29 : ins 17 29 = some (.getfield 24) := by decide +kernel
theorem i_17_32 : ins 17 32 = some (.getfield 55) := by decide +kernel
theorem i_17_35 : ins 17 35 = some (.iload_n 2) := by decide +kernel
theorem i_17_36 : ins 17 36 = some (.iaload) := by decide +kernel
theorem i_17_37 : ins 17 37 = some (.iload_n 3) := by decide +kernel
theorem i_17_38 : ins 17 38 = some (.if_icmp .ne 7) := by decide +kernel
theorem i_17_41 : ins 17 41 = some (.iconst 1) := by decide +kernel
theorem i_17_42 : ins 17 42 = some (.goto 4) := by decide +kernel
theorem i_17_45 : ins 17 45 = some (.iconst 0) := by decide +kernel
theorem i_17_46 : ins 17 46 = some (.ireturn) := by decide +kernel
theorem i_17_47 : ins 17 47 = some (.aload_n 0) := by decide +kernel
theorem i_17_48 : ins 17 48 = some (.getfield 24) := by decide +kernel
theorem i_17_51 : ins 17 51 = some (.iload_n 2) := by decide +kernel
theorem i_17_52 : ins 17 52 = some (.invokevirtual 58) := by decide +kernel
theorem i_17_55 : ins 17 55 = some (.ireturn) := by decide +kernel
theorem i_17_56 : ins 17 56 = some (.aload_n 0) := by decide +kernel
theorem i_17_57 : ins 17 57 = some (.getfield 24) := by decide +kernel
theorem i_17_60 : ins 17 60 = some (.aload_n 0) := by decide +kernel
theorem i_17_61 : ins 17 61 = some (.getfield 9) := by decide +kernel
theorem i_17_64 : ins 17 64 = some (.iload_n 2) := by decide +kernel
theorem i_17_65 : ins 17 65 = some (.invokevirtual 62) := by decide +kernel
theorem i_17_68 : ins 17 68 = some (.ireturn) := by decide +kernel
theorem i_17_69 : ins 17 69 = some (.aload_n 0) := by decide +kernel
theorem i_17_70 : ins 17 70 = some (.getfield 24) := by decide +kernel
theorem i_17_73 : ins 17 73 = some (.invokevirtual 34) := by decide +kernel
theorem i_17_76 : ins 17 76 = some (.ireturn) := by decide +kernel
theorem o_18 : mOwn 18 = 2 := rfl
theorem i_18_0 : ins 18 0 = some (.aload_n 0) := by decide +kernel
theorem i_18_1 : ins 18 1 = some (.getfield 24) := by decide +kernel
theorem i_18_4 : ins 18 4 = some (.aload_n 0) := by decide +kernel
theorem i_18_5 : ins 18 5 = some (.getfield 15) := by decide +kernel
theorem i_18_8 : ins 18 8 = some (.invokevirtual 42) := by decide +kernel
theorem i_18_11 : ins 18 11 = some (.aload_n 0) := by decide +kernel
theorem i_18_12 : ins 18 12 = some (.sipush 200) := by decide +kernel
theorem i_18_15 : ins 18 15 = some (.iconst 0) := by decide +kernel
theorem i_18_16 : ins 18 16 = some (.iconst 0) := by decide +kernel
theorem i_18_17 : ins 18 17 = some (.iconst 0) := by decide +kernel
theorem i_18_18 : ins 18 18 = some (.invokevirtual 66) := by decide +kernel
theorem i_18_21 : ins 18 21 = some (.ireturn) := by decide +kernel
theorem o_19 : mOwn 19 = 2 := rfl
theorem i_19_0 : ins 19 0 = some (.aload_n 0) := by decide +kernel
theorem i_19_1 : ins 19 1 = some (.getfield 24) := by decide +kernel
theorem i_19_4 : ins 19 4 = some (.aload_n 0) := by decide +kernel
theorem i_19_5 : ins 19 5 = some (.getfield 15) := by decide +kernel
theorem i_19_8 : ins 19 8 = some (.invokevirtual 42) := by decide +kernel
theorem i_19_11 : ins 19 11 = some (.aload_n 0) := by decide +kernel
theorem i_19_12 : ins 19 12 = some (.sipush 200) := by decide +kernel
theorem i_19_15 : ins 19 15 = some (.iconst 1) := by decide +kernel
theorem i_19_16 : ins 19 16 = some (.iload_n 1) := by decide +kernel
theorem i_19_17 : ins 19 17 = some (.iload_n 2) := by decide +kernel
theorem i_19_18 : ins 19 18 = some (.invokevirtual 66) := by decide +kernel
theorem i_19_21 : ins 19 21 = some (.ireturn) := by decide +kernel
theorem o_20 : mOwn 20 = 2 := rfl
theorem i_20_0 : ins 20 0 = some (.aload_n 0) := by decide +kernel
theorem i_20_1 : ins 20 1 = some (.getfield 24) := by decide +kernel
theorem i_20_4 : ins 20 4 = some (.aload_n 0) := by decide +kernel
theorem i_20_5 : ins 20 5 = some (.getfield 15) := by decide +kernel
theorem i_20_8 : ins 20 8 = some (.invokevirtual 42) := by decide +kernel
theorem i_20_11 : ins 20 11 = some (.aload_n 0) := by decide +kernel
theorem i_20_12 : ins 20 12 = some (.bipush 60) := by decide +kernel
theorem i_20_14 : ins 20 14 = some (.iconst 2) := by decide +kernel
theorem i_20_15 : ins 20 15 = some (.iload_n 1) := by decide +kernel
theorem i_20_16 : ins 20 16 = some (.iconst 0) := by decide +kernel
theorem i_20_17 : ins 20 17 = some (.invokevirtual 66) := by decide +kernel
theorem i_20_20 : ins 20 20 = some (.ireturn) := by decide +kernel
theorem o_21 : mOwn 21 = 2 := rfl
theorem i_21_0 : ins 21 0 = some (.aload_n 0) := by decide +kernel
theorem i_21_1 : ins 21 1 = some (.getfield 24) := by decide +kernel
theorem i_21_4 : ins 21 4 = some (.aload_n 0) := by decide +kernel
theorem i_21_5 : ins 21 5 = some (.getfield 15) := by decide +kernel
theorem i_21_8 : ins 21 8 = some (.invokevirtual 42) := by decide +kernel
theorem i_21_11 : ins 21 11 = some (.aload_n 0) := by decide +kernel
theorem i_21_12 : ins 21 12 = some (.sipush 200) := by decide +kernel
theorem i_21_15 : ins 21 15 = some (.iconst 3) := by decide +kernel
theorem i_21_16 : ins 21 16 = some (.iload_n 1) := by decide +kernel
theorem i_21_17 : ins 21 17 = some (.iconst 0) := by decide +kernel
theorem i_21_18 : ins 21 18 = some (.invokevirtual 66) := by decide +kernel
theorem i_21_21 : ins 21 21 = some (.ireturn) := by decide +kernel
theorem o_22 : mOwn 22 = 2 := rfl
theorem i_22_0 : ins 22 0 = some (.iconst 0) := by decide +kernel
theorem i_22_1 : ins 22 1 = some (.istore_n 3) := by decide +kernel
theorem i_22_2 : ins 22 2 = some (.iconst 0) := by decide +kernel
theorem i_22_3 : ins 22 3 = some (.istore 4) := by decide +kernel
theorem i_22_5 : ins 22 5 = some (.iconst 0) := by decide +kernel
theorem i_22_6 : ins 22 6 = some (.istore 5) := by decide +kernel
theorem i_22_8 : ins 22 8 = some (.iload 5) := by decide +kernel
theorem i_22_10 : ins 22 10 = some (.iconst 3) := by decide +kernel
theorem i_22_11 : ins 22 11 = some (.if_icmp .gt 87) := by decide +kernel
theorem i_22_14 : ins 22 14 = some (.aload_n 0) := by decide +kernel
theorem i_22_15 : ins 22 15 = some (.getfield 24) := by decide +kernel
theorem i_22_18 : ins 22 18 = some (.aload_n 0) := by decide +kernel
theorem i_22_19 : ins 22 19 = some (.getfield 15) := by decide +kernel
theorem i_22_22 : ins 22 22 = some (.invokevirtual 42) := by decide +kernel
theorem i_22_25 : ins 22 25 = some (.aload_n 0) := by decide +kernel
theorem i_22_26 : ins 22 26 = some (.getfield 24) := by decide +kernel
theorem i_22_29 : ins 22 29 = some (.iload_n 1) := by decide +kernel
theorem i_22_30 : ins 22 30 = some (.iload 5) := by decide +kernel
theorem i_22_32 : ins 22 32 = some (.invokevirtual 70) := by decide +kernel
theorem i_22_35 : ins 22 35 = some (.aload_n 0) := by decide +kernel
theorem i_22_36 : ins 22 36 = some (.sipush 200) := by decide +kernel
theorem i_22_39 : ins 22 39 = some (.iconst 0) := by decide +kernel
theorem i_22_40 : ins 22 40 = some (.iconst 0) := by decide +kernel
theorem i_22_41 : ins 22 41 = some (.iconst 0) := by decide +kernel
theorem i_22_42 : ins 22 42 = some (.invokevirtual 66) := by decide +kernel
theorem i_22_45 : ins 22 45 = some (.istore 6) := by decide +kernel
theorem i_22_47 : ins 22 47 = some (.iload 6) := by decide +kernel
theorem i_22_49 : ins 22 49 = some (.ldc 54) := by decide +kernel
theorem i_22_51 : ins 22 51 = some (.if_icmp .ne 8) := by decide +kernel
theorem i_22_54 : ins 22 54 = some (.sipush 201) := by decide +kernel
theorem i_22_57 : ins 22 57 = some (.istore 6) := by decide +kernel
theorem i_22_59 : ins 22 59 = some (.iload 5) := by decide +kernel
theorem i_22_61 : ins 22 61 = some (.ifCond .eq 24) := by decide +kernel
theorem i_22_64 : ins 22 64 = some (.iload_n 2) := by decide +kernel
theorem i_22_65 : ins 22 65 = some (.ifCond .eq 13) := by decide +kernel
theorem i_22_68 : ins 22 68 = some (.iload 6) := by decide +kernel
theorem i_22_70 : ins 22 70 = some (.iload 4) := by decide +kernel
theorem i_22_72 : ins 22 72 = some (.if_icmp .le 20) := by decide +kernel
theorem i_22_75 : ins 22 75 = some (.goto 10) := by decide +kernel
theorem i_22_78 : ins 22 78 = some (.iload 6) := by decide +kernel
theorem i_22_80 : ins 22 80 = some (.iload 4) := by decide +kernel
theorem i_22_82 : ins 22 82 = some (.if_icmp .ge 10) := by decide +kernel
theorem i_22_85 : ins 22 85 = some (.iload 5) := by decide +kernel
theorem i_22_87 : ins 22 87 = some (.istore_n 3) := by decide +kernel
theorem i_22_88 : ins 22 88 = some (.iload 6) := by decide +kernel
theorem i_22_90 : ins 22 90 = some (.istore 4) := by decide +kernel
theorem i_22_92 : ins 22 92 = some (.iinc 5 1) := by decide +kernel
theorem i_22_95 : ins 22 95 = some (.goto (-87)) := by decide +kernel
theorem i_22_98 : ins 22 98 = some (.iload_n 3) := by decide +kernel
theorem i_22_99 : ins 22 99 = some (.ireturn) := by decide +kernel
theorem o_23 : mOwn 23 = 2 := rfl
theorem i_23_0 : ins 23 0 = some (.iconst 0) := by decide +kernel
theorem i_23_1 : ins 23 1 = some (.istore_n 2) := by decide +kernel
theorem i_23_2 : ins 23 2 = some (.iload_n 2) := by decide +kernel
theorem i_23_3 : ins 23 3 = some (.bipush 12) := by decide +kernel
theorem i_23_5 : ins 23 5 = some (.if_icmp .gt 41) := by decide +kernel
theorem i_23_8 : ins 23 8 = some (.aload_n 0) := by decide +kernel
theorem i_23_9 : ins 23 9 = some (.getfield 24) := by decide +kernel
theorem i_23_12 : ins 23 12 = some (.aload_n 0) := by decide +kernel
theorem i_23_13 : ins 23 13 = some (.getfield 15) := by decide +kernel
theorem i_23_16 : ins 23 16 = some (.invokevirtual 42) := by decide +kernel
theorem i_23_19 : ins 23 19 = some (.aload_n 0) := by decide +kernel
theorem i_23_20 : ins 23 20 = some (.getfield 24) := by decide +kernel
theorem i_23_23 : ins 23 23 = some (.iload_n 2) := by decide +kernel
theorem i_23_24 : ins 23 24 = some (.invokevirtual 74) := by decide +kernel
theorem i_23_27 : ins 23 27 = some (.aload_n 0) := by decide +kernel
theorem i_23_28 : ins 23 28 = some (.getfield 24) := by decide +kernel
theorem i_23_31 : ins 23 31 = some (.invokevirtual 78) := by decide +kernel
theorem i_23_34 : ins 23 34 = some (.iload_n 1) := by decide +kernel
theorem i_23_35 : ins 23 35 = some (.if_icmp .lt 5) := by decide +kernel
theorem i_23_38 : ins 23 38 = some (.iload_n 2) := by decide +kernel
theorem i_23_39 : ins 23 39 = some (.ireturn) := by decide +kernel
theorem i_23_40 : ins 23 40 = some (.iinc 2 1) := by decide +kernel
theorem i_23_43 : ins 23 43 = some (.goto (-41)) := by decide +kernel
theorem i_23_46 : ins 23 46 = some (.ldc 54) := by decide +kernel
theorem i_23_48 : ins 23 48 = some (.ireturn) := by decide +kernel
theorem o_24 : mOwn 24 = 2 := rfl
theorem i_24_0 : ins 24 0 = some (.aload_n 0) := by decide +kernel
theorem i_24_1 : ins 24 1 = some (.getfield 30) := by decide +kernel
theorem i_24_4 : ins 24 4 = some (.iconst 0) := by decide +kernel
theorem i_24_5 : ins 24 5 = some (.aaload) := by decide +kernel
theorem i_24_6 : ins 24 6 = some (.aload_n 0) := by decide +kernel
theorem i_24_7 : ins 24 7 = some (.getfield 15) := by decide +kernel
theorem i_24_10 : ins 24 10 = some (.invokevirtual 42) := by decide +kernel
theorem i_24_13 : ins 24 13 = some (.aload_n 0) := by decide +kernel
theorem i_24_14 : ins 24 14 = some (.iconst 0) := by decide +kernel
theorem i_24_15 : ins 24 15 = some (.iload_n 1) := by decide +kernel
theorem i_24_16 : ins 24 16 = some (.iload_n 2) := by decide +kernel
theorem i_24_17 : ins 24 17 = some (.iload_n 3) := by decide +kernel
theorem i_24_18 : ins 24 18 = some (.invokevirtual 82) := by decide +kernel
theorem i_24_21 : ins 24 21 = some (.lstore 5) := by decide +kernel
theorem i_24_23 : ins 24 23 = some (.lconst 1) := by decide +kernel
theorem i_24_24 : ins 24 24 = some (.lstore 7) := by decide +kernel
theorem i_24_26 : ins 24 26 = some (.iconst 0) := by decide +kernel
theorem i_24_27 : ins 24 27 = some (.istore 9) := by decide +kernel
theorem i_24_29 : ins 24 29 = some (.iload 9) := by decide +kernel
theorem i_24_31 : ins 24 31 = some (.iload_n 2) := by decide +kernel
theorem i_24_32 : ins 24 32 = some (.if_icmp .ge 17) := by decide +kernel
theorem i_24_35 : ins 24 35 = some (.lload 7) := by decide +kernel
theorem i_24_37 : ins 24 37 = some (.ldc2_w 86) := by decide +kernel
theorem i_24_40 : ins 24 40 = some (.lmul) := by decide +kernel
theorem i_24_41 : ins 24 41 = some (.lstore 7) := by decide +kernel
theorem i_24_43 : ins 24 43 = some (.iinc 9 1) := by decide +kernel
theorem i_24_46 : ins 24 46 = some (.goto (-17)) := by decide +kernel
theorem i_24_49 : ins 24 49 = some (.lload 5) := by decide +kernel
theorem i_24_51 : ins 24 51 = some (.lload 7) := by decide +kernel
theorem i_24_53 : ins 24 53 = some (.invokestatic 88) := by decide +kernel
theorem i_24_56 : ins 24 56 = some (.lstore 9) := by decide +kernel
theorem i_24_58 : ins 24 58 = some (.lload 9) := by decide +kernel
theorem i_24_60 : ins 24 60 = some (.lconst 0) := by decide +kernel
theorem i_24_61 : ins 24 61 = some (.lcmp) := by decide +kernel
theorem i_24_62 : ins 24 62 = some (.ifCond .ne 6) := by decide +kernel
theorem i_24_65 : ins 24 65 = some (.ldc 92) := by decide +kernel
theorem i_24_67 : ins 24 67 = some (.ireturn) := by decide +kernel
theorem i_24_68 : ins 24 68 = some (.iload 4) := by decide +kernel
theorem i_24_70 : ins 24 70 = some (.ifCond .eq 8) := by decide +kernel
theorem i_24_73 : ins 24 73 = some (.lload 5) := by decide +kernel
theorem i_24_75 : ins 24 75 = some (.goto 5) := by decide +kernel
theorem i_24_78 : ins 24 78 = some (.lload 7) := by decide +kernel
theorem i_24_80 : ins 24 80 = some (.lload 9) := by decide +kernel
theorem i_24_82 : ins 24 82 = some (.ldiv) := by decide +kernel
theorem i_24_83 : ins 24 83 = some (.l2i) := by decide +kernel
theorem i_24_84 : ins 24 84 = some (.ireturn) := by decide +kernel
theorem o_25 : mOwn 25 = 2 := rfl
theorem i_25_0 : ins 25 0 = some (.aload_n 0) := by decide +kernel
theorem i_25_1 : ins 25 1 = some (.getfield 30) := by decide +kernel
theorem i_25_4 : ins 25 4 = some (.iload_n 1) := by decide +kernel
theorem i_25_5 : ins 25 5 = some (.aaload) := by decide +kernel
theorem i_25_6 : ins 25 6 = some (.astore 5) := by decide +kernel
theorem i_25_8 : ins 25 8 = some (.iload_n 1) := by decide +kernel
theorem i_25_9 : ins 25 9 = some (.iload_n 3) := by decide +kernel
theorem i_25_10 : ins 25 10 = some (.if_icmp .ge 14) := by decide +kernel
theorem i_25_13 : ins 25 13 = some (.iload_n 1) := by decide +kernel
theorem i_25_14 : ins 25 14 = some (.iconst 1) := by decide +kernel
theorem i_25_15 : ins 25 15 = some (.iadd) := by decide +kernel
theorem i_25_16 : ins 25 16 = some (.aload_n 0) := by decide +kernel
theorem i_25_17 : ins 25 17 = some (.getfield 30) := by decide +kernel
theorem i_25_20 : ins 25 20 = some (.arraylength) := by decide +kernel
theorem i_25_21 : ins 25 21 = some (.if_icmp .lt 18) := by decide +kernel
theorem i_25_24 : ins 25 24 = some (.aload 5) := by decide +kernel
theorem i_25_26 : ins 25 26 = some (.getfield 93) := by decide +kernel
theorem i_25_29 : ins 25 29 = some (.iload_n 2) := by decide +kernel
theorem i_25_30 : ins 25 30 = some (.if_icmp .lt 7) := by decide +kernel
theorem i_25_33 : ins 25 33 = some (.lconst 1) := by decide +kernel
theorem i_25_34 : ins 25 34 = some (.goto 4) := by decide +kernel
theorem i_25_37 : ins 25 37 = some (.lconst 0) := by decide +kernel
theorem i_25_38 : ins 25 38 = some (.lreturn) := by decide +kernel
theorem i_25_39 : ins 25 39 = some (.aload 5) := by decide +kernel
theorem i_25_41 : ins 25 41 = some (.invokevirtual 97) := by decide +kernel
theorem i_25_44 : ins 25 44 = some (.ifCond .eq 8) := by decide +kernel
theorem i_25_47 : ins 25 47 = some (.iload 4) := by decide +kernel
theorem i_25_49 : ins 25 49 = some (.goto 5) := by decide +kernel
theorem i_25_52 : ins 25 52 = some (.bipush 10) := by decide +kernel
theorem i_25_54 : ins 25 54 = some (.istore 6) := by decide +kernel
theorem i_25_56 : ins 25 56 = some (.lconst 0) := by decide +kernel
theorem i_25_57 : ins 25 57 = some (.lstore 7) := by decide +kernel
theorem i_25_59 : ins 25 59 = some (.iload 6) := by decide +kernel
theorem i_25_61 : ins 25 61 = some (.ifCond .le 29) := by decide +kernel
theorem i_25_64 : ins 25 64 = some (.aload_n 0) := by decide +kernel
theorem i_25_65 : ins 25 65 = some (.iload_n 1) := by decide +kernel
theorem i_25_66 : ins 25 66 = some (.iconst 1) := by decide +kernel
theorem i_25_67 : ins 25 67 = some (.invokevirtual 100) := by decide +kernel
theorem i_25_70 : ins 25 70 = some (.lload 7) := by decide +kernel
theorem i_25_72 : ins 25 72 = some (.iload 6) := by decide +kernel
theorem i_25_74 : ins 25 74 = some (.i2l) := by decide +kernel
theorem i_25_75 : ins 25 75 = some (.aload_n 0) := by decide +kernel
theorem i_25_76 : ins 25 76 = some (.iload_n 1) := by decide +kernel
theorem i_25_77 : ins 25 77 = some (.iconst 1) := by decide +kernel
theorem i_25_78 : ins 25 78 = some (.iadd) := by decide +kernel
theorem i_25_79 : ins 25 79 = some (.iload_n 2) := by decide +kernel
theorem i_25_80 : ins 25 80 = some (.iload_n 3) := by decide +kernel
theorem i_25_81 : ins 25 81 = some (.iload 4) := by decide +kernel
theorem i_25_83 : ins 25 83 = some (.invokevirtual 82) := by decide +kernel
theorem i_25_86 : ins 25 86 = some (.lmul) := by decide +kernel
theorem i_25_87 : ins 25 87 = some (.ladd) := by decide +kernel
theorem i_25_88 : ins 25 88 = some (.lstore 7) := by decide +kernel
theorem i_25_90 : ins 25 90 = some (.iload 6) := by decide +kernel
theorem i_25_92 : ins 25 92 = some (.bipush 10) := by decide +kernel
theorem i_25_94 : ins 25 94 = some (.if_icmp .ge 32) := by decide +kernel
theorem i_25_97 : ins 25 97 = some (.aload_n 0) := by decide +kernel
theorem i_25_98 : ins 25 98 = some (.iload_n 1) := by decide +kernel
theorem i_25_99 : ins 25 99 = some (.iconst 0) := by decide +kernel
theorem i_25_100 : ins 25 100 = some (.invokevirtual 100) := by decide +kernel
theorem i_25_103 : ins 25 103 = some (.lload 7) := by decide +kernel
theorem i_25_105 : ins 25 105 = some (.bipush 10) := by decide +kernel
theorem i_25_107 : ins 25 107 = some (.iload 6) := by decide +kernel
theorem i_25_109 : ins 25 109 = some (.isub) := by decide +kernel
theorem i_25_110 : ins 25 110 = some (.i2l) := by decide +kernel
theorem i_25_111 : ins 25 111 = some (.aload_n 0) := by decide +kernel
theorem i_25_112 : ins 25 112 = some (.iload_n 1) := by decide +kernel
theorem i_25_113 : ins 25 113 = some (.iconst 1) := by decide +kernel
theorem i_25_114 : ins 25 114 = some (.iadd) := by decide +kernel
theorem i_25_115 : ins 25 115 = some (.iload_n 2) := by decide +kernel
theorem i_25_116 : ins 25 116 = some (.iload_n 3) := by decide +kernel
theorem i_25_117 : ins 25 117 = some (.iload 4) := by decide +kernel
theorem i_25_119 : ins 25 119 = some (.invokevirtual 82) := by decide +kernel
theorem i_25_122 : ins 25 122 = some (.lmul) := by decide +kernel
theorem i_25_123 : ins 25 123 = some (.ladd) := by decide +kernel
theorem i_25_124 : ins 25 124 = some (.lstore 7) := by decide +kernel
theorem i_25_126 : ins 25 126 = some (.lload 7) := by decide +kernel
theorem i_25_128 : ins 25 128 = some (.lreturn) := by decide +kernel
theorem o_26 : mOwn 26 = 2 := rfl
theorem i_26_0 : ins 26 0 = some (.aload_n 0) := by decide +kernel
theorem i_26_1 : ins 26 1 = some (.getfield 30) := by decide +kernel
theorem i_26_4 : ins 26 4 = some (.iload_n 1) := by decide +kernel
theorem i_26_5 : ins 26 5 = some (.iconst 1) := by decide +kernel
theorem i_26_6 : ins 26 6 = some (.iadd) := by decide +kernel
theorem i_26_7 : ins 26 7 = some (.aaload) := by decide +kernel
theorem i_26_8 : ins 26 8 = some (.astore_n 3) := by decide +kernel
theorem i_26_9 : ins 26 9 = some (.aload_n 3) := by decide +kernel
theorem i_26_10 : ins 26 10 = some (.aload_n 0) := by decide +kernel
theorem i_26_11 : ins 26 11 = some (.getfield 30) := by decide +kernel
theorem i_26_14 : ins 26 14 = some (.iload_n 1) := by decide +kernel
theorem i_26_15 : ins 26 15 = some (.aaload) := by decide +kernel
theorem i_26_16 : ins 26 16 = some (.invokevirtual 42) := by decide +kernel
theorem i_26_19 : ins 26 19 = some (.aload_n 3) := by decide +kernel
theorem i_26_20 : ins 26 20 = some (.iload_n 2) := by decide +kernel
theorem i_26_21 : ins 26 21 = some (.invokevirtual 38) := by decide +kernel
theorem i_26_24 : ins 26 24 = some (.return_) := by decide +kernel
theorem o_27 : mOwn 27 = 2 := rfl
theorem i_27_0 : ins 27 0 = some (.lload_n 2) := by decide +kernel
theorem i_27_1 : ins 27 1 = some (.lstore 4) := by decide +kernel
theorem i_27_3 : ins 27 3 = some (.lload_n 0) := by decide +kernel
theorem i_27_4 : ins 27 4 = some (.lstore 6) := by decide +kernel
theorem i_27_6 : ins 27 6 = some (.iconst 0) := by decide +kernel
theorem i_27_7 : ins 27 7 = some (.istore 8) := by decide +kernel
theorem i_27_9 : ins 27 9 = some (.iload 8) := by decide +kernel
theorem i_27_11 : ins 27 11 = some (.bipush 100) := by decide +kernel
theorem i_27_13 : ins 27 13 = some (.if_icmp .ge 31) := by decide +kernel
theorem i_27_16 : ins 27 16 = some (.lload 6) := by decide +kernel
theorem i_27_18 : ins 27 18 = some (.lconst 0) := by decide +kernel
theorem i_27_19 : ins 27 19 = some (.lcmp) := by decide +kernel
theorem i_27_20 : ins 27 20 = some (.ifCond .eq 24) := by decide +kernel
theorem i_27_23 : ins 27 23 = some (.lload 4) := by decide +kernel
theorem i_27_25 : ins 27 25 = some (.lload 6) := by decide +kernel
theorem i_27_27 : ins 27 27 = some (.lrem) := by decide +kernel
theorem i_27_28 : ins 27 28 = some (.lstore 9) := by decide +kernel
theorem i_27_30 : ins 27 30 = some (.lload 6) := by decide +kernel
theorem i_27_32 : ins 27 32 = some (.lstore 4) := by decide +kernel
theorem i_27_34 : ins 27 34 = some (.lload 9) := by decide +kernel
theorem i_27_36 : ins 27 36 = some (.lstore 6) := by decide +kernel
theorem i_27_38 : ins 27 38 = some (.iinc 8 1) := by decide +kernel
theorem i_27_41 : ins 27 41 = some (.goto (-32)) := by decide +kernel
theorem i_27_44 : ins 27 44 = some (.lload 4) := by decide +kernel
theorem i_27_46 : ins 27 46 = some (.lreturn) := by decide +kernel
theorem o_28 : mOwn 28 = 2 := rfl
theorem i_28_0 : ins 28 0 = some (.aload_n 0) := by decide +kernel
theorem i_28_1 : ins 28 1 = some (.getfield 15) := by decide +kernel
theorem i_28_4 : ins 28 4 = some (.iconst 2) := by decide +kernel
theorem i_28_5 : ins 28 5 = some (.invokevirtual 104) := by decide +kernel
theorem i_28_8 : ins 28 8 = some (.istore_n 3) := by decide +kernel
theorem i_28_9 : ins 28 9 = some (.iconst 0) := by decide +kernel
theorem i_28_10 : ins 28 10 = some (.istore 4) := by decide +kernel
theorem i_28_12 : ins 28 12 = some (.iconst 0) := by decide +kernel
theorem i_28_13 : ins 28 13 = some (.istore 5) := by decide +kernel
theorem i_28_15 : ins 28 15 = some (.aload_n 0) := by decide +kernel
theorem i_28_16 : ins 28 16 = some (.getfield 27) := by decide +kernel
theorem i_28_19 : ins 28 19 = some (.aload_n 0) := by decide +kernel
theorem i_28_20 : ins 28 20 = some (.getfield 15) := by decide +kernel
theorem i_28_23 : ins 28 23 = some (.invokevirtual 42) := by decide +kernel
theorem i_28_26 : ins 28 26 = some (.iconst 0) := by decide +kernel
theorem i_28_27 : ins 28 27 = some (.istore 6) := by decide +kernel
theorem i_28_29 : ins 28 29 = some (.iload 6) := by decide +kernel
theorem i_28_31 : ins 28 31 = some (.bipush 30) := by decide +kernel
theorem i_28_33 : ins 28 33 = some (.if_icmp .gt 75) := by decide +kernel
theorem i_28_36 : ins 28 36 = some (.aload_n 0) := by decide +kernel
theorem i_28_37 : ins 28 37 = some (.getfield 24) := by decide +kernel
theorem i_28_40 : ins 28 40 = some (.aload_n 0) := by decide +kernel
theorem i_28_41 : ins 28 41 = some (.getfield 27) := by decide +kernel
theorem i_28_44 : ins 28 44 = some (.invokevirtual 42) := by decide +kernel
theorem i_28_47 : ins 28 47 = some (.aload_n 0) := by decide +kernel
theorem i_28_48 : ins 28 48 = some (.getfield 24) := by decide +kernel
theorem i_28_51 : ins 28 51 = some (.iload_n 1) := by decide +kernel
theorem i_28_52 : ins 28 52 = some (.putfield 108) := by decide +kernel
theorem i_28_55 : ins 28 55 = some (.aload_n 0) := by decide +kernel
theorem i_28_56 : ins 28 56 = some (.getfield 24) := by decide +kernel
theorem i_28_59 : ins 28 59 = some (.bipush 60) := by decide +kernel
theorem i_28_61 : ins 28 61 = some (.iload 6) := by decide +kernel
theorem i_28_63 : ins 28 63 = some (.isub) := by decide +kernel
theorem i_28_64 : ins 28 64 = some (.invokestatic 46) := by decide +kernel
theorem i_28_67 : ins 28 67 = some (.aload_n 0) := by decide +kernel
theorem i_28_68 : ins 28 68 = some (.getfield 24) := by decide +kernel
theorem i_28_71 : ins 28 71 = some (.iconst 2) := by decide +kernel
theorem i_28_72 : ins 28 72 = some (.invokevirtual 104) := by decide +kernel
theorem i_28_75 : ins 28 75 = some (.iload_n 3) := by decide +kernel
theorem i_28_76 : ins 28 76 = some (.isub) := by decide +kernel
theorem i_28_77 : ins 28 77 = some (.istore 7) := by decide +kernel
theorem i_28_79 : ins 28 79 = some (.iload 7) := by decide +kernel
theorem i_28_81 : ins 28 81 = some (.iload 5) := by decide +kernel
theorem i_28_83 : ins 28 83 = some (.if_icmp .lt 11) := by decide +kernel
theorem i_28_86 : ins 28 86 = some (.iload 6) := by decide +kernel
theorem i_28_88 : ins 28 88 = some (.istore 4) := by decide +kernel
theorem i_28_90 : ins 28 90 = some (.iload 7) := by decide +kernel
theorem i_28_92 : ins 28 92 = some (.istore 5) := by decide +kernel
theorem i_28_94 : ins 28 94 = some (.aload_n 0) := by decide +kernel
theorem i_28_95 : ins 28 95 = some (.getfield 27) := by decide +kernel
theorem i_28_98 : ins 28 98 = some (.iconst 1) := by decide +kernel
theorem i_28_99 : ins 28 99 = some (.invokevirtual 38) := by decide +kernel
theorem i_28_102 : ins 28 102 = some (.iinc 6 1) := by decide +kernel
theorem i_28_105 : ins 28 105 = some (.goto (-76)) := by decide +kernel
theorem i_28_108 : ins 28 108 = some (.iload_n 2) := by decide +kernel
theorem i_28_109 : ins 28 109 = some (.ifCond .eq 8) := by decide +kernel
theorem i_28_112 : ins 28 112 = some (.iload 4) := by decide +kernel
theorem i_28_114 : ins 28 114 = some (.goto 5) := by decide +kernel
theorem i_28_117 : ins 28 117 = some (.iload 5) := by decide +kernel
theorem i_28_119 : ins 28 119 = some (.ireturn) := by decide +kernel
theorem o_29 : mOwn 29 = 3 := rfl
theorem i_29_0 : ins 29 0 = some (.aload_n 0) := by decide +kernel
theorem i_29_1 : ins 29 1 = some (.invokespecial 3) := by decide +kernel
theorem i_29_4 : ins 29 4 = some (.aload_n 0) := by decide +kernel
theorem i_29_5 : ins 29 5 = some (.sipush 160) := by decide +kernel
theorem i_29_8 : ins 29 8 = some (.newarray .int) := by decide +kernel
theorem i_29_10 : ins 29 10 = some (.putfield 11) := by decide +kernel
theorem i_29_13 : ins 29 13 = some (.return_) := by decide +kernel
theorem o_30 : mOwn 30 = 3 := rfl
theorem i_30_0 : ins 30 0 = some (.aload_n 0) := by decide +kernel
theorem i_30_1 : ins 30 1 = some (.getfield 15) := by decide +kernel
theorem i_30_4 : ins 30 4 = some (.sipush 160) := by decide +kernel
theorem i_30_7 : ins 30 7 = some (.if_icmp .lt 7) := by decide +kernel
theorem i_30_10 : ins 30 10 = some (.iconst 1) := by decide +kernel
theorem i_30_11 : ins 30 11 = some (.goto 4) := by decide +kernel
theorem i_30_14 : ins 30 14 = some (.iconst 0) := by decide +kernel
theorem i_30_15 : ins 30 15 = some (.ireturn) := by decide +kernel
theorem o_31 : mOwn 31 = 3 := rfl
theorem i_31_0 : ins 31 0 = some (.aload_n 0) := by decide +kernel
theorem i_31_1 : ins 31 1 = some (.getfield 11) := by decide +kernel
theorem i_31_4 : ins 31 4 = some (.aload_n 0) := by decide +kernel
theorem i_31_5 : ins 31 5 = some (.getfield 15) := by decide +kernel
theorem i_31_8 : ins 31 8 = some (.iload_n 1) := by decide +kernel
theorem i_31_9 : ins 31 9 = some (.iastore) := by decide +kernel
theorem i_31_10 : ins 31 10 = some (.aload_n 0) := by decide +kernel
theorem i_31_11 : ins 31 11 = some (.dup) := by decide +kernel
theorem i_31_12 : ins 31 12 = some (.getfield 15) := by decide +kernel
theorem i_31_15 : ins 31 15 = some (.iconst 1) := by decide +kernel
theorem i_31_16 : ins 31 16 = some (.iadd) := by decide +kernel
theorem i_31_17 : ins 31 17 = some (.putfield 15) := by decide +kernel
theorem i_31_20 : ins 31 20 = some (.aload_n 0) := by decide +kernel
theorem i_31_21 : ins 31 21 = some (.getfield 15) := by decide +kernel
theorem i_31_24 : ins 31 24 = some (.ireturn) := by decide +kernel
theorem o_32 : mOwn 32 = 3 := rfl
theorem i_32_0 : ins 32 0 = some (.aload_n 0) := by decide +kernel
theorem i_32_1 : ins 32 1 = some (.getfield 15) := by decide +kernel
theorem i_32_4 : ins 32 4 = some (.ireturn) := by decide +kernel
theorem o_33 : mOwn 33 = 3 := rfl
theorem i_33_0 : ins 33 0 = some (.aload_n 0) := by decide +kernel
theorem i_33_1 : ins 33 1 = some (.getfield 19) := by decide +kernel
theorem i_33_4 : ins 33 4 = some (.ireturn) := by decide +kernel
theorem o_34 : mOwn 34 = 3 := rfl
theorem i_34_0 : ins 34 0 = some (.aload_n 0) := by decide +kernel
theorem i_34_1 : ins 34 1 = some (.iconst 0) := by decide +kernel
theorem i_34_2 : ins 34 2 = some (.putfield 19) := by decide +kernel
theorem i_34_5 : ins 34 5 = some (.aload_n 0) := by decide +kernel
theorem i_34_6 : ins 34 6 = some (.iconst 0) := by decide +kernel
theorem i_34_7 : ins 34 7 = some (.putfield 22) := by decide +kernel
theorem i_34_10 : ins 34 10 = some (.aload_n 1) := by decide +kernel
theorem i_34_11 : ins 34 11 = some (.invokevirtual 25) := by decide +kernel
theorem i_34_14 : ins 34 14 = some (.aload_n 0) := by decide +kernel
theorem i_34_15 : ins 34 15 = some (.aload_n 1) := by decide +kernel
theorem i_34_16 : ins 34 16 = some (.invokevirtual 30) := by decide +kernel
theorem i_34_19 : ins 34 19 = some (.aload_n 0) := by decide +kernel
theorem i_34_20 : ins 34 20 = some (.aload_n 1) := by decide +kernel
theorem i_34_21 : ins 34 21 = some (.invokevirtual 34) := by decide +kernel
theorem i_34_24 : ins 34 24 = some (.aload_n 0) := by decide +kernel
theorem i_34_25 : ins 34 25 = some (.aload_n 1) := by decide +kernel
theorem i_34_26 : ins 34 26 = some (.invokevirtual 37) := by decide +kernel
theorem i_34_29 : ins 34 29 = some (.aload_n 0) := by decide +kernel
theorem i_34_30 : ins 34 30 = some (.getfield 22) := by decide +kernel
theorem i_34_33 : ins 34 33 = some (.ifCond .ne 19) := by decide +kernel
theorem i_34_36 : ins 34 36 = some (.aload_n 0) := by decide +kernel
theorem i_34_37 : ins 34 37 = some (.getfield 19) := by decide +kernel
theorem i_34_40 : ins 34 40 = some (.aload_n 0) := by decide +kernel
theorem i_34_41 : ins 34 41 = some (.getfield 15) := by decide +kernel
theorem i_34_44 : ins 34 44 = some (.if_icmp .ge 8) := by decide +kernel
theorem i_34_47 : ins 34 47 = some (.aload_n 0) := by decide +kernel
theorem i_34_48 : ins 34 48 = some (.iconst 1) := by decide +kernel
theorem i_34_49 : ins 34 49 = some (.putfield 22) := by decide +kernel
theorem i_34_52 : ins 34 52 = some (.aload_n 0) := by decide +kernel
theorem i_34_53 : ins 34 53 = some (.iconst 0) := by decide +kernel
theorem i_34_54 : ins 34 54 = some (.putfield 15) := by decide +kernel
theorem i_34_57 : ins 34 57 = some (.aload_n 0) := by decide +kernel
theorem i_34_58 : ins 34 58 = some (.getfield 22) := by decide +kernel
theorem i_34_61 : ins 34 61 = some (.ireturn) := by decide +kernel
theorem o_35 : mOwn 35 = 3 := rfl
theorem i_35_0 : ins 35 0 = some (.aload_n 0) := by decide +kernel
theorem i_35_1 : ins 35 1 = some (.bipush 113) := by decide +kernel
theorem i_35_3 : ins 35 3 = some (.invokevirtual 40) := by decide +kernel
theorem i_35_6 : ins 35 6 = some (.aload_n 1) := by decide +kernel
theorem i_35_7 : ins 35 7 = some (.aload_n 0) := by decide +kernel
theorem i_35_8 : ins 35 8 = some (.iconst 3) := by decide +kernel
theorem i_35_9 : ins 35 9 = some (.invokevirtual 44) := by decide +kernel
theorem i_35_12 : ins 35 12 = some (.putfield 48) := by decide +kernel
theorem i_35_15 : ins 35 15 = some (.aload_n 0) := by decide +kernel
theorem i_35_16 : ins 35 16 = some (.bipush 44) := by decide +kernel
theorem i_35_18 : ins 35 18 = some (.invokevirtual 40) := by decide +kernel
theorem i_35_21 : ins 35 21 = some (.aload_n 1) := by decide +kernel
theorem i_35_22 : ins 35 22 = some (.aload_n 0) := by decide +kernel
theorem i_35_23 : ins 35 23 = some (.bipush 9) := by decide +kernel
theorem i_35_25 : ins 35 25 = some (.invokevirtual 44) := by decide +kernel
theorem i_35_28 : ins 35 28 = some (.putfield 51) := by decide +kernel
theorem i_35_31 : ins 35 31 = some (.aload_n 0) := by decide +kernel
theorem i_35_32 : ins 35 32 = some (.bipush 59) := by decide +kernel
theorem i_35_34 : ins 35 34 = some (.invokevirtual 40) := by decide +kernel
theorem i_35_37 : ins 35 37 = some (.return_) := by decide +kernel
theorem o_36 : mOwn 36 = 3 := rfl
theorem i_36_0 : ins 36 0 = some (.iconst 0) := by decide +kernel
theorem i_36_1 : ins 36 1 = some (.istore_n 2) := by decide +kernel
theorem i_36_2 : ins 36 2 = some (.iload_n 2) := by decide +kernel
theorem i_36_3 : ins 36 3 = some (.bipush 8) := by decide +kernel
theorem i_36_5 : ins 36 5 = some (.if_icmp .gt 96) := by decide +kernel
theorem i_36_8 : ins 36 8 = some (.aload_n 0) := by decide +kernel
theorem i_36_9 : ins 36 9 = some (.getfield 22) := by decide +kernel
theorem i_36_12 : ins 36 12 = some (.ifCond .ne 89) := by decide +kernel
theorem i_36_15 : ins 36 15 = some (.aload_n 0) := by decide +kernel
theorem i_36_16 : ins 36 16 = some (.aload_n 0) := by decide +kernel
theorem i_36_17 : ins 36 17 = some (.getfield 19) := by decide +kernel
theorem i_36_20 : ins 36 20 = some (.invokevirtual 54) := by decide +kernel
theorem i_36_23 : ins 36 23 = some (.invokestatic 57) := by decide +kernel
theorem i_36_26 : ins 36 26 = some (.istore_n 3) := by decide +kernel
theorem i_36_27 : ins 36 27 = some (.iload_n 3) := by decide +kernel
theorem i_36_28 : ins 36 28 = some (.ifCond .ne 6) := by decide +kernel
theorem i_36_31 : ins 36 31 = some (.goto 70) := by decide +kernel
theorem i_36_34 : ins 36 34 = some (.iload_n 2) := by decide +kernel
theorem i_36_35 : ins 36 35 = some (.bipush 8) := by decide +kernel
theorem i_36_37 : ins 36 37 = some (.if_icmp .ne 11) := by decide +kernel
theorem i_36_40 : ins 36 40 = some (.aload_n 0) := by decide +kernel
theorem i_36_41 : ins 36 41 = some (.iconst 3) := by decide +kernel
theorem i_36_42 : ins 36 42 = some (.putfield 22) := by decide +kernel
theorem i_36_45 : ins 36 45 = some (.goto 56) := by decide +kernel
theorem i_36_48 : ins 36 48 = some (.aload_n 0) := by decide +kernel
theorem i_36_49 : ins 36 49 = some (.dup) := by decide +kernel
theorem i_36_50 : ins 36 50 = some (.getfield 19) := by decide +kernel
theorem i_36_53 : ins 36 53 = some (.iconst 1) := by decide +kernel
theorem i_36_54 : ins 36 54 = some (.iadd) := by decide +kernel
theorem i_36_55 : ins 36 55 = some (.putfield 19) := by decide +kernel
theorem i_36_58 : ins 36 58 = some (.aload_n 0) := by decide +kernel
theorem i_36_59 : ins 36 59 = some (.bipush 99) := by decide +kernel
theorem i_36_61 : ins 36 61 = some (.invokevirtual 44) := by decide +kernel
theorem i_36_64 : ins 36 64 = some (.istore 4) := by decide +kernel
theorem i_36_66 : ins 36 66 = some (.aload_n 0) := by decide +kernel
theorem i_36_67 : ins 36 67 = some (.bipush 44) := by decide +kernel
theorem i_36_69 : ins 36 69 = some (.invokevirtual 40) := by decide +kernel
theorem i_36_72 : ins 36 72 = some (.aload_n 0) := by decide +kernel
theorem i_36_73 : ins 36 73 = some (.iconst 3) := by decide +kernel
theorem i_36_74 : ins 36 74 = some (.invokevirtual 44) := by decide +kernel
theorem i_36_77 : ins 36 77 = some (.istore 5) := by decide +kernel
theorem i_36_79 : ins 36 79 = some (.aload_n 0) := by decide +kernel
theorem i_36_80 : ins 36 80 = some (.bipush 59) := by decide +kernel
theorem i_36_82 : ins 36 82 = some (.invokevirtual 40) := by decide +kernel
theorem i_36_85 : ins 36 85 = some (.aload_n 1) := by decide +kernel
theorem i_36_86 : ins 36 86 = some (.iload_n 3) := by decide +kernel
theorem i_36_87 : ins 36 87 = some (.iload 4) := by decide +kernel
theorem i_36_89 : ins 36 89 = some (.iload 5) := by decide +kernel
theorem i_36_91 : ins 36 91 = some (.iconst 0) := by decide +kernel
theorem i_36_92 : ins 36 92 = some (.invokevirtual 60) := by decide +kernel
theorem i_36_95 : ins 36 95 = some (.iinc 2 1) := by decide +kernel
theorem i_36_98 : ins 36 98 = some (.goto (-96)) := by decide +kernel
theorem i_36_101 : ins 36 101 = some (.aload_n 1) := by decide +kernel
theorem i_36_102 : ins 36 102 = some (.aload_n 1) := by decide +kernel
theorem i_36_103 : ins 36 103 = some (.getfield 64) := by decide +kernel
theorem i_36_106 : ins 36 106 = some (.putfield 67) := by decide +kernel
theorem i_36_109 : ins 36 109 = some (.return_) := by decide +kernel
theorem o_37 : mOwn 37 = 3 := rfl
theorem i_37_0 : ins 37 0 = some (.iconst 0) := by decide +kernel
theorem i_37_1 : ins 37 1 = some (.istore_n 2) := by decide +kernel
theorem i_37_2 : ins 37 2 = some (.iload_n 2) := by decide +kernel
theorem i_37_3 : ins 37 3 = some (.bipush 8) := by decide +kernel
theorem i_37_5 : ins 37 5 = some (.if_icmp .gt 113) := by decide +kernel
theorem i_37_8 : ins 37 8 = some (.aload_n 0) := by decide +kernel
theorem i_37_9 : ins 37 9 = some (.getfield 22) := by decide +kernel
theorem i_37_12 : ins 37 12 = some (.ifCond .ne 106) := by decide +kernel
theorem i_37_15 : ins 37 15 = some (.aload_n 0) := by decide +kernel
theorem i_37_16 : ins 37 16 = some (.aload_n 0) := by decide +kernel
theorem i_37_17 : ins 37 17 = some (.getfield 19) := by decide +kernel
theorem i_37_20 : ins 37 20 = some (.invokevirtual 54) := by decide +kernel
theorem i_37_23 : ins 37 23 = some (.bipush 112) := by decide +kernel
theorem i_37_25 : ins 37 25 = some (.if_icmp .eq 6) := by decide +kernel
theorem i_37_28 : ins 37 28 = some (.goto 90) := by decide +kernel
theorem i_37_31 : ins 37 31 = some (.iload_n 2) := by decide +kernel
theorem i_37_32 : ins 37 32 = some (.bipush 8) := by decide +kernel
theorem i_37_34 : ins 37 34 = some (.if_icmp .ne 11) := by decide +kernel
theorem i_37_37 : ins 37 37 = some (.aload_n 0) := by decide +kernel
theorem i_37_38 : ins 37 38 = some (.iconst 3) := by decide +kernel
theorem i_37_39 : ins 37 39 = some (.putfield 22) := by decide +kernel
theorem i_37_42 : ins 37 42 = some (.goto 76) := by decide +kernel
theorem i_37_45 : ins 37 45 = some (.aload_n 0) := by decide +kernel
theorem i_37_46 : ins 37 46 = some (.dup) := by decide +kernel
theorem i_37_47 : ins 37 47 = some (.getfield 19) := by decide +kernel
theorem i_37_50 : ins 37 50 = some (.iconst 1) := by decide +kernel
theorem i_37_51 : ins 37 51 = some (.iadd) := by decide +kernel
theorem i_37_52 : ins 37 52 = some (.putfield 19) := by decide +kernel
theorem i_37_55 : ins 37 55 = some (.aload_n 0) := by decide +kernel
theorem i_37_56 : ins 37 56 = some (.invokevirtual 70) := by decide +kernel
theorem i_37_59 : ins 37 59 = some (.istore_n 3) := by decide +kernel
theorem i_37_60 : ins 37 60 = some (.aload_n 0) := by decide +kernel
theorem i_37_61 : ins 37 61 = some (.bipush 99) := by decide +kernel
theorem i_37_63 : ins 37 63 = some (.invokevirtual 44) := by decide +kernel
theorem i_37_66 : ins 37 66 = some (.istore 4) := by decide +kernel
theorem i_37_68 : ins 37 68 = some (.aload_n 0) := by decide +kernel
theorem i_37_69 : ins 37 69 = some (.bipush 44) := by decide +kernel
theorem i_37_71 : ins 37 71 = some (.invokevirtual 40) := by decide +kernel
theorem i_37_74 : ins 37 74 = some (.aload_n 0) := by decide +kernel
theorem i_37_75 : ins 37 75 = some (.iconst 3) := by decide +kernel
theorem i_37_76 : ins 37 76 = some (.invokevirtual 44) := by decide +kernel
theorem i_37_79 : ins 37 79 = some (.istore 5) := by decide +kernel
theorem i_37_81 : ins 37 81 = some (.aload_n 0) := by decide +kernel
theorem i_37_82 : ins 37 82 = some (.bipush 44) := by decide +kernel
theorem i_37_84 : ins 37 84 = some (.invokevirtual 40) := by decide +kernel
theorem i_37_87 : ins 37 87 = some (.aload_n 0) := by decide +kernel
theorem i_37_88 : ins 37 88 = some (.bipush 16) := by decide +kernel
theorem i_37_90 : ins 37 90 = some (.invokevirtual 44) := by decide +kernel
theorem i_37_93 : ins 37 93 = some (.istore 6) := by decide +kernel
theorem i_37_95 : ins 37 95 = some (.aload_n 0) := by decide +kernel
theorem i_37_96 : ins 37 96 = some (.bipush 59) := by decide +kernel
theorem i_37_98 : ins 37 98 = some (.invokevirtual 40) := by decide +kernel
theorem i_37_101 : ins 37 101 = some (.aload_n 1) := by decide +kernel
theorem i_37_102 : ins 37 102 = some (.iload_n 3) := by decide +kernel
theorem i_37_103 : ins 37 103 = some (.iload 4) := by decide +kernel
theorem i_37_105 : ins 37 105 = some (.iload 5) := by decide +kernel
theorem i_37_107 : ins 37 107 = some (.iload 6) := by decide +kernel
theorem i_37_109 : ins 37 109 = some (.invokevirtual 60) := by decide +kernel
theorem i_37_112 : ins 37 112 = some (.iinc 2 1) := by decide +kernel
theorem i_37_115 : ins 37 115 = some (.goto (-113)) := by decide +kernel
theorem i_37_118 : ins 37 118 = some (.return_) := by decide +kernel
theorem o_38 : mOwn 38 = 3 := rfl
theorem i_38_0 : ins 38 0 = some (.iload_n 1) := by decide +kernel
theorem i_38_1 : ins 38 1 = some (.ifCond .lt 20) := by decide +kernel
theorem i_38_4 : ins 38 4 = some (.iload_n 1) := by decide +kernel
theorem i_38_5 : ins 38 5 = some (.aload_n 0) := by decide +kernel
theorem i_38_6 : ins 38 6 = some (.getfield 15) := by decide +kernel
theorem i_38_9 : ins 38 9 = some (.if_icmp .ge 12) := by decide +kernel
theorem i_38_12 : ins 38 12 = some (.aload_n 0) := by decide +kernel
theorem i_38_13 : ins 38 13 = some (.getfield 11) := by decide +kernel
theorem i_38_16 : ins 38 16 = some (.iload_n 1) := by decide +kernel
theorem i_38_17 : ins 38 17 = some (.iaload) := by decide +kernel
theorem i_38_18 : ins 38 18 = some (.goto 4) := by decide +kernel
theorem i_38_21 : ins 38 21 = some (.iconst (-1)) := by decide +kernel
theorem i_38_22 : ins 38 22 = some (.ireturn) := by decide +kernel
theorem o_39 : mOwn 39 = 3 := rfl
theorem i_39_0 : ins 39 0 = some (.aload_n 0) := by decide +kernel
theorem i_39_1 : ins 39 1 = some (.getfield 22) := by decide +kernel
theorem i_39_4 : ins 39 4 = some (.ifCond .eq 4) := by decide +kernel
theorem i_39_7 : ins 39 7 = some (.return_) := by decide +kernel
theorem i_39_8 : ins 39 8 = some (.aload_n 0) := by decide +kernel
theorem i_39_9 : ins 39 9 = some (.aload_n 0) := by decide +kernel
theorem i_39_10 : ins 39 10 = some (.getfield 19) := by decide +kernel
theorem i_39_13 : ins 39 13 = some (.invokevirtual 54) := by decide +kernel
theorem i_39_16 : ins 39 16 = some (.iload_n 1) := by decide +kernel
theorem i_39_17 : ins 39 17 = some (.if_icmp .ne 16) := by decide +kernel
theorem i_39_20 : ins 39 20 = some (.aload_n 0) := by decide +kernel
theorem i_39_21 : ins 39 21 = some (.dup) := by decide +kernel
theorem i_39_22 : ins 39 22 = some (.getfield 19) := by decide +kernel
theorem i_39_25 : ins 39 25 = some (.iconst 1) := by decide +kernel
theorem i_39_26 : ins 39 26 = some (.iadd) := by decide +kernel
theorem i_39_27 : ins 39 27 = some (.putfield 19) := by decide +kernel
theorem i_39_30 : ins 39 30 = some (.goto 8) := by decide +kernel
theorem i_39_33 : ins 39 33 = some (.aload_n 0) := by decide +kernel
theorem i_39_34 : ins 39 34 = some (.iconst 1) := by decide +kernel
theorem i_39_35 : ins 39 35 = some (.putfield 22) := by decide +kernel
theorem i_39_38 : ins 39 38 = some (.return_) := by decide +kernel
theorem o_40 : mOwn 40 = 3 := rfl
theorem i_40_0 : ins 40 0 = some (.aload_n 0) := by decide +kernel
theorem i_40_1 : ins 40 1 = some (.aload_n 0) := by decide +kernel
theorem i_40_2 : ins 40 2 = some (.getfield 19) := by decide +kernel
theorem i_40_5 : ins 40 5 = some (.invokevirtual 54) := by decide +kernel
theorem i_40_8 : ins 40 8 = some (.invokestatic 57) := by decide +kernel
theorem i_40_11 : ins 40 11 = some (.istore_n 1) := by decide +kernel
theorem i_40_12 : ins 40 12 = some (.iload_n 1) := by decide +kernel
theorem i_40_13 : ins 40 13 = some (.ifCond .ne 11) := by decide +kernel
theorem i_40_16 : ins 40 16 = some (.aload_n 0) := by decide +kernel
theorem i_40_17 : ins 40 17 = some (.iconst 1) := by decide +kernel
theorem i_40_18 : ins 40 18 = some (.putfield 22) := by decide +kernel
theorem i_40_21 : ins 40 21 = some (.goto 13) := by decide +kernel
theorem i_40_24 : ins 40 24 = some (.aload_n 0) := by decide +kernel
theorem i_40_25 : ins 40 25 = some (.dup) := by decide +kernel
theorem i_40_26 : ins 40 26 = some (.getfield 19) := by decide +kernel
theorem i_40_29 : ins 40 29 = some (.iconst 1) := by decide +kernel
theorem i_40_30 : ins 40 30 = some (.iadd) := by decide +kernel
theorem i_40_31 : ins 40 31 = some (.putfield 19) := by decide +kernel
theorem i_40_34 : ins 40 34 = some (.iload_n 1) := by decide +kernel
theorem i_40_35 : ins 40 35 = some (.ireturn) := by decide +kernel
theorem o_41 : mOwn 41 = 3 := rfl
theorem i_41_0 : ins 41 0 = some (.aload_n 0) := by decide +kernel
theorem i_41_1 : ins 41 1 = some (.getfield 22) := by decide +kernel
theorem i_41_4 : ins 41 4 = some (.ifCond .eq 5) := by decide +kernel
theorem i_41_7 : ins 41 7 = some (.iconst 0) := by decide +kernel
theorem i_41_8 : ins 41 8 = some (.ireturn) := by decide +kernel
theorem i_41_9 : ins 41 9 = some (.iconst 0) := by decide +kernel
theorem i_41_10 : ins 41 10 = some (.istore_n 2) := by decide +kernel
theorem i_41_11 : ins 41 11 = some (.iconst 0) := by decide +kernel
theorem i_41_12 : ins 41 12 = some (.istore_n 3) := by decide +kernel
theorem i_41_13 : ins 41 13 = some (.iload_n 2) := by decide +kernel
theorem i_41_14 : ins 41 14 = some (.iconst 2) := by decide +kernel
theorem i_41_15 : ins 41 15 = some (.if_icmp .gt 44) := by decide +kernel
theorem i_41_18 : ins 41 18 = some (.aload_n 0) := by decide +kernel
theorem i_41_19 : ins 41 19 = some (.aload_n 0) := by decide +kernel
theorem i_41_20 : ins 41 20 = some (.getfield 19) := by decide +kernel
theorem i_41_23 : ins 41 23 = some (.iload_n 2) := by decide +kernel
theorem i_41_24 : ins 41 24 = some (.iadd) := by decide +kernel
theorem i_41_25 : ins 41 25 = some (.invokevirtual 54) := by decide +kernel
theorem i_41_28 : ins 41 28 = some (.invokestatic 74) := by decide +kernel
theorem i_41_31 : ins 41 31 = some (.ifCond .eq 28) := by decide +kernel
theorem i_41_34 : ins 41 34 = some (.bipush 10) := by decide +kernel
theorem i_41_36 : ins 41 36 = some (.iload_n 3) := by decide +kernel
theorem i_41_37 : ins 41 37 = some (.imul) := by decide +kernel
theorem i_41_38 : ins 41 38 = some (.aload_n 0) := by decide +kernel
theorem i_41_39 : ins 41 39 = some (.aload_n 0) := by decide +kernel
theorem i_41_40 : ins 41 40 = some (.getfield 19) := by decide +kernel
theorem i_41_43 : ins 41 43 = some (.iload_n 2) := by decide +kernel
theorem i_41_44 : ins 41 44 = some (.iadd) := by decide +kernel
theorem i_41_45 : ins 41 45 = some (.invokevirtual 54) := by decide +kernel
theorem i_41_48 : ins 41 48 = some (.iadd) := by decide +kernel
theorem i_41_49 : ins 41 49 = some (.bipush 48) := by decide +kernel
theorem i_41_51 : ins 41 51 = some (.isub) := by decide +kernel
theorem i_41_52 : ins 41 52 = some (.istore_n 3) := by decide +kernel
theorem i_41_53 : ins 41 53 = some (.iinc 2 1) := by decide +kernel
theorem i_41_56 : ins 41 56 = some (.goto (-43)) := by decide +kernel
theorem i_41_59 : ins 41 59 = some (.iload_n 2) := by decide +kernel
theorem i_41_60 : ins 41 60 = some (.ifCond .eq 8) := by decide +kernel
theorem i_41_63 : ins 41 63 = some (.iload_n 2) := by decide +kernel
theorem i_41_64 : ins 41 64 = some (.iconst 2) := by decide +kernel
theorem i_41_65 : ins 41 65 = some (.if_icmp .le 10) := by decide +kernel
theorem i_41_68 : ins 41 68 = some (.aload_n 0) := by decide +kernel
theorem i_41_69 : ins 41 69 = some (.iconst 1) := by decide +kernel
theorem i_41_70 : ins 41 70 = some (.putfield 22) := by decide +kernel
theorem i_41_73 : ins 41 73 = some (.iconst 0) := by decide +kernel
theorem i_41_74 : ins 41 74 = some (.ireturn) := by decide +kernel
theorem i_41_75 : ins 41 75 = some (.iload_n 3) := by decide +kernel
theorem i_41_76 : ins 41 76 = some (.iload_n 1) := by decide +kernel
theorem i_41_77 : ins 41 77 = some (.if_icmp .le 10) := by decide +kernel
theorem i_41_80 : ins 41 80 = some (.aload_n 0) := by decide +kernel
theorem i_41_81 : ins 41 81 = some (.iconst 2) := by decide +kernel
theorem i_41_82 : ins 41 82 = some (.putfield 22) := by decide +kernel
theorem i_41_85 : ins 41 85 = some (.iconst 0) := by decide +kernel
theorem i_41_86 : ins 41 86 = some (.ireturn) := by decide +kernel
theorem i_41_87 : ins 41 87 = some (.aload_n 0) := by decide +kernel
theorem i_41_88 : ins 41 88 = some (.dup) := by decide +kernel
theorem i_41_89 : ins 41 89 = some (.getfield 19) := by decide +kernel
theorem i_41_92 : ins 41 92 = some (.iload_n 2) := by decide +kernel
theorem i_41_93 : ins 41 93 = some (.iadd) := by decide +kernel
theorem i_41_94 : ins 41 94 = some (.putfield 19) := by decide +kernel
theorem i_41_97 : ins 41 97 = some (.iload_n 3) := by decide +kernel
theorem i_41_98 : ins 41 98 = some (.ireturn) := by decide +kernel
theorem o_42 : mOwn 42 = 3 := rfl
theorem i_42_0 : ins 42 0 = some (.iload_n 0) := by decide +kernel
theorem i_42_1 : ins 42 1 = some (.bipush 48) := by decide +kernel
theorem i_42_3 : ins 42 3 = some (.if_icmp .lt 13) := by decide +kernel
theorem i_42_6 : ins 42 6 = some (.iload_n 0) := by decide +kernel
theorem i_42_7 : ins 42 7 = some (.bipush 57) := by decide +kernel
theorem i_42_9 : ins 42 9 = some (.if_icmp .gt 7) := by decide +kernel
theorem i_42_12 : ins 42 12 = some (.iconst 1) := by decide +kernel
theorem i_42_13 : ins 42 13 = some (.goto 4) := by decide +kernel
theorem i_42_16 : ins 42 16 = some (.iconst 0) := by decide +kernel
theorem i_42_17 : ins 42 17 = some (.ireturn) := by decide +kernel
theorem o_43 : mOwn 43 = 3 := rfl
theorem i_43_0 : ins 43 0 = some (.iload_n 0) := by decide +kernel
theorem i_43_1 : ins 43 1 = some (.lookupswitch 61 #[(98, 51), (100, 59), (102, 57), (115, 55), (119, 53)]) := by decide +kernel
theorem i_43_52 : ins 43 52 = some (.iconst 1) := by decide +kernel
theorem i_43_53 : ins 43 53 = some (.ireturn) := by decide +kernel
theorem i_43_54 : ins 43 54 = some (.iconst 2) := by decide +kernel
theorem i_43_55 : ins 43 55 = some (.ireturn) := by decide +kernel
theorem i_43_56 : ins 43 56 = some (.iconst 3) := by decide +kernel
theorem i_43_57 : ins 43 57 = some (.ireturn) := by decide +kernel
theorem i_43_58 : ins 43 58 = some (.iconst 4) := by decide +kernel
theorem i_43_59 : ins 43 59 = some (.ireturn) := by decide +kernel
theorem i_43_60 : ins 43 60 = some (.iconst 5) := by decide +kernel
theorem i_43_61 : ins 43 61 = some (.ireturn) := by decide +kernel
theorem i_43_62 : ins 43 62 = some (.iconst 0) := by decide +kernel
theorem i_43_63 : ins 43 63 = some (.ireturn) := by decide +kernel
theorem o_44 : mOwn 44 = 4 := rfl
theorem i_44_0 : ins 44 0 = some (.aload_n 0) := by decide +kernel
theorem i_44_1 : ins 44 1 = some (.invokespecial 1) := by decide +kernel
theorem i_44_4 : ins 44 4 = some (.aload_n 0) := by decide +kernel
theorem i_44_5 : ins 44 5 = some (.bipush 8) := by decide +kernel
theorem i_44_7 : ins 44 7 = some (.bipush 40) := by decide +kernel
theorem i_44_9 : ins 44 9 = some (.multianewarray 9 2) := by decide +kernel
theorem i_44_13 : ins 44 13 = some (.putfield 11) := by decide +kernel
theorem i_44_16 : ins 44 16 = some (.aload_n 0) := by decide +kernel
theorem i_44_17 : ins 44 17 = some (.bipush 8) := by decide +kernel
theorem i_44_19 : ins 44 19 = some (.newarray .int) := by decide +kernel
theorem i_44_21 : ins 44 21 = some (.putfield 14) := by decide +kernel
theorem i_44_24 : ins 44 24 = some (.aload_n 0) := by decide +kernel
theorem i_44_25 : ins 44 25 = some (.bipush 8) := by decide +kernel
theorem i_44_27 : ins 44 27 = some (.newarray .int) := by decide +kernel
theorem i_44_29 : ins 44 29 = some (.putfield 18) := by decide +kernel
theorem i_44_32 : ins 44 32 = some (.iconst 0) := by decide +kernel
theorem i_44_33 : ins 44 33 = some (.istore_n 1) := by decide +kernel
theorem i_44_34 : ins 44 34 = some (.iload_n 1) := by decide +kernel
theorem i_44_35 : ins 44 35 = some (.bipush 8) := by decide +kernel
theorem i_44_37 : ins 44 37 = some (.if_icmp .ge 16) := by decide +kernel
theorem i_44_40 : ins 44 40 = some (.aload_n 0) := by decide +kernel
theorem i_44_41 : ins 44 41 = some (.getfield 18) := by decide +kernel
theorem i_44_44 : ins 44 44 = some (.iload_n 1) := by decide +kernel
theorem i_44_45 : ins 44 45 = some (.iconst (-1)) := by decide +kernel
theorem i_44_46 : ins 44 46 = some (.iastore) := by decide +kernel
theorem i_44_47 : ins 44 47 = some (.iinc 1 1) := by decide +kernel
theorem i_44_50 : ins 44 50 = some (.goto (-16)) := by decide +kernel
theorem i_44_53 : ins 44 53 = some (.return_) := by decide +kernel
theorem o_45 : mOwn 45 = 4 := rfl
theorem i_45_0 : ins 45 0 = some (.iload_n 0) := by decide +kernel
theorem i_45_1 : ins 45 1 = some (.ifCond .lt 13) := by decide +kernel
theorem i_45_4 : ins 45 4 = some (.iload_n 0) := by decide +kernel
theorem i_45_5 : ins 45 5 = some (.bipush 8) := by decide +kernel
theorem i_45_7 : ins 45 7 = some (.if_icmp .ge 7) := by decide +kernel
theorem i_45_10 : ins 45 10 = some (.iconst 1) := by decide +kernel
theorem i_45_11 : ins 45 11 = some (.goto 4) := by decide +kernel
theorem i_45_14 : ins 45 14 = some (.iconst 0) := by decide +kernel
theorem i_45_15 : ins 45 15 = some (.ireturn) := by decide +kernel
theorem o_46 : mOwn 46 = 4 := rfl
theorem i_46_0 : ins 46 0 = some (.iload_n 0) := by decide +kernel
theorem i_46_1 : ins 46 1 = some (.ifCond .lt 12) := by decide +kernel
theorem i_46_4 : ins 46 4 = some (.iload_n 0) := by decide +kernel
theorem i_46_5 : ins 46 5 = some (.iconst 2) := by decide +kernel
theorem i_46_6 : ins 46 6 = some (.if_icmp .gt 7) := by decide +kernel
theorem i_46_9 : ins 46 9 = some (.iconst 1) := by decide +kernel
theorem i_46_10 : ins 46 10 = some (.goto 4) := by decide +kernel
theorem i_46_13 : ins 46 13 = some (.iconst 0) := by decide +kernel
theorem i_46_14 : ins 46 14 = some (.ireturn) := by decide +kernel
theorem o_47 : mOwn 47 = 4 := rfl
theorem i_47_0 : ins 47 0 = some (.aload_n 0) := by decide +kernel
theorem i_47_1 : ins 47 1 = some (.getfield 18) := by decide +kernel
theorem i_47_4 : ins 47 4 = some (.iload_n 1) := by decide +kernel
theorem i_47_5 : ins 47 5 = some (.iaload) := by decide +kernel
theorem i_47_6 : ins 47 6 = some (.iconst (-1)) := by decide +kernel
theorem i_47_7 : ins 47 7 = some (.if_icmp .ne 7) := by decide +kernel
theorem i_47_10 : ins 47 10 = some (.iconst 1) := by decide +kernel
theorem i_47_11 : ins 47 11 = some (.goto 4) := by decide +kernel
theorem i_47_14 : ins 47 14 = some (.iconst 0) := by decide +kernel
theorem i_47_15 : ins 47 15 = some (.ireturn) := by decide +kernel
theorem o_48 : mOwn 48 = 4 := rfl
theorem i_48_0 : ins 48 0 = some (.aload_n 0) := by decide +kernel
theorem i_48_1 : ins 48 1 = some (.getfield 14) := by decide +kernel
theorem i_48_4 : ins 48 4 = some (.iload_n 1) := by decide +kernel
theorem i_48_5 : ins 48 5 = some (.iaload) := by decide +kernel
theorem i_48_6 : ins 48 6 = some (.ireturn) := by decide +kernel
theorem o_49 : mOwn 49 = 4 := rfl
theorem i_49_0 : ins 49 0 = some (.aload_n 0) := by decide +kernel
theorem i_49_1 : ins 49 1 = some (.getfield 11) := by decide +kernel
theorem i_49_4 : ins 49 4 = some (.iload_n 1) := by decide +kernel
theorem i_49_5 : ins 49 5 = some (.aaload) := by decide +kernel
theorem i_49_6 : ins 49 6 = some (.iload_n 2) := by decide +kernel
theorem i_49_7 : ins 49 7 = some (.iaload) := by decide +kernel
theorem i_49_8 : ins 49 8 = some (.ireturn) := by decide +kernel
theorem o_50 : mOwn 50 = 4 := rfl
theorem i_50_0 : ins 50 0 = some (.iload_n 2) := by decide +kernel
theorem i_50_1 : ins 50 1 = some (.ifCond .lt 33) := by decide +kernel
theorem i_50_4 : ins 50 4 = some (.iload_n 3) := by decide +kernel
theorem i_50_5 : ins 50 5 = some (.ifCond .lt 29) := by decide +kernel
theorem i_50_8 : ins 50 8 = some (.iload_n 2) := by decide +kernel
theorem i_50_9 : ins 50 9 = some (.aload_n 0) := by decide +kernel
theorem i_50_10 : ins 50 10 = some (.getfield 18) := by decide +kernel
theorem i_50_13 : ins 50 13 = some (.iload_n 1) := by decide +kernel
theorem i_50_14 : ins 50 14 = some (.iaload) := by decide +kernel
theorem i_50_15 : ins 50 15 = some (.if_icmp .gt 19) := by decide +kernel
theorem i_50_18 : ins 50 18 = some (.iload_n 3) := by decide +kernel
theorem i_50_19 : ins 50 19 = some (.aload_n 0) := by decide +kernel
theorem i_50_20 : ins 50 20 = some (.getfield 18) := by decide +kernel
theorem i_50_23 : ins 50 23 = some (.iload_n 1) := by decide +kernel
theorem i_50_24 : ins 50 24 = some (.iaload) := by decide +kernel
theorem i_50_25 : ins 50 25 = some (.iload_n 2) := by decide +kernel
theorem i_50_26 : ins 50 26 = some (.isub) := by decide +kernel
theorem i_50_27 : ins 50 27 = some (.if_icmp .gt 7) := by decide +kernel
theorem i_50_30 : ins 50 30 = some (.iconst 1) := by decide +kernel
theorem i_50_31 : ins 50 31 = some (.goto 4) := by decide +kernel
theorem i_50_34 : ins 50 34 = some (.iconst 0) := by decide +kernel
theorem i_50_35 : ins 50 35 = some (.ireturn) := by decide +kernel
theorem o_51 : mOwn 51 = 4 := rfl
theorem i_51_0 : ins 51 0 = some (.aload_n 0) := by decide +kernel
theorem i_51_1 : ins 51 1 = some (.getfield 14) := by decide +kernel
theorem i_51_4 : ins 51 4 = some (.iload_n 1) := by decide +kernel
theorem i_51_5 : ins 51 5 = some (.iload_n 2) := by decide +kernel
theorem i_51_6 : ins 51 6 = some (.iastore) := by decide +kernel
theorem i_51_7 : ins 51 7 = some (.aload_n 0) := by decide +kernel
theorem i_51_8 : ins 51 8 = some (.getfield 18) := by decide +kernel
theorem i_51_11 : ins 51 11 = some (.iload_n 1) := by decide +kernel
theorem i_51_12 : ins 51 12 = some (.iload_n 3) := by decide +kernel
theorem i_51_13 : ins 51 13 = some (.iastore) := by decide +kernel
theorem i_51_14 : ins 51 14 = some (.iconst 0) := by decide +kernel
theorem i_51_15 : ins 51 15 = some (.istore 4) := by decide +kernel
theorem i_51_17 : ins 51 17 = some (.iload 4) := by decide +kernel
theorem i_51_19 : ins 51 19 = some (.iload_n 3) := by decide +kernel
theorem i_51_20 : ins 51 20 = some (.if_icmp .ge 19) := by decide +kernel
theorem i_51_23 : ins 51 23 = some (.aload_n 0) := by decide +kernel
theorem i_51_24 : ins 51 24 = some (.getfield 11) := by decide +kernel
theorem i_51_27 : ins 51 27 = some (.iload_n 1) := by decide +kernel
theorem i_51_28 : ins 51 28 = some (.aaload) := by decide +kernel
theorem i_51_29 : ins 51 29 = some (.iload 4) := by decide +kernel
theorem i_51_31 : ins 51 31 = some (.iconst 0) := by decide +kernel
theorem i_51_32 : ins 51 32 = some (.iastore) := by decide +kernel
theorem i_51_33 : ins 51 33 = some (.iinc 4 1) := by decide +kernel
theorem i_51_36 : ins 51 36 = some (.goto (-19)) := by decide +kernel
theorem i_51_39 : ins 51 39 = some (.return_) := by decide +kernel
theorem o_52 : mOwn 52 = 4 := rfl
theorem i_52_0 : ins 52 0 = some (.iload_n 3) := by decide +kernel
theorem i_52_1 : ins 52 1 = some (.istore 4) := by decide +kernel
theorem i_52_3 : ins 52 3 = some (.aload_n 0) := by decide +kernel
theorem i_52_4 : ins 52 4 = some (.getfield 14) := by decide +kernel
theorem i_52_7 : ins 52 7 = some (.iload_n 1) := by decide +kernel
theorem i_52_8 : ins 52 8 = some (.iaload) := by decide +kernel
theorem i_52_9 : ins 52 9 = some (.ifCond .ne 10) := by decide +kernel
theorem i_52_12 : ins 52 12 = some (.iload_n 3) := by decide +kernel
theorem i_52_13 : ins 52 13 = some (.i2b) := by decide +kernel
theorem i_52_14 : ins 52 14 = some (.istore 4) := by decide +kernel
theorem i_52_16 : ins 52 16 = some (.goto 17) := by decide +kernel
theorem i_52_19 : ins 52 19 = some (.aload_n 0) := by decide +kernel
theorem i_52_20 : ins 52 20 = some (.getfield 14) := by decide +kernel
theorem i_52_23 : ins 52 23 = some (.iload_n 1) := by decide +kernel
theorem i_52_24 : ins 52 24 = some (.iaload) := by decide +kernel
theorem i_52_25 : ins 52 25 = some (.iconst 1) := by decide +kernel
theorem i_52_26 : ins 52 26 = some (.if_icmp .ne 7) := by decide +kernel
theorem i_52_29 : ins 52 29 = some (.iload_n 3) := by decide +kernel
theorem i_52_30 : ins 52 30 = some (.i2s) := by decide +kernel
theorem i_52_31 : ins 52 31 = some (.istore 4) := by decide +kernel
theorem i_52_33 : ins 52 33 = some (.aload_n 0) := by decide +kernel
theorem i_52_34 : ins 52 34 = some (.getfield 11) := by decide +kernel
theorem i_52_37 : ins 52 37 = some (.iload_n 1) := by decide +kernel
theorem i_52_38 : ins 52 38 = some (.aaload) := by decide +kernel
theorem i_52_39 : ins 52 39 = some (.iload_n 2) := by decide +kernel
theorem i_52_40 : ins 52 40 = some (.iload 4) := by decide +kernel
theorem i_52_42 : ins 52 42 = some (.iastore) := by decide +kernel
theorem i_52_43 : ins 52 43 = some (.iload 4) := by decide +kernel
theorem i_52_45 : ins 52 45 = some (.ireturn) := by decide +kernel
theorem o_53 : mOwn 53 = 4 := rfl
theorem i_53_0 : ins 53 0 = some (.aload_n 0) := by decide +kernel
theorem i_53_1 : ins 53 1 = some (.getfield 11) := by decide +kernel
theorem i_53_4 : ins 53 4 = some (.iload_n 1) := by decide +kernel
theorem i_53_5 : ins 53 5 = some (.aaload) := by decide +kernel
theorem i_53_6 : ins 53 6 = some (.iload_n 2) := by decide +kernel
theorem i_53_7 : ins 53 7 = some (.aload_n 0) := by decide +kernel
theorem i_53_8 : ins 53 8 = some (.getfield 11) := by decide +kernel
theorem i_53_11 : ins 53 11 = some (.iload_n 3) := by decide +kernel
theorem i_53_12 : ins 53 12 = some (.aaload) := by decide +kernel
theorem i_53_13 : ins 53 13 = some (.iload 4) := by decide +kernel
theorem i_53_15 : ins 53 15 = some (.iload 5) := by decide +kernel
theorem i_53_17 : ins 53 17 = some (.invokestatic 21) := by decide +kernel
theorem i_53_20 : ins 53 20 = some (.return_) := by decide +kernel
theorem o_54 : mOwn 54 = 4 := rfl
theorem i_54_0 : ins 54 0 = some (.aload_n 0) := by decide +kernel
theorem i_54_1 : ins 54 1 = some (.getfield 18) := by decide +kernel
theorem i_54_4 : ins 54 4 = some (.iload_n 1) := by decide +kernel
theorem i_54_5 : ins 54 5 = some (.iaload) := by decide +kernel
theorem i_54_6 : ins 54 6 = some (.istore_n 2) := by decide +kernel
theorem i_54_7 : ins 54 7 = some (.aload_n 0) := by decide +kernel
theorem i_54_8 : ins 54 8 = some (.getfield 18) := by decide +kernel
theorem i_54_11 : ins 54 11 = some (.iload_n 1) := by decide +kernel
theorem i_54_12 : ins 54 12 = some (.iconst (-1)) := by decide +kernel
theorem i_54_13 : ins 54 13 = some (.iastore) := by decide +kernel
theorem i_54_14 : ins 54 14 = some (.iload_n 2) := by decide +kernel
theorem i_54_15 : ins 54 15 = some (.ireturn) := by decide +kernel
theorem o_55 : mOwn 55 = 4 := rfl
theorem i_55_0 : ins 55 0 = some (.iconst 0) := by decide +kernel
theorem i_55_1 : ins 55 1 = some (.istore_n 1) := by decide +kernel
theorem i_55_2 : ins 55 2 = some (.iconst 0) := by decide +kernel
theorem i_55_3 : ins 55 3 = some (.istore_n 2) := by decide +kernel
theorem i_55_4 : ins 55 4 = some (.iload_n 2) := by decide +kernel
theorem i_55_5 : ins 55 5 = some (.bipush 8) := by decide +kernel
theorem i_55_7 : ins 55 7 = some (.if_icmp .ge 22) := by decide +kernel
theorem i_55_10 : ins 55 10 = some (.aload_n 0) := by decide +kernel
theorem i_55_11 : ins 55 11 = some (.getfield 18) := by decide +kernel
theorem i_55_14 : ins 55 14 = some (.iload_n 2) := by decide +kernel
theorem i_55_15 : ins 55 15 = some (.iaload) := by decide +kernel
theorem i_55_16 : ins 55 16 = some (.iconst (-1)) := by decide +kernel
theorem i_55_17 : ins 55 17 = some (.if_icmp .eq 6) := by decide +kernel
theorem i_55_20 : ins 55 20 = some (.iinc 1 1) := by decide +kernel
theorem i_55_23 : ins 55 23 = some (.iinc 2 1) := by decide +kernel
theorem i_55_26 : ins 55 26 = some (.goto (-22)) := by decide +kernel
theorem i_55_29 : ins 55 29 = some (.iload_n 1) := by decide +kernel
theorem i_55_30 : ins 55 30 = some (.ireturn) := by decide +kernel
theorem o_56 : mOwn 56 = 5 := rfl
theorem i_56_0 : ins 56 0 = some (.aload_n 0) := by decide +kernel
theorem i_56_1 : ins 56 1 = some (.invokespecial 3) := by decide +kernel
theorem i_56_4 : ins 56 4 = some (.aload_n 0) := by decide +kernel
theorem i_56_5 : ins 56 5 = some (.bipush 28) := by decide +kernel
theorem i_56_7 : ins 56 7 = some (.newarray .int) := by decide +kernel
theorem i_56_9 : ins 56 9 = some (.putfield 9) := by decide +kernel
theorem i_56_12 : ins 56 12 = some (.aload_n 0) := by decide +kernel
theorem i_56_13 : ins 56 13 = some (.bipush 28) := by decide +kernel
theorem i_56_15 : ins 56 15 = some (.newarray .int) := by decide +kernel
theorem i_56_17 : ins 56 17 = some (.putfield 15) := by decide +kernel
theorem i_56_20 : ins 56 20 = some (.aload_n 0) := by decide +kernel
theorem i_56_21 : ins 56 21 = some (.bipush 16) := by decide +kernel
theorem i_56_23 : ins 56 23 = some (.newarray .int) := by decide +kernel
theorem i_56_25 : ins 56 25 = some (.putfield 18) := by decide +kernel
theorem i_56_28 : ins 56 28 = some (.aload_n 0) := by decide +kernel
theorem i_56_29 : ins 56 29 = some (.bipush 16) := by decide +kernel
theorem i_56_31 : ins 56 31 = some (.newarray .int) := by decide +kernel
theorem i_56_33 : ins 56 33 = some (.putfield 21) := by decide +kernel
theorem i_56_36 : ins 56 36 = some (.bipush 16) := by decide +kernel
theorem i_56_38 : ins 56 38 = some (.istore_n 1) := by decide +kernel
theorem i_56_39 : ins 56 39 = some (.iload_n 1) := by decide +kernel
theorem i_56_40 : ins 56 40 = some (.aload_n 0) := by decide +kernel
theorem i_56_41 : ins 56 41 = some (.getfield 9) := by decide +kernel
theorem i_56_44 : ins 56 44 = some (.arraylength) := by decide +kernel
theorem i_56_45 : ins 56 45 = some (.if_icmp .ge 24) := by decide +kernel
theorem i_56_48 : ins 56 48 = some (.aload_n 0) := by decide +kernel
theorem i_56_49 : ins 56 49 = some (.getfield 9) := by decide +kernel
theorem i_56_52 : ins 56 52 = some (.iload_n 1) := by decide +kernel
theorem i_56_53 : ins 56 53 = some (.iconst 1) := by decide +kernel
theorem i_56_54 : ins 56 54 = some (.iastore) := by decide +kernel
theorem i_56_55 : ins 56 55 = some (.aload_n 0) := by decide +kernel
theorem i_56_56 : ins 56 56 = some (.getfield 15) := by decide +kernel
theorem i_56_59 : ins 56 59 = some (.iload_n 1) := by decide +kernel
theorem i_56_60 : ins 56 60 = some (.bipush 99) := by decide +kernel
theorem i_56_62 : ins 56 62 = some (.iastore) := by decide +kernel
theorem i_56_63 : ins 56 63 = some (.iinc 1 1) := by decide +kernel
theorem i_56_66 : ins 56 66 = some (.goto (-27)) := by decide +kernel
theorem i_56_69 : ins 56 69 = some (.return_) := by decide +kernel
theorem o_57 : mOwn 57 = 5 := rfl
theorem i_57_0 : ins 57 0 = some (.aload_n 0) := by decide +kernel
theorem i_57_1 : ins 57 1 = some (.iconst 0) := by decide +kernel
theorem i_57_2 : ins 57 2 = some (.putfield 24) := by decide +kernel
theorem i_57_5 : ins 57 5 = some (.aload_n 0) := by decide +kernel
theorem i_57_6 : ins 57 6 = some (.iconst 0) := by decide +kernel
theorem i_57_7 : ins 57 7 = some (.putfield 28) := by decide +kernel
theorem i_57_10 : ins 57 10 = some (.aload_n 0) := by decide +kernel
theorem i_57_11 : ins 57 11 = some (.iconst 0) := by decide +kernel
theorem i_57_12 : ins 57 12 = some (.putfield 31) := by decide +kernel
theorem i_57_15 : ins 57 15 = some (.aload_n 0) := by decide +kernel
theorem i_57_16 : ins 57 16 = some (.iconst 0) := by decide +kernel
theorem i_57_17 : ins 57 17 = some (.putfield 34) := by decide +kernel
theorem i_57_20 : ins 57 20 = some (.return_) := by decide +kernel
theorem o_58 : mOwn 58 = 5 := rfl
theorem i_58_0 : ins 58 0 = some (.aload_n 0) := by decide +kernel
theorem i_58_1 : ins 58 1 = some (.getfield 34) := by decide +kernel
theorem i_58_4 : ins 58 4 = some (.bipush 16) := by decide +kernel
theorem i_58_6 : ins 58 6 = some (.if_icmp .ge 54) := by decide +kernel
theorem i_58_9 : ins 58 9 = some (.aload_n 0) := by decide +kernel
theorem i_58_10 : ins 58 10 = some (.getfield 9) := by decide +kernel
theorem i_58_13 : ins 58 13 = some (.aload_n 0) := by decide +kernel
theorem i_58_14 : ins 58 14 = some (.getfield 34) := by decide +kernel
theorem i_58_17 : ins 58 17 = some (.iload_n 1) := by decide +kernel
theorem i_58_18 : ins 58 18 = some (.iastore) := by decide +kernel
theorem i_58_19 : ins 58 19 = some (.aload_n 0) := by decide +kernel
theorem i_58_20 : ins 58 20 = some (.getfield 15) := by decide +kernel
theorem i_58_23 : ins 58 23 = some (.aload_n 0) := by decide +kernel
theorem i_58_24 : ins 58 24 = some (.getfield 34) := by decide +kernel
theorem i_58_27 : ins 58 27 = some (.iload_n 2) := by decide +kernel
theorem i_58_28 : ins 58 28 = some (.iastore) := by decide +kernel
theorem i_58_29 : ins 58 29 = some (.aload_n 0) := by decide +kernel
theorem i_58_30 : ins 58 30 = some (.getfield 18) := by decide +kernel
theorem i_58_33 : ins 58 33 = some (.aload_n 0) := by decide +kernel
theorem i_58_34 : ins 58 34 = some (.getfield 34) := by decide +kernel
theorem i_58_37 : ins 58 37 = some (.iload_n 3) := by decide +kernel
theorem i_58_38 : ins 58 38 = some (.iastore) := by decide +kernel
theorem i_58_39 : ins 58 39 = some (.aload_n 0) := by decide +kernel
theorem i_58_40 : ins 58 40 = some (.getfield 21) := by decide +kernel
theorem i_58_43 : ins 58 43 = some (.aload_n 0) := by decide +kernel
theorem i_58_44 : ins 58 44 = some (.getfield 34) := by decide +kernel
theorem i_58_47 : ins 58 47 = some (.iload 4) := by decide +kernel
theorem i_58_49 : ins 58 49 = some (.iastore) := by decide +kernel
theorem i_58_50 : ins 58 50 = some (.aload_n 0) := by decide +kernel
theorem i_58_51 : ins 58 51 = some (.dup) := by decide +kernel
theorem i_58_52 : ins 58 52 = some (.getfield 34) := by decide +kernel
theorem i_58_55 : ins 58 55 = some (.iconst 1) := by decide +kernel
theorem i_58_56 : ins 58 56 = some (.iadd) := by decide +kernel
theorem i_58_57 : ins 58 57 = some (.putfield 34) := by decide +kernel
theorem i_58_60 : ins 58 60 = some (.return_) := by decide +kernel
theorem o_59 : mOwn 59 = 5 := rfl
theorem i_59_0 : ins 59 0 = some (.aload_n 1) := by decide +kernel
theorem i_59_1 : ins 59 1 = some (.getfield 9) := by decide +kernel
theorem i_59_4 : ins 59 4 = some (.iconst 0) := by decide +kernel
theorem i_59_5 : ins 59 5 = some (.aload_n 0) := by decide +kernel
theorem i_59_6 : ins 59 6 = some (.getfield 9) := by decide +kernel
theorem i_59_9 : ins 59 9 = some (.iconst 0) := by decide +kernel
theorem i_59_10 : ins 59 10 = some (.bipush 16) := by decide +kernel
theorem i_59_12 : ins 59 12 = some (.invokestatic 37) := by decide +kernel
theorem i_59_15 : ins 59 15 = some (.aload_n 1) := by decide +kernel
theorem i_59_16 : ins 59 16 = some (.getfield 15) := by decide +kernel
theorem i_59_19 : ins 59 19 = some (.iconst 0) := by decide +kernel
theorem i_59_20 : ins 59 20 = some (.aload_n 0) := by decide +kernel
theorem i_59_21 : ins 59 21 = some (.getfield 15) := by decide +kernel
theorem i_59_24 : ins 59 24 = some (.iconst 0) := by decide +kernel
theorem i_59_25 : ins 59 25 = some (.bipush 16) := by decide +kernel
theorem i_59_27 : ins 59 27 = some (.invokestatic 37) := by decide +kernel
theorem i_59_30 : ins 59 30 = some (.aload_n 1) := by decide +kernel
theorem i_59_31 : ins 59 31 = some (.getfield 18) := by decide +kernel
theorem i_59_34 : ins 59 34 = some (.iconst 0) := by decide +kernel
theorem i_59_35 : ins 59 35 = some (.aload_n 0) := by decide +kernel
theorem i_59_36 : ins 59 36 = some (.getfield 18) := by decide +kernel
theorem i_59_39 : ins 59 39 = some (.iconst 0) := by decide +kernel
theorem i_59_40 : ins 59 40 = some (.bipush 16) := by decide +kernel
theorem i_59_42 : ins 59 42 = some (.invokestatic 37) := by decide +kernel
theorem i_59_45 : ins 59 45 = some (.aload_n 1) := by decide +kernel
theorem i_59_46 : ins 59 46 = some (.getfield 21) := by decide +kernel
theorem i_59_49 : ins 59 49 = some (.iconst 0) := by decide +kernel
theorem i_59_50 : ins 59 50 = some (.aload_n 0) := by decide +kernel
theorem i_59_51 : ins 59 51 = some (.getfield 21) := by decide +kernel
theorem i_59_54 : ins 59 54 = some (.iconst 0) := by decide +kernel
theorem i_59_55 : ins 59 55 = some (.bipush 16) := by decide +kernel
theorem i_59_57 : ins 59 57 = some (.invokestatic 37) := by decide +kernel
theorem i_59_60 : ins 59 60 = some (.aload_n 0) := by decide +kernel
theorem i_59_61 : ins 59 61 = some (.aload_n 1) := by decide +kernel
theorem i_59_62 : ins 59 62 = some (.getfield 24) := by decide +kernel
theorem i_59_65 : ins 59 65 = some (.putfield 24) := by decide +kernel
theorem i_59_68 : ins 59 68 = some (.aload_n 0) := by decide +kernel
theorem i_59_69 : ins 59 69 = some (.aload_n 1) := by decide +kernel
theorem i_59_70 : ins 59 70 = some (.getfield 28) := by decide +kernel
theorem i_59_73 : ins 59 73 = some (.putfield 28) := by decide +kernel
theorem i_59_76 : ins 59 76 = some (.aload_n 0) := by decide +kernel
theorem i_59_77 : ins 59 77 = some (.aload_n 1) := by decide +kernel
theorem i_59_78 : ins 59 78 = some (.getfield 31) := by decide +kernel
theorem i_59_81 : ins 59 81 = some (.putfield 31) := by decide +kernel
theorem i_59_84 : ins 59 84 = some (.aload_n 0) := by decide +kernel
theorem i_59_85 : ins 59 85 = some (.aload_n 1) := by decide +kernel
theorem i_59_86 : ins 59 86 = some (.getfield 34) := by decide +kernel
theorem i_59_89 : ins 59 89 = some (.putfield 34) := by decide +kernel
theorem i_59_92 : ins 59 92 = some (.return_) := by decide +kernel
theorem o_60 : mOwn 60 = 6 := rfl
theorem i_60_0 : ins 60 0 = some (.aload_n 0) := by decide +kernel
theorem i_60_1 : ins 60 1 = some (.invokespecial 3) := by decide +kernel
theorem i_60_4 : ins 60 4 = some (.aload_n 0) := by decide +kernel
theorem i_60_5 : ins 60 5 = some (.aload_n 1) := by decide +kernel
theorem i_60_6 : ins 60 6 = some (.putfield 9) := by decide +kernel
theorem i_60_9 : ins 60 9 = some (.aload_n 0) := by decide +kernel
theorem i_60_10 : ins 60 10 = some (.iload_n 2) := by decide +kernel
theorem i_60_11 : ins 60 11 = some (.newarray .int) := by decide +kernel
theorem i_60_13 : ins 60 13 = some (.putfield 15) := by decide +kernel
theorem i_60_16 : ins 60 16 = some (.aload_n 0) := by decide +kernel
theorem i_60_17 : ins 60 17 = some (.iload_n 2) := by decide +kernel
theorem i_60_18 : ins 60 18 = some (.newarray .int) := by decide +kernel
theorem i_60_20 : ins 60 20 = some (.putfield 19) := by decide +kernel
theorem i_60_23 : ins 60 23 = some (.aload_n 0) := by decide +kernel
theorem i_60_24 : ins 60 24 = some (.iload_n 2) := by decide +kernel
theorem i_60_25 : ins 60 25 = some (.newarray .int) := by decide +kernel
theorem i_60_27 : ins 60 27 = some (.putfield 22) := by decide +kernel
theorem i_60_30 : ins 60 30 = some (.aload_n 0) := by decide +kernel
theorem i_60_31 : ins 60 31 = some (.iload_n 2) := by decide +kernel
theorem i_60_32 : ins 60 32 = some (.newarray .int) := by decide +kernel
theorem i_60_34 : ins 60 34 = some (.putfield 25) := by decide +kernel
theorem i_60_37 : ins 60 37 = some (.aload_n 0) := by decide +kernel
theorem i_60_38 : ins 60 38 = some (.iload_n 2) := by decide +kernel
theorem i_60_39 : ins 60 39 = some (.newarray .int) := by decide +kernel
theorem i_60_41 : ins 60 41 = some (.putfield 28) := by decide +kernel
theorem i_60_44 : ins 60 44 = some (.return_) := by decide +kernel
theorem o_61 : mOwn 61 = 6 := rfl
theorem i_61_0 : ins 61 0 = some (.aload_n 0) := by decide +kernel
theorem i_61_1 : ins 61 1 = some (.iconst 0) := by decide +kernel
theorem i_61_2 : ins 61 2 = some (.putfield 31) := by decide +kernel
theorem i_61_5 : ins 61 5 = some (.aload_n 0) := by decide +kernel
theorem i_61_6 : ins 61 6 = some (.aload_n 0) := by decide +kernel
theorem i_61_7 : ins 61 7 = some (.getfield 9) := by decide +kernel
theorem i_61_10 : ins 61 10 = some (.getfield 35) := by decide +kernel
theorem i_61_13 : ins 61 13 = some (.putfield 40) := by decide +kernel
theorem i_61_16 : ins 61 16 = some (.aload_n 0) := by decide +kernel
theorem i_61_17 : ins 61 17 = some (.aload_n 0) := by decide +kernel
theorem i_61_18 : ins 61 18 = some (.getfield 9) := by decide +kernel
theorem i_61_21 : ins 61 21 = some (.getfield 41) := by decide +kernel
theorem i_61_24 : ins 61 24 = some (.putfield 44) := by decide +kernel
theorem i_61_27 : ins 61 27 = some (.aload_n 0) := by decide +kernel
theorem i_61_28 : ins 61 28 = some (.iconst 0) := by decide +kernel
theorem i_61_29 : ins 61 29 = some (.putfield 45) := by decide +kernel
theorem i_61_32 : ins 61 32 = some (.aload_n 0) := by decide +kernel
theorem i_61_33 : ins 61 33 = some (.aload_n 0) := by decide +kernel
theorem i_61_34 : ins 61 34 = some (.getfield 9) := by decide +kernel
theorem i_61_37 : ins 61 37 = some (.getfield 48) := by decide +kernel
theorem i_61_40 : ins 61 40 = some (.putfield 51) := by decide +kernel
theorem i_61_43 : ins 61 43 = some (.iconst 0) := by decide +kernel
theorem i_61_44 : ins 61 44 = some (.istore_n 1) := by decide +kernel
theorem i_61_45 : ins 61 45 = some (.iload_n 1) := by decide +kernel
theorem i_61_46 : ins 61 46 = some (.aload_n 0) := by decide +kernel
theorem i_61_47 : ins 61 47 = some (.getfield 9) := by decide +kernel
theorem i_61_50 : ins 61 50 = some (.getfield 54) := by decide +kernel
theorem i_61_53 : ins 61 53 = some (.if_icmp .ge 61) := by decide +kernel
theorem i_61_56 : ins 61 56 = some (.aload_n 0) := by decide +kernel
theorem i_61_57 : ins 61 57 = some (.getfield 22) := by decide +kernel
theorem i_61_60 : ins 61 60 = some (.iload_n 1) := by decide +kernel
theorem i_61_61 : ins 61 61 = some (.iconst 0) := by decide +kernel
theorem i_61_62 : ins 61 62 = some (.iastore) := by decide +kernel
theorem i_61_63 : ins 61 63 = some (.aload_n 0) := by decide +kernel
theorem i_61_64 : ins 61 64 = some (.getfield 25) := by decide +kernel
theorem i_61_67 : ins 61 67 = some (.iload_n 1) := by decide +kernel
theorem i_61_68 : ins 61 68 = some (.iconst 0) := by decide +kernel
theorem i_61_69 : ins 61 69 = some (.iastore) := by decide +kernel
theorem i_61_70 : ins 61 70 = some (.aload_n 0) := by decide +kernel
theorem i_61_71 : ins 61 71 = some (.getfield 19) := by decide +kernel
theorem i_61_74 : ins 61 74 = some (.iload_n 1) := by decide +kernel
theorem i_61_75 : ins 61 75 = some (.aload_n 0) := by decide +kernel
theorem i_61_76 : ins 61 76 = some (.getfield 9) := by decide +kernel
theorem i_61_79 : ins 61 79 = some (.getfield 57) := by decide +kernel
theorem i_61_82 : ins 61 82 = some (.iload_n 1) := by decide +kernel
theorem i_61_83 : ins 61 83 = some (.iaload) := by decide +kernel
theorem i_61_84 : ins 61 84 = some (.iastore) := by decide +kernel
theorem i_61_85 : ins 61 85 = some (.aload_n 0) := by decide +kernel
theorem i_61_86 : ins 61 86 = some (.getfield 28) := by decide +kernel
theorem i_61_89 : ins 61 89 = some (.iload_n 1) := by decide +kernel
theorem i_61_90 : ins 61 90 = some (.iload_n 1) := by decide +kernel
theorem i_61_91 : ins 61 91 = some (.iastore) := by decide +kernel
theorem i_61_92 : ins 61 92 = some (.iload_n 1) := by decide +kernel
theorem i_61_93 : ins 61 93 = some (.aload_n 0) := by decide +kernel
theorem i_61_94 : ins 61 94 = some (.getfield 9) := by decide +kernel
theorem i_61_97 : ins 61 97 = some (.getfield 48) := by decide +kernel
theorem i_61_100 : ins 61 100 = some (.if_icmp .ge 8) := by decide +kernel
theorem i_61_103 : ins 61 103 = some (.aload_n 0) := by decide +kernel
theorem i_61_104 : ins 61 104 = some (.iload_n 1) := by decide +kernel
theorem i_61_105 : ins 61 105 = some (.invokevirtual 58) := by decide +kernel
theorem i_61_108 : ins 61 108 = some (.iinc 1 1) := by decide +kernel
theorem i_61_111 : ins 61 111 = some (.goto (-66)) := by decide +kernel
theorem i_61_114 : ins 61 114 = some (.return_) := by decide +kernel
theorem o_62 : mOwn 62 = 6 := rfl
theorem i_62_0 : ins 62 0 = some (.aload_n 0) := by decide +kernel
theorem i_62_1 : ins 62 1 = some (.getfield 15) := by decide +kernel
theorem i_62_4 : ins 62 4 = some (.arraylength) := by decide +kernel
theorem i_62_5 : ins 62 5 = some (.aload_n 1) := by decide +kernel
theorem i_62_6 : ins 62 6 = some (.getfield 15) := by decide +kernel
theorem i_62_9 : ins 62 9 = some (.arraylength) := by decide +kernel
theorem i_62_10 : ins 62 10 = some (.invokestatic 62) := by decide +kernel
theorem i_62_13 : ins 62 13 = some (.istore_n 2) := by decide +kernel
theorem i_62_14 : ins 62 14 = some (.aload_n 1) := by decide +kernel
theorem i_62_15 : ins 62 15 = some (.getfield 15) := by decide +kernel
theorem i_62_18 : ins 62 18 = some (.iconst 0) := by decide +kernel
theorem i_62_19 : ins 62 19 = some (.aload_n 0) := by decide +kernel
theorem i_62_20 : ins 62 20 = some (.getfield 15) := by decide +kernel
theorem i_62_23 : ins 62 23 = some (.iconst 0) := by decide +kernel
theorem i_62_24 : ins 62 24 = some (.iload_n 2) := by decide +kernel
theorem i_62_25 : ins 62 25 = some (.invokestatic 68) := by decide +kernel
theorem i_62_28 : ins 62 28 = some (.aload_n 1) := by decide +kernel
theorem i_62_29 : ins 62 29 = some (.getfield 19) := by decide +kernel
theorem i_62_32 : ins 62 32 = some (.iconst 0) := by decide +kernel
theorem i_62_33 : ins 62 33 = some (.aload_n 0) := by decide +kernel
theorem i_62_34 : ins 62 34 = some (.getfield 19) := by decide +kernel
theorem i_62_37 : ins 62 37 = some (.iconst 0) := by decide +kernel
theorem i_62_38 : ins 62 38 = some (.iload_n 2) := by decide +kernel
theorem i_62_39 : ins 62 39 = some (.invokestatic 68) := by decide +kernel
theorem i_62_42 : ins 62 42 = some (.aload_n 1) := by decide +kernel
theorem i_62_43 : ins 62 43 = some (.getfield 22) := by decide +kernel
theorem i_62_46 : ins 62 46 = some (.iconst 0) := by decide +kernel
theorem i_62_47 : ins 62 47 = some (.aload_n 0) := by decide +kernel
theorem i_62_48 : ins 62 48 = some (.getfield 22) := by decide +kernel
theorem i_62_51 : ins 62 51 = some (.iconst 0) := by decide +kernel
theorem i_62_52 : ins 62 52 = some (.iload_n 2) := by decide +kernel
theorem i_62_53 : ins 62 53 = some (.invokestatic 68) := by decide +kernel
theorem i_62_56 : ins 62 56 = some (.aload_n 1) := by decide +kernel
theorem i_62_57 : ins 62 57 = some (.getfield 25) := by decide +kernel
theorem i_62_60 : ins 62 60 = some (.iconst 0) := by decide +kernel
theorem i_62_61 : ins 62 61 = some (.aload_n 0) := by decide +kernel
theorem i_62_62 : ins 62 62 = some (.getfield 25) := by decide +kernel
theorem i_62_65 : ins 62 65 = some (.iconst 0) := by decide +kernel
theorem i_62_66 : ins 62 66 = some (.iload_n 2) := by decide +kernel
theorem i_62_67 : ins 62 67 = some (.invokestatic 68) := by decide +kernel
theorem i_62_70 : ins 62 70 = some (.aload_n 1) := by decide +kernel
theorem i_62_71 : ins 62 71 = some (.getfield 28) := by decide +kernel
theorem i_62_74 : ins 62 74 = some (.iconst 0) := by decide +kernel
theorem i_62_75 : ins 62 75 = some (.aload_n 0) := by decide +kernel
theorem i_62_76 : ins 62 76 = some (.getfield 28) := by decide +kernel
theorem i_62_79 : ins 62 79 = some (.iconst 0) := by decide +kernel
theorem i_62_80 : ins 62 80 = some (.iload_n 2) := by decide +kernel
theorem i_62_81 : ins 62 81 = some (.invokestatic 68) := by decide +kernel
theorem i_62_84 : ins 62 84 = some (.aload_n 0) := by decide +kernel
theorem i_62_85 : ins 62 85 = some (.aload_n 1) := by decide +kernel
theorem i_62_86 : ins 62 86 = some (.getfield 31) := by decide +kernel
theorem i_62_89 : ins 62 89 = some (.putfield 31) := by decide +kernel
theorem i_62_92 : ins 62 92 = some (.aload_n 0) := by decide +kernel
theorem i_62_93 : ins 62 93 = some (.aload_n 1) := by decide +kernel
theorem i_62_94 : ins 62 94 = some (.getfield 40) := by decide +kernel
theorem i_62_97 : ins 62 97 = some (.putfield 40) := by decide +kernel
theorem i_62_100 : ins 62 100 = some (.aload_n 0) := by decide +kernel
theorem i_62_101 : ins 62 101 = some (.aload_n 1) := by decide +kernel
theorem i_62_102 : ins 62 102 = some (.getfield 44) := by decide +kernel
theorem i_62_105 : ins 62 105 = some (.putfield 44) := by decide +kernel
theorem i_62_108 : ins 62 108 = some (.aload_n 0) := by decide +kernel
theorem i_62_109 : ins 62 109 = some (.aload_n 1) := by decide +kernel
theorem i_62_110 : ins 62 110 = some (.getfield 45) := by decide +kernel
theorem i_62_113 : ins 62 113 = some (.putfield 45) := by decide +kernel
theorem i_62_116 : ins 62 116 = some (.aload_n 0) := by decide +kernel
theorem i_62_117 : ins 62 117 = some (.aload_n 1) := by decide +kernel
theorem i_62_118 : ins 62 118 = some (.getfield 51) := by decide +kernel
theorem i_62_121 : ins 62 121 = some (.putfield 51) := by decide +kernel
theorem i_62_124 : ins 62 124 = some (.return_) := by decide +kernel
theorem o_63 : mOwn 63 = 6 := rfl
theorem i_63_0 : ins 63 0 = some (.aload_n 0) := by decide +kernel
theorem i_63_1 : ins 63 1 = some (.getfield 9) := by decide +kernel
theorem i_63_4 : ins 63 4 = some (.getfield 74) := by decide +kernel
theorem i_63_7 : ins 63 7 = some (.iload_n 1) := by decide +kernel
theorem i_63_8 : ins 63 8 = some (.iaload) := by decide +kernel
theorem i_63_9 : ins 63 9 = some (.iconst 4) := by decide +kernel
theorem i_63_10 : ins 63 10 = some (.if_icmp .ne 10) := by decide +kernel
theorem i_63_13 : ins 63 13 = some (.aload_n 0) := by decide +kernel
theorem i_63_14 : ins 63 14 = some (.getfield 40) := by decide +kernel
theorem i_63_17 : ins 63 17 = some (.goto 9) := by decide +kernel
theorem i_63_20 : ins 63 20 = some (.aload_n 0) := by decide +kernel
theorem i_63_21 : ins 63 21 = some (.getfield 19) := by decide +kernel
theorem i_63_24 : ins 63 24 = some (.iload_n 1) := by decide +kernel
theorem i_63_25 : ins 63 25 = some (.iaload) := by decide +kernel
theorem i_63_26 : ins 63 26 = some (.ireturn) := by decide +kernel
theorem o_64 : mOwn 64 = 6 := rfl
theorem i_64_0 : ins 64 0 = some (.aload_n 0) := by decide +kernel
theorem i_64_1 : ins 64 1 = some (.getfield 19) := by decide +kernel
theorem i_64_4 : ins 64 4 = some (.iload_n 1) := by decide +kernel
theorem i_64_5 : ins 64 5 = some (.iload_n 2) := by decide +kernel
theorem i_64_6 : ins 64 6 = some (.iastore) := by decide +kernel
theorem i_64_7 : ins 64 7 = some (.aload_n 0) := by decide +kernel
theorem i_64_8 : ins 64 8 = some (.getfield 28) := by decide +kernel
theorem i_64_11 : ins 64 11 = some (.iload_n 1) := by decide +kernel
theorem i_64_12 : ins 64 12 = some (.iload_n 1) := by decide +kernel
theorem i_64_13 : ins 64 13 = some (.iastore) := by decide +kernel
theorem i_64_14 : ins 64 14 = some (.return_) := by decide +kernel
theorem o_65 : mOwn 65 = 6 := rfl
theorem i_65_0 : ins 65 0 = some (.iload_n 1) := by decide +kernel
theorem i_65_1 : ins 65 1 = some (.ifCond .lt 20) := by decide +kernel
theorem i_65_4 : ins 65 4 = some (.iload_n 1) := by decide +kernel
theorem i_65_5 : ins 65 5 = some (.aload_n 0) := by decide +kernel
theorem i_65_6 : ins 65 6 = some (.getfield 45) := by decide +kernel
theorem i_65_9 : ins 65 9 = some (.if_icmp .ge 12) := by decide +kernel
theorem i_65_12 : ins 65 12 = some (.aload_n 0) := by decide +kernel
theorem i_65_13 : ins 65 13 = some (.getfield 15) := by decide +kernel
theorem i_65_16 : ins 65 16 = some (.iload_n 1) := by decide +kernel
theorem i_65_17 : ins 65 17 = some (.iaload) := by decide +kernel
theorem i_65_18 : ins 65 18 = some (.goto 5) := by decide +kernel
theorem i_65_21 : ins 65 21 = some (.ldc 77) := by decide +kernel
theorem i_65_23 : ins 65 23 = some (.ireturn) := by decide +kernel
theorem o_66 : mOwn 66 = 6 := rfl
theorem i_66_0 : ins 66 0 = some (.iconst 0) := by decide +kernel
theorem i_66_1 : ins 66 1 = some (.istore_n 2) := by decide +kernel
theorem i_66_2 : ins 66 2 = some (.iload_n 2) := by decide +kernel
theorem i_66_3 : ins 66 3 = some (.aload_n 0) := by decide +kernel
theorem i_66_4 : ins 66 4 = some (.getfield 45) := by decide +kernel
theorem i_66_7 : ins 66 7 = some (.if_icmp .ge 21) := by decide +kernel
theorem i_66_10 : ins 66 10 = some (.aload_n 0) := by decide +kernel
theorem i_66_11 : ins 66 11 = some (.getfield 15) := by decide +kernel
theorem i_66_14 : ins 66 14 = some (.iload_n 2) := by decide +kernel
theorem i_66_15 : ins 66 15 = some (.iaload) := by decide +kernel
theorem i_66_16 : ins 66 16 = some (.iload_n 1) := by decide +kernel
theorem i_66_17 : ins 66 17 = some (.if_icmp .ne 5) := by decide +kernel
theorem i_66_20 : ins 66 20 = some (.iload_n 2) := by decide +kernel
theorem i_66_21 : ins 66 21 = some (.ireturn) := by decide +kernel
theorem i_66_22 : ins 66 22 = some (.iinc 2 1) := by decide +kernel
theorem i_66_25 : ins 66 25 = some (.goto (-23)) := by decide +kernel
theorem i_66_28 : ins 66 28 = some (.ldc 77) := by decide +kernel
theorem i_66_30 : ins 66 30 = some (.ireturn) := by decide +kernel
theorem o_67 : mOwn 67 = 6 := rfl
theorem i_67_0 : ins 67 0 = some (.iconst 0) := by decide +kernel
theorem i_67_1 : ins 67 1 = some (.istore_n 2) := by decide +kernel
theorem i_67_2 : ins 67 2 = some (.iconst 0) := by decide +kernel
theorem i_67_3 : ins 67 3 = some (.istore_n 3) := by decide +kernel
theorem i_67_4 : ins 67 4 = some (.iload_n 3) := by decide +kernel
theorem i_67_5 : ins 67 5 = some (.aload_n 0) := by decide +kernel
theorem i_67_6 : ins 67 6 = some (.getfield 9) := by decide +kernel
theorem i_67_9 : ins 67 9 = some (.getfield 54) := by decide +kernel
theorem i_67_12 : ins 67 12 = some (.if_icmp .ge 22) := by decide +kernel
theorem i_67_15 : ins 67 15 = some (.aload_n 0) := by decide +kernel
theorem i_67_16 : ins 67 16 = some (.getfield 22) := by decide +kernel
theorem i_67_19 : ins 67 19 = some (.iload_n 3) := by decide +kernel
theorem i_67_20 : ins 67 20 = some (.iaload) := by decide +kernel
theorem i_67_21 : ins 67 21 = some (.iload_n 1) := by decide +kernel
theorem i_67_22 : ins 67 22 = some (.if_icmp .ne 6) := by decide +kernel
theorem i_67_25 : ins 67 25 = some (.iinc 2 1) := by decide +kernel
theorem i_67_28 : ins 67 28 = some (.iinc 3 1) := by decide +kernel
theorem i_67_31 : ins 67 31 = some (.goto (-27)) := by decide +kernel
theorem i_67_34 : ins 67 34 = some (.iload_n 2) := by decide +kernel
theorem i_67_35 : ins 67 35 = some (.ireturn) := by decide +kernel
theorem o_68 : mOwn 68 = 6 := rfl
theorem i_68_0 : ins 68 0 = some (.aload_n 0) := by decide +kernel
theorem i_68_1 : ins 68 1 = some (.getfield 51) := by decide +kernel
theorem i_68_4 : ins 68 4 = some (.aload_n 0) := by decide +kernel
theorem i_68_5 : ins 68 5 = some (.getfield 9) := by decide +kernel
theorem i_68_8 : ins 68 8 = some (.getfield 54) := by decide +kernel
theorem i_68_11 : ins 68 11 = some (.if_icmp .ge 7) := by decide +kernel
theorem i_68_14 : ins 68 14 = some (.iconst 1) := by decide +kernel
theorem i_68_15 : ins 68 15 = some (.goto 4) := by decide +kernel
theorem i_68_18 : ins 68 18 = some (.iconst 0) := by decide +kernel
theorem i_68_19 : ins 68 19 = some (.ireturn) := by decide +kernel
theorem o_69 : mOwn 69 = 6 := rfl
theorem i_69_0 : ins 69 0 = some (.aload_n 0) := by decide +kernel
theorem i_69_1 : ins 69 1 = some (.getfield 45) := by decide +kernel
theorem i_69_4 : ins 69 4 = some (.ifCond .ne 14) := by decide +kernel
theorem i_69_7 : ins 69 7 = some (.aload_n 0) := by decide +kernel
theorem i_69_8 : ins 69 8 = some (.invokevirtual 78) := by decide +kernel
theorem i_69_11 : ins 69 11 = some (.ifCond .ne 7) := by decide +kernel
theorem i_69_14 : ins 69 14 = some (.iconst 1) := by decide +kernel
theorem i_69_15 : ins 69 15 = some (.goto 4) := by decide +kernel
theorem i_69_18 : ins 69 18 = some (.iconst 0) := by decide +kernel
theorem i_69_19 : ins 69 19 = some (.ireturn) := by decide +kernel
theorem o_70 : mOwn 70 = 6 := rfl
theorem i_70_0 : ins 70 0 = some (.iconst 0) := by decide +kernel
theorem i_70_1 : ins 70 1 = some (.istore_n 2) := by decide +kernel
theorem i_70_2 : ins 70 2 = some (.iload_n 2) := by decide +kernel
theorem i_70_3 : ins 70 3 = some (.aload_n 0) := by decide +kernel
theorem i_70_4 : ins 70 4 = some (.getfield 45) := by decide +kernel
theorem i_70_7 : ins 70 7 = some (.if_icmp .ge 25) := by decide +kernel
theorem i_70_10 : ins 70 10 = some (.aload_n 0) := by decide +kernel
theorem i_70_11 : ins 70 11 = some (.aload_n 0) := by decide +kernel
theorem i_70_12 : ins 70 12 = some (.getfield 15) := by decide +kernel
theorem i_70_15 : ins 70 15 = some (.iload_n 2) := by decide +kernel
theorem i_70_16 : ins 70 16 = some (.iaload) := by decide +kernel
theorem i_70_17 : ins 70 17 = some (.invokevirtual 82) := by decide +kernel
theorem i_70_20 : ins 70 20 = some (.iload_n 1) := by decide +kernel
theorem i_70_21 : ins 70 21 = some (.if_icmp .eq 5) := by decide +kernel
theorem i_70_24 : ins 70 24 = some (.iconst 0) := by decide +kernel
theorem i_70_25 : ins 70 25 = some (.ireturn) := by decide +kernel
theorem i_70_26 : ins 70 26 = some (.iinc 2 1) := by decide +kernel
theorem i_70_29 : ins 70 29 = some (.goto (-27)) := by decide +kernel
theorem i_70_32 : ins 70 32 = some (.aload_n 0) := by decide +kernel
theorem i_70_33 : ins 70 33 = some (.getfield 45) := by decide +kernel
theorem i_70_36 : ins 70 36 = some (.ifCond .le 7) := by decide +kernel
theorem i_70_39 : ins 70 39 = some (.iconst 1) := by decide +kernel
theorem i_70_40 : ins 70 40 = some (.goto 4) := by decide +kernel
theorem i_70_43 : ins 70 43 = some (.iconst 0) := by decide +kernel
theorem i_70_44 : ins 70 44 = some (.ireturn) := by decide +kernel
theorem o_71 : mOwn 71 = 6 := rfl
theorem i_71_0 : ins 71 0 = some (.aload_n 0) := by decide +kernel
theorem i_71_1 : ins 71 1 = some (.getfield 45) := by decide +kernel
theorem i_71_4 : ins 71 4 = some (.iload_n 2) := by decide +kernel
theorem i_71_5 : ins 71 5 = some (.if_icmp .ne 9) := by decide +kernel
theorem i_71_8 : ins 71 8 = some (.iload_n 2) := by decide +kernel
theorem i_71_9 : ins 71 9 = some (.aload_n 1) := by decide +kernel
theorem i_71_10 : ins 71 10 = some (.arraylength) := by decide +kernel
theorem i_71_11 : ins 71 11 = some (.if_icmp .le 5) := by decide +kernel
theorem i_71_14 : ins 71 14 = some (.iconst 0) := by decide +kernel
theorem i_71_15 : ins 71 15 = some (.ireturn) := by decide +kernel
theorem i_71_16 : ins 71 16 = some (.iconst 0) := by decide +kernel
theorem i_71_17 : ins 71 17 = some (.istore_n 3) := by decide +kernel
theorem i_71_18 : ins 71 18 = some (.iload_n 3) := by decide +kernel
theorem i_71_19 : ins 71 19 = some (.iload_n 2) := by decide +kernel
theorem i_71_20 : ins 71 20 = some (.if_icmp .ge 23) := by decide +kernel
theorem i_71_23 : ins 71 23 = some (.aload_n 0) := by decide +kernel
theorem i_71_24 : ins 71 24 = some (.getfield 15) := by decide +kernel
theorem i_71_27 : ins 71 27 = some (.iload_n 3) := by decide +kernel
theorem i_71_28 : ins 71 28 = some (.iaload) := by decide +kernel
theorem i_71_29 : ins 71 29 = some (.aload_n 1) := by decide +kernel
theorem i_71_30 : ins 71 30 = some (.iload_n 3) := by decide +kernel
theorem i_71_31 : ins 71 31 = some (.iaload) := by decide +kernel
theorem i_71_32 : ins 71 32 = some (.if_icmp .eq 5) := by decide +kernel
theorem i_71_35 : ins 71 35 = some (.iconst 0) := by decide +kernel
theorem i_71_36 : ins 71 36 = some (.ireturn) := by decide +kernel
theorem i_71_37 : ins 71 37 = some (.iinc 3 1) := by decide +kernel
theorem i_71_40 : ins 71 40 = some (.goto (-22)) := by decide +kernel
theorem i_71_43 : ins 71 43 = some (.iconst 1) := by decide +kernel
theorem i_71_44 : ins 71 44 = some (.ireturn) := by decide +kernel
theorem o_72 : mOwn 72 = 6 := rfl
theorem i_72_0 : ins 72 0 = some (.aload_n 0) := by decide +kernel
theorem i_72_1 : ins 72 1 = some (.invokevirtual 86) := by decide +kernel
theorem i_72_4 : ins 72 4 = some (.aload_n 0) := by decide +kernel
theorem i_72_5 : ins 72 5 = some (.dup) := by decide +kernel
theorem i_72_6 : ins 72 6 = some (.getfield 31) := by decide +kernel
theorem i_72_9 : ins 72 9 = some (.iconst 1) := by decide +kernel
theorem i_72_10 : ins 72 10 = some (.iadd) := by decide +kernel
theorem i_72_11 : ins 72 11 = some (.putfield 31) := by decide +kernel
theorem i_72_14 : ins 72 14 = some (.aload_n 0) := by decide +kernel
theorem i_72_15 : ins 72 15 = some (.getfield 44) := by decide +kernel
theorem i_72_18 : ins 72 18 = some (.ifCond .eq 28) := by decide +kernel
theorem i_72_21 : ins 72 21 = some (.aload_n 0) := by decide +kernel
theorem i_72_22 : ins 72 22 = some (.getfield 31) := by decide +kernel
theorem i_72_25 : ins 72 25 = some (.aload_n 0) := by decide +kernel
theorem i_72_26 : ins 72 26 = some (.getfield 44) := by decide +kernel
theorem i_72_29 : ins 72 29 = some (.irem) := by decide +kernel
theorem i_72_30 : ins 72 30 = some (.ifCond .ne 16) := by decide +kernel
theorem i_72_33 : ins 72 33 = some (.aload_n 0) := by decide +kernel
theorem i_72_34 : ins 72 34 = some (.getfield 45) := by decide +kernel
theorem i_72_37 : ins 72 37 = some (.ifCond .le 9) := by decide +kernel
theorem i_72_40 : ins 72 40 = some (.aload_n 0) := by decide +kernel
theorem i_72_41 : ins 72 41 = some (.iconst 0) := by decide +kernel
theorem i_72_42 : ins 72 42 = some (.iconst 2) := by decide +kernel
theorem i_72_43 : ins 72 43 = some (.invokevirtual 89) := by decide +kernel
theorem i_72_46 : ins 72 46 = some (.aload_n 0) := by decide +kernel
theorem i_72_47 : ins 72 47 = some (.invokevirtual 93) := by decide +kernel
theorem i_72_50 : ins 72 50 = some (.aload_n 0) := by decide +kernel
theorem i_72_51 : ins 72 51 = some (.iload_n 1) := by decide +kernel
theorem i_72_52 : ins 72 52 = some (.invokevirtual 96) := by decide +kernel
theorem i_72_55 : ins 72 55 = some (.return_) := by decide +kernel
theorem o_73 : mOwn 73 = 6 := rfl
theorem i_73_0 : ins 73 0 = some (.aload_n 0) := by decide +kernel
theorem i_73_1 : ins 73 1 = some (.getfield 45) := by decide +kernel
theorem i_73_4 : ins 73 4 = some (.iconst 1) := by decide +kernel
theorem i_73_5 : ins 73 5 = some (.isub) := by decide +kernel
theorem i_73_6 : ins 73 6 = some (.istore_n 1) := by decide +kernel
theorem i_73_7 : ins 73 7 = some (.iload_n 1) := by decide +kernel
theorem i_73_8 : ins 73 8 = some (.ifCond .le 70) := by decide +kernel
theorem i_73_11 : ins 73 11 = some (.aload_n 0) := by decide +kernel
theorem i_73_12 : ins 73 12 = some (.getfield 15) := by decide +kernel
theorem i_73_15 : ins 73 15 = some (.iload_n 1) := by decide +kernel
theorem i_73_16 : ins 73 16 = some (.iconst 1) := by decide +kernel
theorem i_73_17 : ins 73 17 = some (.isub) := by decide +kernel
theorem i_73_18 : ins 73 18 = some (.iaload) := by decide +kernel
theorem i_73_19 : ins 73 19 = some (.istore_n 2) := by decide +kernel
theorem i_73_20 : ins 73 20 = some (.aload_n 0) := by decide +kernel
theorem i_73_21 : ins 73 21 = some (.iload_n 2) := by decide +kernel
theorem i_73_22 : ins 73 22 = some (.invokevirtual 82) := by decide +kernel
theorem i_73_25 : ins 73 25 = some (.istore_n 3) := by decide +kernel
theorem i_73_26 : ins 73 26 = some (.iload_n 3) := by decide +kernel
theorem i_73_27 : ins 73 27 = some (.ifCond .eq 45) := by decide +kernel
theorem i_73_30 : ins 73 30 = some (.aload_n 0) := by decide +kernel
theorem i_73_31 : ins 73 31 = some (.aload_n 0) := by decide +kernel
theorem i_73_32 : ins 73 32 = some (.getfield 15) := by decide +kernel
theorem i_73_35 : ins 73 35 = some (.iload_n 1) := by decide +kernel
theorem i_73_36 : ins 73 36 = some (.iaload) := by decide +kernel
theorem i_73_37 : ins 73 37 = some (.invokevirtual 100) := by decide +kernel
theorem i_73_40 : ins 73 40 = some (.ifCond .eq 32) := by decide +kernel
theorem i_73_43 : ins 73 43 = some (.aload_n 0) := by decide +kernel
theorem i_73_44 : ins 73 44 = some (.getfield 19) := by decide +kernel
theorem i_73_47 : ins 73 47 = some (.aload_n 0) := by decide +kernel
theorem i_73_48 : ins 73 48 = some (.getfield 15) := by decide +kernel
theorem i_73_51 : ins 73 51 = some (.iload_n 1) := by decide +kernel
theorem i_73_52 : ins 73 52 = some (.iaload) := by decide +kernel
theorem i_73_53 : ins 73 53 = some (.iload_n 3) := by decide +kernel
theorem i_73_54 : ins 73 54 = some (.iastore) := by decide +kernel
theorem i_73_55 : ins 73 55 = some (.aload_n 0) := by decide +kernel
theorem i_73_56 : ins 73 56 = some (.getfield 28) := by decide +kernel
theorem i_73_59 : ins 73 59 = some (.aload_n 0) := by decide +kernel
theorem i_73_60 : ins 73 60 = some (.getfield 15) := by decide +kernel
theorem i_73_63 : ins 73 63 = some (.iload_n 1) := by decide +kernel
theorem i_73_64 : ins 73 64 = some (.iaload) := by decide +kernel
theorem i_73_65 : ins 73 65 = some (.aload_n 0) := by decide +kernel
theorem i_73_66 : ins 73 66 = some (.getfield 28) := by decide +kernel
theorem i_73_69 : ins 73 69 = some (.iload_n 2) := by decide +kernel
theorem i_73_70 : ins 73 70 = some (.iaload) := by decide +kernel
theorem i_73_71 : ins 73 71 = some (.iastore) := by decide +kernel
theorem i_73_72 : ins 73 72 = some (.iinc 1 (-1)) := by decide +kernel
theorem i_73_75 : ins 73 75 = some (.goto (-68)) := by decide +kernel
theorem i_73_78 : ins 73 78 = some (.return_) := by decide +kernel
theorem o_74 : mOwn 74 = 6 := rfl
theorem i_74_0 : ins 74 0 = some (.aload_n 0) := by decide +kernel
theorem i_74_1 : ins 74 1 = some (.getfield 9) := by decide +kernel
theorem i_74_4 : ins 74 4 = some (.getfield 74) := by decide +kernel
theorem i_74_7 : ins 74 7 = some (.iload_n 1) := by decide +kernel
theorem i_74_8 : ins 74 8 = some (.iaload) := by decide +kernel
theorem i_74_9 : ins 74 9 = some (.istore_n 2) := by decide +kernel
theorem i_74_10 : ins 74 10 = some (.iload_n 2) := by decide +kernel
theorem i_74_11 : ins 74 11 = some (.iconst 2) := by decide +kernel
theorem i_74_12 : ins 74 12 = some (.if_icmp .eq 22) := by decide +kernel
theorem i_74_15 : ins 74 15 = some (.iload_n 2) := by decide +kernel
theorem i_74_16 : ins 74 16 = some (.iconst 1) := by decide +kernel
theorem i_74_17 : ins 74 17 = some (.if_icmp .eq 8) := by decide +kernel
theorem i_74_20 : ins 74 20 = some (.iload_n 2) := by decide +kernel
theorem i_74_21 : ins 74 21 = some (.iconst 3) := by decide +kernel
theorem i_74_22 : ins 74 22 = some (.if_icmp .ne 16) := by decide +kernel
theorem i_74_25 : ins 74 25 = some (.aload_n 0) := by decide +kernel
theorem i_74_26 : ins 74 26 = some (.getfield 19) := by decide +kernel
theorem i_74_29 : ins 74 29 = some (.iload_n 1) := by decide +kernel
theorem i_74_30 : ins 74 30 = some (.iaload) := by decide +kernel
theorem i_74_31 : ins 74 31 = some (.ifCond .ne 7) := by decide +kernel
theorem i_74_34 : ins 74 34 = some (.iconst 1) := by decide +kernel
theorem i_74_35 : ins 74 35 = some (.goto 4) := by decide +kernel
theorem i_74_38 : ins 74 38 = some (.iconst 0) := by decide +kernel
theorem i_74_39 : ins 74 39 = some (.ireturn) := by decide +kernel
theorem o_75 : mOwn 75 = 6 := rfl
theorem i_75_0 : ins 75 0 = some (.iload_n 1) := by decide +kernel
theorem i_75_1 : ins 75 1 = some (.ifCond .lt 11) := by decide +kernel
theorem i_75_4 : ins 75 4 = some (.iload_n 1) := by decide +kernel
theorem i_75_5 : ins 75 5 = some (.aload_n 0) := by decide +kernel
theorem i_75_6 : ins 75 6 = some (.getfield 45) := by decide +kernel
theorem i_75_9 : ins 75 9 = some (.if_icmp .lt 4) := by decide +kernel
theorem i_75_12 : ins 75 12 = some (.return_) := by decide +kernel
theorem i_75_13 : ins 75 13 = some (.aload_n 0) := by decide +kernel
theorem i_75_14 : ins 75 14 = some (.getfield 22) := by decide +kernel
theorem i_75_17 : ins 75 17 = some (.aload_n 0) := by decide +kernel
theorem i_75_18 : ins 75 18 = some (.getfield 15) := by decide +kernel
theorem i_75_21 : ins 75 21 = some (.iload_n 1) := by decide +kernel
theorem i_75_22 : ins 75 22 = some (.iaload) := by decide +kernel
theorem i_75_23 : ins 75 23 = some (.iload_n 2) := by decide +kernel
theorem i_75_24 : ins 75 24 = some (.iastore) := by decide +kernel
theorem i_75_25 : ins 75 25 = some (.aload_n 0) := by decide +kernel
theorem i_75_26 : ins 75 26 = some (.dup) := by decide +kernel
theorem i_75_27 : ins 75 27 = some (.getfield 45) := by decide +kernel
theorem i_75_30 : ins 75 30 = some (.iconst 1) := by decide +kernel
theorem i_75_31 : ins 75 31 = some (.isub) := by decide +kernel
theorem i_75_32 : ins 75 32 = some (.putfield 45) := by decide +kernel
theorem i_75_35 : ins 75 35 = some (.iload_n 1) := by decide +kernel
theorem i_75_36 : ins 75 36 = some (.istore_n 3) := by decide +kernel
theorem i_75_37 : ins 75 37 = some (.iload_n 3) := by decide +kernel
theorem i_75_38 : ins 75 38 = some (.aload_n 0) := by decide +kernel
theorem i_75_39 : ins 75 39 = some (.getfield 45) := by decide +kernel
theorem i_75_42 : ins 75 42 = some (.if_icmp .ge 23) := by decide +kernel
theorem i_75_45 : ins 75 45 = some (.aload_n 0) := by decide +kernel
theorem i_75_46 : ins 75 46 = some (.getfield 15) := by decide +kernel
theorem i_75_49 : ins 75 49 = some (.iload_n 3) := by decide +kernel
theorem i_75_50 : ins 75 50 = some (.aload_n 0) := by decide +kernel
theorem i_75_51 : ins 75 51 = some (.getfield 15) := by decide +kernel
theorem i_75_54 : ins 75 54 = some (.iload_n 3) := by decide +kernel
theorem i_75_55 : ins 75 55 = some (.iconst 1) := by decide +kernel
theorem i_75_56 : ins 75 56 = some (.iadd) := by decide +kernel
theorem i_75_57 : ins 75 57 = some (.iaload) := by decide +kernel
theorem i_75_58 : ins 75 58 = some (.iastore) := by decide +kernel
theorem i_75_59 : ins 75 59 = some (.iinc 3 1) := by decide +kernel
theorem i_75_62 : ins 75 62 = some (.goto (-25)) := by decide +kernel
theorem i_75_65 : ins 75 65 = some (.return_) := by decide +kernel
theorem o_76 : mOwn 76 = 6 := rfl
theorem i_76_0 : ins 76 0 = some (.aload_n 0) := by decide +kernel
theorem i_76_1 : ins 76 1 = some (.getfield 45) := by decide +kernel
theorem i_76_4 : ins 76 4 = some (.bipush 6) := by decide +kernel
theorem i_76_6 : ins 76 6 = some (.if_icmp .lt 7) := by decide +kernel
theorem i_76_9 : ins 76 9 = some (.iconst 1) := by decide +kernel
theorem i_76_10 : ins 76 10 = some (.goto 4) := by decide +kernel
theorem i_76_13 : ins 76 13 = some (.iconst 0) := by decide +kernel
theorem i_76_14 : ins 76 14 = some (.istore_n 1) := by decide +kernel
theorem i_76_15 : ins 76 15 = some (.iconst 0) := by decide +kernel
theorem i_76_16 : ins 76 16 = some (.istore_n 2) := by decide +kernel
theorem i_76_17 : ins 76 17 = some (.iconst 0) := by decide +kernel
theorem i_76_18 : ins 76 18 = some (.istore_n 3) := by decide +kernel
theorem i_76_19 : ins 76 19 = some (.iload_n 3) := by decide +kernel
theorem i_76_20 : ins 76 20 = some (.aload_n 0) := by decide +kernel
theorem i_76_21 : ins 76 21 = some (.getfield 45) := by decide +kernel
theorem i_76_24 : ins 76 24 = some (.if_icmp .ge 96) := by decide +kernel
theorem i_76_27 : ins 76 27 = some (.aload_n 0) := by decide +kernel
theorem i_76_28 : ins 76 28 = some (.getfield 15) := by decide +kernel
theorem i_76_31 : ins 76 31 = some (.iload_n 3) := by decide +kernel
theorem i_76_32 : ins 76 32 = some (.iaload) := by decide +kernel
theorem i_76_33 : ins 76 33 = some (.istore 4) := by decide +kernel
theorem i_76_35 : ins 76 35 = some (.aload_n 0) := by decide +kernel
theorem i_76_36 : ins 76 36 = some (.getfield 25) := by decide +kernel
theorem i_76_39 : ins 76 39 = some (.iload 4) := by decide +kernel
theorem i_76_41 : ins 76 41 = some (.dup2) := by decide +kernel
theorem i_76_42 : ins 76 42 = some (.iaload) := by decide +kernel
theorem i_76_43 : ins 76 43 = some (.iconst 1) := by decide +kernel
theorem i_76_44 : ins 76 44 = some (.iadd) := by decide +kernel
theorem i_76_45 : ins 76 45 = some (.iastore) := by decide +kernel
theorem i_76_46 : ins 76 46 = some (.iload_n 1) := by decide +kernel
theorem i_76_47 : ins 76 47 = some (.ifCond .eq 21) := by decide +kernel
theorem i_76_50 : ins 76 50 = some (.aload_n 0) := by decide +kernel
theorem i_76_51 : ins 76 51 = some (.getfield 9) := by decide +kernel
theorem i_76_54 : ins 76 54 = some (.getfield 74) := by decide +kernel
theorem i_76_57 : ins 76 57 = some (.iload 4) := by decide +kernel
theorem i_76_59 : ins 76 59 = some (.iaload) := by decide +kernel
theorem i_76_60 : ins 76 60 = some (.iconst 2) := by decide +kernel
theorem i_76_61 : ins 76 61 = some (.if_icmp .ne 7) := by decide +kernel
theorem i_76_64 : ins 76 64 = some (.iconst 1) := by decide +kernel
theorem i_76_65 : ins 76 65 = some (.goto 4) := by decide +kernel
theorem i_76_68 : ins 76 68 = some (.iconst 0) := by decide +kernel
theorem i_76_69 : ins 76 69 = some (.istore 5) := by decide +kernel
theorem i_76_71 : ins 76 71 = some (.aload_n 0) := by decide +kernel
theorem i_76_72 : ins 76 72 = some (.getfield 25) := by decide +kernel
theorem i_76_75 : ins 76 75 = some (.iload 4) := by decide +kernel
theorem i_76_77 : ins 76 77 = some (.iaload) := by decide +kernel
theorem i_76_78 : ins 76 78 = some (.aload_n 0) := by decide +kernel
theorem i_76_79 : ins 76 79 = some (.iload 4) := by decide +kernel
theorem i_76_81 : ins 76 81 = some (.invokevirtual 104) := by decide +kernel
theorem i_76_84 : ins 76 84 = some (.if_icmp .le 19) := by decide +kernel
theorem i_76_87 : ins 76 87 = some (.iload 5) := by decide +kernel
theorem i_76_89 : ins 76 89 = some (.ifCond .ne 14) := by decide +kernel
theorem i_76_92 : ins 76 92 = some (.aload_n 0) := by decide +kernel
theorem i_76_93 : ins 76 93 = some (.getfield 22) := by decide +kernel
theorem i_76_96 : ins 76 96 = some (.iload 4) := by decide +kernel
theorem i_76_98 : ins 76 98 = some (.iconst 3) := by decide +kernel
theorem i_76_99 : ins 76 99 = some (.iastore) := by decide +kernel
theorem i_76_100 : ins 76 100 = some (.goto 14) := by decide +kernel
theorem i_76_103 : ins 76 103 = some (.aload_n 0) := by decide +kernel
theorem i_76_104 : ins 76 104 = some (.getfield 15) := by decide +kernel
theorem i_76_107 : ins 76 107 = some (.iload_n 2) := by decide +kernel
theorem i_76_108 : ins 76 108 = some (.iload 4) := by decide +kernel
theorem i_76_110 : ins 76 110 = some (.iastore) := by decide +kernel
theorem i_76_111 : ins 76 111 = some (.iinc 2 1) := by decide +kernel
theorem i_76_114 : ins 76 114 = some (.iinc 3 1) := by decide +kernel
theorem i_76_117 : ins 76 117 = some (.goto (-98)) := by decide +kernel
theorem i_76_120 : ins 76 120 = some (.aload_n 0) := by decide +kernel
theorem i_76_121 : ins 76 121 = some (.iload_n 2) := by decide +kernel
theorem i_76_122 : ins 76 122 = some (.putfield 45) := by decide +kernel
theorem i_76_125 : ins 76 125 = some (.return_) := by decide +kernel
theorem o_77 : mOwn 77 = 6 := rfl
theorem i_77_0 : ins 77 0 = some (.aload_n 0) := by decide +kernel
theorem i_77_1 : ins 77 1 = some (.getfield 9) := by decide +kernel
theorem i_77_4 : ins 77 4 = some (.getfield 74) := by decide +kernel
theorem i_77_7 : ins 77 7 = some (.iload_n 1) := by decide +kernel
theorem i_77_8 : ins 77 8 = some (.iaload) := by decide +kernel
theorem i_77_9 : ins 77 9 = some (.istore_n 2) := by decide +kernel
theorem i_77_10 : ins 77 10 = some (.aload_n 0) := by decide +kernel
theorem i_77_11 : ins 77 11 = some (.getfield 9) := by decide +kernel
theorem i_77_14 : ins 77 14 = some (.getfield 107) := by decide +kernel
theorem i_77_17 : ins 77 17 = some (.iload_n 1) := by decide +kernel
theorem i_77_18 : ins 77 18 = some (.iaload) := by decide +kernel
theorem i_77_19 : ins 77 19 = some (.istore_n 3) := by decide +kernel
theorem i_77_20 : ins 77 20 = some (.iload_n 2) := by decide +kernel
theorem i_77_21 : ins 77 21 = some (.iconst 4) := by decide +kernel
theorem i_77_22 : ins 77 22 = some (.if_icmp .ne 5) := by decide +kernel
theorem i_77_25 : ins 77 25 = some (.iload_n 3) := by decide +kernel
theorem i_77_26 : ins 77 26 = some (.ireturn) := by decide +kernel
theorem i_77_27 : ins 77 27 = some (.iload_n 2) := by decide +kernel
theorem i_77_28 : ins 77 28 = some (.iconst 5) := by decide +kernel
theorem i_77_29 : ins 77 29 = some (.if_icmp .ne 7) := by decide +kernel
theorem i_77_32 : ins 77 32 = some (.iload_n 3) := by decide +kernel
theorem i_77_33 : ins 77 33 = some (.iconst 2) := by decide +kernel
theorem i_77_34 : ins 77 34 = some (.idiv) := by decide +kernel
theorem i_77_35 : ins 77 35 = some (.ireturn) := by decide +kernel
theorem i_77_36 : ins 77 36 = some (.aload_n 0) := by decide +kernel
theorem i_77_37 : ins 77 37 = some (.getfield 19) := by decide +kernel
theorem i_77_40 : ins 77 40 = some (.iload_n 1) := by decide +kernel
theorem i_77_41 : ins 77 41 = some (.iaload) := by decide +kernel
theorem i_77_42 : ins 77 42 = some (.ifCond .ne 7) := by decide +kernel
theorem i_77_45 : ins 77 45 = some (.iload_n 3) := by decide +kernel
theorem i_77_46 : ins 77 46 = some (.goto 6) := by decide +kernel
theorem i_77_49 : ins 77 49 = some (.iconst 2) := by decide +kernel
theorem i_77_50 : ins 77 50 = some (.iload_n 3) := by decide +kernel
theorem i_77_51 : ins 77 51 = some (.imul) := by decide +kernel
theorem i_77_52 : ins 77 52 = some (.istore 4) := by decide +kernel
theorem i_77_54 : ins 77 54 = some (.iload_n 2) := by decide +kernel
theorem i_77_55 : ins 77 55 = some (.iconst 3) := by decide +kernel
theorem i_77_56 : ins 77 56 = some (.if_icmp .ne 17) := by decide +kernel
theorem i_77_59 : ins 77 59 = some (.iload 4) := by decide +kernel
theorem i_77_61 : ins 77 61 = some (.aload_n 0) := by decide +kernel
theorem i_77_62 : ins 77 62 = some (.getfield 25) := by decide +kernel
theorem i_77_65 : ins 77 65 = some (.iload_n 1) := by decide +kernel
theorem i_77_66 : ins 77 66 = some (.iaload) := by decide +kernel
theorem i_77_67 : ins 77 67 = some (.iconst 2) := by decide +kernel
theorem i_77_68 : ins 77 68 = some (.idiv) := by decide +kernel
theorem i_77_69 : ins 77 69 = some (.iadd) := by decide +kernel
theorem i_77_70 : ins 77 70 = some (.goto 5) := by decide +kernel
theorem i_77_73 : ins 77 73 = some (.iload 4) := by decide +kernel
theorem i_77_75 : ins 77 75 = some (.ireturn) := by decide +kernel
theorem o_78 : mOwn 78 = 6 := rfl
theorem i_78_0 : ins 78 0 = some (.aload_n 0) := by decide +kernel
theorem i_78_1 : ins 78 1 = some (.getfield 9) := by decide +kernel
theorem i_78_4 : ins 78 4 = some (.getfield 74) := by decide +kernel
theorem i_78_7 : ins 78 7 = some (.iload_n 1) := by decide +kernel
theorem i_78_8 : ins 78 8 = some (.iaload) := by decide +kernel
theorem i_78_9 : ins 78 9 = some (.istore_n 2) := by decide +kernel
theorem i_78_10 : ins 78 10 = some (.aload_n 0) := by decide +kernel
theorem i_78_11 : ins 78 11 = some (.getfield 9) := by decide +kernel
theorem i_78_14 : ins 78 14 = some (.getfield 107) := by decide +kernel
theorem i_78_17 : ins 78 17 = some (.iload_n 1) := by decide +kernel
theorem i_78_18 : ins 78 18 = some (.iaload) := by decide +kernel
theorem i_78_19 : ins 78 19 = some (.istore_n 3) := by decide +kernel
theorem i_78_20 : ins 78 20 = some (.iload_n 2) := by decide +kernel
theorem i_78_21 : ins 78 21 = some (.iconst 4) := by decide +kernel
theorem i_78_22 : ins 78 22 = some (.if_icmp .ne 5) := by decide +kernel
theorem i_78_25 : ins 78 25 = some (.iload_n 3) := by decide +kernel
theorem i_78_26 : ins 78 26 = some (.ireturn) := by decide +kernel
theorem i_78_27 : ins 78 27 = some (.iload_n 2) := by decide +kernel
theorem i_78_28 : ins 78 28 = some (.iconst 5) := by decide +kernel
theorem i_78_29 : ins 78 29 = some (.if_icmp .ne 7) := by decide +kernel
theorem i_78_32 : ins 78 32 = some (.iload_n 3) := by decide +kernel
theorem i_78_33 : ins 78 33 = some (.iconst 2) := by decide +kernel
theorem i_78_34 : ins 78 34 = some (.idiv) := by decide +kernel
theorem i_78_35 : ins 78 35 = some (.ireturn) := by decide +kernel
theorem i_78_36 : ins 78 36 = some (.aload_n 0) := by decide +kernel
theorem i_78_37 : ins 78 37 = some (.getfield 19) := by decide +kernel
theorem i_78_40 : ins 78 40 = some (.iload_n 1) := by decide +kernel
theorem i_78_41 : ins 78 41 = some (.iaload) := by decide +kernel
theorem i_78_42 : ins 78 42 = some (.ifCond .ne 7) := by decide +kernel
theorem i_78_45 : ins 78 45 = some (.iload_n 3) := by decide +kernel
theorem i_78_46 : ins 78 46 = some (.goto 6) := by decide +kernel
theorem i_78_49 : ins 78 49 = some (.iconst 2) := by decide +kernel
theorem i_78_50 : ins 78 50 = some (.iload_n 3) := by decide +kernel
theorem i_78_51 : ins 78 51 = some (.imul) := by decide +kernel
theorem i_78_52 : ins 78 52 = some (.istore 4) := by decide +kernel
theorem i_78_54 : ins 78 54 = some (.iload_n 2) := by decide +kernel
theorem i_78_55 : ins 78 55 = some (.iconst 3) := by decide +kernel
theorem i_78_56 : ins 78 56 = some (.if_icmp .ne 17) := by decide +kernel
theorem i_78_59 : ins 78 59 = some (.iload 4) := by decide +kernel
theorem i_78_61 : ins 78 61 = some (.aload_n 0) := by decide +kernel
theorem i_78_62 : ins 78 62 = some (.getfield 25) := by decide +kernel
theorem i_78_65 : ins 78 65 = some (.iload_n 1) := by decide +kernel
theorem i_78_66 : ins 78 66 = some (.iaload) := by decide +kernel
theorem i_78_67 : ins 78 67 = some (.iconst 2) := by decide +kernel
theorem i_78_68 : ins 78 68 = some (.idiv) := by decide +kernel
theorem i_78_69 : ins 78 69 = some (.iadd) := by decide +kernel
theorem i_78_70 : ins 78 70 = some (.goto 5) := by decide +kernel
theorem i_78_73 : ins 78 73 = some (.iload 4) := by decide +kernel
theorem i_78_75 : ins 78 75 = some (.ireturn) := by decide +kernel
theorem o_79 : mOwn 79 = 6 := rfl
theorem i_79_0 : ins 79 0 = some (.aload_n 0) := by decide +kernel
theorem i_79_1 : ins 79 1 = some (.invokevirtual 78) := by decide +kernel
theorem i_79_4 : ins 79 4 = some (.ifCond .ne 4) := by decide +kernel
theorem i_79_7 : ins 79 7 = some (.return_) := by decide +kernel
theorem i_79_8 : ins 79 8 = some (.aload_n 0) := by decide +kernel
theorem i_79_9 : ins 79 9 = some (.getfield 51) := by decide +kernel
theorem i_79_12 : ins 79 12 = some (.istore_n 2) := by decide +kernel
theorem i_79_13 : ins 79 13 = some (.aload_n 0) := by decide +kernel
theorem i_79_14 : ins 79 14 = some (.dup) := by decide +kernel
theorem i_79_15 : ins 79 15 = some (.getfield 51) := by decide +kernel
theorem i_79_18 : ins 79 18 = some (.iconst 1) := by decide +kernel
theorem i_79_19 : ins 79 19 = some (.iadd) := by decide +kernel
theorem i_79_20 : ins 79 20 = some (.putfield 51) := by decide +kernel
theorem i_79_23 : ins 79 23 = some (.iload_n 1) := by decide +kernel
theorem i_79_24 : ins 79 24 = some (.ifCond .eq 27) := by decide +kernel
theorem i_79_27 : ins 79 27 = some (.aload_n 0) := by decide +kernel
theorem i_79_28 : ins 79 28 = some (.getfield 45) := by decide +kernel
theorem i_79_31 : ins 79 31 = some (.aload_n 0) := by decide +kernel
theorem i_79_32 : ins 79 32 = some (.getfield 9) := by decide +kernel
theorem i_79_35 : ins 79 35 = some (.getfield 110) := by decide +kernel
theorem i_79_38 : ins 79 38 = some (.iload_n 2) := by decide +kernel
theorem i_79_39 : ins 79 39 = some (.iaload) := by decide +kernel
theorem i_79_40 : ins 79 40 = some (.if_icmp .lt 11) := by decide +kernel
theorem i_79_43 : ins 79 43 = some (.aload_n 0) := by decide +kernel
theorem i_79_44 : ins 79 44 = some (.iload_n 2) := by decide +kernel
theorem i_79_45 : ins 79 45 = some (.invokevirtual 58) := by decide +kernel
theorem i_79_48 : ins 79 48 = some (.goto 10) := by decide +kernel
theorem i_79_51 : ins 79 51 = some (.aload_n 0) := by decide +kernel
theorem i_79_52 : ins 79 52 = some (.getfield 22) := by decide +kernel
theorem i_79_55 : ins 79 55 = some (.iload_n 2) := by decide +kernel
theorem i_79_56 : ins 79 56 = some (.iconst 4) := by decide +kernel
theorem i_79_57 : ins 79 57 = some (.iastore) := by decide +kernel
theorem i_79_58 : ins 79 58 = some (.return_) := by decide +kernel
theorem o_80 : mOwn 80 = 6 := rfl
theorem i_80_0 : ins 80 0 = some (.aload_n 0) := by decide +kernel
theorem i_80_1 : ins 80 1 = some (.getfield 22) := by decide +kernel
theorem i_80_4 : ins 80 4 = some (.iload_n 1) := by decide +kernel
theorem i_80_5 : ins 80 5 = some (.iaload) := by decide +kernel
theorem i_80_6 : ins 80 6 = some (.iconst 1) := by decide +kernel
theorem i_80_7 : ins 80 7 = some (.if_icmp .ne 7) := by decide +kernel
theorem i_80_10 : ins 80 10 = some (.iconst 1) := by decide +kernel
theorem i_80_11 : ins 80 11 = some (.goto 4) := by decide +kernel
theorem i_80_14 : ins 80 14 = some (.iconst 0) := by decide +kernel
theorem i_80_15 : ins 80 15 = some (.ireturn) := by decide +kernel
theorem o_81 : mOwn 81 = 6 := rfl
theorem i_81_0 : ins 81 0 = some (.aload_n 0) := by decide +kernel
theorem i_81_1 : ins 81 1 = some (.getfield 45) := by decide +kernel
theorem i_81_4 : ins 81 4 = some (.aload_n 0) := by decide +kernel
theorem i_81_5 : ins 81 5 = some (.getfield 15) := by decide +kernel
theorem i_81_8 : ins 81 8 = some (.arraylength) := by decide +kernel
theorem i_81_9 : ins 81 9 = some (.if_icmp .ge 30) := by decide +kernel
theorem i_81_12 : ins 81 12 = some (.aload_n 0) := by decide +kernel
theorem i_81_13 : ins 81 13 = some (.getfield 15) := by decide +kernel
theorem i_81_16 : ins 81 16 = some (.aload_n 0) := by decide +kernel
theorem i_81_17 : ins 81 17 = some (.getfield 45) := by decide +kernel
theorem i_81_20 : ins 81 20 = some (.iload_n 1) := by decide +kernel
theorem i_81_21 : ins 81 21 = some (.iastore) := by decide +kernel
theorem i_81_22 : ins 81 22 = some (.aload_n 0) := by decide +kernel
theorem i_81_23 : ins 81 23 = some (.dup) := by decide +kernel
theorem i_81_24 : ins 81 24 = some (.getfield 45) := by decide +kernel
theorem i_81_27 : ins 81 27 = some (.iconst 1) := by decide +kernel
theorem i_81_28 : ins 81 28 = some (.iadd) := by decide +kernel
theorem i_81_29 : ins 81 29 = some (.putfield 45) := by decide +kernel
theorem i_81_32 : ins 81 32 = some (.aload_n 0) := by decide +kernel
theorem i_81_33 : ins 81 33 = some (.getfield 22) := by decide +kernel
theorem i_81_36 : ins 81 36 = some (.iload_n 1) := by decide +kernel
theorem i_81_37 : ins 81 37 = some (.iconst 1) := by decide +kernel
theorem i_81_38 : ins 81 38 = some (.iastore) := by decide +kernel
theorem i_81_39 : ins 81 39 = some (.return_) := by decide +kernel
theorem o_82 : mOwn 82 = 6 := rfl
theorem i_82_0 : ins 82 0 = some (.bipush 16) := by decide +kernel
theorem i_82_2 : ins 82 2 = some (.istore_n 2) := by decide +kernel
theorem i_82_3 : ins 82 3 = some (.iload_n 2) := by decide +kernel
theorem i_82_4 : ins 82 4 = some (.bipush 16) := by decide +kernel
theorem i_82_6 : ins 82 6 = some (.iload_n 1) := by decide +kernel
theorem i_82_7 : ins 82 7 = some (.iadd) := by decide +kernel
theorem i_82_8 : ins 82 8 = some (.if_icmp .ge 44) := by decide +kernel
theorem i_82_11 : ins 82 11 = some (.iload_n 2) := by decide +kernel
theorem i_82_12 : ins 82 12 = some (.aload_n 0) := by decide +kernel
theorem i_82_13 : ins 82 13 = some (.getfield 15) := by decide +kernel
theorem i_82_16 : ins 82 16 = some (.arraylength) := by decide +kernel
theorem i_82_17 : ins 82 17 = some (.if_icmp .ge 35) := by decide +kernel
theorem i_82_20 : ins 82 20 = some (.aload_n 0) := by decide +kernel
theorem i_82_21 : ins 82 21 = some (.getfield 19) := by decide +kernel
theorem i_82_24 : ins 82 24 = some (.iload_n 2) := by decide +kernel
theorem i_82_25 : ins 82 25 = some (.iconst 0) := by decide +kernel
theorem i_82_26 : ins 82 26 = some (.iastore) := by decide +kernel
theorem i_82_27 : ins 82 27 = some (.aload_n 0) := by decide +kernel
theorem i_82_28 : ins 82 28 = some (.getfield 25) := by decide +kernel
theorem i_82_31 : ins 82 31 = some (.iload_n 2) := by decide +kernel
theorem i_82_32 : ins 82 32 = some (.iconst 0) := by decide +kernel
theorem i_82_33 : ins 82 33 = some (.iastore) := by decide +kernel
theorem i_82_34 : ins 82 34 = some (.aload_n 0) := by decide +kernel
theorem i_82_35 : ins 82 35 = some (.getfield 28) := by decide +kernel
theorem i_82_38 : ins 82 38 = some (.iload_n 2) := by decide +kernel
theorem i_82_39 : ins 82 39 = some (.iload_n 2) := by decide +kernel
theorem i_82_40 : ins 82 40 = some (.iastore) := by decide +kernel
theorem i_82_41 : ins 82 41 = some (.aload_n 0) := by decide +kernel
theorem i_82_42 : ins 82 42 = some (.iload_n 2) := by decide +kernel
theorem i_82_43 : ins 82 43 = some (.invokevirtual 58) := by decide +kernel
theorem i_82_46 : ins 82 46 = some (.iinc 2 1) := by decide +kernel
theorem i_82_49 : ins 82 49 = some (.goto (-46)) := by decide +kernel
theorem i_82_52 : ins 82 52 = some (.return_) := by decide +kernel
theorem o_83 : mOwn 83 = 6 := rfl
theorem i_83_0 : ins 83 0 = some (.iconst 0) := by decide +kernel
theorem i_83_1 : ins 83 1 = some (.istore_n 1) := by decide +kernel
theorem i_83_2 : ins 83 2 = some (.iconst 0) := by decide +kernel
theorem i_83_3 : ins 83 3 = some (.istore_n 2) := by decide +kernel
theorem i_83_4 : ins 83 4 = some (.iload_n 2) := by decide +kernel
theorem i_83_5 : ins 83 5 = some (.bipush 8) := by decide +kernel
theorem i_83_7 : ins 83 7 = some (.if_icmp .ge 37) := by decide +kernel
theorem i_83_10 : ins 83 10 = some (.aload_n 0) := by decide +kernel
theorem i_83_11 : ins 83 11 = some (.invokevirtual 78) := by decide +kernel
theorem i_83_14 : ins 83 14 = some (.ifCond .eq 30) := by decide +kernel
theorem i_83_17 : ins 83 17 = some (.aload_n 0) := by decide +kernel
theorem i_83_18 : ins 83 18 = some (.getfield 51) := by decide +kernel
theorem i_83_21 : ins 83 21 = some (.istore_n 3) := by decide +kernel
theorem i_83_22 : ins 83 22 = some (.aload_n 0) := by decide +kernel
theorem i_83_23 : ins 83 23 = some (.iconst 1) := by decide +kernel
theorem i_83_24 : ins 83 24 = some (.invokevirtual 113) := by decide +kernel
theorem i_83_27 : ins 83 27 = some (.aload_n 0) := by decide +kernel
theorem i_83_28 : ins 83 28 = some (.iload_n 3) := by decide +kernel
theorem i_83_29 : ins 83 29 = some (.invokevirtual 116) := by decide +kernel
theorem i_83_32 : ins 83 32 = some (.ifCond .eq 6) := by decide +kernel
theorem i_83_35 : ins 83 35 = some (.iinc 1 1) := by decide +kernel
theorem i_83_38 : ins 83 38 = some (.iinc 2 1) := by decide +kernel
theorem i_83_41 : ins 83 41 = some (.goto (-37)) := by decide +kernel
theorem i_83_44 : ins 83 44 = some (.iload_n 1) := by decide +kernel
theorem i_83_45 : ins 83 45 = some (.ireturn) := by decide +kernel
