theorem o_165 : mOwn 165 = 8 := rfl
theorem i_165_0 : ins 165 0 = some (.iconst 0) := by decide +kernel
theorem i_165_1 : ins 165 1 = some (.istore_n 1) := by decide +kernel
theorem i_165_2 : ins 165 2 = some (.iload_n 1) := by decide +kernel
theorem i_165_3 : ins 165 3 = some (.sipush 232) := by decide +kernel
theorem i_165_6 : ins 165 6 = some (.if_icmp .ge 21) := by decide +kernel
theorem i_165_9 : ins 165 9 = some (.aload_n 0) := by decide +kernel
theorem i_165_10 : ins 165 10 = some (.getfield 23) := by decide +kernel
theorem i_165_13 : ins 165 13 = some (.iload_n 1) := by decide +kernel
theorem i_165_14 : ins 165 14 = some (.aload_n 0) := by decide +kernel
theorem i_165_15 : ins 165 15 = some (.getfield 7) := by decide +kernel
theorem i_165_18 : ins 165 18 = some (.iload_n 1) := by decide +kernel
theorem i_165_19 : ins 165 19 = some (.iaload) := by decide +kernel
theorem i_165_20 : ins 165 20 = some (.iastore) := by decide +kernel
theorem i_165_21 : ins 165 21 = some (.iinc 1 1) := by decide +kernel
theorem i_165_24 : ins 165 24 = some (.goto (-22)) := by decide +kernel
theorem i_165_27 : ins 165 27 = some (.return_) := by decide +kernel
theorem o_166 : mOwn 166 = 8 := rfl
theorem i_166_0 : ins 166 0 = some (.iconst 0) := by decide +kernel
theorem i_166_1 : ins 166 1 = some (.istore_n 1) := by decide +kernel
theorem i_166_2 : ins 166 2 = some (.iload_n 1) := by decide +kernel
theorem i_166_3 : ins 166 3 = some (.sipush 232) := by decide +kernel
theorem i_166_6 : ins 166 6 = some (.if_icmp .ge 21) := by decide +kernel
theorem i_166_9 : ins 166 9 = some (.aload_n 0) := by decide +kernel
theorem i_166_10 : ins 166 10 = some (.getfield 7) := by decide +kernel
theorem i_166_13 : ins 166 13 = some (.iload_n 1) := by decide +kernel
theorem i_166_14 : ins 166 14 = some (.aload_n 0) := by decide +kernel
theorem i_166_15 : ins 166 15 = some (.getfield 23) := by decide +kernel
theorem i_166_18 : ins 166 18 = some (.iload_n 1) := by decide +kernel
theorem i_166_19 : ins 166 19 = some (.iaload) := by decide +kernel
theorem i_166_20 : ins 166 20 = some (.iastore) := by decide +kernel
theorem i_166_21 : ins 166 21 = some (.iinc 1 1) := by decide +kernel
theorem i_166_24 : ins 166 24 = some (.goto (-22)) := by decide +kernel
theorem i_166_27 : ins 166 27 = some (.return_) := by decide +kernel
theorem o_167 : mOwn 167 = 8 := rfl
theorem i_167_0 : ins 167 0 = some (.iconst 0) := by decide +kernel
theorem i_167_1 : ins 167 1 = some (.istore_n 2) := by decide +kernel
theorem i_167_2 : ins 167 2 = some (.iload_n 2) := by decide +kernel
theorem i_167_3 : ins 167 3 = some (.iload_n 1) := by decide +kernel
theorem i_167_4 : ins 167 4 = some (.if_icmp .ge 14) := by decide +kernel
theorem i_167_7 : ins 167 7 = some (.aload_n 0) := by decide +kernel
theorem i_167_8 : ins 167 8 = some (.iconst 1) := by decide +kernel
theorem i_167_9 : ins 167 9 = some (.invokevirtual 167) := by decide +kernel
theorem i_167_12 : ins 167 12 = some (.iinc 2 1) := by decide +kernel
theorem i_167_15 : ins 167 15 = some (.goto (-13)) := by decide +kernel
theorem i_167_18 : ins 167 18 = some (.return_) := by decide +kernel
theorem o_168 : mOwn 168 = 8 := rfl
theorem i_168_0 : ins 168 0 = some (.iconst 0) := by decide +kernel
theorem i_168_1 : ins 168 1 = some (.istore_n 2) := by decide +kernel
theorem i_168_2 : ins 168 2 = some (.iconst 0) := by decide +kernel
theorem i_168_3 : ins 168 3 = some (.istore_n 3) := by decide +kernel
theorem i_168_4 : ins 168 4 = some (.iload_n 3) := by decide +kernel
theorem i_168_5 : ins 168 5 = some (.aload_n 0) := by decide +kernel
theorem i_168_6 : ins 168 6 = some (.invokevirtual 132) := by decide +kernel
theorem i_168_9 : ins 168 9 = some (.if_icmp .ge 29) := by decide +kernel
theorem i_168_12 : ins 168 12 = some (.iload_n 2) := by decide +kernel
theorem i_168_13 : ins 168 13 = some (.aload_n 0) := by decide +kernel
theorem i_168_14 : ins 168 14 = some (.getfield 7) := by decide +kernel
theorem i_168_17 : ins 168 17 = some (.iconst 0) := by decide +kernel
theorem i_168_18 : ins 168 18 = some (.iload_n 3) := by decide +kernel
theorem i_168_19 : ins 168 19 = some (.iadd) := by decide +kernel
theorem i_168_20 : ins 168 20 = some (.iaload) := by decide +kernel
theorem i_168_21 : ins 168 21 = some (.iload_n 1) := by decide +kernel
theorem i_168_22 : ins 168 22 = some (.if_icmp .ne 7) := by decide +kernel
theorem i_168_25 : ins 168 25 = some (.iconst 1) := by decide +kernel
theorem i_168_26 : ins 168 26 = some (.goto 4) := by decide +kernel
theorem i_168_29 : ins 168 29 = some (.iconst 0) := by decide +kernel
theorem i_168_30 : ins 168 30 = some (.iadd) := by decide +kernel
theorem i_168_31 : ins 168 31 = some (.istore_n 2) := by decide +kernel
theorem i_168_32 : ins 168 32 = some (.iinc 3 1) := by decide +kernel
theorem i_168_35 : ins 168 35 = some (.goto (-31)) := by decide +kernel
theorem i_168_38 : ins 168 38 = some (.iload_n 2) := by decide +kernel
theorem i_168_39 : ins 168 39 = some (.ireturn) := by decide +kernel
theorem o_169 : mOwn 169 = 8 := rfl
theorem i_169_0 : ins 169 0 = some (.aload_n 0) := by decide +kernel
theorem i_169_1 : ins 169 1 = some (.invokevirtual 157) := by decide +kernel
theorem i_169_4 : ins 169 4 = some (.ifCond .ne 6) := by decide +kernel
theorem i_169_7 : ins 169 7 = some (.ldc 161) := by decide +kernel
theorem i_169_9 : ins 169 9 = some (.ireturn) := by decide +kernel
theorem i_169_10 : ins 169 10 = some (.iload_n 1) := by decide +kernel
theorem i_169_11 : ins 169 11 = some (.i2l) := by decide +kernel
theorem i_169_12 : ins 169 12 = some (.lconst 0) := by decide +kernel
theorem i_169_13 : ins 169 13 = some (.ldc2_w 191) := by decide +kernel
theorem i_169_16 : ins 169 16 = some (.invokestatic 63) := by decide +kernel
theorem i_169_19 : ins 169 19 = some (.ifCond .eq 15) := by decide +kernel
theorem i_169_22 : ins 169 22 = some (.iload_n 2) := by decide +kernel
theorem i_169_23 : ins 169 23 = some (.i2l) := by decide +kernel
theorem i_169_24 : ins 169 24 = some (.lconst 0) := by decide +kernel
theorem i_169_25 : ins 169 25 = some (.ldc2_w 174) := by decide +kernel
theorem i_169_28 : ins 169 28 = some (.invokestatic 63) := by decide +kernel
theorem i_169_31 : ins 169 31 = some (.ifCond .ne 6) := by decide +kernel
theorem i_169_34 : ins 169 34 = some (.ldc 73) := by decide +kernel
theorem i_169_36 : ins 169 36 = some (.ireturn) := by decide +kernel
theorem i_169_37 : ins 169 37 = some (.aload_n 0) := by decide +kernel
theorem i_169_38 : ins 169 38 = some (.invokevirtual 193) := by decide +kernel
theorem i_169_41 : ins 169 41 = some (.aload_n 0) := by decide +kernel
theorem i_169_42 : ins 169 42 = some (.iload_n 1) := by decide +kernel
theorem i_169_43 : ins 169 43 = some (.invokevirtual 196) := by decide +kernel
theorem i_169_46 : ins 169 46 = some (.aload_n 0) := by decide +kernel
theorem i_169_47 : ins 169 47 = some (.iconst 1) := by decide +kernel
theorem i_169_48 : ins 169 48 = some (.iload_n 2) := by decide +kernel
theorem i_169_49 : ins 169 49 = some (.iadd) := by decide +kernel
theorem i_169_50 : ins 169 50 = some (.invokevirtual 199) := by decide +kernel
theorem i_169_53 : ins 169 53 = some (.istore_n 3) := by decide +kernel
theorem i_169_54 : ins 169 54 = some (.aload_n 0) := by decide +kernel
theorem i_169_55 : ins 169 55 = some (.invokevirtual 202) := by decide +kernel
theorem i_169_58 : ins 169 58 = some (.iload_n 3) := by decide +kernel
theorem i_169_59 : ins 169 59 = some (.ireturn) := by decide +kernel
theorem o_170 : mOwn 170 = 8 := rfl
theorem i_170_0 : ins 170 0 = some (.aload_n 0) := by decide +kernel
theorem i_170_1 : ins 170 1 = some (.invokevirtual 157) := by decide +kernel
theorem i_170_4 : ins 170 4 = some (.ifCond .ne 6) := by decide +kernel
theorem i_170_7 : ins 170 7 = some (.ldc 161) := by decide +kernel
theorem i_170_9 : ins 170 9 = some (.ireturn) := by decide +kernel
theorem i_170_10 : ins 170 10 = some (.iload_n 1) := by decide +kernel
theorem i_170_11 : ins 170 11 = some (.i2l) := by decide +kernel
theorem i_170_12 : ins 170 12 = some (.lconst 0) := by decide +kernel
theorem i_170_13 : ins 170 13 = some (.ldc2_w 191) := by decide +kernel
theorem i_170_16 : ins 170 16 = some (.invokestatic 63) := by decide +kernel
theorem i_170_19 : ins 170 19 = some (.ifCond .eq 7) := by decide +kernel
theorem i_170_22 : ins 170 22 = some (.iload_n 2) := by decide +kernel
theorem i_170_23 : ins 170 23 = some (.ifCond .ge 6) := by decide +kernel
theorem i_170_26 : ins 170 26 = some (.ldc 73) := by decide +kernel
theorem i_170_28 : ins 170 28 = some (.ireturn) := by decide +kernel
theorem i_170_29 : ins 170 29 = some (.aload_n 0) := by decide +kernel
theorem i_170_30 : ins 170 30 = some (.invokevirtual 193) := by decide +kernel
theorem i_170_33 : ins 170 33 = some (.aload_n 0) := by decide +kernel
theorem i_170_34 : ins 170 34 = some (.iload_n 1) := by decide +kernel
theorem i_170_35 : ins 170 35 = some (.invokevirtual 196) := by decide +kernel
theorem i_170_38 : ins 170 38 = some (.iload_n 2) := by decide +kernel
theorem i_170_39 : ins 170 39 = some (.aload_n 0) := by decide +kernel
theorem i_170_40 : ins 170 40 = some (.getfield 7) := by decide +kernel
theorem i_170_43 : ins 170 43 = some (.sipush 140) := by decide +kernel
theorem i_170_46 : ins 170 46 = some (.iaload) := by decide +kernel
theorem i_170_47 : ins 170 47 = some (.if_icmp .ge 15) := by decide +kernel
theorem i_170_50 : ins 170 50 = some (.aload_n 0) := by decide +kernel
theorem i_170_51 : ins 170 51 = some (.getfield 7) := by decide +kernel
theorem i_170_54 : ins 170 54 = some (.bipush 112) := by decide +kernel
theorem i_170_56 : ins 170 56 = some (.iload_n 2) := by decide +kernel
theorem i_170_57 : ins 170 57 = some (.iadd) := by decide +kernel
theorem i_170_58 : ins 170 58 = some (.iaload) := by decide +kernel
theorem i_170_59 : ins 170 59 = some (.goto 5) := by decide +kernel
theorem i_170_62 : ins 170 62 = some (.ldc 183) := by decide +kernel
theorem i_170_64 : ins 170 64 = some (.istore_n 3) := by decide +kernel
theorem i_170_65 : ins 170 65 = some (.aload_n 0) := by decide +kernel
theorem i_170_66 : ins 170 66 = some (.invokevirtual 202) := by decide +kernel
theorem i_170_69 : ins 170 69 = some (.iload_n 3) := by decide +kernel
theorem i_170_70 : ins 170 70 = some (.ireturn) := by decide +kernel
theorem o_171 : mOwn 171 = 8 := rfl
theorem i_171_0 : ins 171 0 = some (.iconst 0) := by decide +kernel
theorem i_171_1 : ins 171 1 = some (.istore_n 1) := by decide +kernel
theorem i_171_2 : ins 171 2 = some (.iload_n 1) := by decide +kernel
theorem i_171_3 : ins 171 3 = some (.sipush 200) := by decide +kernel
theorem i_171_6 : ins 171 6 = some (.if_icmp .ge 40) := by decide +kernel
theorem i_171_9 : ins 171 9 = some (.aload_n 0) := by decide +kernel
theorem i_171_10 : ins 171 10 = some (.getfield 7) := by decide +kernel
theorem i_171_13 : ins 171 13 = some (.sipush 140) := by decide +kernel
theorem i_171_16 : ins 171 16 = some (.iaload) := by decide +kernel
theorem i_171_17 : ins 171 17 = some (.ifCond .gt 18) := by decide +kernel
theorem i_171_20 : ins 171 20 = some (.aload_n 0) := by decide +kernel
theorem i_171_21 : ins 171 21 = some (.getfield 7) := by decide +kernel
theorem i_171_24 : ins 171 24 = some (.sipush 141) := by decide +kernel
theorem i_171_27 : ins 171 27 = some (.iaload) := by decide +kernel
theorem i_171_28 : ins 171 28 = some (.aload_n 0) := by decide +kernel
theorem i_171_29 : ins 171 29 = some (.invokevirtual 132) := by decide +kernel
theorem i_171_32 : ins 171 32 = some (.if_icmp .ge 14) := by decide +kernel
theorem i_171_35 : ins 171 35 = some (.aload_n 0) := by decide +kernel
theorem i_171_36 : ins 171 36 = some (.iconst 1) := by decide +kernel
theorem i_171_37 : ins 171 37 = some (.invokevirtual 167) := by decide +kernel
theorem i_171_40 : ins 171 40 = some (.iinc 1 1) := by decide +kernel
theorem i_171_43 : ins 171 43 = some (.goto (-41)) := by decide +kernel
theorem i_171_46 : ins 171 46 = some (.aload_n 0) := by decide +kernel
theorem i_171_47 : ins 171 47 = some (.getfield 7) := by decide +kernel
theorem i_171_50 : ins 171 50 = some (.sipush 140) := by decide +kernel
theorem i_171_53 : ins 171 53 = some (.iaload) := by decide +kernel
theorem i_171_54 : ins 171 54 = some (.ifCond .gt 18) := by decide +kernel
theorem i_171_57 : ins 171 57 = some (.aload_n 0) := by decide +kernel
theorem i_171_58 : ins 171 58 = some (.getfield 7) := by decide +kernel
theorem i_171_61 : ins 171 61 = some (.sipush 141) := by decide +kernel
theorem i_171_64 : ins 171 64 = some (.iaload) := by decide +kernel
theorem i_171_65 : ins 171 65 = some (.aload_n 0) := by decide +kernel
theorem i_171_66 : ins 171 66 = some (.invokevirtual 132) := by decide +kernel
theorem i_171_69 : ins 171 69 = some (.if_icmp .ge 9) := by decide +kernel
theorem i_171_72 : ins 171 72 = some (.sipush 1000) := by decide +kernel
theorem i_171_75 : ins 171 75 = some (.goto 4) := by decide +kernel
theorem i_171_78 : ins 171 78 = some (.iload_n 1) := by decide +kernel
theorem i_171_79 : ins 171 79 = some (.ireturn) := by decide +kernel
theorem o_172 : mOwn 172 = 8 := rfl
theorem i_172_0 : ins 172 0 = some (.aload_n 0) := by decide +kernel
theorem i_172_1 : ins 172 1 = some (.invokevirtual 157) := by decide +kernel
theorem i_172_4 : ins 172 4 = some (.ifCond .ne 6) := by decide +kernel
theorem i_172_7 : ins 172 7 = some (.ldc 161) := by decide +kernel
theorem i_172_9 : ins 172 9 = some (.ireturn) := by decide +kernel
theorem i_172_10 : ins 172 10 = some (.aload_n 0) := by decide +kernel
theorem i_172_11 : ins 172 11 = some (.invokevirtual 193) := by decide +kernel
theorem i_172_14 : ins 172 14 = some (.aload_n 0) := by decide +kernel
theorem i_172_15 : ins 172 15 = some (.invokevirtual 205) := by decide +kernel
theorem i_172_18 : ins 172 18 = some (.istore_n 1) := by decide +kernel
theorem i_172_19 : ins 172 19 = some (.aload_n 0) := by decide +kernel
theorem i_172_20 : ins 172 20 = some (.invokevirtual 202) := by decide +kernel
theorem i_172_23 : ins 172 23 = some (.iload_n 1) := by decide +kernel
theorem i_172_24 : ins 172 24 = some (.sipush 1000) := by decide +kernel
theorem i_172_27 : ins 172 27 = some (.if_icmp .ne 8) := by decide +kernel
theorem i_172_30 : ins 172 30 = some (.ldc 183) := by decide +kernel
theorem i_172_32 : ins 172 32 = some (.goto 4) := by decide +kernel
theorem i_172_35 : ins 172 35 = some (.iload_n 1) := by decide +kernel
theorem i_172_36 : ins 172 36 = some (.ireturn) := by decide +kernel
theorem o_173 : mOwn 173 = 8 := rfl
theorem i_173_0 : ins 173 0 = some (.aload_n 0) := by decide +kernel
theorem i_173_1 : ins 173 1 = some (.invokevirtual 157) := by decide +kernel
theorem i_173_4 : ins 173 4 = some (.ifCond .ne 6) := by decide +kernel
theorem i_173_7 : ins 173 7 = some (.ldc 161) := by decide +kernel
theorem i_173_9 : ins 173 9 = some (.ireturn) := by decide +kernel
theorem i_173_10 : ins 173 10 = some (.iload_n 1) := by decide +kernel
theorem i_173_11 : ins 173 11 = some (.ifCond .lt 13) := by decide +kernel
theorem i_173_14 : ins 173 14 = some (.iload_n 2) := by decide +kernel
theorem i_173_15 : ins 173 15 = some (.i2l) := by decide +kernel
theorem i_173_16 : ins 173 16 = some (.lconst 0) := by decide +kernel
theorem i_173_17 : ins 173 17 = some (.lconst 1) := by decide +kernel
theorem i_173_18 : ins 173 18 = some (.invokestatic 63) := by decide +kernel
theorem i_173_21 : ins 173 21 = some (.ifCond .ne 6) := by decide +kernel
theorem i_173_24 : ins 173 24 = some (.ldc 73) := by decide +kernel
theorem i_173_26 : ins 173 26 = some (.ireturn) := by decide +kernel
theorem i_173_27 : ins 173 27 = some (.iload_n 1) := by decide +kernel
theorem i_173_28 : ins 173 28 = some (.aload_n 0) := by decide +kernel
theorem i_173_29 : ins 173 29 = some (.getfield 7) := by decide +kernel
theorem i_173_32 : ins 173 32 = some (.sipush 140) := by decide +kernel
theorem i_173_35 : ins 173 35 = some (.iaload) := by decide +kernel
theorem i_173_36 : ins 173 36 = some (.if_icmp .lt 6) := by decide +kernel
theorem i_173_39 : ins 173 39 = some (.ldc 183) := by decide +kernel
theorem i_173_41 : ins 173 41 = some (.ireturn) := by decide +kernel
theorem i_173_42 : ins 173 42 = some (.iconst 0) := by decide +kernel
theorem i_173_43 : ins 173 43 = some (.istore_n 3) := by decide +kernel
theorem i_173_44 : ins 173 44 = some (.iload_n 2) := by decide +kernel
theorem i_173_45 : ins 173 45 = some (.ifCond .ne 7) := by decide +kernel
theorem i_173_48 : ins 173 48 = some (.iconst (-1)) := by decide +kernel
theorem i_173_49 : ins 173 49 = some (.goto 6) := by decide +kernel
theorem i_173_52 : ins 173 52 = some (.sipush 2000) := by decide +kernel
theorem i_173_55 : ins 173 55 = some (.istore 4) := by decide +kernel
theorem i_173_57 : ins 173 57 = some (.aload_n 0) := by decide +kernel
theorem i_173_58 : ins 173 58 = some (.invokevirtual 193) := by decide +kernel
theorem i_173_61 : ins 173 61 = some (.iconst 0) := by decide +kernel
theorem i_173_62 : ins 173 62 = some (.istore 5) := by decide +kernel
theorem i_173_64 : ins 173 64 = some (.iload 5) := by decide +kernel
theorem i_173_66 : ins 173 66 = some (.iconst 4) := by decide +kernel
theorem i_173_67 : ins 173 67 = some (.if_icmp .ge 93) := by decide +kernel
theorem i_173_70 : ins 173 70 = some (.aload_n 0) := by decide +kernel
theorem i_173_71 : ins 173 71 = some (.aload_n 0) := by decide +kernel
theorem i_173_72 : ins 173 72 = some (.getfield 7) := by decide +kernel
theorem i_173_75 : ins 173 75 = some (.bipush 112) := by decide +kernel
theorem i_173_77 : ins 173 77 = some (.iload_n 1) := by decide +kernel
theorem i_173_78 : ins 173 78 = some (.iadd) := by decide +kernel
theorem i_173_79 : ins 173 79 = some (.iaload) := by decide +kernel
theorem i_173_80 : ins 173 80 = some (.iload 5) := by decide +kernel
theorem i_173_82 : ins 173 82 = some (.invokevirtual 179) := by decide +kernel
theorem i_173_85 : ins 173 85 = some (.aload_n 0) := by decide +kernel
theorem i_173_86 : ins 173 86 = some (.invokevirtual 205) := by decide +kernel
theorem i_173_89 : ins 173 89 = some (.istore 6) := by decide +kernel
theorem i_173_91 : ins 173 91 = some (.aload_n 0) := by decide +kernel
theorem i_173_92 : ins 173 92 = some (.invokevirtual 202) := by decide +kernel
theorem i_173_95 : ins 173 95 = some (.iload_n 2) := by decide +kernel
theorem i_173_96 : ins 173 96 = some (.ifCond .ne 18) := by decide +kernel
theorem i_173_99 : ins 173 99 = some (.iload 6) := by decide +kernel
theorem i_173_101 : ins 173 101 = some (.iload 4) := by decide +kernel
theorem i_173_103 : ins 173 103 = some (.if_icmp .le 7) := by decide +kernel
theorem i_173_106 : ins 173 106 = some (.iconst 1) := by decide +kernel
theorem i_173_107 : ins 173 107 = some (.goto 19) := by decide +kernel
theorem i_173_110 : ins 173 110 = some (.iconst 0) := by decide +kernel
theorem i_173_111 : ins 173 111 = some (.goto 15) := by decide +kernel
theorem i_173_114 : ins 173 114 = some (.iload 6) := by decide +kernel
theorem i_173_116 : ins 173 116 = some (.iload 4) := by decide +kernel
theorem i_173_118 : ins 173 118 = some (.if_icmp .ge 7) := by decide +kernel
theorem i_173_121 : ins 173 121 = some (.iconst 1) := by decide +kernel
theorem i_173_122 : ins 173 122 = some (.goto 4) := by decide +kernel
theorem i_173_125 : ins 173 125 = some (.iconst 0) := by decide +kernel
theorem i_173_126 : ins 173 126 = some (.istore 7) := by decide +kernel
theorem i_173_128 : ins 173 128 = some (.iload 7) := by decide +kernel
theorem i_173_130 : ins 173 130 = some (.ifCond .eq 8) := by decide +kernel
theorem i_173_133 : ins 173 133 = some (.iload 5) := by decide +kernel
theorem i_173_135 : ins 173 135 = some (.goto 4) := by decide +kernel
theorem i_173_138 : ins 173 138 = some (.iload_n 3) := by decide +kernel
theorem i_173_139 : ins 173 139 = some (.istore_n 3) := by decide +kernel
theorem i_173_140 : ins 173 140 = some (.iload 7) := by decide +kernel
theorem i_173_142 : ins 173 142 = some (.ifCond .eq 8) := by decide +kernel
theorem i_173_145 : ins 173 145 = some (.iload 6) := by decide +kernel
theorem i_173_147 : ins 173 147 = some (.goto 5) := by decide +kernel
theorem i_173_150 : ins 173 150 = some (.iload 4) := by decide +kernel
theorem i_173_152 : ins 173 152 = some (.istore 4) := by decide +kernel
theorem i_173_154 : ins 173 154 = some (.iinc 5 1) := by decide +kernel
theorem i_173_157 : ins 173 157 = some (.goto (-93)) := by decide +kernel
theorem i_173_160 : ins 173 160 = some (.iload_n 3) := by decide +kernel
theorem i_173_161 : ins 173 161 = some (.ireturn) := by decide +kernel
theorem o_174 : mOwn 174 = 8 := rfl
theorem i_174_0 : ins 174 0 = some (.aload_n 0) := by decide +kernel
theorem i_174_1 : ins 174 1 = some (.iload_n 1) := by decide +kernel
theorem i_174_2 : ins 174 2 = some (.invokevirtual 171) := by decide +kernel
theorem i_174_5 : ins 174 5 = some (.ifCond .eq 13) := by decide +kernel
theorem i_174_8 : ins 174 8 = some (.iload_n 2) := by decide +kernel
theorem i_174_9 : ins 174 9 = some (.i2l) := by decide +kernel
theorem i_174_10 : ins 174 10 = some (.lconst 0) := by decide +kernel
theorem i_174_11 : ins 174 11 = some (.lconst 1) := by decide +kernel
theorem i_174_12 : ins 174 12 = some (.invokestatic 63) := by decide +kernel
theorem i_174_15 : ins 174 15 = some (.ifCond .ne 6) := by decide +kernel
theorem i_174_18 : ins 174 18 = some (.ldc 73) := by decide +kernel
theorem i_174_20 : ins 174 20 = some (.ireturn) := by decide +kernel
theorem i_174_21 : ins 174 21 = some (.iload_n 2) := by decide +kernel
theorem i_174_22 : ins 174 22 = some (.ifCond .ne 7) := by decide +kernel
theorem i_174_25 : ins 174 25 = some (.iconst 2) := by decide +kernel
theorem i_174_26 : ins 174 26 = some (.goto 4) := by decide +kernel
theorem i_174_29 : ins 174 29 = some (.iconst 3) := by decide +kernel
theorem i_174_30 : ins 174 30 = some (.istore_n 3) := by decide +kernel
theorem i_174_31 : ins 174 31 = some (.iconst 0) := by decide +kernel
theorem i_174_32 : ins 174 32 = some (.istore 4) := by decide +kernel
theorem i_174_34 : ins 174 34 = some (.aload_n 0) := by decide +kernel
theorem i_174_35 : ins 174 35 = some (.invokevirtual 193) := by decide +kernel
theorem i_174_38 : ins 174 38 = some (.iload 4) := by decide +kernel
theorem i_174_40 : ins 174 40 = some (.sipush 200) := by decide +kernel
theorem i_174_43 : ins 174 43 = some (.if_icmp .ge 26) := by decide +kernel
theorem i_174_46 : ins 174 46 = some (.aload_n 0) := by decide +kernel
theorem i_174_47 : ins 174 47 = some (.getfield 7) := by decide +kernel
theorem i_174_50 : ins 174 50 = some (.iconst 0) := by decide +kernel
theorem i_174_51 : ins 174 51 = some (.iload_n 1) := by decide +kernel
theorem i_174_52 : ins 174 52 = some (.iadd) := by decide +kernel
theorem i_174_53 : ins 174 53 = some (.iaload) := by decide +kernel
theorem i_174_54 : ins 174 54 = some (.iconst 2) := by decide +kernel
theorem i_174_55 : ins 174 55 = some (.if_icmp .ge 14) := by decide +kernel
theorem i_174_58 : ins 174 58 = some (.aload_n 0) := by decide +kernel
theorem i_174_59 : ins 174 59 = some (.iconst 1) := by decide +kernel
theorem i_174_60 : ins 174 60 = some (.invokevirtual 167) := by decide +kernel
theorem i_174_63 : ins 174 63 = some (.iinc 4 1) := by decide +kernel
theorem i_174_66 : ins 174 66 = some (.goto (-28)) := by decide +kernel
theorem i_174_69 : ins 174 69 = some (.aload_n 0) := by decide +kernel
theorem i_174_70 : ins 174 70 = some (.getfield 7) := by decide +kernel
theorem i_174_73 : ins 174 73 = some (.iconst 0) := by decide +kernel
theorem i_174_74 : ins 174 74 = some (.iload_n 1) := by decide +kernel
theorem i_174_75 : ins 174 75 = some (.iadd) := by decide +kernel
theorem i_174_76 : ins 174 76 = some (.iaload) := by decide +kernel
theorem i_174_77 : ins 174 77 = some (.iload_n 3) := by decide +kernel
theorem i_174_78 : ins 174 78 = some (.if_icmp .ne 7) := by decide +kernel
theorem i_174_81 : ins 174 81 = some (.iconst 1) := by decide +kernel
theorem i_174_82 : ins 174 82 = some (.goto 4) := by decide +kernel
theorem i_174_85 : ins 174 85 = some (.iconst 0) := by decide +kernel
theorem i_174_86 : ins 174 86 = some (.istore 5) := by decide +kernel
theorem i_174_88 : ins 174 88 = some (.aload_n 0) := by decide +kernel
theorem i_174_89 : ins 174 89 = some (.invokevirtual 202) := by decide +kernel
theorem i_174_92 : ins 174 92 = some (.iload 5) := by decide +kernel
theorem i_174_94 : ins 174 94 = some (.ifCond .eq 8) := by decide +kernel
theorem i_174_97 : ins 174 97 = some (.iload 4) := by decide +kernel
theorem i_174_99 : ins 174 99 = some (.goto 5) := by decide +kernel
theorem i_174_102 : ins 174 102 = some (.ldc 183) := by decide +kernel
theorem i_174_104 : ins 174 104 = some (.ireturn) := by decide +kernel
theorem o_175 : mOwn 175 = 8 := rfl
theorem i_175_0 : ins 175 0 = some (.aload_n 0) := by decide +kernel
theorem i_175_1 : ins 175 1 = some (.getfield 7) := by decide +kernel
theorem i_175_4 : ins 175 4 = some (.sipush 140) := by decide +kernel
theorem i_175_7 : ins 175 7 = some (.iaload) := by decide +kernel
theorem i_175_8 : ins 175 8 = some (.ifCond .le 7) := by decide +kernel
theorem i_175_11 : ins 175 11 = some (.iconst 1) := by decide +kernel
theorem i_175_12 : ins 175 12 = some (.goto 4) := by decide +kernel
theorem i_175_15 : ins 175 15 = some (.iconst 0) := by decide +kernel
theorem i_175_16 : ins 175 16 = some (.istore_n 2) := by decide +kernel
theorem i_175_17 : ins 175 17 = some (.iconst 0) := by decide +kernel
theorem i_175_18 : ins 175 18 = some (.istore_n 3) := by decide +kernel
theorem i_175_19 : ins 175 19 = some (.iload_n 3) := by decide +kernel
theorem i_175_20 : ins 175 20 = some (.aload_n 0) := by decide +kernel
theorem i_175_21 : ins 175 21 = some (.getfield 7) := by decide +kernel
theorem i_175_24 : ins 175 24 = some (.sipush 140) := by decide +kernel
theorem i_175_27 : ins 175 27 = some (.iaload) := by decide +kernel
theorem i_175_28 : ins 175 28 = some (.if_icmp .ge 36) := by decide +kernel
theorem i_175_31 : ins 175 31 = some (.iload_n 2) := by decide +kernel
theorem i_175_32 : ins 175 32 = some (.ifCond .eq 24) := by decide +kernel
theorem i_175_35 : ins 175 35 = some (.aload_n 0) := by decide +kernel
theorem i_175_36 : ins 175 36 = some (.aload_n 0) := by decide +kernel
theorem i_175_37 : ins 175 37 = some (.getfield 7) := by decide +kernel
theorem i_175_40 : ins 175 40 = some (.bipush 112) := by decide +kernel
theorem i_175_42 : ins 175 42 = some (.iload_n 3) := by decide +kernel
theorem i_175_43 : ins 175 43 = some (.iadd) := by decide +kernel
theorem i_175_44 : ins 175 44 = some (.iaload) := by decide +kernel
theorem i_175_45 : ins 175 45 = some (.invokevirtual 135) := by decide +kernel
theorem i_175_48 : ins 175 48 = some (.iload_n 1) := by decide +kernel
theorem i_175_49 : ins 175 49 = some (.if_icmp .ne 7) := by decide +kernel
theorem i_175_52 : ins 175 52 = some (.iconst 1) := by decide +kernel
theorem i_175_53 : ins 175 53 = some (.goto 4) := by decide +kernel
theorem i_175_56 : ins 175 56 = some (.iconst 0) := by decide +kernel
theorem i_175_57 : ins 175 57 = some (.istore_n 2) := by decide +kernel
theorem i_175_58 : ins 175 58 = some (.iinc 3 1) := by decide +kernel
theorem i_175_61 : ins 175 61 = some (.goto (-42)) := by decide +kernel
theorem i_175_64 : ins 175 64 = some (.iload_n 2) := by decide +kernel
theorem i_175_65 : ins 175 65 = some (.ireturn) := by decide +kernel
theorem o_176 : mOwn 176 = 8 := rfl
theorem i_176_0 : ins 176 0 = some (.aload_n 0) := by decide +kernel
theorem i_176_1 : ins 176 1 = some (.invokevirtual 157) := by decide +kernel
theorem i_176_4 : ins 176 4 = some (.ifCond .ne 6) := by decide +kernel
theorem i_176_7 : ins 176 7 = some (.ldc 161) := by decide +kernel
theorem i_176_9 : ins 176 9 = some (.ireturn) := by decide +kernel
theorem i_176_10 : ins 176 10 = some (.iload_n 1) := by decide +kernel
theorem i_176_11 : ins 176 11 = some (.i2l) := by decide +kernel
theorem i_176_12 : ins 176 12 = some (.lconst 0) := by decide +kernel
theorem i_176_13 : ins 176 13 = some (.ldc2_w 174) := by decide +kernel
theorem i_176_16 : ins 176 16 = some (.invokestatic 63) := by decide +kernel
theorem i_176_19 : ins 176 19 = some (.ifCond .ne 6) := by decide +kernel
theorem i_176_22 : ins 176 22 = some (.ldc 73) := by decide +kernel
theorem i_176_24 : ins 176 24 = some (.ireturn) := by decide +kernel
theorem i_176_25 : ins 176 25 = some (.iconst 0) := by decide +kernel
theorem i_176_26 : ins 176 26 = some (.istore_n 2) := by decide +kernel
theorem i_176_27 : ins 176 27 = some (.aload_n 0) := by decide +kernel
theorem i_176_28 : ins 176 28 = some (.invokevirtual 193) := by decide +kernel
theorem i_176_31 : ins 176 31 = some (.iload_n 2) := by decide +kernel
theorem i_176_32 : ins 176 32 = some (.bipush 60) := by decide +kernel
theorem i_176_34 : ins 176 34 = some (.if_icmp .ge 22) := by decide +kernel
theorem i_176_37 : ins 176 37 = some (.aload_n 0) := by decide +kernel
theorem i_176_38 : ins 176 38 = some (.iload_n 1) := by decide +kernel
theorem i_176_39 : ins 176 39 = some (.invokevirtual 208) := by decide +kernel
theorem i_176_42 : ins 176 42 = some (.ifCond .ne 14) := by decide +kernel
theorem i_176_45 : ins 176 45 = some (.aload_n 0) := by decide +kernel
theorem i_176_46 : ins 176 46 = some (.iconst 1) := by decide +kernel
theorem i_176_47 : ins 176 47 = some (.invokevirtual 167) := by decide +kernel
theorem i_176_50 : ins 176 50 = some (.iinc 2 1) := by decide +kernel
theorem i_176_53 : ins 176 53 = some (.goto (-22)) := by decide +kernel
theorem i_176_56 : ins 176 56 = some (.aload_n 0) := by decide +kernel
theorem i_176_57 : ins 176 57 = some (.iload_n 1) := by decide +kernel
theorem i_176_58 : ins 176 58 = some (.invokevirtual 208) := by decide +kernel
theorem i_176_61 : ins 176 61 = some (.istore_n 3) := by decide +kernel
theorem i_176_62 : ins 176 62 = some (.aload_n 0) := by decide +kernel
theorem i_176_63 : ins 176 63 = some (.invokevirtual 202) := by decide +kernel
theorem i_176_66 : ins 176 66 = some (.iload_n 3) := by decide +kernel
theorem i_176_67 : ins 176 67 = some (.ifCond .eq 7) := by decide +kernel
theorem i_176_70 : ins 176 70 = some (.iload_n 2) := by decide +kernel
theorem i_176_71 : ins 176 71 = some (.goto 5) := by decide +kernel
theorem i_176_74 : ins 176 74 = some (.ldc 183) := by decide +kernel
theorem i_176_76 : ins 176 76 = some (.ireturn) := by decide +kernel
theorem o_177 : mOwn 177 = 8 := rfl
theorem i_177_0 : ins 177 0 = some (.iconst 0) := by decide +kernel
theorem i_177_1 : ins 177 1 = some (.istore_n 2) := by decide +kernel
theorem i_177_2 : ins 177 2 = some (.iload_n 2) := by decide +kernel
theorem i_177_3 : ins 177 3 = some (.iload_n 1) := by decide +kernel
theorem i_177_4 : ins 177 4 = some (.if_icmp .ge 72) := by decide +kernel
theorem i_177_7 : ins 177 7 = some (.bipush 16) := by decide +kernel
theorem i_177_9 : ins 177 9 = some (.iload_n 2) := by decide +kernel
theorem i_177_10 : ins 177 10 = some (.iadd) := by decide +kernel
theorem i_177_11 : ins 177 11 = some (.istore_n 3) := by decide +kernel
theorem i_177_12 : ins 177 12 = some (.aload_n 0) := by decide +kernel
theorem i_177_13 : ins 177 13 = some (.getfield 7) := by decide +kernel
theorem i_177_16 : ins 177 16 = some (.sipush 145) := by decide +kernel
theorem i_177_19 : ins 177 19 = some (.iload_n 3) := by decide +kernel
theorem i_177_20 : ins 177 20 = some (.iadd) := by decide +kernel
theorem i_177_21 : ins 177 21 = some (.iconst 1) := by decide +kernel
theorem i_177_22 : ins 177 22 = some (.iastore) := by decide +kernel
theorem i_177_23 : ins 177 23 = some (.aload_n 0) := by decide +kernel
theorem i_177_24 : ins 177 24 = some (.getfield 7) := by decide +kernel
theorem i_177_27 : ins 177 27 = some (.sipush 173) := by decide +kernel
theorem i_177_30 : ins 177 30 = some (.iload_n 3) := by decide +kernel
theorem i_177_31 : ins 177 31 = some (.iadd) := by decide +kernel
theorem i_177_32 : ins 177 32 = some (.bipush 99) := by decide +kernel
theorem i_177_34 : ins 177 34 = some (.iastore) := by decide +kernel
theorem i_177_35 : ins 177 35 = some (.aload_n 0) := by decide +kernel
theorem i_177_36 : ins 177 36 = some (.getfield 7) := by decide +kernel
theorem i_177_39 : ins 177 39 = some (.bipush 56) := by decide +kernel
theorem i_177_41 : ins 177 41 = some (.iload_n 3) := by decide +kernel
theorem i_177_42 : ins 177 42 = some (.iadd) := by decide +kernel
theorem i_177_43 : ins 177 43 = some (.iconst 0) := by decide +kernel
theorem i_177_44 : ins 177 44 = some (.iastore) := by decide +kernel
theorem i_177_45 : ins 177 45 = some (.aload_n 0) := by decide +kernel
theorem i_177_46 : ins 177 46 = some (.getfield 7) := by decide +kernel
theorem i_177_49 : ins 177 49 = some (.bipush 28) := by decide +kernel
theorem i_177_51 : ins 177 51 = some (.iload_n 3) := by decide +kernel
theorem i_177_52 : ins 177 52 = some (.iadd) := by decide +kernel
theorem i_177_53 : ins 177 53 = some (.iconst 0) := by decide +kernel
theorem i_177_54 : ins 177 54 = some (.iastore) := by decide +kernel
theorem i_177_55 : ins 177 55 = some (.aload_n 0) := by decide +kernel
theorem i_177_56 : ins 177 56 = some (.getfield 7) := by decide +kernel
theorem i_177_59 : ins 177 59 = some (.bipush 84) := by decide +kernel
theorem i_177_61 : ins 177 61 = some (.iload_n 3) := by decide +kernel
theorem i_177_62 : ins 177 62 = some (.iadd) := by decide +kernel
theorem i_177_63 : ins 177 63 = some (.iload_n 3) := by decide +kernel
theorem i_177_64 : ins 177 64 = some (.iastore) := by decide +kernel
theorem i_177_65 : ins 177 65 = some (.aload_n 0) := by decide +kernel
theorem i_177_66 : ins 177 66 = some (.iload_n 3) := by decide +kernel
theorem i_177_67 : ins 177 67 = some (.invokevirtual 154) := by decide +kernel
theorem i_177_70 : ins 177 70 = some (.iinc 2 1) := by decide +kernel
theorem i_177_73 : ins 177 73 = some (.goto (-71)) := by decide +kernel
theorem i_177_76 : ins 177 76 = some (.return_) := by decide +kernel
theorem o_178 : mOwn 178 = 8 := rfl
theorem i_178_0 : ins 178 0 = some (.iconst 0) := by decide +kernel
theorem i_178_1 : ins 178 1 = some (.istore_n 1) := by decide +kernel
theorem i_178_2 : ins 178 2 = some (.aload_n 0) := by decide +kernel
theorem i_178_3 : ins 178 3 = some (.getfield 7) := by decide +kernel
theorem i_178_6 : ins 178 6 = some (.sipush 141) := by decide +kernel
theorem i_178_9 : ins 178 9 = some (.iaload) := by decide +kernel
theorem i_178_10 : ins 178 10 = some (.aload_n 0) := by decide +kernel
theorem i_178_11 : ins 178 11 = some (.invokevirtual 132) := by decide +kernel
theorem i_178_14 : ins 178 14 = some (.if_icmp .ge 40) := by decide +kernel
theorem i_178_17 : ins 178 17 = some (.aload_n 0) := by decide +kernel
theorem i_178_18 : ins 178 18 = some (.getfield 7) := by decide +kernel
theorem i_178_21 : ins 178 21 = some (.sipush 141) := by decide +kernel
theorem i_178_24 : ins 178 24 = some (.iaload) := by decide +kernel
theorem i_178_25 : ins 178 25 = some (.istore_n 2) := by decide +kernel
theorem i_178_26 : ins 178 26 = some (.aload_n 0) := by decide +kernel
theorem i_178_27 : ins 178 27 = some (.iconst 1) := by decide +kernel
theorem i_178_28 : ins 178 28 = some (.invokevirtual 167) := by decide +kernel
theorem i_178_31 : ins 178 31 = some (.iload_n 1) := by decide +kernel
theorem i_178_32 : ins 178 32 = some (.aload_n 0) := by decide +kernel
theorem i_178_33 : ins 178 33 = some (.getfield 7) := by decide +kernel
theorem i_178_36 : ins 178 36 = some (.iconst 0) := by decide +kernel
theorem i_178_37 : ins 178 37 = some (.iload_n 2) := by decide +kernel
theorem i_178_38 : ins 178 38 = some (.iadd) := by decide +kernel
theorem i_178_39 : ins 178 39 = some (.iaload) := by decide +kernel
theorem i_178_40 : ins 178 40 = some (.iconst 4) := by decide +kernel
theorem i_178_41 : ins 178 41 = some (.if_icmp .ne 7) := by decide +kernel
theorem i_178_44 : ins 178 44 = some (.iconst 0) := by decide +kernel
theorem i_178_45 : ins 178 45 = some (.goto 4) := by decide +kernel
theorem i_178_48 : ins 178 48 = some (.iconst 1) := by decide +kernel
theorem i_178_49 : ins 178 49 = some (.iadd) := by decide +kernel
theorem i_178_50 : ins 178 50 = some (.istore_n 1) := by decide +kernel
theorem i_178_51 : ins 178 51 = some (.goto (-49)) := by decide +kernel
theorem i_178_54 : ins 178 54 = some (.iload_n 1) := by decide +kernel
theorem i_178_55 : ins 178 55 = some (.ireturn) := by decide +kernel
theorem o_179 : mOwn 179 = 8 := rfl
theorem i_179_0 : ins 179 0 = some (.aload_n 0) := by decide +kernel
theorem i_179_1 : ins 179 1 = some (.invokevirtual 157) := by decide +kernel
theorem i_179_4 : ins 179 4 = some (.ifCond .ne 6) := by decide +kernel
theorem i_179_7 : ins 179 7 = some (.ldc 161) := by decide +kernel
theorem i_179_9 : ins 179 9 = some (.ireturn) := by decide +kernel
theorem i_179_10 : ins 179 10 = some (.iload_n 1) := by decide +kernel
theorem i_179_11 : ins 179 11 = some (.i2l) := by decide +kernel
theorem i_179_12 : ins 179 12 = some (.lconst 0) := by decide +kernel
theorem i_179_13 : ins 179 13 = some (.ldc2_w 211) := by decide +kernel
theorem i_179_16 : ins 179 16 = some (.invokestatic 63) := by decide +kernel
theorem i_179_19 : ins 179 19 = some (.ifCond .ne 6) := by decide +kernel
theorem i_179_22 : ins 179 22 = some (.ldc 73) := by decide +kernel
theorem i_179_24 : ins 179 24 = some (.ireturn) := by decide +kernel
theorem i_179_25 : ins 179 25 = some (.ldc 183) := by decide +kernel
theorem i_179_27 : ins 179 27 = some (.istore_n 2) := by decide +kernel
theorem i_179_28 : ins 179 28 = some (.aload_n 0) := by decide +kernel
theorem i_179_29 : ins 179 29 = some (.invokevirtual 193) := by decide +kernel
theorem i_179_32 : ins 179 32 = some (.bipush 12) := by decide +kernel
theorem i_179_34 : ins 179 34 = some (.istore_n 3) := by decide +kernel
theorem i_179_35 : ins 179 35 = some (.iload_n 3) := by decide +kernel
theorem i_179_36 : ins 179 36 = some (.ifCond .lt 32) := by decide +kernel
theorem i_179_39 : ins 179 39 = some (.aload_n 0) := by decide +kernel
theorem i_179_40 : ins 179 40 = some (.iload_n 3) := by decide +kernel
theorem i_179_41 : ins 179 41 = some (.invokevirtual 213) := by decide +kernel
theorem i_179_44 : ins 179 44 = some (.aload_n 0) := by decide +kernel
theorem i_179_45 : ins 179 45 = some (.invokevirtual 216) := by decide +kernel
theorem i_179_48 : ins 179 48 = some (.iload_n 1) := by decide +kernel
theorem i_179_49 : ins 179 49 = some (.if_icmp .lt 7) := by decide +kernel
theorem i_179_52 : ins 179 52 = some (.iload_n 3) := by decide +kernel
theorem i_179_53 : ins 179 53 = some (.goto 4) := by decide +kernel
theorem i_179_56 : ins 179 56 = some (.iload_n 2) := by decide +kernel
theorem i_179_57 : ins 179 57 = some (.istore_n 2) := by decide +kernel
theorem i_179_58 : ins 179 58 = some (.aload_n 0) := by decide +kernel
theorem i_179_59 : ins 179 59 = some (.invokevirtual 202) := by decide +kernel
theorem i_179_62 : ins 179 62 = some (.iinc 3 (-1)) := by decide +kernel
theorem i_179_65 : ins 179 65 = some (.goto (-30)) := by decide +kernel
theorem i_179_68 : ins 179 68 = some (.iload_n 2) := by decide +kernel
theorem i_179_69 : ins 179 69 = some (.ireturn) := by decide +kernel
theorem o_180 : mOwn 180 = 8 := rfl
theorem i_180_0 : ins 180 0 = some (.iload_n 0) := by decide +kernel
theorem i_180_1 : ins 180 1 = some (.istore_n 2) := by decide +kernel
theorem i_180_2 : ins 180 2 = some (.iload_n 1) := by decide +kernel
theorem i_180_3 : ins 180 3 = some (.istore_n 3) := by decide +kernel
theorem i_180_4 : ins 180 4 = some (.iload_n 3) := by decide +kernel
theorem i_180_5 : ins 180 5 = some (.ifCond .eq 16) := by decide +kernel
theorem i_180_8 : ins 180 8 = some (.iload_n 2) := by decide +kernel
theorem i_180_9 : ins 180 9 = some (.iload_n 3) := by decide +kernel
theorem i_180_10 : ins 180 10 = some (.irem) := by decide +kernel
theorem i_180_11 : ins 180 11 = some (.istore 4) := by decide +kernel
theorem i_180_13 : ins 180 13 = some (.iload_n 3) := by decide +kernel
theorem i_180_14 : ins 180 14 = some (.istore_n 2) := by decide +kernel
theorem i_180_15 : ins 180 15 = some (.iload 4) := by decide +kernel
theorem i_180_17 : ins 180 17 = some (.istore_n 3) := by decide +kernel
theorem i_180_18 : ins 180 18 = some (.goto (-14)) := by decide +kernel
theorem i_180_21 : ins 180 21 = some (.iload_n 2) := by decide +kernel
theorem i_180_22 : ins 180 22 = some (.ireturn) := by decide +kernel
theorem o_181 : mOwn 181 = 8 := rfl
theorem i_181_0 : ins 181 0 = some (.iconst 1) := by decide +kernel
theorem i_181_1 : ins 181 1 = some (.istore_n 2) := by decide +kernel
theorem i_181_2 : ins 181 2 = some (.iconst 0) := by decide +kernel
theorem i_181_3 : ins 181 3 = some (.istore_n 3) := by decide +kernel
theorem i_181_4 : ins 181 4 = some (.iload_n 3) := by decide +kernel
theorem i_181_5 : ins 181 5 = some (.iload_n 1) := by decide +kernel
theorem i_181_6 : ins 181 6 = some (.if_icmp .ge 13) := by decide +kernel
theorem i_181_9 : ins 181 9 = some (.iload_n 2) := by decide +kernel
theorem i_181_10 : ins 181 10 = some (.iload_n 0) := by decide +kernel
theorem i_181_11 : ins 181 11 = some (.imul) := by decide +kernel
theorem i_181_12 : ins 181 12 = some (.istore_n 2) := by decide +kernel
theorem i_181_13 : ins 181 13 = some (.iinc 3 1) := by decide +kernel
theorem i_181_16 : ins 181 16 = some (.goto (-12)) := by decide +kernel
theorem i_181_19 : ins 181 19 = some (.iload_n 2) := by decide +kernel
theorem i_181_20 : ins 181 20 = some (.ireturn) := by decide +kernel
theorem o_182 : mOwn 182 = 8 := rfl
theorem i_182_0 : ins 182 0 = some (.iconst 0) := by decide +kernel
theorem i_182_1 : ins 182 1 = some (.istore_n 1) := by decide +kernel
theorem i_182_2 : ins 182 2 = some (.iload_n 0) := by decide +kernel
theorem i_182_3 : ins 182 3 = some (.istore_n 2) := by decide +kernel
theorem i_182_4 : ins 182 4 = some (.iload_n 2) := by decide +kernel
theorem i_182_5 : ins 182 5 = some (.ifCond .le 16) := by decide +kernel
theorem i_182_8 : ins 182 8 = some (.iload_n 1) := by decide +kernel
theorem i_182_9 : ins 182 9 = some (.iload_n 2) := by decide +kernel
theorem i_182_10 : ins 182 10 = some (.iconst 1) := by decide +kernel
theorem i_182_11 : ins 182 11 = some (.iand) := by decide +kernel
theorem i_182_12 : ins 182 12 = some (.iadd) := by decide +kernel
theorem i_182_13 : ins 182 13 = some (.istore_n 1) := by decide +kernel
theorem i_182_14 : ins 182 14 = some (.iload_n 2) := by decide +kernel
theorem i_182_15 : ins 182 15 = some (.iconst 1) := by decide +kernel
theorem i_182_16 : ins 182 16 = some (.ishr) := by decide +kernel
theorem i_182_17 : ins 182 17 = some (.istore_n 2) := by decide +kernel
theorem i_182_18 : ins 182 18 = some (.goto (-14)) := by decide +kernel
theorem i_182_21 : ins 182 21 = some (.iload_n 1) := by decide +kernel
theorem i_182_22 : ins 182 22 = some (.ireturn) := by decide +kernel
theorem o_183 : mOwn 183 = 8 := rfl
theorem i_183_0 : ins 183 0 = some (.aload_n 0) := by decide +kernel
theorem i_183_1 : ins 183 1 = some (.invokevirtual 157) := by decide +kernel
theorem i_183_4 : ins 183 4 = some (.ifCond .ne 6) := by decide +kernel
theorem i_183_7 : ins 183 7 = some (.ldc 161) := by decide +kernel
theorem i_183_9 : ins 183 9 = some (.ireturn) := by decide +kernel
theorem i_183_10 : ins 183 10 = some (.iload_n 1) := by decide +kernel
theorem i_183_11 : ins 183 11 = some (.i2l) := by decide +kernel
theorem i_183_12 : ins 183 12 = some (.lconst 0) := by decide +kernel
theorem i_183_13 : ins 183 13 = some (.ldc2_w 219) := by decide +kernel
theorem i_183_16 : ins 183 16 = some (.invokestatic 63) := by decide +kernel
theorem i_183_19 : ins 183 19 = some (.ifCond .eq 38) := by decide +kernel
theorem i_183_22 : ins 183 22 = some (.iload_n 2) := by decide +kernel
theorem i_183_23 : ins 183 23 = some (.i2l) := by decide +kernel
theorem i_183_24 : ins 183 24 = some (.lconst 0) := by decide +kernel
theorem i_183_25 : ins 183 25 = some (.ldc2_w 211) := by decide +kernel
theorem i_183_28 : ins 183 28 = some (.invokestatic 63) := by decide +kernel
theorem i_183_31 : ins 183 31 = some (.ifCond .eq 26) := by decide +kernel
theorem i_183_34 : ins 183 34 = some (.iload_n 3) := by decide +kernel
theorem i_183_35 : ins 183 35 = some (.i2l) := by decide +kernel
theorem i_183_36 : ins 183 36 = some (.lconst 0) := by decide +kernel
theorem i_183_37 : ins 183 37 = some (.ldc2_w 221) := by decide +kernel
theorem i_183_40 : ins 183 40 = some (.invokestatic 63) := by decide +kernel
theorem i_183_43 : ins 183 43 = some (.ifCond .eq 14) := by decide +kernel
theorem i_183_46 : ins 183 46 = some (.iload 4) := by decide +kernel
theorem i_183_48 : ins 183 48 = some (.i2l) := by decide +kernel
theorem i_183_49 : ins 183 49 = some (.lconst 0) := by decide +kernel
theorem i_183_50 : ins 183 50 = some (.lconst 1) := by decide +kernel
theorem i_183_51 : ins 183 51 = some (.invokestatic 63) := by decide +kernel
theorem i_183_54 : ins 183 54 = some (.ifCond .ne 6) := by decide +kernel
theorem i_183_57 : ins 183 57 = some (.ldc 73) := by decide +kernel
theorem i_183_59 : ins 183 59 = some (.ireturn) := by decide +kernel
theorem i_183_60 : ins 183 60 = some (.aload_n 0) := by decide +kernel
theorem i_183_61 : ins 183 61 = some (.invokevirtual 132) := by decide +kernel
theorem i_183_64 : ins 183 64 = some (.aload_n 0) := by decide +kernel
theorem i_183_65 : ins 183 65 = some (.getfield 7) := by decide +kernel
theorem i_183_68 : ins 183 68 = some (.sipush 141) := by decide +kernel
theorem i_183_71 : ins 183 71 = some (.iaload) := by decide +kernel
theorem i_183_72 : ins 183 72 = some (.isub) := by decide +kernel
theorem i_183_73 : ins 183 73 = some (.istore 5) := by decide +kernel
theorem i_183_75 : ins 183 75 = some (.iload 5) := by decide +kernel
theorem i_183_77 : ins 183 77 = some (.iload_n 2) := by decide +kernel
theorem i_183_78 : ins 183 78 = some (.if_icmp .ge 8) := by decide +kernel
theorem i_183_81 : ins 183 81 = some (.iload 5) := by decide +kernel
theorem i_183_83 : ins 183 83 = some (.goto 4) := by decide +kernel
theorem i_183_86 : ins 183 86 = some (.iload_n 2) := by decide +kernel
theorem i_183_87 : ins 183 87 = some (.istore 6) := by decide +kernel
theorem i_183_89 : ins 183 89 = some (.iconst 0) := by decide +kernel
theorem i_183_90 : ins 183 90 = some (.istore 7) := by decide +kernel
theorem i_183_92 : ins 183 92 = some (.aload_n 0) := by decide +kernel
theorem i_183_93 : ins 183 93 = some (.invokevirtual 193) := by decide +kernel
theorem i_183_96 : ins 183 96 = some (.iconst 0) := by decide +kernel
theorem i_183_97 : ins 183 97 = some (.istore 8) := by decide +kernel
theorem i_183_99 : ins 183 99 = some (.iload 8) := by decide +kernel
theorem i_183_101 : ins 183 101 = some (.iconst 1) := by decide +kernel
theorem i_183_102 : ins 183 102 = some (.iload 6) := by decide +kernel
theorem i_183_104 : ins 183 104 = some (.ishl) := by decide +kernel
theorem i_183_105 : ins 183 105 = some (.if_icmp .ge 95) := by decide +kernel
theorem i_183_108 : ins 183 108 = some (.iconst 0) := by decide +kernel
theorem i_183_109 : ins 183 109 = some (.istore 9) := by decide +kernel
theorem i_183_111 : ins 183 111 = some (.iload 9) := by decide +kernel
theorem i_183_113 : ins 183 113 = some (.iload_n 2) := by decide +kernel
theorem i_183_114 : ins 183 114 = some (.if_icmp .ge 29) := by decide +kernel
theorem i_183_117 : ins 183 117 = some (.aload_n 0) := by decide +kernel
theorem i_183_118 : ins 183 118 = some (.iload 8) := by decide +kernel
theorem i_183_120 : ins 183 120 = some (.iload 9) := by decide +kernel
theorem i_183_122 : ins 183 122 = some (.ishr) := by decide +kernel
theorem i_183_123 : ins 183 123 = some (.iconst 1) := by decide +kernel
theorem i_183_124 : ins 183 124 = some (.iand) := by decide +kernel
theorem i_183_125 : ins 183 125 = some (.iconst 1) := by decide +kernel
theorem i_183_126 : ins 183 126 = some (.if_icmp .ne 7) := by decide +kernel
theorem i_183_129 : ins 183 129 = some (.iconst 1) := by decide +kernel
theorem i_183_130 : ins 183 130 = some (.goto 4) := by decide +kernel
theorem i_183_133 : ins 183 133 = some (.iconst 0) := by decide +kernel
theorem i_183_134 : ins 183 134 = some (.invokevirtual 167) := by decide +kernel
theorem i_183_137 : ins 183 137 = some (.iinc 9 1) := by decide +kernel
theorem i_183_140 : ins 183 140 = some (.goto (-29)) := by decide +kernel
theorem i_183_143 : ins 183 143 = some (.iload 8) := by decide +kernel
theorem i_183_145 : ins 183 145 = some (.invokestatic 223) := by decide +kernel
theorem i_183_148 : ins 183 148 = some (.istore 9) := by decide +kernel
theorem i_183_150 : ins 183 150 = some (.iload 7) := by decide +kernel
theorem i_183_152 : ins 183 152 = some (.aload_n 0) := by decide +kernel
theorem i_183_153 : ins 183 153 = some (.getfield 7) := by decide +kernel
theorem i_183_156 : ins 183 156 = some (.sipush 140) := by decide +kernel
theorem i_183_159 : ins 183 159 = some (.iaload) := by decide +kernel
theorem i_183_160 : ins 183 160 = some (.iload_n 1) := by decide +kernel
theorem i_183_161 : ins 183 161 = some (.if_icmp .lt 25) := by decide +kernel
theorem i_183_164 : ins 183 164 = some (.iload_n 3) := by decide +kernel
theorem i_183_165 : ins 183 165 = some (.iload 9) := by decide +kernel
theorem i_183_167 : ins 183 167 = some (.invokestatic 226) := by decide +kernel
theorem i_183_170 : ins 183 170 = some (.bipush 10) := by decide +kernel
theorem i_183_172 : ins 183 172 = some (.iload_n 3) := by decide +kernel
theorem i_183_173 : ins 183 173 = some (.isub) := by decide +kernel
theorem i_183_174 : ins 183 174 = some (.iload 6) := by decide +kernel
theorem i_183_176 : ins 183 176 = some (.iload 9) := by decide +kernel
theorem i_183_178 : ins 183 178 = some (.isub) := by decide +kernel
theorem i_183_179 : ins 183 179 = some (.invokestatic 226) := by decide +kernel
theorem i_183_182 : ins 183 182 = some (.imul) := by decide +kernel
theorem i_183_183 : ins 183 183 = some (.goto 4) := by decide +kernel
theorem i_183_186 : ins 183 186 = some (.iconst 0) := by decide +kernel
theorem i_183_187 : ins 183 187 = some (.iadd) := by decide +kernel
theorem i_183_188 : ins 183 188 = some (.istore 7) := by decide +kernel
theorem i_183_190 : ins 183 190 = some (.aload_n 0) := by decide +kernel
theorem i_183_191 : ins 183 191 = some (.invokevirtual 202) := by decide +kernel
theorem i_183_194 : ins 183 194 = some (.iinc 8 1) := by decide +kernel
theorem i_183_197 : ins 183 197 = some (.goto (-98)) := by decide +kernel
theorem i_183_200 : ins 183 200 = some (.bipush 10) := by decide +kernel
theorem i_183_202 : ins 183 202 = some (.iload 6) := by decide +kernel
theorem i_183_204 : ins 183 204 = some (.invokestatic 226) := by decide +kernel
theorem i_183_207 : ins 183 207 = some (.istore 8) := by decide +kernel
theorem i_183_209 : ins 183 209 = some (.iload 7) := by decide +kernel
theorem i_183_211 : ins 183 211 = some (.iload 8) := by decide +kernel
theorem i_183_213 : ins 183 213 = some (.invokestatic 230) := by decide +kernel
theorem i_183_216 : ins 183 216 = some (.istore 9) := by decide +kernel
theorem i_183_218 : ins 183 218 = some (.iload 4) := by decide +kernel
theorem i_183_220 : ins 183 220 = some (.ifCond .ne 11) := by decide +kernel
theorem i_183_223 : ins 183 223 = some (.iload 7) := by decide +kernel
theorem i_183_225 : ins 183 225 = some (.iload 9) := by decide +kernel
theorem i_183_227 : ins 183 227 = some (.idiv) := by decide +kernel
theorem i_183_228 : ins 183 228 = some (.goto 8) := by decide +kernel
theorem i_183_231 : ins 183 231 = some (.iload 8) := by decide +kernel
theorem i_183_233 : ins 183 233 = some (.iload 9) := by decide +kernel
theorem i_183_235 : ins 183 235 = some (.idiv) := by decide +kernel
theorem i_183_236 : ins 183 236 = some (.ireturn) := by decide +kernel
theorem o_184 : mOwn 184 = 8 := rfl
theorem i_184_0 : ins 184 0 = some (.aload_n 0) := by decide +kernel
theorem i_184_1 : ins 184 1 = some (.invokevirtual 157) := by decide +kernel
theorem i_184_4 : ins 184 4 = some (.ifCond .ne 6) := by decide +kernel
theorem i_184_7 : ins 184 7 = some (.ldc 161) := by decide +kernel
theorem i_184_9 : ins 184 9 = some (.ireturn) := by decide +kernel
theorem i_184_10 : ins 184 10 = some (.iload_n 1) := by decide +kernel
theorem i_184_11 : ins 184 11 = some (.i2l) := by decide +kernel
theorem i_184_12 : ins 184 12 = some (.lconst 1) := by decide +kernel
theorem i_184_13 : ins 184 13 = some (.ldc2_w 187) := by decide +kernel
theorem i_184_16 : ins 184 16 = some (.invokestatic 63) := by decide +kernel
theorem i_184_19 : ins 184 19 = some (.ifCond .eq 13) := by decide +kernel
theorem i_184_22 : ins 184 22 = some (.iload_n 2) := by decide +kernel
theorem i_184_23 : ins 184 23 = some (.i2l) := by decide +kernel
theorem i_184_24 : ins 184 24 = some (.lconst 0) := by decide +kernel
theorem i_184_25 : ins 184 25 = some (.lconst 1) := by decide +kernel
theorem i_184_26 : ins 184 26 = some (.invokestatic 63) := by decide +kernel
theorem i_184_29 : ins 184 29 = some (.ifCond .ne 6) := by decide +kernel
theorem i_184_32 : ins 184 32 = some (.ldc 73) := by decide +kernel
theorem i_184_34 : ins 184 34 = some (.ireturn) := by decide +kernel
theorem i_184_35 : ins 184 35 = some (.iconst 0) := by decide +kernel
theorem i_184_36 : ins 184 36 = some (.istore_n 3) := by decide +kernel
theorem i_184_37 : ins 184 37 = some (.iconst (-1)) := by decide +kernel
theorem i_184_38 : ins 184 38 = some (.istore 4) := by decide +kernel
theorem i_184_40 : ins 184 40 = some (.aload_n 0) := by decide +kernel
theorem i_184_41 : ins 184 41 = some (.iconst 2) := by decide +kernel
theorem i_184_42 : ins 184 42 = some (.invokevirtual 199) := by decide +kernel
theorem i_184_45 : ins 184 45 = some (.istore 5) := by decide +kernel
theorem i_184_47 : ins 184 47 = some (.aload_n 0) := by decide +kernel
theorem i_184_48 : ins 184 48 = some (.invokevirtual 193) := by decide +kernel
theorem i_184_51 : ins 184 51 = some (.iconst 0) := by decide +kernel
theorem i_184_52 : ins 184 52 = some (.istore 6) := by decide +kernel
theorem i_184_54 : ins 184 54 = some (.iload 6) := by decide +kernel
theorem i_184_56 : ins 184 56 = some (.bipush 30) := by decide +kernel
theorem i_184_58 : ins 184 58 = some (.if_icmp .gt 77) := by decide +kernel
theorem i_184_61 : ins 184 61 = some (.aload_n 0) := by decide +kernel
theorem i_184_62 : ins 184 62 = some (.iload 6) := by decide +kernel
theorem i_184_64 : ins 184 64 = some (.invokevirtual 196) := by decide +kernel
theorem i_184_67 : ins 184 67 = some (.aload_n 0) := by decide +kernel
theorem i_184_68 : ins 184 68 = some (.getfield 7) := by decide +kernel
theorem i_184_71 : ins 184 71 = some (.sipush 144) := by decide +kernel
theorem i_184_74 : ins 184 74 = some (.iload_n 1) := by decide +kernel
theorem i_184_75 : ins 184 75 = some (.iastore) := by decide +kernel
theorem i_184_76 : ins 184 76 = some (.aload_n 0) := by decide +kernel
theorem i_184_77 : ins 184 77 = some (.bipush 60) := by decide +kernel
theorem i_184_79 : ins 184 79 = some (.iload 6) := by decide +kernel
theorem i_184_81 : ins 184 81 = some (.isub) := by decide +kernel
theorem i_184_82 : ins 184 82 = some (.invokevirtual 196) := by decide +kernel
theorem i_184_85 : ins 184 85 = some (.aload_n 0) := by decide +kernel
theorem i_184_86 : ins 184 86 = some (.iconst 2) := by decide +kernel
theorem i_184_87 : ins 184 87 = some (.invokevirtual 199) := by decide +kernel
theorem i_184_90 : ins 184 90 = some (.iload 5) := by decide +kernel
theorem i_184_92 : ins 184 92 = some (.isub) := by decide +kernel
theorem i_184_93 : ins 184 93 = some (.istore 7) := by decide +kernel
theorem i_184_95 : ins 184 95 = some (.aload_n 0) := by decide +kernel
theorem i_184_96 : ins 184 96 = some (.invokevirtual 202) := by decide +kernel
theorem i_184_99 : ins 184 99 = some (.iload 7) := by decide +kernel
theorem i_184_101 : ins 184 101 = some (.iload 4) := by decide +kernel
theorem i_184_103 : ins 184 103 = some (.if_icmp .lt 8) := by decide +kernel
theorem i_184_106 : ins 184 106 = some (.iload 6) := by decide +kernel
theorem i_184_108 : ins 184 108 = some (.goto 4) := by decide +kernel
theorem i_184_111 : ins 184 111 = some (.iload_n 3) := by decide +kernel
theorem i_184_112 : ins 184 112 = some (.istore_n 3) := by decide +kernel
theorem i_184_113 : ins 184 113 = some (.iload 7) := by decide +kernel
theorem i_184_115 : ins 184 115 = some (.iload 4) := by decide +kernel
theorem i_184_117 : ins 184 117 = some (.if_icmp .lt 8) := by decide +kernel
theorem i_184_120 : ins 184 120 = some (.iload 7) := by decide +kernel
theorem i_184_122 : ins 184 122 = some (.goto 5) := by decide +kernel
theorem i_184_125 : ins 184 125 = some (.iload 4) := by decide +kernel
theorem i_184_127 : ins 184 127 = some (.istore 4) := by decide +kernel
theorem i_184_129 : ins 184 129 = some (.iinc 6 1) := by decide +kernel
theorem i_184_132 : ins 184 132 = some (.goto (-78)) := by decide +kernel
theorem i_184_135 : ins 184 135 = some (.iload_n 2) := by decide +kernel
theorem i_184_136 : ins 184 136 = some (.ifCond .ne 7) := by decide +kernel
theorem i_184_139 : ins 184 139 = some (.iload_n 3) := by decide +kernel
theorem i_184_140 : ins 184 140 = some (.goto 5) := by decide +kernel
theorem i_184_143 : ins 184 143 = some (.iload 4) := by decide +kernel
theorem i_184_145 : ins 184 145 = some (.ireturn) := by decide +kernel
theorem o_185 : mOwn 185 = 8 := rfl
theorem i_185_0 : ins 185 0 = some (.aload_n 0) := by decide +kernel
theorem i_185_1 : ins 185 1 = some (.getfield 7) := by decide +kernel
theorem i_185_4 : ins 185 4 = some (.sipush 140) := by decide +kernel
theorem i_185_7 : ins 185 7 = some (.iaload) := by decide +kernel
theorem i_185_8 : ins 185 8 = some (.iload_n 3) := by decide +kernel
theorem i_185_9 : ins 185 9 = some (.if_icmp .ne 7) := by decide +kernel
theorem i_185_12 : ins 185 12 = some (.iconst 1) := by decide +kernel
theorem i_185_13 : ins 185 13 = some (.goto 4) := by decide +kernel
theorem i_185_16 : ins 185 16 = some (.iconst 0) := by decide +kernel
theorem i_185_17 : ins 185 17 = some (.istore 4) := by decide +kernel
theorem i_185_19 : ins 185 19 = some (.iconst 0) := by decide +kernel
theorem i_185_20 : ins 185 20 = some (.istore 5) := by decide +kernel
theorem i_185_22 : ins 185 22 = some (.iload 5) := by decide +kernel
theorem i_185_24 : ins 185 24 = some (.iload_n 3) := by decide +kernel
theorem i_185_25 : ins 185 25 = some (.if_icmp .ge 48) := by decide +kernel
theorem i_185_28 : ins 185 28 = some (.iload 4) := by decide +kernel
theorem i_185_30 : ins 185 30 = some (.ifCond .eq 43) := by decide +kernel
theorem i_185_33 : ins 185 33 = some (.aload_n 0) := by decide +kernel
theorem i_185_34 : ins 185 34 = some (.getfield 7) := by decide +kernel
theorem i_185_37 : ins 185 37 = some (.bipush 112) := by decide +kernel
theorem i_185_39 : ins 185 39 = some (.iload 5) := by decide +kernel
theorem i_185_41 : ins 185 41 = some (.iadd) := by decide +kernel
theorem i_185_42 : ins 185 42 = some (.iaload) := by decide +kernel
theorem i_185_43 : ins 185 43 = some (.aload_n 0) := by decide +kernel
theorem i_185_44 : ins 185 44 = some (.getfield 35) := by decide +kernel
theorem i_185_47 : ins 185 47 = some (.bipush 40) := by decide +kernel
theorem i_185_49 : ins 185 49 = some (.iload_n 1) := by decide +kernel
theorem i_185_50 : ins 185 50 = some (.imul) := by decide +kernel
theorem i_185_51 : ins 185 51 = some (.iload_n 2) := by decide +kernel
theorem i_185_52 : ins 185 52 = some (.iadd) := by decide +kernel
theorem i_185_53 : ins 185 53 = some (.iload 5) := by decide +kernel
theorem i_185_55 : ins 185 55 = some (.iadd) := by decide +kernel
theorem i_185_56 : ins 185 56 = some (.iaload) := by decide +kernel
theorem i_185_57 : ins 185 57 = some (.if_icmp .ne 7) := by decide +kernel
theorem i_185_60 : ins 185 60 = some (.iconst 1) := by decide +kernel
theorem i_185_61 : ins 185 61 = some (.goto 4) := by decide +kernel
theorem i_185_64 : ins 185 64 = some (.iconst 0) := by decide +kernel
theorem i_185_65 : ins 185 65 = some (.istore 4) := by decide +kernel
theorem i_185_67 : ins 185 67 = some (.iinc 5 1) := by decide +kernel
theorem i_185_70 : ins 185 70 = some (.goto (-48)) := by decide +kernel
theorem i_185_73 : ins 185 73 = some (.iload 4) := by decide +kernel
theorem i_185_75 : ins 185 75 = some (.ireturn) := by decide +kernel
theorem o_186 : mOwn 186 = 8 := rfl
theorem i_186_0 : ins 186 0 = some (.aload_n 0) := by decide +kernel
theorem i_186_1 : ins 186 1 = some (.invokevirtual 157) := by decide +kernel
theorem i_186_4 : ins 186 4 = some (.ifCond .ne 6) := by decide +kernel
theorem i_186_7 : ins 186 7 = some (.ldc 161) := by decide +kernel
theorem i_186_9 : ins 186 9 = some (.ireturn) := by decide +kernel
theorem i_186_10 : ins 186 10 = some (.iload_n 1) := by decide +kernel
theorem i_186_11 : ins 186 11 = some (.invokestatic 67) := by decide +kernel
theorem i_186_14 : ins 186 14 = some (.ifCond .eq 15) := by decide +kernel
theorem i_186_17 : ins 186 17 = some (.iload_n 3) := by decide +kernel
theorem i_186_18 : ins 186 18 = some (.i2l) := by decide +kernel
theorem i_186_19 : ins 186 19 = some (.lconst 0) := by decide +kernel
theorem i_186_20 : ins 186 20 = some (.ldc2_w 219) := by decide +kernel
theorem i_186_23 : ins 186 23 = some (.invokestatic 63) := by decide +kernel
theorem i_186_26 : ins 186 26 = some (.ifCond .ne 6) := by decide +kernel
theorem i_186_29 : ins 186 29 = some (.ldc 73) := by decide +kernel
theorem i_186_31 : ins 186 31 = some (.ireturn) := by decide +kernel
theorem i_186_32 : ins 186 32 = some (.aload_n 0) := by decide +kernel
theorem i_186_33 : ins 186 33 = some (.getfield 32) := by decide +kernel
theorem i_186_36 : ins 186 36 = some (.iload_n 1) := by decide +kernel
theorem i_186_37 : ins 186 37 = some (.baload) := by decide +kernel
theorem i_186_38 : ins 186 38 = some (.ifCond .ne 9) := by decide +kernel
theorem i_186_41 : ins 186 41 = some (.aload_n 0) := by decide +kernel
theorem i_186_42 : ins 186 42 = some (.iconst 1) := by decide +kernel
theorem i_186_43 : ins 186 43 = some (.invokevirtual 74) := by decide +kernel
theorem i_186_46 : ins 186 46 = some (.ireturn) := by decide +kernel
theorem i_186_47 : ins 186 47 = some (.iload_n 2) := by decide +kernel
theorem i_186_48 : ins 186 48 = some (.ifCond .lt 19) := by decide +kernel
theorem i_186_51 : ins 186 51 = some (.iload_n 2) := by decide +kernel
theorem i_186_52 : ins 186 52 = some (.i2l) := by decide +kernel
theorem i_186_53 : ins 186 53 = some (.iload_n 3) := by decide +kernel
theorem i_186_54 : ins 186 54 = some (.i2l) := by decide +kernel
theorem i_186_55 : ins 186 55 = some (.ladd) := by decide +kernel
theorem i_186_56 : ins 186 56 = some (.aload_n 0) := by decide +kernel
theorem i_186_57 : ins 186 57 = some (.getfield 29) := by decide +kernel
theorem i_186_60 : ins 186 60 = some (.iload_n 1) := by decide +kernel
theorem i_186_61 : ins 186 61 = some (.iaload) := by decide +kernel
theorem i_186_62 : ins 186 62 = some (.i2l) := by decide +kernel
theorem i_186_63 : ins 186 63 = some (.lcmp) := by decide +kernel
theorem i_186_64 : ins 186 64 = some (.ifCond .le 9) := by decide +kernel
theorem i_186_67 : ins 186 67 = some (.aload_n 0) := by decide +kernel
theorem i_186_68 : ins 186 68 = some (.iconst 2) := by decide +kernel
theorem i_186_69 : ins 186 69 = some (.invokevirtual 74) := by decide +kernel
theorem i_186_72 : ins 186 72 = some (.ireturn) := by decide +kernel
theorem i_186_73 : ins 186 73 = some (.iconst 1) := by decide +kernel
theorem i_186_74 : ins 186 74 = some (.istore 4) := by decide +kernel
theorem i_186_76 : ins 186 76 = some (.iconst 0) := by decide +kernel
theorem i_186_77 : ins 186 77 = some (.istore 5) := by decide +kernel
theorem i_186_79 : ins 186 79 = some (.iload 5) := by decide +kernel
theorem i_186_81 : ins 186 81 = some (.iload_n 3) := by decide +kernel
theorem i_186_82 : ins 186 82 = some (.if_icmp .ge 42) := by decide +kernel
theorem i_186_85 : ins 186 85 = some (.iload 4) := by decide +kernel
theorem i_186_87 : ins 186 87 = some (.ifCond .eq 28) := by decide +kernel
theorem i_186_90 : ins 186 90 = some (.aload_n 0) := by decide +kernel
theorem i_186_91 : ins 186 91 = some (.aload_n 0) := by decide +kernel
theorem i_186_92 : ins 186 92 = some (.getfield 35) := by decide +kernel
theorem i_186_95 : ins 186 95 = some (.bipush 40) := by decide +kernel
theorem i_186_97 : ins 186 97 = some (.iload_n 1) := by decide +kernel
theorem i_186_98 : ins 186 98 = some (.imul) := by decide +kernel
theorem i_186_99 : ins 186 99 = some (.iload_n 2) := by decide +kernel
theorem i_186_100 : ins 186 100 = some (.iadd) := by decide +kernel
theorem i_186_101 : ins 186 101 = some (.iload 5) := by decide +kernel
theorem i_186_103 : ins 186 103 = some (.iadd) := by decide +kernel
theorem i_186_104 : ins 186 104 = some (.iaload) := by decide +kernel
theorem i_186_105 : ins 186 105 = some (.invokevirtual 171) := by decide +kernel
theorem i_186_108 : ins 186 108 = some (.ifCond .eq 7) := by decide +kernel
theorem i_186_111 : ins 186 111 = some (.iconst 1) := by decide +kernel
theorem i_186_112 : ins 186 112 = some (.goto 4) := by decide +kernel
theorem i_186_115 : ins 186 115 = some (.iconst 0) := by decide +kernel
theorem i_186_116 : ins 186 116 = some (.istore 4) := by decide +kernel
theorem i_186_118 : ins 186 118 = some (.iinc 5 1) := by decide +kernel
theorem i_186_121 : ins 186 121 = some (.goto (-42)) := by decide +kernel
theorem i_186_124 : ins 186 124 = some (.iload 4) := by decide +kernel
theorem i_186_126 : ins 186 126 = some (.ifCond .ne 6) := by decide +kernel
theorem i_186_129 : ins 186 129 = some (.ldc 73) := by decide +kernel
theorem i_186_131 : ins 186 131 = some (.ireturn) := by decide +kernel
theorem i_186_132 : ins 186 132 = some (.iconst 0) := by decide +kernel
theorem i_186_133 : ins 186 133 = some (.istore 5) := by decide +kernel
theorem i_186_135 : ins 186 135 = some (.aload_n 0) := by decide +kernel
theorem i_186_136 : ins 186 136 = some (.invokevirtual 193) := by decide +kernel
theorem i_186_139 : ins 186 139 = some (.iload 5) := by decide +kernel
theorem i_186_141 : ins 186 141 = some (.sipush 200) := by decide +kernel
theorem i_186_144 : ins 186 144 = some (.if_icmp .ge 24) := by decide +kernel
theorem i_186_147 : ins 186 147 = some (.aload_n 0) := by decide +kernel
theorem i_186_148 : ins 186 148 = some (.iload_n 1) := by decide +kernel
theorem i_186_149 : ins 186 149 = some (.iload_n 2) := by decide +kernel
theorem i_186_150 : ins 186 150 = some (.iload_n 3) := by decide +kernel
theorem i_186_151 : ins 186 151 = some (.invokevirtual 233) := by decide +kernel
theorem i_186_154 : ins 186 154 = some (.ifCond .ne 14) := by decide +kernel
theorem i_186_157 : ins 186 157 = some (.aload_n 0) := by decide +kernel
theorem i_186_158 : ins 186 158 = some (.iconst 1) := by decide +kernel
theorem i_186_159 : ins 186 159 = some (.invokevirtual 167) := by decide +kernel
theorem i_186_162 : ins 186 162 = some (.iinc 5 1) := by decide +kernel
theorem i_186_165 : ins 186 165 = some (.goto (-26)) := by decide +kernel
theorem i_186_168 : ins 186 168 = some (.aload_n 0) := by decide +kernel
theorem i_186_169 : ins 186 169 = some (.iload_n 1) := by decide +kernel
theorem i_186_170 : ins 186 170 = some (.iload_n 2) := by decide +kernel
theorem i_186_171 : ins 186 171 = some (.iload_n 3) := by decide +kernel
theorem i_186_172 : ins 186 172 = some (.invokevirtual 233) := by decide +kernel
theorem i_186_175 : ins 186 175 = some (.istore 6) := by decide +kernel
theorem i_186_177 : ins 186 177 = some (.aload_n 0) := by decide +kernel
theorem i_186_178 : ins 186 178 = some (.invokevirtual 202) := by decide +kernel
theorem i_186_181 : ins 186 181 = some (.aload_n 0) := by decide +kernel
theorem i_186_182 : ins 186 182 = some (.iload 6) := by decide +kernel
theorem i_186_184 : ins 186 184 = some (.ifCond .eq 8) := by decide +kernel
theorem i_186_187 : ins 186 187 = some (.iload 5) := by decide +kernel
theorem i_186_189 : ins 186 189 = some (.goto 5) := by decide +kernel
theorem i_186_192 : ins 186 192 = some (.ldc 183) := by decide +kernel
theorem i_186_194 : ins 186 194 = some (.invokevirtual 78) := by decide +kernel
theorem i_186_197 : ins 186 197 = some (.ireturn) := by decide +kernel
theorem o_187 : mOwn 187 = 8 := rfl
theorem i_187_0 : ins 187 0 = some (.iload_n 1) := by decide +kernel
theorem i_187_1 : ins 187 1 = some (.i2l) := by decide +kernel
theorem i_187_2 : ins 187 2 = some (.lconst 0) := by decide +kernel
theorem i_187_3 : ins 187 3 = some (.lconst 1) := by decide +kernel
theorem i_187_4 : ins 187 4 = some (.invokestatic 63) := by decide +kernel
theorem i_187_7 : ins 187 7 = some (.ifCond .ne 6) := by decide +kernel
theorem i_187_10 : ins 187 10 = some (.ldc 73) := by decide +kernel
theorem i_187_12 : ins 187 12 = some (.ireturn) := by decide +kernel
theorem i_187_13 : ins 187 13 = some (.aload_n 0) := by decide +kernel
theorem i_187_14 : ins 187 14 = some (.invokevirtual 157) := by decide +kernel
theorem i_187_17 : ins 187 17 = some (.ifCond .ne 6) := by decide +kernel
theorem i_187_20 : ins 187 20 = some (.ldc 161) := by decide +kernel
theorem i_187_22 : ins 187 22 = some (.ireturn) := by decide +kernel
theorem i_187_23 : ins 187 23 = some (.iconst 0) := by decide +kernel
theorem i_187_24 : ins 187 24 = some (.istore_n 2) := by decide +kernel
theorem i_187_25 : ins 187 25 = some (.iload_n 2) := by decide +kernel
theorem i_187_26 : ins 187 26 = some (.sipush 232) := by decide +kernel
theorem i_187_29 : ins 187 29 = some (.if_icmp .ge 27) := by decide +kernel
theorem i_187_32 : ins 187 32 = some (.aload_n 0) := by decide +kernel
theorem i_187_33 : ins 187 33 = some (.getfield 13) := by decide +kernel
theorem i_187_36 : ins 187 36 = some (.sipush 232) := by decide +kernel
theorem i_187_39 : ins 187 39 = some (.iload_n 1) := by decide +kernel
theorem i_187_40 : ins 187 40 = some (.imul) := by decide +kernel
theorem i_187_41 : ins 187 41 = some (.iload_n 2) := by decide +kernel
theorem i_187_42 : ins 187 42 = some (.iadd) := by decide +kernel
theorem i_187_43 : ins 187 43 = some (.aload_n 0) := by decide +kernel
theorem i_187_44 : ins 187 44 = some (.getfield 7) := by decide +kernel
theorem i_187_47 : ins 187 47 = some (.iload_n 2) := by decide +kernel
theorem i_187_48 : ins 187 48 = some (.iaload) := by decide +kernel
theorem i_187_49 : ins 187 49 = some (.iastore) := by decide +kernel
theorem i_187_50 : ins 187 50 = some (.iinc 2 1) := by decide +kernel
theorem i_187_53 : ins 187 53 = some (.goto (-28)) := by decide +kernel
theorem i_187_56 : ins 187 56 = some (.aload_n 0) := by decide +kernel
theorem i_187_57 : ins 187 57 = some (.getfield 16) := by decide +kernel
theorem i_187_60 : ins 187 60 = some (.iload_n 1) := by decide +kernel
theorem i_187_61 : ins 187 61 = some (.iconst 1) := by decide +kernel
theorem i_187_62 : ins 187 62 = some (.bastore) := by decide +kernel
theorem i_187_63 : ins 187 63 = some (.iconst 1) := by decide +kernel
theorem i_187_64 : ins 187 64 = some (.ireturn) := by decide +kernel
theorem o_188 : mOwn 188 = 8 := rfl
theorem i_188_0 : ins 188 0 = some (.iload_n 1) := by decide +kernel
theorem i_188_1 : ins 188 1 = some (.i2l) := by decide +kernel
theorem i_188_2 : ins 188 2 = some (.lconst 0) := by decide +kernel
theorem i_188_3 : ins 188 3 = some (.lconst 1) := by decide +kernel
theorem i_188_4 : ins 188 4 = some (.invokestatic 63) := by decide +kernel
theorem i_188_7 : ins 188 7 = some (.ifCond .ne 6) := by decide +kernel
theorem i_188_10 : ins 188 10 = some (.ldc 73) := by decide +kernel
theorem i_188_12 : ins 188 12 = some (.ireturn) := by decide +kernel
theorem i_188_13 : ins 188 13 = some (.aload_n 0) := by decide +kernel
theorem i_188_14 : ins 188 14 = some (.getfield 16) := by decide +kernel
theorem i_188_17 : ins 188 17 = some (.iload_n 1) := by decide +kernel
theorem i_188_18 : ins 188 18 = some (.baload) := by decide +kernel
theorem i_188_19 : ins 188 19 = some (.ifCond .ne 6) := by decide +kernel
theorem i_188_22 : ins 188 22 = some (.ldc 161) := by decide +kernel
theorem i_188_24 : ins 188 24 = some (.ireturn) := by decide +kernel
theorem i_188_25 : ins 188 25 = some (.iconst 0) := by decide +kernel
theorem i_188_26 : ins 188 26 = some (.istore_n 2) := by decide +kernel
theorem i_188_27 : ins 188 27 = some (.iload_n 2) := by decide +kernel
theorem i_188_28 : ins 188 28 = some (.sipush 232) := by decide +kernel
theorem i_188_31 : ins 188 31 = some (.if_icmp .ge 27) := by decide +kernel
theorem i_188_34 : ins 188 34 = some (.aload_n 0) := by decide +kernel
theorem i_188_35 : ins 188 35 = some (.getfield 7) := by decide +kernel
theorem i_188_38 : ins 188 38 = some (.iload_n 2) := by decide +kernel
theorem i_188_39 : ins 188 39 = some (.aload_n 0) := by decide +kernel
theorem i_188_40 : ins 188 40 = some (.getfield 13) := by decide +kernel
theorem i_188_43 : ins 188 43 = some (.sipush 232) := by decide +kernel
theorem i_188_46 : ins 188 46 = some (.iload_n 1) := by decide +kernel
theorem i_188_47 : ins 188 47 = some (.imul) := by decide +kernel
theorem i_188_48 : ins 188 48 = some (.iload_n 2) := by decide +kernel
theorem i_188_49 : ins 188 49 = some (.iadd) := by decide +kernel
theorem i_188_50 : ins 188 50 = some (.iaload) := by decide +kernel
theorem i_188_51 : ins 188 51 = some (.iastore) := by decide +kernel
theorem i_188_52 : ins 188 52 = some (.iinc 2 1) := by decide +kernel
theorem i_188_55 : ins 188 55 = some (.goto (-28)) := by decide +kernel
theorem i_188_58 : ins 188 58 = some (.aload_n 0) := by decide +kernel
theorem i_188_59 : ins 188 59 = some (.iconst 0) := by decide +kernel
theorem i_188_60 : ins 188 60 = some (.putfield 129) := by decide +kernel
theorem i_188_63 : ins 188 63 = some (.iconst 1) := by decide +kernel
theorem i_188_64 : ins 188 64 = some (.ireturn) := by decide +kernel
theorem o_189 : mOwn 189 = 8 := rfl
theorem i_189_0 : ins 189 0 = some (.aload_n 0) := by decide +kernel
theorem i_189_1 : ins 189 1 = some (.iload_n 1) := by decide +kernel
theorem i_189_2 : ins 189 2 = some (.invokevirtual 171) := by decide +kernel
theorem i_189_5 : ins 189 5 = some (.ifCond .eq 16) := by decide +kernel
theorem i_189_8 : ins 189 8 = some (.aload_n 0) := by decide +kernel
theorem i_189_9 : ins 189 9 = some (.getfield 7) := by decide +kernel
theorem i_189_12 : ins 189 12 = some (.sipush 145) := by decide +kernel
theorem i_189_15 : ins 189 15 = some (.iload_n 1) := by decide +kernel
theorem i_189_16 : ins 189 16 = some (.iadd) := by decide +kernel
theorem i_189_17 : ins 189 17 = some (.iaload) := by decide +kernel
theorem i_189_18 : ins 189 18 = some (.goto 5) := by decide +kernel
theorem i_189_21 : ins 189 21 = some (.ldc 73) := by decide +kernel
theorem i_189_23 : ins 189 23 = some (.ireturn) := by decide +kernel
theorem o_190 : mOwn 190 = 8 := rfl
theorem i_190_0 : ins 190 0 = some (.iload_n 0) := by decide +kernel
theorem i_190_1 : ins 190 1 = some (.iconst 5) := by decide +kernel
theorem i_190_2 : ins 190 2 = some (.if_icmp .ne 7) := by decide +kernel
theorem i_190_5 : ins 190 5 = some (.iconst 4) := by decide +kernel
theorem i_190_6 : ins 190 6 = some (.goto 18) := by decide +kernel
theorem i_190_9 : ins 190 9 = some (.iload_n 0) := by decide +kernel
theorem i_190_10 : ins 190 10 = some (.iconst 2) := by decide +kernel
theorem i_190_11 : ins 190 11 = some (.if_icmp .eq 8) := by decide +kernel
theorem i_190_14 : ins 190 14 = some (.iload_n 0) := by decide +kernel
theorem i_190_15 : ins 190 15 = some (.iconst 3) := by decide +kernel
theorem i_190_16 : ins 190 16 = some (.if_icmp .ne 7) := by decide +kernel
theorem i_190_19 : ins 190 19 = some (.iconst 1) := by decide +kernel
theorem i_190_20 : ins 190 20 = some (.goto 4) := by decide +kernel
theorem i_190_23 : ins 190 23 = some (.iconst 0) := by decide +kernel
theorem i_190_24 : ins 190 24 = some (.ireturn) := by decide +kernel
theorem o_191 : mOwn 191 = 8 := rfl
theorem i_191_0 : ins 191 0 = some (.aload_n 0) := by decide +kernel
theorem i_191_1 : ins 191 1 = some (.iload_n 1) := by decide +kernel
theorem i_191_2 : ins 191 2 = some (.invokevirtual 171) := by decide +kernel
theorem i_191_5 : ins 191 5 = some (.ifCond .eq 15) := by decide +kernel
theorem i_191_8 : ins 191 8 = some (.iload_n 2) := by decide +kernel
theorem i_191_9 : ins 191 9 = some (.i2l) := by decide +kernel
theorem i_191_10 : ins 191 10 = some (.lconst 0) := by decide +kernel
theorem i_191_11 : ins 191 11 = some (.ldc2_w 189) := by decide +kernel
theorem i_191_14 : ins 191 14 = some (.invokestatic 63) := by decide +kernel
theorem i_191_17 : ins 191 17 = some (.ifCond .ne 6) := by decide +kernel
theorem i_191_20 : ins 191 20 = some (.ldc 73) := by decide +kernel
theorem i_191_22 : ins 191 22 = some (.ireturn) := by decide +kernel
theorem i_191_23 : ins 191 23 = some (.aload_n 0) := by decide +kernel
theorem i_191_24 : ins 191 24 = some (.getfield 7) := by decide +kernel
theorem i_191_27 : ins 191 27 = some (.sipush 145) := by decide +kernel
theorem i_191_30 : ins 191 30 = some (.iload_n 1) := by decide +kernel
theorem i_191_31 : ins 191 31 = some (.iadd) := by decide +kernel
theorem i_191_32 : ins 191 32 = some (.iaload) := by decide +kernel
theorem i_191_33 : ins 191 33 = some (.istore_n 3) := by decide +kernel
theorem i_191_34 : ins 191 34 = some (.iload_n 3) := by decide +kernel
theorem i_191_35 : ins 191 35 = some (.iload_n 2) := by decide +kernel
theorem i_191_36 : ins 191 36 = some (.if_icmp .eq 15) := by decide +kernel
theorem i_191_39 : ins 191 39 = some (.iload_n 3) := by decide +kernel
theorem i_191_40 : ins 191 40 = some (.ifCond .eq 11) := by decide +kernel
theorem i_191_43 : ins 191 43 = some (.iload_n 3) := by decide +kernel
theorem i_191_44 : ins 191 44 = some (.invokestatic 237) := by decide +kernel
theorem i_191_47 : ins 191 47 = some (.istore_n 3) := by decide +kernel
theorem i_191_48 : ins 191 48 = some (.goto (-14)) := by decide +kernel
theorem i_191_51 : ins 191 51 = some (.iload_n 3) := by decide +kernel
theorem i_191_52 : ins 191 52 = some (.iload_n 2) := by decide +kernel
theorem i_191_53 : ins 191 53 = some (.if_icmp .ne 11) := by decide +kernel
theorem i_191_56 : ins 191 56 = some (.aload_n 0) := by decide +kernel
theorem i_191_57 : ins 191 57 = some (.iload_n 1) := by decide +kernel
theorem i_191_58 : ins 191 58 = some (.invokevirtual 78) := by decide +kernel
theorem i_191_61 : ins 191 61 = some (.goto 8) := by decide +kernel
theorem i_191_64 : ins 191 64 = some (.aload_n 0) := by decide +kernel
theorem i_191_65 : ins 191 65 = some (.iconst 3) := by decide +kernel
theorem i_191_66 : ins 191 66 = some (.invokevirtual 74) := by decide +kernel
theorem i_191_69 : ins 191 69 = some (.ireturn) := by decide +kernel
theorem o_192 : mOwn 192 = 8 := rfl
theorem i_192_0 : ins 192 0 = some (.aload_n 0) := by decide +kernel
theorem i_192_1 : ins 192 1 = some (.getfield 240) := by decide +kernel
theorem i_192_4 : ins 192 4 = some (.bipush 16) := by decide +kernel
theorem i_192_6 : ins 192 6 = some (.if_icmp .ge 23) := by decide +kernel
theorem i_192_9 : ins 192 9 = some (.aload_n 0) := by decide +kernel
theorem i_192_10 : ins 192 10 = some (.getfield 53) := by decide +kernel
theorem i_192_13 : ins 192 13 = some (.aload_n 0) := by decide +kernel
theorem i_192_14 : ins 192 14 = some (.getfield 240) := by decide +kernel
theorem i_192_17 : ins 192 17 = some (.iload_n 1) := by decide +kernel
theorem i_192_18 : ins 192 18 = some (.iastore) := by decide +kernel
theorem i_192_19 : ins 192 19 = some (.aload_n 0) := by decide +kernel
theorem i_192_20 : ins 192 20 = some (.dup) := by decide +kernel
theorem i_192_21 : ins 192 21 = some (.getfield 240) := by decide +kernel
theorem i_192_24 : ins 192 24 = some (.iconst 1) := by decide +kernel
theorem i_192_25 : ins 192 25 = some (.iadd) := by decide +kernel
theorem i_192_26 : ins 192 26 = some (.putfield 240) := by decide +kernel
theorem i_192_29 : ins 192 29 = some (.return_) := by decide +kernel
theorem o_193 : mOwn 193 = 8 := rfl
theorem i_193_0 : ins 193 0 = some (.aload_n 0) := by decide +kernel
theorem i_193_1 : ins 193 1 = some (.bipush 10) := by decide +kernel
theorem i_193_3 : ins 193 3 = some (.invokevirtual 243) := by decide +kernel
theorem i_193_6 : ins 193 6 = some (.aload_n 0) := by decide +kernel
theorem i_193_7 : ins 193 7 = some (.getfield 7) := by decide +kernel
theorem i_193_10 : ins 193 10 = some (.bipush 28) := by decide +kernel
theorem i_193_12 : ins 193 12 = some (.iload_n 1) := by decide +kernel
theorem i_193_13 : ins 193 13 = some (.iadd) := by decide +kernel
theorem i_193_14 : ins 193 14 = some (.iaload) := by decide +kernel
theorem i_193_15 : ins 193 15 = some (.ireturn) := by decide +kernel
theorem o_194 : mOwn 194 = 8 := rfl
theorem i_194_0 : ins 194 0 = some (.aload_n 0) := by decide +kernel
theorem i_194_1 : ins 194 1 = some (.bipush 13) := by decide +kernel
theorem i_194_3 : ins 194 3 = some (.invokevirtual 243) := by decide +kernel
theorem i_194_6 : ins 194 6 = some (.aload_n 0) := by decide +kernel
theorem i_194_7 : ins 194 7 = some (.iload_n 1) := by decide +kernel
theorem i_194_8 : ins 194 8 = some (.invokevirtual 246) := by decide +kernel
theorem i_194_11 : ins 194 11 = some (.bipush 100) := by decide +kernel
theorem i_194_13 : ins 194 13 = some (.isub) := by decide +kernel
theorem i_194_14 : ins 194 14 = some (.ireturn) := by decide +kernel
theorem o_195 : mOwn 195 = 8 := rfl
theorem i_195_0 : ins 195 0 = some (.aload_n 0) := by decide +kernel
theorem i_195_1 : ins 195 1 = some (.getfield 7) := by decide +kernel
theorem i_195_4 : ins 195 4 = some (.sipush 145) := by decide +kernel
theorem i_195_7 : ins 195 7 = some (.iload_n 1) := by decide +kernel
theorem i_195_8 : ins 195 8 = some (.iadd) := by decide +kernel
theorem i_195_9 : ins 195 9 = some (.iaload) := by decide +kernel
theorem i_195_10 : ins 195 10 = some (.iconst 5) := by decide +kernel
theorem i_195_11 : ins 195 11 = some (.if_icmp .ne 17) := by decide +kernel
theorem i_195_14 : ins 195 14 = some (.aload_n 0) := by decide +kernel
theorem i_195_15 : ins 195 15 = some (.bipush 14) := by decide +kernel
theorem i_195_17 : ins 195 17 = some (.invokevirtual 243) := by decide +kernel
theorem i_195_20 : ins 195 20 = some (.iconst 2) := by decide +kernel
theorem i_195_21 : ins 195 21 = some (.aload_n 0) := by decide +kernel
theorem i_195_22 : ins 195 22 = some (.iload_n 1) := by decide +kernel
theorem i_195_23 : ins 195 23 = some (.invokevirtual 249) := by decide +kernel
theorem i_195_26 : ins 195 26 = some (.imul) := by decide +kernel
theorem i_195_27 : ins 195 27 = some (.ireturn) := by decide +kernel
theorem i_195_28 : ins 195 28 = some (.aload_n 0) := by decide +kernel
theorem i_195_29 : ins 195 29 = some (.iload_n 1) := by decide +kernel
theorem i_195_30 : ins 195 30 = some (.invokevirtual 249) := by decide +kernel
theorem i_195_33 : ins 195 33 = some (.ireturn) := by decide +kernel
theorem o_196 : mOwn 196 = 8 := rfl
theorem i_196_0 : ins 196 0 = some (.aload_n 0) := by decide +kernel
theorem i_196_1 : ins 196 1 = some (.bipush 11) := by decide +kernel
theorem i_196_3 : ins 196 3 = some (.invokevirtual 243) := by decide +kernel
theorem i_196_6 : ins 196 6 = some (.aload_n 0) := by decide +kernel
theorem i_196_7 : ins 196 7 = some (.iload_n 1) := by decide +kernel
theorem i_196_8 : ins 196 8 = some (.invokevirtual 246) := by decide +kernel
theorem i_196_11 : ins 196 11 = some (.istore_n 2) := by decide +kernel
theorem i_196_12 : ins 196 12 = some (.iload_n 2) := by decide +kernel
theorem i_196_13 : ins 196 13 = some (.aload_n 0) := by decide +kernel
theorem i_196_14 : ins 196 14 = some (.iload_n 1) := by decide +kernel
theorem i_196_15 : ins 196 15 = some (.invokevirtual 252) := by decide +kernel
theorem i_196_18 : ins 196 18 = some (.iadd) := by decide +kernel
theorem i_196_19 : ins 196 19 = some (.ireturn) := by decide +kernel
theorem o_197 : mOwn 197 = 8 := rfl
theorem i_197_0 : ins 197 0 = some (.aload_n 0) := by decide +kernel
theorem i_197_1 : ins 197 1 = some (.iload_n 1) := by decide +kernel
theorem i_197_2 : ins 197 2 = some (.invokevirtual 255) := by decide +kernel
theorem i_197_5 : ins 197 5 = some (.ifCond .eq 9) := by decide +kernel
theorem i_197_8 : ins 197 8 = some (.aload_n 0) := by decide +kernel
theorem i_197_9 : ins 197 9 = some (.iload_n 1) := by decide +kernel
theorem i_197_10 : ins 197 10 = some (.invokevirtual 258) := by decide +kernel
theorem i_197_13 : ins 197 13 = some (.ireturn) := by decide +kernel
theorem i_197_14 : ins 197 14 = some (.aload_n 0) := by decide +kernel
theorem i_197_15 : ins 197 15 = some (.getfield 7) := by decide +kernel
theorem i_197_18 : ins 197 18 = some (.sipush 145) := by decide +kernel
theorem i_197_21 : ins 197 21 = some (.iload_n 1) := by decide +kernel
theorem i_197_22 : ins 197 22 = some (.iadd) := by decide +kernel
theorem i_197_23 : ins 197 23 = some (.iaload) := by decide +kernel
theorem i_197_24 : ins 197 24 = some (.iconst 2) := by decide +kernel
theorem i_197_25 : ins 197 25 = some (.if_icmp .ne 16) := by decide +kernel
theorem i_197_28 : ins 197 28 = some (.aload_n 0) := by decide +kernel
theorem i_197_29 : ins 197 29 = some (.bipush 12) := by decide +kernel
theorem i_197_31 : ins 197 31 = some (.invokevirtual 243) := by decide +kernel
theorem i_197_34 : ins 197 34 = some (.aload_n 0) := by decide +kernel
theorem i_197_35 : ins 197 35 = some (.iload_n 1) := by decide +kernel
theorem i_197_36 : ins 197 36 = some (.invokevirtual 261) := by decide +kernel
theorem i_197_39 : ins 197 39 = some (.ineg) := by decide +kernel
theorem i_197_40 : ins 197 40 = some (.ireturn) := by decide +kernel
theorem i_197_41 : ins 197 41 = some (.aload_n 0) := by decide +kernel
theorem i_197_42 : ins 197 42 = some (.iload_n 1) := by decide +kernel
theorem i_197_43 : ins 197 43 = some (.invokevirtual 261) := by decide +kernel
theorem i_197_46 : ins 197 46 = some (.ireturn) := by decide +kernel
theorem o_198 : mOwn 198 = 8 := rfl
theorem i_198_0 : ins 198 0 = some (.aload_n 0) := by decide +kernel
theorem i_198_1 : ins 198 1 = some (.bipush 20) := by decide +kernel
theorem i_198_3 : ins 198 3 = some (.invokevirtual 243) := by decide +kernel
theorem i_198_6 : ins 198 6 = some (.iload_n 1) := by decide +kernel
theorem i_198_7 : ins 198 7 = some (.ireturn) := by decide +kernel
theorem o_199 : mOwn 199 = 8 := rfl
theorem i_199_0 : ins 199 0 = some (.aload_n 0) := by decide +kernel
theorem i_199_1 : ins 199 1 = some (.bipush 21) := by decide +kernel
theorem i_199_3 : ins 199 3 = some (.invokevirtual 243) := by decide +kernel
theorem i_199_6 : ins 199 6 = some (.aload_n 0) := by decide +kernel
theorem i_199_7 : ins 199 7 = some (.iload_n 1) := by decide +kernel
theorem i_199_8 : ins 199 8 = some (.invokevirtual 264) := by decide +kernel
theorem i_199_11 : ins 199 11 = some (.aload_n 0) := by decide +kernel
theorem i_199_12 : ins 199 12 = some (.iload_n 1) := by decide +kernel
theorem i_199_13 : ins 199 13 = some (.invokevirtual 135) := by decide +kernel
theorem i_199_16 : ins 199 16 = some (.iadd) := by decide +kernel
theorem i_199_17 : ins 199 17 = some (.ireturn) := by decide +kernel
theorem o_200 : mOwn 200 = 8 := rfl
theorem i_200_0 : ins 200 0 = some (.aload_n 0) := by decide +kernel
theorem i_200_1 : ins 200 1 = some (.getfield 7) := by decide +kernel
theorem i_200_4 : ins 200 4 = some (.sipush 145) := by decide +kernel
theorem i_200_7 : ins 200 7 = some (.iload_n 1) := by decide +kernel
theorem i_200_8 : ins 200 8 = some (.iadd) := by decide +kernel
theorem i_200_9 : ins 200 9 = some (.iaload) := by decide +kernel
theorem i_200_10 : ins 200 10 = some (.tableswitch 62 1 3 #[56, 26, 40]) := by decide +kernel
theorem i_200_36 : ins 200 36 = some (.aload_n 0) := by decide +kernel
theorem i_200_37 : ins 200 37 = some (.bipush 24) := by decide +kernel
theorem i_200_39 : ins 200 39 = some (.invokevirtual 243) := by decide +kernel
theorem i_200_42 : ins 200 42 = some (.iconst 2) := by decide +kernel
theorem i_200_43 : ins 200 43 = some (.aload_n 0) := by decide +kernel
theorem i_200_44 : ins 200 44 = some (.iload_n 1) := by decide +kernel
theorem i_200_45 : ins 200 45 = some (.invokevirtual 267) := by decide +kernel
theorem i_200_48 : ins 200 48 = some (.imul) := by decide +kernel
theorem i_200_49 : ins 200 49 = some (.ireturn) := by decide +kernel
theorem i_200_50 : ins 200 50 = some (.aload_n 0) := by decide +kernel
theorem i_200_51 : ins 200 51 = some (.bipush 22) := by decide +kernel
theorem i_200_53 : ins 200 53 = some (.invokevirtual 243) := by decide +kernel
theorem i_200_56 : ins 200 56 = some (.aload_n 0) := by decide +kernel
theorem i_200_57 : ins 200 57 = some (.iload_n 1) := by decide +kernel
theorem i_200_58 : ins 200 58 = some (.invokevirtual 267) := by decide +kernel
theorem i_200_61 : ins 200 61 = some (.sipush 1000) := by decide +kernel
theorem i_200_64 : ins 200 64 = some (.isub) := by decide +kernel
theorem i_200_65 : ins 200 65 = some (.ireturn) := by decide +kernel
theorem i_200_66 : ins 200 66 = some (.aload_n 0) := by decide +kernel
theorem i_200_67 : ins 200 67 = some (.iload_n 1) := by decide +kernel
theorem i_200_68 : ins 200 68 = some (.invokevirtual 267) := by decide +kernel
theorem i_200_71 : ins 200 71 = some (.ireturn) := by decide +kernel
theorem i_200_72 : ins 200 72 = some (.aload_n 0) := by decide +kernel
theorem i_200_73 : ins 200 73 = some (.bipush 23) := by decide +kernel
theorem i_200_75 : ins 200 75 = some (.invokevirtual 243) := by decide +kernel
theorem i_200_78 : ins 200 78 = some (.aload_n 0) := by decide +kernel
theorem i_200_79 : ins 200 79 = some (.iload_n 1) := by decide +kernel
theorem i_200_80 : ins 200 80 = some (.invokevirtual 264) := by decide +kernel
theorem i_200_83 : ins 200 83 = some (.istore_n 2) := by decide +kernel
theorem i_200_84 : ins 200 84 = some (.iload_n 2) := by decide +kernel
theorem i_200_85 : ins 200 85 = some (.aload_n 0) := by decide +kernel
theorem i_200_86 : ins 200 86 = some (.iload_n 1) := by decide +kernel
theorem i_200_87 : ins 200 87 = some (.invokevirtual 258) := by decide +kernel
theorem i_200_90 : ins 200 90 = some (.isub) := by decide +kernel
theorem i_200_91 : ins 200 91 = some (.ireturn) := by decide +kernel
theorem o_201 : mOwn 201 = 8 := rfl
theorem i_201_0 : ins 201 0 = some (.aload_n 0) := by decide +kernel
theorem i_201_1 : ins 201 1 = some (.iload_n 1) := by decide +kernel
theorem i_201_2 : ins 201 2 = some (.invokevirtual 171) := by decide +kernel
theorem i_201_5 : ins 201 5 = some (.ifCond .eq 13) := by decide +kernel
theorem i_201_8 : ins 201 8 = some (.iload_n 2) := by decide +kernel
theorem i_201_9 : ins 201 9 = some (.i2l) := by decide +kernel
theorem i_201_10 : ins 201 10 = some (.lconst 0) := by decide +kernel
theorem i_201_11 : ins 201 11 = some (.lconst 1) := by decide +kernel
theorem i_201_12 : ins 201 12 = some (.invokestatic 63) := by decide +kernel
theorem i_201_15 : ins 201 15 = some (.ifCond .ne 6) := by decide +kernel
theorem i_201_18 : ins 201 18 = some (.ldc 73) := by decide +kernel
theorem i_201_20 : ins 201 20 = some (.ireturn) := by decide +kernel
theorem i_201_21 : ins 201 21 = some (.aload_n 0) := by decide +kernel
theorem i_201_22 : ins 201 22 = some (.iconst 0) := by decide +kernel
theorem i_201_23 : ins 201 23 = some (.putfield 240) := by decide +kernel
theorem i_201_26 : ins 201 26 = some (.iload_n 2) := by decide +kernel
theorem i_201_27 : ins 201 27 = some (.ifCond .ne 11) := by decide +kernel
theorem i_201_30 : ins 201 30 = some (.aload_n 0) := by decide +kernel
theorem i_201_31 : ins 201 31 = some (.iload_n 1) := by decide +kernel
theorem i_201_32 : ins 201 32 = some (.invokevirtual 270) := by decide +kernel
theorem i_201_35 : ins 201 35 = some (.goto 8) := by decide +kernel
theorem i_201_38 : ins 201 38 = some (.aload_n 0) := by decide +kernel
theorem i_201_39 : ins 201 39 = some (.iload_n 1) := by decide +kernel
theorem i_201_40 : ins 201 40 = some (.invokevirtual 252) := by decide +kernel
theorem i_201_43 : ins 201 43 = some (.ireturn) := by decide +kernel
theorem o_202 : mOwn 202 = 8 := rfl
theorem i_202_0 : ins 202 0 = some (.iload_n 1) := by decide +kernel
theorem i_202_1 : ins 202 1 = some (.i2l) := by decide +kernel
theorem i_202_2 : ins 202 2 = some (.lconst 0) := by decide +kernel
theorem i_202_3 : ins 202 3 = some (.aload_n 0) := by decide +kernel
theorem i_202_4 : ins 202 4 = some (.getfield 240) := by decide +kernel
theorem i_202_7 : ins 202 7 = some (.iconst 1) := by decide +kernel
theorem i_202_8 : ins 202 8 = some (.isub) := by decide +kernel
theorem i_202_9 : ins 202 9 = some (.i2l) := by decide +kernel
theorem i_202_10 : ins 202 10 = some (.invokestatic 63) := by decide +kernel
theorem i_202_13 : ins 202 13 = some (.ifCond .eq 12) := by decide +kernel
theorem i_202_16 : ins 202 16 = some (.aload_n 0) := by decide +kernel
theorem i_202_17 : ins 202 17 = some (.getfield 53) := by decide +kernel
theorem i_202_20 : ins 202 20 = some (.iload_n 1) := by decide +kernel
theorem i_202_21 : ins 202 21 = some (.iaload) := by decide +kernel
theorem i_202_22 : ins 202 22 = some (.goto 5) := by decide +kernel
theorem i_202_25 : ins 202 25 = some (.ldc 183) := by decide +kernel
theorem i_202_27 : ins 202 27 = some (.ireturn) := by decide +kernel
theorem o_203 : mOwn 203 = 8 := rfl
theorem i_203_0 : ins 203 0 = some (.iconst 0) := by decide +kernel
theorem i_203_1 : ins 203 1 = some (.istore_n 1) := by decide +kernel
theorem i_203_2 : ins 203 2 = some (.iconst 0) := by decide +kernel
theorem i_203_3 : ins 203 3 = some (.istore_n 2) := by decide +kernel
theorem i_203_4 : ins 203 4 = some (.iload_n 2) := by decide +kernel
theorem i_203_5 : ins 203 5 = some (.bipush 8) := by decide +kernel
theorem i_203_7 : ins 203 7 = some (.if_icmp .ge 26) := by decide +kernel
theorem i_203_10 : ins 203 10 = some (.iload_n 1) := by decide +kernel
theorem i_203_11 : ins 203 11 = some (.aload_n 0) := by decide +kernel
theorem i_203_12 : ins 203 12 = some (.getfield 32) := by decide +kernel
theorem i_203_15 : ins 203 15 = some (.iload_n 2) := by decide +kernel
theorem i_203_16 : ins 203 16 = some (.baload) := by decide +kernel
theorem i_203_17 : ins 203 17 = some (.ifCond .eq 7) := by decide +kernel
theorem i_203_20 : ins 203 20 = some (.iconst 1) := by decide +kernel
theorem i_203_21 : ins 203 21 = some (.goto 4) := by decide +kernel
theorem i_203_24 : ins 203 24 = some (.iconst 0) := by decide +kernel
theorem i_203_25 : ins 203 25 = some (.iadd) := by decide +kernel
theorem i_203_26 : ins 203 26 = some (.istore_n 1) := by decide +kernel
theorem i_203_27 : ins 203 27 = some (.iinc 2 1) := by decide +kernel
theorem i_203_30 : ins 203 30 = some (.goto (-26)) := by decide +kernel
theorem i_203_33 : ins 203 33 = some (.iload_n 1) := by decide +kernel
theorem i_203_34 : ins 203 34 = some (.ireturn) := by decide +kernel
theorem o_204 : mOwn 204 = 8 := rfl
theorem i_204_0 : ins 204 0 = some (.iload_n 1) := by decide +kernel
theorem i_204_1 : ins 204 1 = some (.tableswitch 116 0 8 #[51, 56, 61, 70, 79, 88, 97, 106, 111]) := by decide +kernel
theorem i_204_52 : ins 204 52 = some (.aload_n 0) := by decide +kernel
theorem i_204_53 : ins 204 53 = some (.invokevirtual 273) := by decide +kernel
theorem i_204_56 : ins 204 56 = some (.ireturn) := by decide +kernel
theorem i_204_57 : ins 204 57 = some (.aload_n 0) := by decide +kernel
theorem i_204_58 : ins 204 58 = some (.invokevirtual 132) := by decide +kernel
theorem i_204_61 : ins 204 61 = some (.ireturn) := by decide +kernel
theorem i_204_62 : ins 204 62 = some (.aload_n 0) := by decide +kernel
theorem i_204_63 : ins 204 63 = some (.getfield 7) := by decide +kernel
theorem i_204_66 : ins 204 66 = some (.sipush 230) := by decide +kernel
theorem i_204_69 : ins 204 69 = some (.iaload) := by decide +kernel
theorem i_204_70 : ins 204 70 = some (.ireturn) := by decide +kernel
theorem i_204_71 : ins 204 71 = some (.aload_n 0) := by decide +kernel
theorem i_204_72 : ins 204 72 = some (.getfield 7) := by decide +kernel
theorem i_204_75 : ins 204 75 = some (.sipush 142) := by decide +kernel
theorem i_204_78 : ins 204 78 = some (.iaload) := by decide +kernel
theorem i_204_79 : ins 204 79 = some (.ireturn) := by decide +kernel
theorem i_204_80 : ins 204 80 = some (.aload_n 0) := by decide +kernel
theorem i_204_81 : ins 204 81 = some (.getfield 7) := by decide +kernel
theorem i_204_84 : ins 204 84 = some (.sipush 140) := by decide +kernel
theorem i_204_87 : ins 204 87 = some (.iaload) := by decide +kernel
theorem i_204_88 : ins 204 88 = some (.ireturn) := by decide +kernel
theorem i_204_89 : ins 204 89 = some (.aload_n 0) := by decide +kernel
theorem i_204_90 : ins 204 90 = some (.getfield 7) := by decide +kernel
theorem i_204_93 : ins 204 93 = some (.sipush 143) := by decide +kernel
theorem i_204_96 : ins 204 96 = some (.iaload) := by decide +kernel
theorem i_204_97 : ins 204 97 = some (.ireturn) := by decide +kernel
theorem i_204_98 : ins 204 98 = some (.aload_n 0) := by decide +kernel
theorem i_204_99 : ins 204 99 = some (.getfield 7) := by decide +kernel
theorem i_204_102 : ins 204 102 = some (.sipush 144) := by decide +kernel
theorem i_204_105 : ins 204 105 = some (.iaload) := by decide +kernel
theorem i_204_106 : ins 204 106 = some (.ireturn) := by decide +kernel
theorem i_204_107 : ins 204 107 = some (.aload_n 0) := by decide +kernel
theorem i_204_108 : ins 204 108 = some (.getfield 129) := by decide +kernel
theorem i_204_111 : ins 204 111 = some (.ireturn) := by decide +kernel
theorem i_204_112 : ins 204 112 = some (.aload_n 0) := by decide +kernel
theorem i_204_113 : ins 204 113 = some (.getfield 83) := by decide +kernel
theorem i_204_116 : ins 204 116 = some (.ireturn) := by decide +kernel
theorem i_204_117 : ins 204 117 = some (.ldc 73) := by decide +kernel
theorem i_204_119 : ins 204 119 = some (.ireturn) := by decide +kernel
theorem o_205 : mOwn 205 = 8 := rfl
theorem i_205_0 : ins 205 0 = some (.aload_n 0) := by decide +kernel
theorem i_205_1 : ins 205 1 = some (.getfield 56) := by decide +kernel
theorem i_205_4 : ins 205 4 = some (.ireturn) := by decide +kernel
