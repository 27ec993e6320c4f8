theorem o_121 : mOwn 121 = 8 := rfl
theorem i_121_0 : ins 121 0 = some (.aload_n 0) := by decide +kernel
theorem i_121_1 : ins 121 1 = some (.invokespecial 1) := by decide +kernel
theorem i_121_4 : ins 121 4 = some (.aload_n 0) := by decide +kernel
theorem i_121_5 : ins 121 5 = some (.sipush 232) := by decide +kernel
theorem i_121_8 : ins 121 8 = some (.newarray .int) := by decide +kernel
theorem i_121_10 : ins 121 10 = some (.putfield 7) := by decide +kernel
theorem i_121_13 : ins 121 13 = some (.aload_n 0) := by decide +kernel
theorem i_121_14 : ins 121 14 = some (.sipush 464) := by decide +kernel
theorem i_121_17 : ins 121 17 = some (.newarray .int) := by decide +kernel
theorem i_121_19 : ins 121 19 = some (.putfield 13) := by decide +kernel
theorem i_121_22 : ins 121 22 = some (.aload_n 0) := by decide +kernel
theorem i_121_23 : ins 121 23 = some (.iconst 2) := by decide +kernel
theorem i_121_24 : ins 121 24 = some (.newarray .boolean) := by decide +kernel
theorem i_121_26 : ins 121 26 = some (.putfield 16) := by decide +kernel
theorem i_121_29 : ins 121 29 = some (.aload_n 0) := by decide +kernel
theorem i_121_30 : ins 121 30 = some (.sipush 3480) := by decide +kernel
theorem i_121_33 : ins 121 33 = some (.newarray .int) := by decide +kernel
theorem i_121_35 : ins 121 35 = some (.putfield 20) := by decide +kernel
theorem i_121_38 : ins 121 38 = some (.aload_n 0) := by decide +kernel
theorem i_121_39 : ins 121 39 = some (.sipush 232) := by decide +kernel
theorem i_121_42 : ins 121 42 = some (.newarray .int) := by decide +kernel
theorem i_121_44 : ins 121 44 = some (.putfield 23) := by decide +kernel
theorem i_121_47 : ins 121 47 = some (.aload_n 0) := by decide +kernel
theorem i_121_48 : ins 121 48 = some (.bipush 8) := by decide +kernel
theorem i_121_50 : ins 121 50 = some (.newarray .int) := by decide +kernel
theorem i_121_52 : ins 121 52 = some (.putfield 26) := by decide +kernel
theorem i_121_55 : ins 121 55 = some (.aload_n 0) := by decide +kernel
theorem i_121_56 : ins 121 56 = some (.bipush 8) := by decide +kernel
theorem i_121_58 : ins 121 58 = some (.newarray .int) := by decide +kernel
theorem i_121_60 : ins 121 60 = some (.putfield 29) := by decide +kernel
theorem i_121_63 : ins 121 63 = some (.aload_n 0) := by decide +kernel
theorem i_121_64 : ins 121 64 = some (.bipush 8) := by decide +kernel
theorem i_121_66 : ins 121 66 = some (.newarray .boolean) := by decide +kernel
theorem i_121_68 : ins 121 68 = some (.putfield 32) := by decide +kernel
theorem i_121_71 : ins 121 71 = some (.aload_n 0) := by decide +kernel
theorem i_121_72 : ins 121 72 = some (.sipush 320) := by decide +kernel
theorem i_121_75 : ins 121 75 = some (.newarray .int) := by decide +kernel
theorem i_121_77 : ins 121 77 = some (.putfield 35) := by decide +kernel
theorem i_121_80 : ins 121 80 = some (.aload_n 0) := by decide +kernel
theorem i_121_81 : ins 121 81 = some (.bipush 40) := by decide +kernel
theorem i_121_83 : ins 121 83 = some (.newarray .int) := by decide +kernel
theorem i_121_85 : ins 121 85 = some (.putfield 38) := by decide +kernel
theorem i_121_88 : ins 121 88 = some (.aload_n 0) := by decide +kernel
theorem i_121_89 : ins 121 89 = some (.sipush 160) := by decide +kernel
theorem i_121_92 : ins 121 92 = some (.newarray .int) := by decide +kernel
theorem i_121_94 : ins 121 94 = some (.putfield 41) := by decide +kernel
theorem i_121_97 : ins 121 97 = some (.aload_n 0) := by decide +kernel
theorem i_121_98 : ins 121 98 = some (.sipush 232) := by decide +kernel
theorem i_121_101 : ins 121 101 = some (.newarray .int) := by decide +kernel
theorem i_121_103 : ins 121 103 = some (.putfield 44) := by decide +kernel
theorem i_121_106 : ins 121 106 = some (.aload_n 0) := by decide +kernel
theorem i_121_107 : ins 121 107 = some (.bipush 28) := by decide +kernel
theorem i_121_109 : ins 121 109 = some (.newarray .int) := by decide +kernel
theorem i_121_111 : ins 121 111 = some (.putfield 47) := by decide +kernel
theorem i_121_114 : ins 121 114 = some (.aload_n 0) := by decide +kernel
theorem i_121_115 : ins 121 115 = some (.bipush 28) := by decide +kernel
theorem i_121_117 : ins 121 117 = some (.newarray .int) := by decide +kernel
theorem i_121_119 : ins 121 119 = some (.putfield 50) := by decide +kernel
theorem i_121_122 : ins 121 122 = some (.aload_n 0) := by decide +kernel
theorem i_121_123 : ins 121 123 = some (.bipush 16) := by decide +kernel
theorem i_121_125 : ins 121 125 = some (.newarray .int) := by decide +kernel
theorem i_121_127 : ins 121 127 = some (.putfield 53) := by decide +kernel
theorem i_121_130 : ins 121 130 = some (.return_) := by decide +kernel
theorem o_122 : mOwn 122 = 8 := rfl
theorem i_122_0 : ins 122 0 = some (.lload_n 0) := by decide +kernel
theorem i_122_1 : ins 122 1 = some (.lload_n 2) := by decide +kernel
theorem i_122_2 : ins 122 2 = some (.lcmp) := by decide +kernel
theorem i_122_3 : ins 122 3 = some (.ifCond .lt 14) := by decide +kernel
theorem i_122_6 : ins 122 6 = some (.lload_n 0) := by decide +kernel
theorem i_122_7 : ins 122 7 = some (.lload 4) := by decide +kernel
theorem i_122_9 : ins 122 9 = some (.lcmp) := by decide +kernel
theorem i_122_10 : ins 122 10 = some (.ifCond .gt 7) := by decide +kernel
theorem i_122_13 : ins 122 13 = some (.iconst 1) := by decide +kernel
theorem i_122_14 : ins 122 14 = some (.goto 4) := by decide +kernel
theorem i_122_17 : ins 122 17 = some (.iconst 0) := by decide +kernel
theorem i_122_18 : ins 122 18 = some (.ireturn) := by decide +kernel
theorem o_123 : mOwn 123 = 8 := rfl
theorem i_123_0 : ins 123 0 = some (.aload_n 0) := by decide +kernel
theorem i_123_1 : ins 123 1 = some (.iload_n 1) := by decide +kernel
theorem i_123_2 : ins 123 2 = some (.putfield 56) := by decide +kernel
theorem i_123_5 : ins 123 5 = some (.ldc 60) := by decide +kernel
theorem i_123_7 : ins 123 7 = some (.iload_n 1) := by decide +kernel
theorem i_123_8 : ins 123 8 = some (.isub) := by decide +kernel
theorem i_123_9 : ins 123 9 = some (.ireturn) := by decide +kernel
theorem o_124 : mOwn 124 = 8 := rfl
theorem i_124_0 : ins 124 0 = some (.aload_n 0) := by decide +kernel
theorem i_124_1 : ins 124 1 = some (.iconst 0) := by decide +kernel
theorem i_124_2 : ins 124 2 = some (.putfield 56) := by decide +kernel
theorem i_124_5 : ins 124 5 = some (.iload_n 1) := by decide +kernel
theorem i_124_6 : ins 124 6 = some (.ireturn) := by decide +kernel
theorem o_125 : mOwn 125 = 8 := rfl
theorem i_125_0 : ins 125 0 = some (.iload_n 0) := by decide +kernel
theorem i_125_1 : ins 125 1 = some (.i2l) := by decide +kernel
theorem i_125_2 : ins 125 2 = some (.lconst 0) := by decide +kernel
theorem i_125_3 : ins 125 3 = some (.ldc2_w 61) := by decide +kernel
theorem i_125_6 : ins 125 6 = some (.invokestatic 63) := by decide +kernel
theorem i_125_9 : ins 125 9 = some (.ireturn) := by decide +kernel
theorem o_126 : mOwn 126 = 8 := rfl
theorem i_126_0 : ins 126 0 = some (.iload_n 1) := by decide +kernel
theorem i_126_1 : ins 126 1 = some (.invokestatic 67) := by decide +kernel
theorem i_126_4 : ins 126 4 = some (.ifCond .eq 21) := by decide +kernel
theorem i_126_7 : ins 126 7 = some (.iload_n 2) := by decide +kernel
theorem i_126_8 : ins 126 8 = some (.i2l) := by decide +kernel
theorem i_126_9 : ins 126 9 = some (.lconst 0) := by decide +kernel
theorem i_126_10 : ins 126 10 = some (.ldc2_w 71) := by decide +kernel
theorem i_126_13 : ins 126 13 = some (.invokestatic 63) := by decide +kernel
theorem i_126_16 : ins 126 16 = some (.ifCond .eq 9) := by decide +kernel
theorem i_126_19 : ins 126 19 = some (.iload_n 3) := by decide +kernel
theorem i_126_20 : ins 126 20 = some (.bipush 40) := by decide +kernel
theorem i_126_22 : ins 126 22 = some (.if_icmp .le 6) := by decide +kernel
theorem i_126_25 : ins 126 25 = some (.ldc 73) := by decide +kernel
theorem i_126_27 : ins 126 27 = some (.ireturn) := by decide +kernel
theorem i_126_28 : ins 126 28 = some (.iload_n 3) := by decide +kernel
theorem i_126_29 : ins 126 29 = some (.ifCond .ge 9) := by decide +kernel
theorem i_126_32 : ins 126 32 = some (.aload_n 0) := by decide +kernel
theorem i_126_33 : ins 126 33 = some (.iconst 4) := by decide +kernel
theorem i_126_34 : ins 126 34 = some (.invokevirtual 74) := by decide +kernel
theorem i_126_37 : ins 126 37 = some (.ireturn) := by decide +kernel
theorem i_126_38 : ins 126 38 = some (.aload_n 0) := by decide +kernel
theorem i_126_39 : ins 126 39 = some (.getfield 32) := by decide +kernel
theorem i_126_42 : ins 126 42 = some (.iload_n 1) := by decide +kernel
theorem i_126_43 : ins 126 43 = some (.iconst 1) := by decide +kernel
theorem i_126_44 : ins 126 44 = some (.bastore) := by decide +kernel
theorem i_126_45 : ins 126 45 = some (.aload_n 0) := by decide +kernel
theorem i_126_46 : ins 126 46 = some (.getfield 26) := by decide +kernel
theorem i_126_49 : ins 126 49 = some (.iload_n 1) := by decide +kernel
theorem i_126_50 : ins 126 50 = some (.iload_n 2) := by decide +kernel
theorem i_126_51 : ins 126 51 = some (.iastore) := by decide +kernel
theorem i_126_52 : ins 126 52 = some (.aload_n 0) := by decide +kernel
theorem i_126_53 : ins 126 53 = some (.getfield 29) := by decide +kernel
theorem i_126_56 : ins 126 56 = some (.iload_n 1) := by decide +kernel
theorem i_126_57 : ins 126 57 = some (.iload_n 3) := by decide +kernel
theorem i_126_58 : ins 126 58 = some (.iastore) := by decide +kernel
theorem i_126_59 : ins 126 59 = some (.iconst 0) := by decide +kernel
theorem i_126_60 : ins 126 60 = some (.istore 4) := by decide +kernel
theorem i_126_62 : ins 126 62 = some (.iload 4) := by decide +kernel
theorem i_126_64 : ins 126 64 = some (.bipush 40) := by decide +kernel
theorem i_126_66 : ins 126 66 = some (.if_icmp .ge 22) := by decide +kernel
theorem i_126_69 : ins 126 69 = some (.aload_n 0) := by decide +kernel
theorem i_126_70 : ins 126 70 = some (.getfield 35) := by decide +kernel
theorem i_126_73 : ins 126 73 = some (.bipush 40) := by decide +kernel
theorem i_126_75 : ins 126 75 = some (.iload_n 1) := by decide +kernel
theorem i_126_76 : ins 126 76 = some (.imul) := by decide +kernel
theorem i_126_77 : ins 126 77 = some (.iload 4) := by decide +kernel
theorem i_126_79 : ins 126 79 = some (.iadd) := by decide +kernel
theorem i_126_80 : ins 126 80 = some (.iconst 0) := by decide +kernel
theorem i_126_81 : ins 126 81 = some (.iastore) := by decide +kernel
theorem i_126_82 : ins 126 82 = some (.iinc 4 1) := by decide +kernel
theorem i_126_85 : ins 126 85 = some (.goto (-23)) := by decide +kernel
theorem i_126_88 : ins 126 88 = some (.aload_n 0) := by decide +kernel
theorem i_126_89 : ins 126 89 = some (.iload_n 3) := by decide +kernel
theorem i_126_90 : ins 126 90 = some (.invokevirtual 78) := by decide +kernel
theorem i_126_93 : ins 126 93 = some (.ireturn) := by decide +kernel
theorem o_127 : mOwn 127 = 8 := rfl
theorem i_127_0 : ins 127 0 = some (.iload_n 1) := by decide +kernel
theorem i_127_1 : ins 127 1 = some (.invokestatic 67) := by decide +kernel
theorem i_127_4 : ins 127 4 = some (.ifCond .ne 6) := by decide +kernel
theorem i_127_7 : ins 127 7 = some (.ldc 73) := by decide +kernel
theorem i_127_9 : ins 127 9 = some (.ireturn) := by decide +kernel
theorem i_127_10 : ins 127 10 = some (.aload_n 0) := by decide +kernel
theorem i_127_11 : ins 127 11 = some (.getfield 32) := by decide +kernel
theorem i_127_14 : ins 127 14 = some (.iload_n 1) := by decide +kernel
theorem i_127_15 : ins 127 15 = some (.baload) := by decide +kernel
theorem i_127_16 : ins 127 16 = some (.ifCond .ne 9) := by decide +kernel
theorem i_127_19 : ins 127 19 = some (.aload_n 0) := by decide +kernel
theorem i_127_20 : ins 127 20 = some (.iconst 1) := by decide +kernel
theorem i_127_21 : ins 127 21 = some (.invokevirtual 74) := by decide +kernel
theorem i_127_24 : ins 127 24 = some (.ireturn) := by decide +kernel
theorem i_127_25 : ins 127 25 = some (.iload_n 2) := by decide +kernel
theorem i_127_26 : ins 127 26 = some (.i2l) := by decide +kernel
theorem i_127_27 : ins 127 27 = some (.lconst 0) := by decide +kernel
theorem i_127_28 : ins 127 28 = some (.aload_n 0) := by decide +kernel
theorem i_127_29 : ins 127 29 = some (.getfield 29) := by decide +kernel
theorem i_127_32 : ins 127 32 = some (.iload_n 1) := by decide +kernel
theorem i_127_33 : ins 127 33 = some (.iaload) := by decide +kernel
theorem i_127_34 : ins 127 34 = some (.iconst 1) := by decide +kernel
theorem i_127_35 : ins 127 35 = some (.isub) := by decide +kernel
theorem i_127_36 : ins 127 36 = some (.i2l) := by decide +kernel
theorem i_127_37 : ins 127 37 = some (.invokestatic 63) := by decide +kernel
theorem i_127_40 : ins 127 40 = some (.ifCond .ne 9) := by decide +kernel
theorem i_127_43 : ins 127 43 = some (.aload_n 0) := by decide +kernel
theorem i_127_44 : ins 127 44 = some (.iconst 2) := by decide +kernel
theorem i_127_45 : ins 127 45 = some (.invokevirtual 74) := by decide +kernel
theorem i_127_48 : ins 127 48 = some (.ireturn) := by decide +kernel
theorem i_127_49 : ins 127 49 = some (.aload_n 0) := by decide +kernel
theorem i_127_50 : ins 127 50 = some (.getfield 26) := by decide +kernel
theorem i_127_53 : ins 127 53 = some (.iload_n 1) := by decide +kernel
theorem i_127_54 : ins 127 54 = some (.iaload) := by decide +kernel
theorem i_127_55 : ins 127 55 = some (.ifCond .ne 13) := by decide +kernel
theorem i_127_58 : ins 127 58 = some (.iload_n 3) := by decide +kernel
theorem i_127_59 : ins 127 59 = some (.bipush 24) := by decide +kernel
theorem i_127_61 : ins 127 61 = some (.ishl) := by decide +kernel
theorem i_127_62 : ins 127 62 = some (.bipush 24) := by decide +kernel
theorem i_127_64 : ins 127 64 = some (.ishr) := by decide +kernel
theorem i_127_65 : ins 127 65 = some (.goto 24) := by decide +kernel
theorem i_127_68 : ins 127 68 = some (.aload_n 0) := by decide +kernel
theorem i_127_69 : ins 127 69 = some (.getfield 26) := by decide +kernel
theorem i_127_72 : ins 127 72 = some (.iload_n 1) := by decide +kernel
theorem i_127_73 : ins 127 73 = some (.iaload) := by decide +kernel
theorem i_127_74 : ins 127 74 = some (.iconst 1) := by decide +kernel
theorem i_127_75 : ins 127 75 = some (.if_icmp .ne 13) := by decide +kernel
theorem i_127_78 : ins 127 78 = some (.iload_n 3) := by decide +kernel
theorem i_127_79 : ins 127 79 = some (.bipush 16) := by decide +kernel
theorem i_127_81 : ins 127 81 = some (.ishl) := by decide +kernel
theorem i_127_82 : ins 127 82 = some (.bipush 16) := by decide +kernel
theorem i_127_84 : ins 127 84 = some (.ishr) := by decide +kernel
theorem i_127_85 : ins 127 85 = some (.goto 4) := by decide +kernel
theorem i_127_88 : ins 127 88 = some (.iload_n 3) := by decide +kernel
theorem i_127_89 : ins 127 89 = some (.istore 4) := by decide +kernel
theorem i_127_91 : ins 127 91 = some (.aload_n 0) := by decide +kernel
theorem i_127_92 : ins 127 92 = some (.getfield 35) := by decide +kernel
theorem i_127_95 : ins 127 95 = some (.bipush 40) := by decide +kernel
theorem i_127_97 : ins 127 97 = some (.iload_n 1) := by decide +kernel
theorem i_127_98 : ins 127 98 = some (.imul) := by decide +kernel
theorem i_127_99 : ins 127 99 = some (.iload_n 2) := by decide +kernel
theorem i_127_100 : ins 127 100 = some (.iadd) := by decide +kernel
theorem i_127_101 : ins 127 101 = some (.iload 4) := by decide +kernel
theorem i_127_103 : ins 127 103 = some (.iastore) := by decide +kernel
theorem i_127_104 : ins 127 104 = some (.aload_n 0) := by decide +kernel
theorem i_127_105 : ins 127 105 = some (.iload 4) := by decide +kernel
theorem i_127_107 : ins 127 107 = some (.invokevirtual 78) := by decide +kernel
theorem i_127_110 : ins 127 110 = some (.ireturn) := by decide +kernel
theorem o_128 : mOwn 128 = 8 := rfl
theorem i_128_0 : ins 128 0 = some (.iload_n 1) := by decide +kernel
theorem i_128_1 : ins 128 1 = some (.invokestatic 67) := by decide +kernel
theorem i_128_4 : ins 128 4 = some (.ifCond .eq 10) := by decide +kernel
theorem i_128_7 : ins 128 7 = some (.iload_n 3) := by decide +kernel
theorem i_128_8 : ins 128 8 = some (.invokestatic 67) := by decide +kernel
theorem i_128_11 : ins 128 11 = some (.ifCond .ne 6) := by decide +kernel
theorem i_128_14 : ins 128 14 = some (.ldc 73) := by decide +kernel
theorem i_128_16 : ins 128 16 = some (.ireturn) := by decide +kernel
theorem i_128_17 : ins 128 17 = some (.aload_n 0) := by decide +kernel
theorem i_128_18 : ins 128 18 = some (.getfield 32) := by decide +kernel
theorem i_128_21 : ins 128 21 = some (.iload_n 1) := by decide +kernel
theorem i_128_22 : ins 128 22 = some (.baload) := by decide +kernel
theorem i_128_23 : ins 128 23 = some (.ifCond .eq 12) := by decide +kernel
theorem i_128_26 : ins 128 26 = some (.aload_n 0) := by decide +kernel
theorem i_128_27 : ins 128 27 = some (.getfield 32) := by decide +kernel
theorem i_128_30 : ins 128 30 = some (.iload_n 3) := by decide +kernel
theorem i_128_31 : ins 128 31 = some (.baload) := by decide +kernel
theorem i_128_32 : ins 128 32 = some (.ifCond .ne 9) := by decide +kernel
theorem i_128_35 : ins 128 35 = some (.aload_n 0) := by decide +kernel
theorem i_128_36 : ins 128 36 = some (.iconst 1) := by decide +kernel
theorem i_128_37 : ins 128 37 = some (.invokevirtual 74) := by decide +kernel
theorem i_128_40 : ins 128 40 = some (.ireturn) := by decide +kernel
theorem i_128_41 : ins 128 41 = some (.aload_n 0) := by decide +kernel
theorem i_128_42 : ins 128 42 = some (.getfield 26) := by decide +kernel
theorem i_128_45 : ins 128 45 = some (.iload_n 1) := by decide +kernel
theorem i_128_46 : ins 128 46 = some (.iaload) := by decide +kernel
theorem i_128_47 : ins 128 47 = some (.aload_n 0) := by decide +kernel
theorem i_128_48 : ins 128 48 = some (.getfield 26) := by decide +kernel
theorem i_128_51 : ins 128 51 = some (.iload_n 3) := by decide +kernel
theorem i_128_52 : ins 128 52 = some (.iaload) := by decide +kernel
theorem i_128_53 : ins 128 53 = some (.if_icmp .eq 9) := by decide +kernel
theorem i_128_56 : ins 128 56 = some (.aload_n 0) := by decide +kernel
theorem i_128_57 : ins 128 57 = some (.iconst 5) := by decide +kernel
theorem i_128_58 : ins 128 58 = some (.invokevirtual 74) := by decide +kernel
theorem i_128_61 : ins 128 61 = some (.ireturn) := by decide +kernel
theorem i_128_62 : ins 128 62 = some (.iload_n 2) := by decide +kernel
theorem i_128_63 : ins 128 63 = some (.ifCond .lt 48) := by decide +kernel
theorem i_128_66 : ins 128 66 = some (.iload 4) := by decide +kernel
theorem i_128_68 : ins 128 68 = some (.ifCond .lt 43) := by decide +kernel
theorem i_128_71 : ins 128 71 = some (.iload 5) := by decide +kernel
theorem i_128_73 : ins 128 73 = some (.ifCond .lt 38) := by decide +kernel
theorem i_128_76 : ins 128 76 = some (.iload_n 2) := by decide +kernel
theorem i_128_77 : ins 128 77 = some (.i2l) := by decide +kernel
theorem i_128_78 : ins 128 78 = some (.iload 5) := by decide +kernel
theorem i_128_80 : ins 128 80 = some (.i2l) := by decide +kernel
theorem i_128_81 : ins 128 81 = some (.ladd) := by decide +kernel
theorem i_128_82 : ins 128 82 = some (.aload_n 0) := by decide +kernel
theorem i_128_83 : ins 128 83 = some (.getfield 29) := by decide +kernel
theorem i_128_86 : ins 128 86 = some (.iload_n 1) := by decide +kernel
theorem i_128_87 : ins 128 87 = some (.iaload) := by decide +kernel
theorem i_128_88 : ins 128 88 = some (.i2l) := by decide +kernel
theorem i_128_89 : ins 128 89 = some (.lcmp) := by decide +kernel
theorem i_128_90 : ins 128 90 = some (.ifCond .gt 21) := by decide +kernel
theorem i_128_93 : ins 128 93 = some (.iload 4) := by decide +kernel
theorem i_128_95 : ins 128 95 = some (.i2l) := by decide +kernel
theorem i_128_96 : ins 128 96 = some (.iload 5) := by decide +kernel
theorem i_128_98 : ins 128 98 = some (.i2l) := by decide +kernel
theorem i_128_99 : ins 128 99 = some (.ladd) := by decide +kernel
theorem i_128_100 : ins 128 100 = some (.aload_n 0) := by decide +kernel
theorem i_128_101 : ins 128 101 = some (.getfield 29) := by decide +kernel
theorem i_128_104 : ins 128 104 = some (.iload_n 3) := by decide +kernel
theorem i_128_105 : ins 128 105 = some (.iaload) := by decide +kernel
theorem i_128_106 : ins 128 106 = some (.i2l) := by decide +kernel
theorem i_128_107 : ins 128 107 = some (.lcmp) := by decide +kernel
theorem i_128_108 : ins 128 108 = some (.ifCond .le 9) := by decide +kernel
theorem i_128_111 : ins 128 111 = some (.aload_n 0) := by decide +kernel
theorem i_128_112 : ins 128 112 = some (.iconst 2) := by decide +kernel
theorem i_128_113 : ins 128 113 = some (.invokevirtual 74) := by decide +kernel
theorem i_128_116 : ins 128 116 = some (.ireturn) := by decide +kernel
theorem i_128_117 : ins 128 117 = some (.iconst 0) := by decide +kernel
theorem i_128_118 : ins 128 118 = some (.istore 6) := by decide +kernel
theorem i_128_120 : ins 128 120 = some (.iload 6) := by decide +kernel
theorem i_128_122 : ins 128 122 = some (.iload 5) := by decide +kernel
theorem i_128_124 : ins 128 124 = some (.if_icmp .ge 30) := by decide +kernel
theorem i_128_127 : ins 128 127 = some (.aload_n 0) := by decide +kernel
theorem i_128_128 : ins 128 128 = some (.getfield 38) := by decide +kernel
theorem i_128_131 : ins 128 131 = some (.iload 6) := by decide +kernel
theorem i_128_133 : ins 128 133 = some (.aload_n 0) := by decide +kernel
theorem i_128_134 : ins 128 134 = some (.getfield 35) := by decide +kernel
theorem i_128_137 : ins 128 137 = some (.bipush 40) := by decide +kernel
theorem i_128_139 : ins 128 139 = some (.iload_n 1) := by decide +kernel
theorem i_128_140 : ins 128 140 = some (.imul) := by decide +kernel
theorem i_128_141 : ins 128 141 = some (.iload_n 2) := by decide +kernel
theorem i_128_142 : ins 128 142 = some (.iadd) := by decide +kernel
theorem i_128_143 : ins 128 143 = some (.iload 6) := by decide +kernel
theorem i_128_145 : ins 128 145 = some (.iadd) := by decide +kernel
theorem i_128_146 : ins 128 146 = some (.iaload) := by decide +kernel
theorem i_128_147 : ins 128 147 = some (.iastore) := by decide +kernel
theorem i_128_148 : ins 128 148 = some (.iinc 6 1) := by decide +kernel
theorem i_128_151 : ins 128 151 = some (.goto (-31)) := by decide +kernel
theorem i_128_154 : ins 128 154 = some (.iconst 0) := by decide +kernel
theorem i_128_155 : ins 128 155 = some (.istore 6) := by decide +kernel
theorem i_128_157 : ins 128 157 = some (.iload 6) := by decide +kernel
theorem i_128_159 : ins 128 159 = some (.iload 5) := by decide +kernel
theorem i_128_161 : ins 128 161 = some (.if_icmp .ge 31) := by decide +kernel
theorem i_128_164 : ins 128 164 = some (.aload_n 0) := by decide +kernel
theorem i_128_165 : ins 128 165 = some (.getfield 35) := by decide +kernel
theorem i_128_168 : ins 128 168 = some (.bipush 40) := by decide +kernel
theorem i_128_170 : ins 128 170 = some (.iload_n 3) := by decide +kernel
theorem i_128_171 : ins 128 171 = some (.imul) := by decide +kernel
theorem i_128_172 : ins 128 172 = some (.iload 4) := by decide +kernel
theorem i_128_174 : ins 128 174 = some (.iadd) := by decide +kernel
theorem i_128_175 : ins 128 175 = some (.iload 6) := by decide +kernel
theorem i_128_177 : ins 128 177 = some (.iadd) := by decide +kernel
theorem i_128_178 : ins 128 178 = some (.aload_n 0) := by decide +kernel
theorem i_128_179 : ins 128 179 = some (.getfield 38) := by decide +kernel
theorem i_128_182 : ins 128 182 = some (.iload 6) := by decide +kernel
theorem i_128_184 : ins 128 184 = some (.iaload) := by decide +kernel
theorem i_128_185 : ins 128 185 = some (.iastore) := by decide +kernel
theorem i_128_186 : ins 128 186 = some (.iinc 6 1) := by decide +kernel
theorem i_128_189 : ins 128 189 = some (.goto (-32)) := by decide +kernel
theorem i_128_192 : ins 128 192 = some (.aload_n 0) := by decide +kernel
theorem i_128_193 : ins 128 193 = some (.iload 5) := by decide +kernel
theorem i_128_195 : ins 128 195 = some (.invokevirtual 78) := by decide +kernel
theorem i_128_198 : ins 128 198 = some (.ireturn) := by decide +kernel
theorem o_129 : mOwn 129 = 8 := rfl
theorem i_129_0 : ins 129 0 = some (.iload_n 1) := by decide +kernel
theorem i_129_1 : ins 129 1 = some (.invokestatic 67) := by decide +kernel
theorem i_129_4 : ins 129 4 = some (.ifCond .ne 6) := by decide +kernel
theorem i_129_7 : ins 129 7 = some (.ldc 73) := by decide +kernel
theorem i_129_9 : ins 129 9 = some (.ireturn) := by decide +kernel
theorem i_129_10 : ins 129 10 = some (.aload_n 0) := by decide +kernel
theorem i_129_11 : ins 129 11 = some (.getfield 32) := by decide +kernel
theorem i_129_14 : ins 129 14 = some (.iload_n 1) := by decide +kernel
theorem i_129_15 : ins 129 15 = some (.baload) := by decide +kernel
theorem i_129_16 : ins 129 16 = some (.ifCond .ne 9) := by decide +kernel
theorem i_129_19 : ins 129 19 = some (.aload_n 0) := by decide +kernel
theorem i_129_20 : ins 129 20 = some (.iconst 1) := by decide +kernel
theorem i_129_21 : ins 129 21 = some (.invokevirtual 74) := by decide +kernel
theorem i_129_24 : ins 129 24 = some (.ireturn) := by decide +kernel
theorem i_129_25 : ins 129 25 = some (.aload_n 0) := by decide +kernel
theorem i_129_26 : ins 129 26 = some (.getfield 32) := by decide +kernel
theorem i_129_29 : ins 129 29 = some (.iload_n 1) := by decide +kernel
theorem i_129_30 : ins 129 30 = some (.iconst 0) := by decide +kernel
theorem i_129_31 : ins 129 31 = some (.bastore) := by decide +kernel
theorem i_129_32 : ins 129 32 = some (.aload_n 0) := by decide +kernel
theorem i_129_33 : ins 129 33 = some (.aload_n 0) := by decide +kernel
theorem i_129_34 : ins 129 34 = some (.getfield 29) := by decide +kernel
theorem i_129_37 : ins 129 37 = some (.iload_n 1) := by decide +kernel
theorem i_129_38 : ins 129 38 = some (.iaload) := by decide +kernel
theorem i_129_39 : ins 129 39 = some (.invokevirtual 78) := by decide +kernel
theorem i_129_42 : ins 129 42 = some (.ireturn) := by decide +kernel
theorem o_130 : mOwn 130 = 8 := rfl
theorem i_130_0 : ins 130 0 = some (.iload_n 1) := by decide +kernel
theorem i_130_1 : ins 130 1 = some (.i2l) := by decide +kernel
theorem i_130_2 : ins 130 2 = some (.lconst 0) := by decide +kernel
theorem i_130_3 : ins 130 3 = some (.ldc2_w 81) := by decide +kernel
theorem i_130_6 : ins 130 6 = some (.invokestatic 63) := by decide +kernel
theorem i_130_9 : ins 130 9 = some (.ifCond .ne 6) := by decide +kernel
theorem i_130_12 : ins 130 12 = some (.ldc 73) := by decide +kernel
theorem i_130_14 : ins 130 14 = some (.ireturn) := by decide +kernel
theorem i_130_15 : ins 130 15 = some (.aload_n 0) := by decide +kernel
theorem i_130_16 : ins 130 16 = some (.getfield 83) := by decide +kernel
theorem i_130_19 : ins 130 19 = some (.sipush 160) := by decide +kernel
theorem i_130_22 : ins 130 22 = some (.if_icmp .ne 6) := by decide +kernel
theorem i_130_25 : ins 130 25 = some (.ldc 86) := by decide +kernel
theorem i_130_27 : ins 130 27 = some (.ireturn) := by decide +kernel
theorem i_130_28 : ins 130 28 = some (.aload_n 0) := by decide +kernel
theorem i_130_29 : ins 130 29 = some (.getfield 41) := by decide +kernel
theorem i_130_32 : ins 130 32 = some (.aload_n 0) := by decide +kernel
theorem i_130_33 : ins 130 33 = some (.getfield 83) := by decide +kernel
theorem i_130_36 : ins 130 36 = some (.iload_n 1) := by decide +kernel
theorem i_130_37 : ins 130 37 = some (.iastore) := by decide +kernel
theorem i_130_38 : ins 130 38 = some (.aload_n 0) := by decide +kernel
theorem i_130_39 : ins 130 39 = some (.dup) := by decide +kernel
theorem i_130_40 : ins 130 40 = some (.getfield 83) := by decide +kernel
theorem i_130_43 : ins 130 43 = some (.iconst 1) := by decide +kernel
theorem i_130_44 : ins 130 44 = some (.iadd) := by decide +kernel
theorem i_130_45 : ins 130 45 = some (.putfield 83) := by decide +kernel
theorem i_130_48 : ins 130 48 = some (.aload_n 0) := by decide +kernel
theorem i_130_49 : ins 130 49 = some (.getfield 83) := by decide +kernel
theorem i_130_52 : ins 130 52 = some (.ireturn) := by decide +kernel
theorem o_131 : mOwn 131 = 8 := rfl
theorem i_131_0 : ins 131 0 = some (.iload_n 1) := by decide +kernel
theorem i_131_1 : ins 131 1 = some (.aload_n 0) := by decide +kernel
theorem i_131_2 : ins 131 2 = some (.getfield 83) := by decide +kernel
theorem i_131_5 : ins 131 5 = some (.if_icmp .ge 12) := by decide +kernel
theorem i_131_8 : ins 131 8 = some (.aload_n 0) := by decide +kernel
theorem i_131_9 : ins 131 9 = some (.getfield 41) := by decide +kernel
theorem i_131_12 : ins 131 12 = some (.iload_n 1) := by decide +kernel
theorem i_131_13 : ins 131 13 = some (.iaload) := by decide +kernel
theorem i_131_14 : ins 131 14 = some (.goto 4) := by decide +kernel
theorem i_131_17 : ins 131 17 = some (.iconst (-1)) := by decide +kernel
theorem i_131_18 : ins 131 18 = some (.ireturn) := by decide +kernel
theorem o_132 : mOwn 132 = 8 := rfl
theorem i_132_0 : ins 132 0 = some (.iload_n 0) := by decide +kernel
theorem i_132_1 : ins 132 1 = some (.i2l) := by decide +kernel
theorem i_132_2 : ins 132 2 = some (.ldc2_w 87) := by decide +kernel
theorem i_132_5 : ins 132 5 = some (.ldc2_w 89) := by decide +kernel
theorem i_132_8 : ins 132 8 = some (.invokestatic 63) := by decide +kernel
theorem i_132_11 : ins 132 11 = some (.ireturn) := by decide +kernel
theorem o_133 : mOwn 133 = 8 := rfl
theorem i_133_0 : ins 133 0 = some (.aload_n 0) := by decide +kernel
theorem i_133_1 : ins 133 1 = some (.aload_n 0) := by decide +kernel
theorem i_133_2 : ins 133 2 = some (.getfield 91) := by decide +kernel
theorem i_133_5 : ins 133 5 = some (.invokevirtual 94) := by decide +kernel
theorem i_133_8 : ins 133 8 = some (.iload_n 1) := by decide +kernel
theorem i_133_9 : ins 133 9 = some (.if_icmp .ne 7) := by decide +kernel
theorem i_133_12 : ins 133 12 = some (.iconst 1) := by decide +kernel
theorem i_133_13 : ins 133 13 = some (.goto 4) := by decide +kernel
theorem i_133_16 : ins 133 16 = some (.iconst 0) := by decide +kernel
theorem i_133_17 : ins 133 17 = some (.istore_n 2) := by decide +kernel
theorem i_133_18 : ins 133 18 = some (.aload_n 0) := by decide +kernel
theorem i_133_19 : ins 133 19 = some (.dup) := by decide +kernel
theorem i_133_20 : ins 133 20 = some (.getfield 91) := by decide +kernel
theorem i_133_23 : ins 133 23 = some (.iload_n 2) := by decide +kernel
theorem i_133_24 : ins 133 24 = some (.ifCond .eq 7) := by decide +kernel
theorem i_133_27 : ins 133 27 = some (.iconst 1) := by decide +kernel
theorem i_133_28 : ins 133 28 = some (.goto 4) := by decide +kernel
theorem i_133_31 : ins 133 31 = some (.iconst 0) := by decide +kernel
theorem i_133_32 : ins 133 32 = some (.iadd) := by decide +kernel
theorem i_133_33 : ins 133 33 = some (.putfield 91) := by decide +kernel
theorem i_133_36 : ins 133 36 = some (.iload_n 2) := by decide +kernel
theorem i_133_37 : ins 133 37 = some (.ifCond .eq 7) := by decide +kernel
theorem i_133_40 : ins 133 40 = some (.iconst 0) := by decide +kernel
theorem i_133_41 : ins 133 41 = some (.goto 4) := by decide +kernel
theorem i_133_44 : ins 133 44 = some (.iconst 1) := by decide +kernel
theorem i_133_45 : ins 133 45 = some (.ireturn) := by decide +kernel
theorem o_134 : mOwn 134 = 8 := rfl
theorem i_134_0 : ins 134 0 = some (.iconst 0) := by decide +kernel
theorem i_134_1 : ins 134 1 = some (.istore_n 2) := by decide +kernel
theorem i_134_2 : ins 134 2 = some (.aload_n 0) := by decide +kernel
theorem i_134_3 : ins 134 3 = some (.iconst 0) := by decide +kernel
theorem i_134_4 : ins 134 4 = some (.putfield 97) := by decide +kernel
theorem i_134_7 : ins 134 7 = some (.aload_n 0) := by decide +kernel
theorem i_134_8 : ins 134 8 = some (.aload_n 0) := by decide +kernel
theorem i_134_9 : ins 134 9 = some (.getfield 91) := by decide +kernel
theorem i_134_12 : ins 134 12 = some (.iload_n 2) := by decide +kernel
theorem i_134_13 : ins 134 13 = some (.iadd) := by decide +kernel
theorem i_134_14 : ins 134 14 = some (.invokevirtual 94) := by decide +kernel
theorem i_134_17 : ins 134 17 = some (.invokestatic 100) := by decide +kernel
theorem i_134_20 : ins 134 20 = some (.ifCond .eq 46) := by decide +kernel
theorem i_134_23 : ins 134 23 = some (.aload_n 0) := by decide +kernel
theorem i_134_24 : ins 134 24 = some (.iload_n 2) := by decide +kernel
theorem i_134_25 : ins 134 25 = some (.iconst 2) := by decide +kernel
theorem i_134_26 : ins 134 26 = some (.if_icmp .ge 27) := by decide +kernel
theorem i_134_29 : ins 134 29 = some (.bipush 10) := by decide +kernel
theorem i_134_31 : ins 134 31 = some (.aload_n 0) := by decide +kernel
theorem i_134_32 : ins 134 32 = some (.getfield 97) := by decide +kernel
theorem i_134_35 : ins 134 35 = some (.imul) := by decide +kernel
theorem i_134_36 : ins 134 36 = some (.aload_n 0) := by decide +kernel
theorem i_134_37 : ins 134 37 = some (.aload_n 0) := by decide +kernel
theorem i_134_38 : ins 134 38 = some (.getfield 91) := by decide +kernel
theorem i_134_41 : ins 134 41 = some (.iload_n 2) := by decide +kernel
theorem i_134_42 : ins 134 42 = some (.iadd) := by decide +kernel
theorem i_134_43 : ins 134 43 = some (.invokevirtual 94) := by decide +kernel
theorem i_134_46 : ins 134 46 = some (.iadd) := by decide +kernel
theorem i_134_47 : ins 134 47 = some (.bipush 48) := by decide +kernel
theorem i_134_49 : ins 134 49 = some (.isub) := by decide +kernel
theorem i_134_50 : ins 134 50 = some (.goto 7) := by decide +kernel
theorem i_134_53 : ins 134 53 = some (.aload_n 0) := by decide +kernel
theorem i_134_54 : ins 134 54 = some (.getfield 97) := by decide +kernel
theorem i_134_57 : ins 134 57 = some (.putfield 97) := by decide +kernel
theorem i_134_60 : ins 134 60 = some (.iinc 2 1) := by decide +kernel
theorem i_134_63 : ins 134 63 = some (.goto (-56)) := by decide +kernel
theorem i_134_66 : ins 134 66 = some (.iload_n 2) := by decide +kernel
theorem i_134_67 : ins 134 67 = some (.ifCond .eq 8) := by decide +kernel
theorem i_134_70 : ins 134 70 = some (.iload_n 2) := by decide +kernel
theorem i_134_71 : ins 134 71 = some (.iconst 2) := by decide +kernel
theorem i_134_72 : ins 134 72 = some (.if_icmp .le 7) := by decide +kernel
theorem i_134_75 : ins 134 75 = some (.iconst 1) := by decide +kernel
theorem i_134_76 : ins 134 76 = some (.goto 16) := by decide +kernel
theorem i_134_79 : ins 134 79 = some (.aload_n 0) := by decide +kernel
theorem i_134_80 : ins 134 80 = some (.getfield 97) := by decide +kernel
theorem i_134_83 : ins 134 83 = some (.iload_n 1) := by decide +kernel
theorem i_134_84 : ins 134 84 = some (.if_icmp .le 7) := by decide +kernel
theorem i_134_87 : ins 134 87 = some (.iconst 2) := by decide +kernel
theorem i_134_88 : ins 134 88 = some (.goto 4) := by decide +kernel
theorem i_134_91 : ins 134 91 = some (.iconst 0) := by decide +kernel
theorem i_134_92 : ins 134 92 = some (.istore_n 3) := by decide +kernel
theorem i_134_93 : ins 134 93 = some (.aload_n 0) := by decide +kernel
theorem i_134_94 : ins 134 94 = some (.dup) := by decide +kernel
theorem i_134_95 : ins 134 95 = some (.getfield 91) := by decide +kernel
theorem i_134_98 : ins 134 98 = some (.iload_n 3) := by decide +kernel
theorem i_134_99 : ins 134 99 = some (.ifCond .ne 7) := by decide +kernel
theorem i_134_102 : ins 134 102 = some (.iload_n 2) := by decide +kernel
theorem i_134_103 : ins 134 103 = some (.goto 4) := by decide +kernel
theorem i_134_106 : ins 134 106 = some (.iconst 0) := by decide +kernel
theorem i_134_107 : ins 134 107 = some (.iadd) := by decide +kernel
theorem i_134_108 : ins 134 108 = some (.putfield 91) := by decide +kernel
theorem i_134_111 : ins 134 111 = some (.iload_n 3) := by decide +kernel
theorem i_134_112 : ins 134 112 = some (.ireturn) := by decide +kernel
theorem o_135 : mOwn 135 = 8 := rfl
theorem i_135_0 : ins 135 0 = some (.iload_n 0) := by decide +kernel
theorem i_135_1 : ins 135 1 = some (.bipush 98) := by decide +kernel
theorem i_135_3 : ins 135 3 = some (.if_icmp .ne 7) := by decide +kernel
theorem i_135_6 : ins 135 6 = some (.iconst 1) := by decide +kernel
theorem i_135_7 : ins 135 7 = some (.goto 44) := by decide +kernel
theorem i_135_10 : ins 135 10 = some (.iload_n 0) := by decide +kernel
theorem i_135_11 : ins 135 11 = some (.bipush 119) := by decide +kernel
theorem i_135_13 : ins 135 13 = some (.if_icmp .ne 7) := by decide +kernel
theorem i_135_16 : ins 135 16 = some (.iconst 2) := by decide +kernel
theorem i_135_17 : ins 135 17 = some (.goto 34) := by decide +kernel
theorem i_135_20 : ins 135 20 = some (.iload_n 0) := by decide +kernel
theorem i_135_21 : ins 135 21 = some (.bipush 115) := by decide +kernel
theorem i_135_23 : ins 135 23 = some (.if_icmp .ne 7) := by decide +kernel
theorem i_135_26 : ins 135 26 = some (.iconst 3) := by decide +kernel
theorem i_135_27 : ins 135 27 = some (.goto 24) := by decide +kernel
theorem i_135_30 : ins 135 30 = some (.iload_n 0) := by decide +kernel
theorem i_135_31 : ins 135 31 = some (.bipush 102) := by decide +kernel
theorem i_135_33 : ins 135 33 = some (.if_icmp .ne 7) := by decide +kernel
theorem i_135_36 : ins 135 36 = some (.iconst 4) := by decide +kernel
theorem i_135_37 : ins 135 37 = some (.goto 14) := by decide +kernel
theorem i_135_40 : ins 135 40 = some (.iload_n 0) := by decide +kernel
theorem i_135_41 : ins 135 41 = some (.bipush 100) := by decide +kernel
theorem i_135_43 : ins 135 43 = some (.if_icmp .ne 7) := by decide +kernel
theorem i_135_46 : ins 135 46 = some (.iconst 5) := by decide +kernel
theorem i_135_47 : ins 135 47 = some (.goto 4) := by decide +kernel
theorem i_135_50 : ins 135 50 = some (.iconst 0) := by decide +kernel
theorem i_135_51 : ins 135 51 = some (.ireturn) := by decide +kernel
theorem o_136 : mOwn 136 = 8 := rfl
theorem i_136_0 : ins 136 0 = some (.aload_n 0) := by decide +kernel
theorem i_136_1 : ins 136 1 = some (.getfield 44) := by decide +kernel
theorem i_136_4 : ins 136 4 = some (.sipush 145) := by decide +kernel
theorem i_136_7 : ins 136 7 = some (.iload_n 1) := by decide +kernel
theorem i_136_8 : ins 136 8 = some (.iadd) := by decide +kernel
theorem i_136_9 : ins 136 9 = some (.aload_n 0) := by decide +kernel
theorem i_136_10 : ins 136 10 = some (.aload_n 0) := by decide +kernel
theorem i_136_11 : ins 136 11 = some (.getfield 91) := by decide +kernel
theorem i_136_14 : ins 136 14 = some (.invokevirtual 94) := by decide +kernel
theorem i_136_17 : ins 136 17 = some (.invokestatic 103) := by decide +kernel
theorem i_136_20 : ins 136 20 = some (.iastore) := by decide +kernel
theorem i_136_21 : ins 136 21 = some (.aload_n 0) := by decide +kernel
theorem i_136_22 : ins 136 22 = some (.getfield 44) := by decide +kernel
theorem i_136_25 : ins 136 25 = some (.sipush 145) := by decide +kernel
theorem i_136_28 : ins 136 28 = some (.iload_n 1) := by decide +kernel
theorem i_136_29 : ins 136 29 = some (.iadd) := by decide +kernel
theorem i_136_30 : ins 136 30 = some (.iaload) := by decide +kernel
theorem i_136_31 : ins 136 31 = some (.ifCond .ne 5) := by decide +kernel
theorem i_136_34 : ins 136 34 = some (.iconst 1) := by decide +kernel
theorem i_136_35 : ins 136 35 = some (.ireturn) := by decide +kernel
theorem i_136_36 : ins 136 36 = some (.aload_n 0) := by decide +kernel
theorem i_136_37 : ins 136 37 = some (.dup) := by decide +kernel
theorem i_136_38 : ins 136 38 = some (.getfield 91) := by decide +kernel
theorem i_136_41 : ins 136 41 = some (.iconst 1) := by decide +kernel
theorem i_136_42 : ins 136 42 = some (.iadd) := by decide +kernel
theorem i_136_43 : ins 136 43 = some (.putfield 91) := by decide +kernel
theorem i_136_46 : ins 136 46 = some (.aload_n 0) := by decide +kernel
theorem i_136_47 : ins 136 47 = some (.bipush 99) := by decide +kernel
theorem i_136_49 : ins 136 49 = some (.invokevirtual 106) := by decide +kernel
theorem i_136_52 : ins 136 52 = some (.istore_n 2) := by decide +kernel
theorem i_136_53 : ins 136 53 = some (.aload_n 0) := by decide +kernel
theorem i_136_54 : ins 136 54 = some (.getfield 44) := by decide +kernel
theorem i_136_57 : ins 136 57 = some (.sipush 173) := by decide +kernel
theorem i_136_60 : ins 136 60 = some (.iload_n 1) := by decide +kernel
theorem i_136_61 : ins 136 61 = some (.iadd) := by decide +kernel
theorem i_136_62 : ins 136 62 = some (.aload_n 0) := by decide +kernel
theorem i_136_63 : ins 136 63 = some (.getfield 97) := by decide +kernel
theorem i_136_66 : ins 136 66 = some (.iastore) := by decide +kernel
theorem i_136_67 : ins 136 67 = some (.iload_n 2) := by decide +kernel
theorem i_136_68 : ins 136 68 = some (.ifCond .ne 12) := by decide +kernel
theorem i_136_71 : ins 136 71 = some (.aload_n 0) := by decide +kernel
theorem i_136_72 : ins 136 72 = some (.bipush 44) := by decide +kernel
theorem i_136_74 : ins 136 74 = some (.invokevirtual 109) := by decide +kernel
theorem i_136_77 : ins 136 77 = some (.goto 4) := by decide +kernel
theorem i_136_80 : ins 136 80 = some (.iload_n 2) := by decide +kernel
theorem i_136_81 : ins 136 81 = some (.istore_n 2) := by decide +kernel
theorem i_136_82 : ins 136 82 = some (.iload_n 2) := by decide +kernel
theorem i_136_83 : ins 136 83 = some (.ifCond .ne 11) := by decide +kernel
theorem i_136_86 : ins 136 86 = some (.aload_n 0) := by decide +kernel
theorem i_136_87 : ins 136 87 = some (.iconst 3) := by decide +kernel
theorem i_136_88 : ins 136 88 = some (.invokevirtual 106) := by decide +kernel
theorem i_136_91 : ins 136 91 = some (.goto 4) := by decide +kernel
theorem i_136_94 : ins 136 94 = some (.iload_n 2) := by decide +kernel
theorem i_136_95 : ins 136 95 = some (.istore_n 2) := by decide +kernel
theorem i_136_96 : ins 136 96 = some (.aload_n 0) := by decide +kernel
theorem i_136_97 : ins 136 97 = some (.getfield 44) := by decide +kernel
theorem i_136_100 : ins 136 100 = some (.bipush 56) := by decide +kernel
theorem i_136_102 : ins 136 102 = some (.iload_n 1) := by decide +kernel
theorem i_136_103 : ins 136 103 = some (.iadd) := by decide +kernel
theorem i_136_104 : ins 136 104 = some (.aload_n 0) := by decide +kernel
theorem i_136_105 : ins 136 105 = some (.getfield 97) := by decide +kernel
theorem i_136_108 : ins 136 108 = some (.iastore) := by decide +kernel
theorem i_136_109 : ins 136 109 = some (.aload_n 0) := by decide +kernel
theorem i_136_110 : ins 136 110 = some (.getfield 44) := by decide +kernel
theorem i_136_113 : ins 136 113 = some (.bipush 84) := by decide +kernel
theorem i_136_115 : ins 136 115 = some (.iload_n 1) := by decide +kernel
theorem i_136_116 : ins 136 116 = some (.iadd) := by decide +kernel
theorem i_136_117 : ins 136 117 = some (.iload_n 1) := by decide +kernel
theorem i_136_118 : ins 136 118 = some (.iastore) := by decide +kernel
theorem i_136_119 : ins 136 119 = some (.iload_n 2) := by decide +kernel
theorem i_136_120 : ins 136 120 = some (.ireturn) := by decide +kernel
theorem o_137 : mOwn 137 = 8 := rfl
theorem i_137_0 : ins 137 0 = some (.aload_n 0) := by decide +kernel
theorem i_137_1 : ins 137 1 = some (.getfield 44) := by decide +kernel
theorem i_137_4 : ins 137 4 = some (.sipush 229) := by decide +kernel
theorem i_137_7 : ins 137 7 = some (.iaload) := by decide +kernel
theorem i_137_8 : ins 137 8 = some (.istore_n 1) := by decide +kernel
theorem i_137_9 : ins 137 9 = some (.aload_n 0) := by decide +kernel
theorem i_137_10 : ins 137 10 = some (.aload_n 0) := by decide +kernel
theorem i_137_11 : ins 137 11 = some (.getfield 91) := by decide +kernel
theorem i_137_14 : ins 137 14 = some (.invokevirtual 94) := by decide +kernel
theorem i_137_17 : ins 137 17 = some (.invokestatic 103) := by decide +kernel
theorem i_137_20 : ins 137 20 = some (.ifCond .eq 11) := by decide +kernel
theorem i_137_23 : ins 137 23 = some (.iload_n 1) := by decide +kernel
theorem i_137_24 : ins 137 24 = some (.bipush 8) := by decide +kernel
theorem i_137_26 : ins 137 26 = some (.if_icmp .ne 5) := by decide +kernel
theorem i_137_29 : ins 137 29 = some (.iconst 3) := by decide +kernel
theorem i_137_30 : ins 137 30 = some (.ireturn) := by decide +kernel
theorem i_137_31 : ins 137 31 = some (.aload_n 0) := by decide +kernel
theorem i_137_32 : ins 137 32 = some (.iload_n 1) := by decide +kernel
theorem i_137_33 : ins 137 33 = some (.invokevirtual 112) := by decide +kernel
theorem i_137_36 : ins 137 36 = some (.istore_n 2) := by decide +kernel
theorem i_137_37 : ins 137 37 = some (.iload_n 2) := by decide +kernel
theorem i_137_38 : ins 137 38 = some (.ifCond .ne 12) := by decide +kernel
theorem i_137_41 : ins 137 41 = some (.aload_n 0) := by decide +kernel
theorem i_137_42 : ins 137 42 = some (.bipush 59) := by decide +kernel
theorem i_137_44 : ins 137 44 = some (.invokevirtual 109) := by decide +kernel
theorem i_137_47 : ins 137 47 = some (.goto 4) := by decide +kernel
theorem i_137_50 : ins 137 50 = some (.iload_n 2) := by decide +kernel
theorem i_137_51 : ins 137 51 = some (.istore_n 2) := by decide +kernel
theorem i_137_52 : ins 137 52 = some (.aload_n 0) := by decide +kernel
theorem i_137_53 : ins 137 53 = some (.getfield 44) := by decide +kernel
theorem i_137_56 : ins 137 56 = some (.iconst 0) := by decide +kernel
theorem i_137_57 : ins 137 57 = some (.iload_n 1) := by decide +kernel
theorem i_137_58 : ins 137 58 = some (.iadd) := by decide +kernel
theorem i_137_59 : ins 137 59 = some (.iconst 1) := by decide +kernel
theorem i_137_60 : ins 137 60 = some (.iastore) := by decide +kernel
theorem i_137_61 : ins 137 61 = some (.aload_n 0) := by decide +kernel
theorem i_137_62 : ins 137 62 = some (.getfield 44) := by decide +kernel
theorem i_137_65 : ins 137 65 = some (.bipush 112) := by decide +kernel
theorem i_137_67 : ins 137 67 = some (.iload_n 1) := by decide +kernel
theorem i_137_68 : ins 137 68 = some (.iadd) := by decide +kernel
theorem i_137_69 : ins 137 69 = some (.iload_n 1) := by decide +kernel
theorem i_137_70 : ins 137 70 = some (.iastore) := by decide +kernel
theorem i_137_71 : ins 137 71 = some (.aload_n 0) := by decide +kernel
theorem i_137_72 : ins 137 72 = some (.getfield 44) := by decide +kernel
theorem i_137_75 : ins 137 75 = some (.sipush 140) := by decide +kernel
theorem i_137_78 : ins 137 78 = some (.dup2) := by decide +kernel
theorem i_137_79 : ins 137 79 = some (.iaload) := by decide +kernel
theorem i_137_80 : ins 137 80 = some (.iconst 1) := by decide +kernel
theorem i_137_81 : ins 137 81 = some (.iadd) := by decide +kernel
theorem i_137_82 : ins 137 82 = some (.iastore) := by decide +kernel
theorem i_137_83 : ins 137 83 = some (.aload_n 0) := by decide +kernel
theorem i_137_84 : ins 137 84 = some (.getfield 44) := by decide +kernel
theorem i_137_87 : ins 137 87 = some (.sipush 229) := by decide +kernel
theorem i_137_90 : ins 137 90 = some (.dup2) := by decide +kernel
theorem i_137_91 : ins 137 91 = some (.iaload) := by decide +kernel
theorem i_137_92 : ins 137 92 = some (.iconst 1) := by decide +kernel
theorem i_137_93 : ins 137 93 = some (.iadd) := by decide +kernel
theorem i_137_94 : ins 137 94 = some (.iastore) := by decide +kernel
theorem i_137_95 : ins 137 95 = some (.iload_n 2) := by decide +kernel
theorem i_137_96 : ins 137 96 = some (.ireturn) := by decide +kernel
theorem o_138 : mOwn 138 = 8 := rfl
theorem i_138_0 : ins 138 0 = some (.aload_n 0) := by decide +kernel
theorem i_138_1 : ins 138 1 = some (.getfield 44) := by decide +kernel
theorem i_138_4 : ins 138 4 = some (.sipush 230) := by decide +kernel
theorem i_138_7 : ins 138 7 = some (.iaload) := by decide +kernel
theorem i_138_8 : ins 138 8 = some (.bipush 8) := by decide +kernel
theorem i_138_10 : ins 138 10 = some (.if_icmp .ne 5) := by decide +kernel
theorem i_138_13 : ins 138 13 = some (.iconst 3) := by decide +kernel
theorem i_138_14 : ins 138 14 = some (.ireturn) := by decide +kernel
theorem i_138_15 : ins 138 15 = some (.aload_n 0) := by decide +kernel
theorem i_138_16 : ins 138 16 = some (.dup) := by decide +kernel
theorem i_138_17 : ins 138 17 = some (.getfield 91) := by decide +kernel
theorem i_138_20 : ins 138 20 = some (.iconst 1) := by decide +kernel
theorem i_138_21 : ins 138 21 = some (.iadd) := by decide +kernel
theorem i_138_22 : ins 138 22 = some (.putfield 91) := by decide +kernel
theorem i_138_25 : ins 138 25 = some (.aload_n 0) := by decide +kernel
theorem i_138_26 : ins 138 26 = some (.getfield 44) := by decide +kernel
theorem i_138_29 : ins 138 29 = some (.sipush 229) := by decide +kernel
theorem i_138_32 : ins 138 32 = some (.iaload) := by decide +kernel
theorem i_138_33 : ins 138 33 = some (.istore_n 1) := by decide +kernel
theorem i_138_34 : ins 138 34 = some (.aload_n 0) := by decide +kernel
theorem i_138_35 : ins 138 35 = some (.iload_n 1) := by decide +kernel
theorem i_138_36 : ins 138 36 = some (.invokevirtual 112) := by decide +kernel
theorem i_138_39 : ins 138 39 = some (.istore_n 2) := by decide +kernel
theorem i_138_40 : ins 138 40 = some (.iload_n 2) := by decide +kernel
theorem i_138_41 : ins 138 41 = some (.ifCond .ne 12) := by decide +kernel
theorem i_138_44 : ins 138 44 = some (.aload_n 0) := by decide +kernel
theorem i_138_45 : ins 138 45 = some (.bipush 44) := by decide +kernel
theorem i_138_47 : ins 138 47 = some (.invokevirtual 109) := by decide +kernel
theorem i_138_50 : ins 138 50 = some (.goto 4) := by decide +kernel
theorem i_138_53 : ins 138 53 = some (.iload_n 2) := by decide +kernel
theorem i_138_54 : ins 138 54 = some (.istore_n 2) := by decide +kernel
theorem i_138_55 : ins 138 55 = some (.iload_n 2) := by decide +kernel
theorem i_138_56 : ins 138 56 = some (.ifCond .ne 12) := by decide +kernel
theorem i_138_59 : ins 138 59 = some (.aload_n 0) := by decide +kernel
theorem i_138_60 : ins 138 60 = some (.bipush 16) := by decide +kernel
theorem i_138_62 : ins 138 62 = some (.invokevirtual 106) := by decide +kernel
theorem i_138_65 : ins 138 65 = some (.goto 4) := by decide +kernel
theorem i_138_68 : ins 138 68 = some (.iload_n 2) := by decide +kernel
theorem i_138_69 : ins 138 69 = some (.istore_n 2) := by decide +kernel
theorem i_138_70 : ins 138 70 = some (.aload_n 0) := by decide +kernel
theorem i_138_71 : ins 138 71 = some (.getfield 44) := by decide +kernel
theorem i_138_74 : ins 138 74 = some (.sipush 201) := by decide +kernel
theorem i_138_77 : ins 138 77 = some (.iload_n 1) := by decide +kernel
theorem i_138_78 : ins 138 78 = some (.iadd) := by decide +kernel
theorem i_138_79 : ins 138 79 = some (.aload_n 0) := by decide +kernel
theorem i_138_80 : ins 138 80 = some (.getfield 97) := by decide +kernel
theorem i_138_83 : ins 138 83 = some (.iastore) := by decide +kernel
theorem i_138_84 : ins 138 84 = some (.iload_n 2) := by decide +kernel
theorem i_138_85 : ins 138 85 = some (.ifCond .ne 12) := by decide +kernel
theorem i_138_88 : ins 138 88 = some (.aload_n 0) := by decide +kernel
theorem i_138_89 : ins 138 89 = some (.bipush 59) := by decide +kernel
theorem i_138_91 : ins 138 91 = some (.invokevirtual 109) := by decide +kernel
theorem i_138_94 : ins 138 94 = some (.goto 4) := by decide +kernel
theorem i_138_97 : ins 138 97 = some (.iload_n 2) := by decide +kernel
theorem i_138_98 : ins 138 98 = some (.istore_n 2) := by decide +kernel
theorem i_138_99 : ins 138 99 = some (.aload_n 0) := by decide +kernel
theorem i_138_100 : ins 138 100 = some (.getfield 44) := by decide +kernel
theorem i_138_103 : ins 138 103 = some (.iconst 0) := by decide +kernel
theorem i_138_104 : ins 138 104 = some (.iload_n 1) := by decide +kernel
theorem i_138_105 : ins 138 105 = some (.iadd) := by decide +kernel
theorem i_138_106 : ins 138 106 = some (.iconst 0) := by decide +kernel
theorem i_138_107 : ins 138 107 = some (.iastore) := by decide +kernel
theorem i_138_108 : ins 138 108 = some (.aload_n 0) := by decide +kernel
theorem i_138_109 : ins 138 109 = some (.getfield 44) := by decide +kernel
theorem i_138_112 : ins 138 112 = some (.sipush 230) := by decide +kernel
theorem i_138_115 : ins 138 115 = some (.dup2) := by decide +kernel
theorem i_138_116 : ins 138 116 = some (.iaload) := by decide +kernel
theorem i_138_117 : ins 138 117 = some (.iconst 1) := by decide +kernel
theorem i_138_118 : ins 138 118 = some (.iadd) := by decide +kernel
theorem i_138_119 : ins 138 119 = some (.iastore) := by decide +kernel
theorem i_138_120 : ins 138 120 = some (.aload_n 0) := by decide +kernel
theorem i_138_121 : ins 138 121 = some (.getfield 44) := by decide +kernel
theorem i_138_124 : ins 138 124 = some (.sipush 229) := by decide +kernel
theorem i_138_127 : ins 138 127 = some (.dup2) := by decide +kernel
theorem i_138_128 : ins 138 128 = some (.iaload) := by decide +kernel
theorem i_138_129 : ins 138 129 = some (.iconst 1) := by decide +kernel
theorem i_138_130 : ins 138 130 = some (.iadd) := by decide +kernel
theorem i_138_131 : ins 138 131 = some (.iastore) := by decide +kernel
theorem i_138_132 : ins 138 132 = some (.iload_n 2) := by decide +kernel
theorem i_138_133 : ins 138 133 = some (.ireturn) := by decide +kernel
theorem o_139 : mOwn 139 = 8 := rfl
theorem i_139_0 : ins 139 0 = some (.iconst 0) := by decide +kernel
theorem i_139_1 : ins 139 1 = some (.istore_n 1) := by decide +kernel
theorem i_139_2 : ins 139 2 = some (.iload_n 1) := by decide +kernel
theorem i_139_3 : ins 139 3 = some (.sipush 232) := by decide +kernel
theorem i_139_6 : ins 139 6 = some (.if_icmp .ge 16) := by decide +kernel
theorem i_139_9 : ins 139 9 = some (.aload_n 0) := by decide +kernel
theorem i_139_10 : ins 139 10 = some (.getfield 44) := by decide +kernel
theorem i_139_13 : ins 139 13 = some (.iload_n 1) := by decide +kernel
theorem i_139_14 : ins 139 14 = some (.iconst 0) := by decide +kernel
theorem i_139_15 : ins 139 15 = some (.iastore) := by decide +kernel
theorem i_139_16 : ins 139 16 = some (.iinc 1 1) := by decide +kernel
theorem i_139_19 : ins 139 19 = some (.goto (-17)) := by decide +kernel
theorem i_139_22 : ins 139 22 = some (.aload_n 0) := by decide +kernel
theorem i_139_23 : ins 139 23 = some (.iconst 0) := by decide +kernel
theorem i_139_24 : ins 139 24 = some (.putfield 91) := by decide +kernel
theorem i_139_27 : ins 139 27 = some (.aload_n 0) := by decide +kernel
theorem i_139_28 : ins 139 28 = some (.bipush 113) := by decide +kernel
theorem i_139_30 : ins 139 30 = some (.invokevirtual 109) := by decide +kernel
theorem i_139_33 : ins 139 33 = some (.istore_n 1) := by decide +kernel
theorem i_139_34 : ins 139 34 = some (.iload_n 1) := by decide +kernel
theorem i_139_35 : ins 139 35 = some (.ifCond .ne 11) := by decide +kernel
theorem i_139_38 : ins 139 38 = some (.aload_n 0) := by decide +kernel
theorem i_139_39 : ins 139 39 = some (.iconst 3) := by decide +kernel
theorem i_139_40 : ins 139 40 = some (.invokevirtual 106) := by decide +kernel
theorem i_139_43 : ins 139 43 = some (.goto 4) := by decide +kernel
theorem i_139_46 : ins 139 46 = some (.iload_n 1) := by decide +kernel
theorem i_139_47 : ins 139 47 = some (.istore_n 1) := by decide +kernel
theorem i_139_48 : ins 139 48 = some (.aload_n 0) := by decide +kernel
theorem i_139_49 : ins 139 49 = some (.getfield 44) := by decide +kernel
theorem i_139_52 : ins 139 52 = some (.sipush 143) := by decide +kernel
theorem i_139_55 : ins 139 55 = some (.aload_n 0) := by decide +kernel
theorem i_139_56 : ins 139 56 = some (.getfield 97) := by decide +kernel
theorem i_139_59 : ins 139 59 = some (.iastore) := by decide +kernel
theorem i_139_60 : ins 139 60 = some (.iload_n 1) := by decide +kernel
theorem i_139_61 : ins 139 61 = some (.ifCond .ne 12) := by decide +kernel
theorem i_139_64 : ins 139 64 = some (.aload_n 0) := by decide +kernel
theorem i_139_65 : ins 139 65 = some (.bipush 44) := by decide +kernel
theorem i_139_67 : ins 139 67 = some (.invokevirtual 109) := by decide +kernel
theorem i_139_70 : ins 139 70 = some (.goto 4) := by decide +kernel
theorem i_139_73 : ins 139 73 = some (.iload_n 1) := by decide +kernel
theorem i_139_74 : ins 139 74 = some (.istore_n 1) := by decide +kernel
theorem i_139_75 : ins 139 75 = some (.iload_n 1) := by decide +kernel
theorem i_139_76 : ins 139 76 = some (.ifCond .ne 12) := by decide +kernel
theorem i_139_79 : ins 139 79 = some (.aload_n 0) := by decide +kernel
theorem i_139_80 : ins 139 80 = some (.bipush 9) := by decide +kernel
theorem i_139_82 : ins 139 82 = some (.invokevirtual 106) := by decide +kernel
theorem i_139_85 : ins 139 85 = some (.goto 4) := by decide +kernel
theorem i_139_88 : ins 139 88 = some (.iload_n 1) := by decide +kernel
theorem i_139_89 : ins 139 89 = some (.istore_n 1) := by decide +kernel
theorem i_139_90 : ins 139 90 = some (.aload_n 0) := by decide +kernel
theorem i_139_91 : ins 139 91 = some (.getfield 44) := by decide +kernel
theorem i_139_94 : ins 139 94 = some (.sipush 144) := by decide +kernel
theorem i_139_97 : ins 139 97 = some (.aload_n 0) := by decide +kernel
theorem i_139_98 : ins 139 98 = some (.getfield 97) := by decide +kernel
theorem i_139_101 : ins 139 101 = some (.iastore) := by decide +kernel
theorem i_139_102 : ins 139 102 = some (.iload_n 1) := by decide +kernel
theorem i_139_103 : ins 139 103 = some (.ifCond .ne 12) := by decide +kernel
theorem i_139_106 : ins 139 106 = some (.aload_n 0) := by decide +kernel
theorem i_139_107 : ins 139 107 = some (.bipush 59) := by decide +kernel
theorem i_139_109 : ins 139 109 = some (.invokevirtual 109) := by decide +kernel
theorem i_139_112 : ins 139 112 = some (.goto 4) := by decide +kernel
theorem i_139_115 : ins 139 115 = some (.iload_n 1) := by decide +kernel
theorem i_139_116 : ins 139 116 = some (.istore_n 1) := by decide +kernel
theorem i_139_117 : ins 139 117 = some (.iload_n 1) := by decide +kernel
theorem i_139_118 : ins 139 118 = some (.ifCond .ne 67) := by decide +kernel
theorem i_139_121 : ins 139 121 = some (.aload_n 0) := by decide +kernel
theorem i_139_122 : ins 139 122 = some (.getfield 91) := by decide +kernel
theorem i_139_125 : ins 139 125 = some (.aload_n 0) := by decide +kernel
theorem i_139_126 : ins 139 126 = some (.getfield 83) := by decide +kernel
theorem i_139_129 : ins 139 129 = some (.if_icmp .ge 56) := by decide +kernel
theorem i_139_132 : ins 139 132 = some (.aload_n 0) := by decide +kernel
theorem i_139_133 : ins 139 133 = some (.aload_n 0) := by decide +kernel
theorem i_139_134 : ins 139 134 = some (.getfield 91) := by decide +kernel
theorem i_139_137 : ins 139 137 = some (.invokevirtual 94) := by decide +kernel
theorem i_139_140 : ins 139 140 = some (.bipush 112) := by decide +kernel
theorem i_139_142 : ins 139 142 = some (.if_icmp .ne 7) := by decide +kernel
theorem i_139_145 : ins 139 145 = some (.iconst 1) := by decide +kernel
theorem i_139_146 : ins 139 146 = some (.goto 4) := by decide +kernel
theorem i_139_149 : ins 139 149 = some (.iconst 0) := by decide +kernel
theorem i_139_150 : ins 139 150 = some (.istore_n 2) := by decide +kernel
theorem i_139_151 : ins 139 151 = some (.iload_n 2) := by decide +kernel
theorem i_139_152 : ins 139 152 = some (.ifCond .eq 10) := by decide +kernel
theorem i_139_155 : ins 139 155 = some (.aload_n 0) := by decide +kernel
theorem i_139_156 : ins 139 156 = some (.invokevirtual 115) := by decide +kernel
theorem i_139_159 : ins 139 159 = some (.goto 22) := by decide +kernel
theorem i_139_162 : ins 139 162 = some (.aload_n 0) := by decide +kernel
theorem i_139_163 : ins 139 163 = some (.getfield 44) := by decide +kernel
theorem i_139_166 : ins 139 166 = some (.sipush 230) := by decide +kernel
theorem i_139_169 : ins 139 169 = some (.iaload) := by decide +kernel
theorem i_139_170 : ins 139 170 = some (.ifCond .le 7) := by decide +kernel
theorem i_139_173 : ins 139 173 = some (.iconst 1) := by decide +kernel
theorem i_139_174 : ins 139 174 = some (.goto 7) := by decide +kernel
theorem i_139_177 : ins 139 177 = some (.aload_n 0) := by decide +kernel
theorem i_139_178 : ins 139 178 = some (.invokevirtual 119) := by decide +kernel
theorem i_139_181 : ins 139 181 = some (.istore_n 1) := by decide +kernel
theorem i_139_182 : ins 139 182 = some (.goto (-65)) := by decide +kernel
theorem i_139_185 : ins 139 185 = some (.aload_n 0) := by decide +kernel
theorem i_139_186 : ins 139 186 = some (.getfield 44) := by decide +kernel
theorem i_139_189 : ins 139 189 = some (.sipush 141) := by decide +kernel
theorem i_139_192 : ins 139 192 = some (.aload_n 0) := by decide +kernel
theorem i_139_193 : ins 139 193 = some (.getfield 44) := by decide +kernel
theorem i_139_196 : ins 139 196 = some (.sipush 229) := by decide +kernel
theorem i_139_199 : ins 139 199 = some (.iaload) := by decide +kernel
theorem i_139_200 : ins 139 200 = some (.aload_n 0) := by decide +kernel
theorem i_139_201 : ins 139 201 = some (.getfield 44) := by decide +kernel
theorem i_139_204 : ins 139 204 = some (.sipush 230) := by decide +kernel
theorem i_139_207 : ins 139 207 = some (.iaload) := by decide +kernel
theorem i_139_208 : ins 139 208 = some (.isub) := by decide +kernel
theorem i_139_209 : ins 139 209 = some (.iastore) := by decide +kernel
theorem i_139_210 : ins 139 210 = some (.aload_n 0) := by decide +kernel
theorem i_139_211 : ins 139 211 = some (.getfield 44) := by decide +kernel
theorem i_139_214 : ins 139 214 = some (.sipush 231) := by decide +kernel
theorem i_139_217 : ins 139 217 = some (.iconst 1) := by decide +kernel
theorem i_139_218 : ins 139 218 = some (.iastore) := by decide +kernel
theorem i_139_219 : ins 139 219 = some (.iload_n 1) := by decide +kernel
theorem i_139_220 : ins 139 220 = some (.ireturn) := by decide +kernel
theorem o_140 : mOwn 140 = 8 := rfl
theorem i_140_0 : ins 140 0 = some (.aload_n 0) := by decide +kernel
theorem i_140_1 : ins 140 1 = some (.invokevirtual 122) := by decide +kernel
theorem i_140_4 : ins 140 4 = some (.istore_n 1) := by decide +kernel
theorem i_140_5 : ins 140 5 = some (.aload_n 0) := by decide +kernel
theorem i_140_6 : ins 140 6 = some (.iconst 0) := by decide +kernel
theorem i_140_7 : ins 140 7 = some (.putfield 83) := by decide +kernel
theorem i_140_10 : ins 140 10 = some (.iload_n 1) := by decide +kernel
theorem i_140_11 : ins 140 11 = some (.ifCond .eq 16) := by decide +kernel
theorem i_140_14 : ins 140 14 = some (.aload_n 0) := by decide +kernel
theorem i_140_15 : ins 140 15 = some (.iload_n 1) := by decide +kernel
theorem i_140_16 : ins 140 16 = some (.putfield 125) := by decide +kernel
theorem i_140_19 : ins 140 19 = some (.ldc 128) := by decide +kernel
theorem i_140_21 : ins 140 21 = some (.aload_n 0) := by decide +kernel
theorem i_140_22 : ins 140 22 = some (.getfield 91) := by decide +kernel
theorem i_140_25 : ins 140 25 = some (.isub) := by decide +kernel
theorem i_140_26 : ins 140 26 = some (.ireturn) := by decide +kernel
theorem i_140_27 : ins 140 27 = some (.iconst 0) := by decide +kernel
theorem i_140_28 : ins 140 28 = some (.istore_n 2) := by decide +kernel
theorem i_140_29 : ins 140 29 = some (.iload_n 2) := by decide +kernel
theorem i_140_30 : ins 140 30 = some (.sipush 232) := by decide +kernel
theorem i_140_33 : ins 140 33 = some (.if_icmp .ge 21) := by decide +kernel
theorem i_140_36 : ins 140 36 = some (.aload_n 0) := by decide +kernel
theorem i_140_37 : ins 140 37 = some (.getfield 7) := by decide +kernel
theorem i_140_40 : ins 140 40 = some (.iload_n 2) := by decide +kernel
theorem i_140_41 : ins 140 41 = some (.aload_n 0) := by decide +kernel
theorem i_140_42 : ins 140 42 = some (.getfield 44) := by decide +kernel
theorem i_140_45 : ins 140 45 = some (.iload_n 2) := by decide +kernel
theorem i_140_46 : ins 140 46 = some (.iaload) := by decide +kernel
theorem i_140_47 : ins 140 47 = some (.iastore) := by decide +kernel
theorem i_140_48 : ins 140 48 = some (.iinc 2 1) := by decide +kernel
theorem i_140_51 : ins 140 51 = some (.goto (-22)) := by decide +kernel
theorem i_140_54 : ins 140 54 = some (.aload_n 0) := by decide +kernel
theorem i_140_55 : ins 140 55 = some (.iconst 0) := by decide +kernel
theorem i_140_56 : ins 140 56 = some (.putfield 129) := by decide +kernel
theorem i_140_59 : ins 140 59 = some (.aload_n 0) := by decide +kernel
theorem i_140_60 : ins 140 60 = some (.invokevirtual 132) := by decide +kernel
theorem i_140_63 : ins 140 63 = some (.ireturn) := by decide +kernel
theorem o_141 : mOwn 141 = 8 := rfl
theorem i_141_0 : ins 141 0 = some (.aload_n 0) := by decide +kernel
theorem i_141_1 : ins 141 1 = some (.getfield 125) := by decide +kernel
theorem i_141_4 : ins 141 4 = some (.ireturn) := by decide +kernel
theorem o_142 : mOwn 142 = 8 := rfl
theorem i_142_0 : ins 142 0 = some (.aload_n 0) := by decide +kernel
theorem i_142_1 : ins 142 1 = some (.getfield 7) := by decide +kernel
theorem i_142_4 : ins 142 4 = some (.sipush 229) := by decide +kernel
theorem i_142_7 : ins 142 7 = some (.iaload) := by decide +kernel
theorem i_142_8 : ins 142 8 = some (.ireturn) := by decide +kernel
theorem o_143 : mOwn 143 = 8 := rfl
theorem i_143_0 : ins 143 0 = some (.iload_n 1) := by decide +kernel
theorem i_143_1 : ins 143 1 = some (.i2l) := by decide +kernel
theorem i_143_2 : ins 143 2 = some (.lconst 0) := by decide +kernel
theorem i_143_3 : ins 143 3 = some (.aload_n 0) := by decide +kernel
theorem i_143_4 : ins 143 4 = some (.invokevirtual 132) := by decide +kernel
theorem i_143_7 : ins 143 7 = some (.iconst 1) := by decide +kernel
theorem i_143_8 : ins 143 8 = some (.isub) := by decide +kernel
theorem i_143_9 : ins 143 9 = some (.i2l) := by decide +kernel
theorem i_143_10 : ins 143 10 = some (.invokestatic 63) := by decide +kernel
theorem i_143_13 : ins 143 13 = some (.ireturn) := by decide +kernel
theorem o_144 : mOwn 144 = 8 := rfl
theorem i_144_0 : ins 144 0 = some (.aload_n 0) := by decide +kernel
theorem i_144_1 : ins 144 1 = some (.getfield 7) := by decide +kernel
theorem i_144_4 : ins 144 4 = some (.sipush 231) := by decide +kernel
theorem i_144_7 : ins 144 7 = some (.iaload) := by decide +kernel
theorem i_144_8 : ins 144 8 = some (.iconst 1) := by decide +kernel
theorem i_144_9 : ins 144 9 = some (.if_icmp .ne 7) := by decide +kernel
theorem i_144_12 : ins 144 12 = some (.iconst 1) := by decide +kernel
theorem i_144_13 : ins 144 13 = some (.goto 4) := by decide +kernel
theorem i_144_16 : ins 144 16 = some (.iconst 0) := by decide +kernel
theorem i_144_17 : ins 144 17 = some (.ireturn) := by decide +kernel
theorem o_145 : mOwn 145 = 8 := rfl
theorem i_145_0 : ins 145 0 = some (.aload_n 0) := by decide +kernel
theorem i_145_1 : ins 145 1 = some (.getfield 7) := by decide +kernel
theorem i_145_4 : ins 145 4 = some (.sipush 145) := by decide +kernel
theorem i_145_7 : ins 145 7 = some (.iload_n 1) := by decide +kernel
theorem i_145_8 : ins 145 8 = some (.iadd) := by decide +kernel
theorem i_145_9 : ins 145 9 = some (.iaload) := by decide +kernel
theorem i_145_10 : ins 145 10 = some (.iconst 4) := by decide +kernel
theorem i_145_11 : ins 145 11 = some (.if_icmp .eq 17) := by decide +kernel
theorem i_145_14 : ins 145 14 = some (.aload_n 0) := by decide +kernel
theorem i_145_15 : ins 145 15 = some (.getfield 7) := by decide +kernel
theorem i_145_18 : ins 145 18 = some (.sipush 145) := by decide +kernel
theorem i_145_21 : ins 145 21 = some (.iload_n 1) := by decide +kernel
theorem i_145_22 : ins 145 22 = some (.iadd) := by decide +kernel
theorem i_145_23 : ins 145 23 = some (.iaload) := by decide +kernel
theorem i_145_24 : ins 145 24 = some (.iconst 5) := by decide +kernel
theorem i_145_25 : ins 145 25 = some (.if_icmp .ne 7) := by decide +kernel
theorem i_145_28 : ins 145 28 = some (.iconst 1) := by decide +kernel
theorem i_145_29 : ins 145 29 = some (.goto 4) := by decide +kernel
theorem i_145_32 : ins 145 32 = some (.iconst 0) := by decide +kernel
theorem i_145_33 : ins 145 33 = some (.ireturn) := by decide +kernel
theorem o_146 : mOwn 146 = 8 := rfl
theorem i_146_0 : ins 146 0 = some (.aload_n 0) := by decide +kernel
theorem i_146_1 : ins 146 1 = some (.getfield 7) := by decide +kernel
theorem i_146_4 : ins 146 4 = some (.sipush 145) := by decide +kernel
theorem i_146_7 : ins 146 7 = some (.iload_n 1) := by decide +kernel
theorem i_146_8 : ins 146 8 = some (.iadd) := by decide +kernel
theorem i_146_9 : ins 146 9 = some (.iaload) := by decide +kernel
theorem i_146_10 : ins 146 10 = some (.iconst 4) := by decide +kernel
theorem i_146_11 : ins 146 11 = some (.if_icmp .ne 14) := by decide +kernel
theorem i_146_14 : ins 146 14 = some (.aload_n 0) := by decide +kernel
theorem i_146_15 : ins 146 15 = some (.getfield 7) := by decide +kernel
theorem i_146_18 : ins 146 18 = some (.sipush 143) := by decide +kernel
theorem i_146_21 : ins 146 21 = some (.iaload) := by decide +kernel
theorem i_146_22 : ins 146 22 = some (.goto 12) := by decide +kernel
theorem i_146_25 : ins 146 25 = some (.aload_n 0) := by decide +kernel
theorem i_146_26 : ins 146 26 = some (.getfield 7) := by decide +kernel
theorem i_146_29 : ins 146 29 = some (.bipush 56) := by decide +kernel
theorem i_146_31 : ins 146 31 = some (.iload_n 1) := by decide +kernel
theorem i_146_32 : ins 146 32 = some (.iadd) := by decide +kernel
theorem i_146_33 : ins 146 33 = some (.iaload) := by decide +kernel
theorem i_146_34 : ins 146 34 = some (.ireturn) := by decide +kernel
theorem o_147 : mOwn 147 = 8 := rfl
theorem i_147_0 : ins 147 0 = some (.aload_n 0) := by decide +kernel
theorem i_147_1 : ins 147 1 = some (.getfield 7) := by decide +kernel
theorem i_147_4 : ins 147 4 = some (.sipush 145) := by decide +kernel
theorem i_147_7 : ins 147 7 = some (.iload_n 1) := by decide +kernel
theorem i_147_8 : ins 147 8 = some (.iadd) := by decide +kernel
theorem i_147_9 : ins 147 9 = some (.iaload) := by decide +kernel
theorem i_147_10 : ins 147 10 = some (.istore_n 2) := by decide +kernel
theorem i_147_11 : ins 147 11 = some (.iload_n 2) := by decide +kernel
theorem i_147_12 : ins 147 12 = some (.iconst 2) := by decide +kernel
theorem i_147_13 : ins 147 13 = some (.if_icmp .eq 25) := by decide +kernel
theorem i_147_16 : ins 147 16 = some (.iload_n 2) := by decide +kernel
theorem i_147_17 : ins 147 17 = some (.iconst 1) := by decide +kernel
theorem i_147_18 : ins 147 18 = some (.if_icmp .eq 8) := by decide +kernel
theorem i_147_21 : ins 147 21 = some (.iload_n 2) := by decide +kernel
theorem i_147_22 : ins 147 22 = some (.iconst 3) := by decide +kernel
theorem i_147_23 : ins 147 23 = some (.if_icmp .ne 19) := by decide +kernel
theorem i_147_26 : ins 147 26 = some (.aload_n 0) := by decide +kernel
theorem i_147_27 : ins 147 27 = some (.getfield 7) := by decide +kernel
theorem i_147_30 : ins 147 30 = some (.bipush 56) := by decide +kernel
theorem i_147_32 : ins 147 32 = some (.iload_n 1) := by decide +kernel
theorem i_147_33 : ins 147 33 = some (.iadd) := by decide +kernel
theorem i_147_34 : ins 147 34 = some (.iaload) := by decide +kernel
theorem i_147_35 : ins 147 35 = some (.ifCond .ne 7) := by decide +kernel
theorem i_147_38 : ins 147 38 = some (.iconst 1) := by decide +kernel
theorem i_147_39 : ins 147 39 = some (.goto 4) := by decide +kernel
theorem i_147_42 : ins 147 42 = some (.iconst 0) := by decide +kernel
theorem i_147_43 : ins 147 43 = some (.ireturn) := by decide +kernel
theorem o_148 : mOwn 148 = 8 := rfl
theorem i_148_0 : ins 148 0 = some (.iconst 0) := by decide +kernel
theorem i_148_1 : ins 148 1 = some (.istore_n 1) := by decide +kernel
theorem i_148_2 : ins 148 2 = some (.iload_n 1) := by decide +kernel
theorem i_148_3 : ins 148 3 = some (.aload_n 0) := by decide +kernel
theorem i_148_4 : ins 148 4 = some (.getfield 7) := by decide +kernel
theorem i_148_7 : ins 148 7 = some (.sipush 140) := by decide +kernel
theorem i_148_10 : ins 148 10 = some (.iaload) := by decide +kernel
theorem i_148_11 : ins 148 11 = some (.if_icmp .ge 51) := by decide +kernel
theorem i_148_14 : ins 148 14 = some (.aload_n 0) := by decide +kernel
theorem i_148_15 : ins 148 15 = some (.getfield 47) := by decide +kernel
theorem i_148_18 : ins 148 18 = some (.iload_n 1) := by decide +kernel
theorem i_148_19 : ins 148 19 = some (.aload_n 0) := by decide +kernel
theorem i_148_20 : ins 148 20 = some (.aload_n 0) := by decide +kernel
theorem i_148_21 : ins 148 21 = some (.getfield 7) := by decide +kernel
theorem i_148_24 : ins 148 24 = some (.bipush 112) := by decide +kernel
theorem i_148_26 : ins 148 26 = some (.iload_n 1) := by decide +kernel
theorem i_148_27 : ins 148 27 = some (.iadd) := by decide +kernel
theorem i_148_28 : ins 148 28 = some (.iaload) := by decide +kernel
theorem i_148_29 : ins 148 29 = some (.invokevirtual 135) := by decide +kernel
theorem i_148_32 : ins 148 32 = some (.iastore) := by decide +kernel
theorem i_148_33 : ins 148 33 = some (.aload_n 0) := by decide +kernel
theorem i_148_34 : ins 148 34 = some (.getfield 50) := by decide +kernel
theorem i_148_37 : ins 148 37 = some (.iload_n 1) := by decide +kernel
theorem i_148_38 : ins 148 38 = some (.aload_n 0) := by decide +kernel
theorem i_148_39 : ins 148 39 = some (.getfield 7) := by decide +kernel
theorem i_148_42 : ins 148 42 = some (.bipush 84) := by decide +kernel
theorem i_148_44 : ins 148 44 = some (.aload_n 0) := by decide +kernel
theorem i_148_45 : ins 148 45 = some (.getfield 7) := by decide +kernel
theorem i_148_48 : ins 148 48 = some (.bipush 112) := by decide +kernel
theorem i_148_50 : ins 148 50 = some (.iload_n 1) := by decide +kernel
theorem i_148_51 : ins 148 51 = some (.iadd) := by decide +kernel
theorem i_148_52 : ins 148 52 = some (.iaload) := by decide +kernel
theorem i_148_53 : ins 148 53 = some (.iadd) := by decide +kernel
theorem i_148_54 : ins 148 54 = some (.iaload) := by decide +kernel
theorem i_148_55 : ins 148 55 = some (.iastore) := by decide +kernel
theorem i_148_56 : ins 148 56 = some (.iinc 1 1) := by decide +kernel
theorem i_148_59 : ins 148 59 = some (.goto (-57)) := by decide +kernel
theorem i_148_62 : ins 148 62 = some (.iconst 1) := by decide +kernel
theorem i_148_63 : ins 148 63 = some (.istore_n 1) := by decide +kernel
theorem i_148_64 : ins 148 64 = some (.iload_n 1) := by decide +kernel
theorem i_148_65 : ins 148 65 = some (.aload_n 0) := by decide +kernel
theorem i_148_66 : ins 148 66 = some (.getfield 7) := by decide +kernel
theorem i_148_69 : ins 148 69 = some (.sipush 140) := by decide +kernel
theorem i_148_72 : ins 148 72 = some (.iaload) := by decide +kernel
theorem i_148_73 : ins 148 73 = some (.if_icmp .ge 72) := by decide +kernel
theorem i_148_76 : ins 148 76 = some (.aload_n 0) := by decide +kernel
theorem i_148_77 : ins 148 77 = some (.getfield 7) := by decide +kernel
theorem i_148_80 : ins 148 80 = some (.bipush 112) := by decide +kernel
theorem i_148_82 : ins 148 82 = some (.iload_n 1) := by decide +kernel
theorem i_148_83 : ins 148 83 = some (.iadd) := by decide +kernel
theorem i_148_84 : ins 148 84 = some (.iaload) := by decide +kernel
theorem i_148_85 : ins 148 85 = some (.istore_n 2) := by decide +kernel
theorem i_148_86 : ins 148 86 = some (.aload_n 0) := by decide +kernel
theorem i_148_87 : ins 148 87 = some (.getfield 47) := by decide +kernel
theorem i_148_90 : ins 148 90 = some (.iload_n 1) := by decide +kernel
theorem i_148_91 : ins 148 91 = some (.iconst 1) := by decide +kernel
theorem i_148_92 : ins 148 92 = some (.isub) := by decide +kernel
theorem i_148_93 : ins 148 93 = some (.iaload) := by decide +kernel
theorem i_148_94 : ins 148 94 = some (.ifCond .eq 45) := by decide +kernel
theorem i_148_97 : ins 148 97 = some (.aload_n 0) := by decide +kernel
theorem i_148_98 : ins 148 98 = some (.iload_n 2) := by decide +kernel
theorem i_148_99 : ins 148 99 = some (.invokevirtual 138) := by decide +kernel
theorem i_148_102 : ins 148 102 = some (.ifCond .eq 37) := by decide +kernel
theorem i_148_105 : ins 148 105 = some (.aload_n 0) := by decide +kernel
theorem i_148_106 : ins 148 106 = some (.getfield 7) := by decide +kernel
theorem i_148_109 : ins 148 109 = some (.bipush 56) := by decide +kernel
theorem i_148_111 : ins 148 111 = some (.iload_n 2) := by decide +kernel
theorem i_148_112 : ins 148 112 = some (.iadd) := by decide +kernel
theorem i_148_113 : ins 148 113 = some (.aload_n 0) := by decide +kernel
theorem i_148_114 : ins 148 114 = some (.getfield 47) := by decide +kernel
theorem i_148_117 : ins 148 117 = some (.iload_n 1) := by decide +kernel
theorem i_148_118 : ins 148 118 = some (.iconst 1) := by decide +kernel
theorem i_148_119 : ins 148 119 = some (.isub) := by decide +kernel
theorem i_148_120 : ins 148 120 = some (.iaload) := by decide +kernel
theorem i_148_121 : ins 148 121 = some (.iastore) := by decide +kernel
theorem i_148_122 : ins 148 122 = some (.aload_n 0) := by decide +kernel
theorem i_148_123 : ins 148 123 = some (.getfield 7) := by decide +kernel
theorem i_148_126 : ins 148 126 = some (.bipush 84) := by decide +kernel
theorem i_148_128 : ins 148 128 = some (.iload_n 2) := by decide +kernel
theorem i_148_129 : ins 148 129 = some (.iadd) := by decide +kernel
theorem i_148_130 : ins 148 130 = some (.aload_n 0) := by decide +kernel
theorem i_148_131 : ins 148 131 = some (.getfield 50) := by decide +kernel
theorem i_148_134 : ins 148 134 = some (.iload_n 1) := by decide +kernel
theorem i_148_135 : ins 148 135 = some (.iconst 1) := by decide +kernel
theorem i_148_136 : ins 148 136 = some (.isub) := by decide +kernel
theorem i_148_137 : ins 148 137 = some (.iaload) := by decide +kernel
theorem i_148_138 : ins 148 138 = some (.iastore) := by decide +kernel
theorem i_148_139 : ins 148 139 = some (.iinc 1 1) := by decide +kernel
theorem i_148_142 : ins 148 142 = some (.goto (-78)) := by decide +kernel
theorem i_148_145 : ins 148 145 = some (.return_) := by decide +kernel
theorem o_149 : mOwn 149 = 8 := rfl
theorem i_149_0 : ins 149 0 = some (.iload_n 1) := by decide +kernel
theorem i_149_1 : ins 149 1 = some (.istore_n 2) := by decide +kernel
theorem i_149_2 : ins 149 2 = some (.iload_n 2) := by decide +kernel
theorem i_149_3 : ins 149 3 = some (.iconst 1) := by decide +kernel
theorem i_149_4 : ins 149 4 = some (.iadd) := by decide +kernel
theorem i_149_5 : ins 149 5 = some (.aload_n 0) := by decide +kernel
theorem i_149_6 : ins 149 6 = some (.getfield 7) := by decide +kernel
theorem i_149_9 : ins 149 9 = some (.sipush 140) := by decide +kernel
theorem i_149_12 : ins 149 12 = some (.iaload) := by decide +kernel
theorem i_149_13 : ins 149 13 = some (.if_icmp .ge 29) := by decide +kernel
theorem i_149_16 : ins 149 16 = some (.aload_n 0) := by decide +kernel
theorem i_149_17 : ins 149 17 = some (.getfield 7) := by decide +kernel
theorem i_149_20 : ins 149 20 = some (.bipush 112) := by decide +kernel
theorem i_149_22 : ins 149 22 = some (.iload_n 2) := by decide +kernel
theorem i_149_23 : ins 149 23 = some (.iadd) := by decide +kernel
theorem i_149_24 : ins 149 24 = some (.aload_n 0) := by decide +kernel
theorem i_149_25 : ins 149 25 = some (.getfield 7) := by decide +kernel
theorem i_149_28 : ins 149 28 = some (.bipush 112) := by decide +kernel
theorem i_149_30 : ins 149 30 = some (.iload_n 2) := by decide +kernel
theorem i_149_31 : ins 149 31 = some (.iadd) := by decide +kernel
theorem i_149_32 : ins 149 32 = some (.iconst 1) := by decide +kernel
theorem i_149_33 : ins 149 33 = some (.iadd) := by decide +kernel
theorem i_149_34 : ins 149 34 = some (.iaload) := by decide +kernel
theorem i_149_35 : ins 149 35 = some (.iastore) := by decide +kernel
theorem i_149_36 : ins 149 36 = some (.iinc 2 1) := by decide +kernel
theorem i_149_39 : ins 149 39 = some (.goto (-37)) := by decide +kernel
theorem i_149_42 : ins 149 42 = some (.aload_n 0) := by decide +kernel
theorem i_149_43 : ins 149 43 = some (.getfield 7) := by decide +kernel
theorem i_149_46 : ins 149 46 = some (.sipush 140) := by decide +kernel
theorem i_149_49 : ins 149 49 = some (.dup2) := by decide +kernel
theorem i_149_50 : ins 149 50 = some (.iaload) := by decide +kernel
theorem i_149_51 : ins 149 51 = some (.iconst 1) := by decide +kernel
theorem i_149_52 : ins 149 52 = some (.isub) := by decide +kernel
theorem i_149_53 : ins 149 53 = some (.iastore) := by decide +kernel
theorem i_149_54 : ins 149 54 = some (.return_) := by decide +kernel
theorem o_150 : mOwn 150 = 8 := rfl
theorem i_150_0 : ins 150 0 = some (.aload_n 0) := by decide +kernel
theorem i_150_1 : ins 150 1 = some (.getfield 7) := by decide +kernel
theorem i_150_4 : ins 150 4 = some (.sipush 145) := by decide +kernel
theorem i_150_7 : ins 150 7 = some (.iload_n 1) := by decide +kernel
theorem i_150_8 : ins 150 8 = some (.iadd) := by decide +kernel
theorem i_150_9 : ins 150 9 = some (.iaload) := by decide +kernel
theorem i_150_10 : ins 150 10 = some (.istore_n 2) := by decide +kernel
theorem i_150_11 : ins 150 11 = some (.aload_n 0) := by decide +kernel
theorem i_150_12 : ins 150 12 = some (.getfield 7) := by decide +kernel
theorem i_150_15 : ins 150 15 = some (.sipush 173) := by decide +kernel
theorem i_150_18 : ins 150 18 = some (.iload_n 1) := by decide +kernel
theorem i_150_19 : ins 150 19 = some (.iadd) := by decide +kernel
theorem i_150_20 : ins 150 20 = some (.iaload) := by decide +kernel
theorem i_150_21 : ins 150 21 = some (.istore_n 3) := by decide +kernel
theorem i_150_22 : ins 150 22 = some (.iload_n 2) := by decide +kernel
theorem i_150_23 : ins 150 23 = some (.iconst 5) := by decide +kernel
theorem i_150_24 : ins 150 24 = some (.if_icmp .ne 7) := by decide +kernel
theorem i_150_27 : ins 150 27 = some (.iload_n 3) := by decide +kernel
theorem i_150_28 : ins 150 28 = some (.iconst 2) := by decide +kernel
theorem i_150_29 : ins 150 29 = some (.idiv) := by decide +kernel
theorem i_150_30 : ins 150 30 = some (.ireturn) := by decide +kernel
theorem i_150_31 : ins 150 31 = some (.iload_n 2) := by decide +kernel
theorem i_150_32 : ins 150 32 = some (.iconst 4) := by decide +kernel
theorem i_150_33 : ins 150 33 = some (.if_icmp .eq 15) := by decide +kernel
theorem i_150_36 : ins 150 36 = some (.aload_n 0) := by decide +kernel
theorem i_150_37 : ins 150 37 = some (.iload_n 1) := by decide +kernel
theorem i_150_38 : ins 150 38 = some (.invokevirtual 135) := by decide +kernel
theorem i_150_41 : ins 150 41 = some (.ifCond .eq 7) := by decide +kernel
theorem i_150_44 : ins 150 44 = some (.iconst 1) := by decide +kernel
theorem i_150_45 : ins 150 45 = some (.goto 4) := by decide +kernel
theorem i_150_48 : ins 150 48 = some (.iconst 0) := by decide +kernel
theorem i_150_49 : ins 150 49 = some (.istore 4) := by decide +kernel
theorem i_150_51 : ins 150 51 = some (.iload 4) := by decide +kernel
theorem i_150_53 : ins 150 53 = some (.ifCond .eq 9) := by decide +kernel
theorem i_150_56 : ins 150 56 = some (.iconst 2) := by decide +kernel
theorem i_150_57 : ins 150 57 = some (.iload_n 3) := by decide +kernel
theorem i_150_58 : ins 150 58 = some (.imul) := by decide +kernel
theorem i_150_59 : ins 150 59 = some (.goto 4) := by decide +kernel
theorem i_150_62 : ins 150 62 = some (.iload_n 3) := by decide +kernel
theorem i_150_63 : ins 150 63 = some (.iload_n 2) := by decide +kernel
theorem i_150_64 : ins 150 64 = some (.iconst 3) := by decide +kernel
theorem i_150_65 : ins 150 65 = some (.if_icmp .ne 17) := by decide +kernel
theorem i_150_68 : ins 150 68 = some (.aload_n 0) := by decide +kernel
theorem i_150_69 : ins 150 69 = some (.getfield 7) := by decide +kernel
theorem i_150_72 : ins 150 72 = some (.bipush 28) := by decide +kernel
theorem i_150_74 : ins 150 74 = some (.iload_n 1) := by decide +kernel
theorem i_150_75 : ins 150 75 = some (.iadd) := by decide +kernel
theorem i_150_76 : ins 150 76 = some (.iaload) := by decide +kernel
theorem i_150_77 : ins 150 77 = some (.iconst 2) := by decide +kernel
theorem i_150_78 : ins 150 78 = some (.idiv) := by decide +kernel
theorem i_150_79 : ins 150 79 = some (.goto 4) := by decide +kernel
theorem i_150_82 : ins 150 82 = some (.iconst 0) := by decide +kernel
theorem i_150_83 : ins 150 83 = some (.iadd) := by decide +kernel
theorem i_150_84 : ins 150 84 = some (.ireturn) := by decide +kernel
theorem o_151 : mOwn 151 = 8 := rfl
theorem i_151_0 : ins 151 0 = some (.aload_n 0) := by decide +kernel
theorem i_151_1 : ins 151 1 = some (.getfield 7) := by decide +kernel
theorem i_151_4 : ins 151 4 = some (.sipush 140) := by decide +kernel
theorem i_151_7 : ins 151 7 = some (.iaload) := by decide +kernel
theorem i_151_8 : ins 151 8 = some (.bipush 6) := by decide +kernel
theorem i_151_10 : ins 151 10 = some (.if_icmp .lt 7) := by decide +kernel
theorem i_151_13 : ins 151 13 = some (.iconst 1) := by decide +kernel
theorem i_151_14 : ins 151 14 = some (.goto 4) := by decide +kernel
theorem i_151_17 : ins 151 17 = some (.iconst 0) := by decide +kernel
theorem i_151_18 : ins 151 18 = some (.istore_n 1) := by decide +kernel
theorem i_151_19 : ins 151 19 = some (.iconst 0) := by decide +kernel
theorem i_151_20 : ins 151 20 = some (.istore_n 2) := by decide +kernel
theorem i_151_21 : ins 151 21 = some (.iload_n 2) := by decide +kernel
theorem i_151_22 : ins 151 22 = some (.aload_n 0) := by decide +kernel
theorem i_151_23 : ins 151 23 = some (.getfield 7) := by decide +kernel
theorem i_151_26 : ins 151 26 = some (.sipush 140) := by decide +kernel
theorem i_151_29 : ins 151 29 = some (.iaload) := by decide +kernel
theorem i_151_30 : ins 151 30 = some (.if_icmp .ge 30) := by decide +kernel
theorem i_151_33 : ins 151 33 = some (.aload_n 0) := by decide +kernel
theorem i_151_34 : ins 151 34 = some (.getfield 7) := by decide +kernel
theorem i_151_37 : ins 151 37 = some (.bipush 28) := by decide +kernel
theorem i_151_39 : ins 151 39 = some (.aload_n 0) := by decide +kernel
theorem i_151_40 : ins 151 40 = some (.getfield 7) := by decide +kernel
theorem i_151_43 : ins 151 43 = some (.bipush 112) := by decide +kernel
theorem i_151_45 : ins 151 45 = some (.iload_n 2) := by decide +kernel
theorem i_151_46 : ins 151 46 = some (.iadd) := by decide +kernel
theorem i_151_47 : ins 151 47 = some (.iaload) := by decide +kernel
theorem i_151_48 : ins 151 48 = some (.iadd) := by decide +kernel
theorem i_151_49 : ins 151 49 = some (.dup2) := by decide +kernel
theorem i_151_50 : ins 151 50 = some (.iaload) := by decide +kernel
theorem i_151_51 : ins 151 51 = some (.iconst 1) := by decide +kernel
theorem i_151_52 : ins 151 52 = some (.iadd) := by decide +kernel
theorem i_151_53 : ins 151 53 = some (.iastore) := by decide +kernel
theorem i_151_54 : ins 151 54 = some (.iinc 2 1) := by decide +kernel
theorem i_151_57 : ins 151 57 = some (.goto (-36)) := by decide +kernel
theorem i_151_60 : ins 151 60 = some (.aload_n 0) := by decide +kernel
theorem i_151_61 : ins 151 61 = some (.getfield 7) := by decide +kernel
theorem i_151_64 : ins 151 64 = some (.sipush 140) := by decide +kernel
theorem i_151_67 : ins 151 67 = some (.iaload) := by decide +kernel
theorem i_151_68 : ins 151 68 = some (.iconst 1) := by decide +kernel
theorem i_151_69 : ins 151 69 = some (.isub) := by decide +kernel
theorem i_151_70 : ins 151 70 = some (.istore_n 2) := by decide +kernel
theorem i_151_71 : ins 151 71 = some (.iload_n 2) := by decide +kernel
theorem i_151_72 : ins 151 72 = some (.ifCond .lt 80) := by decide +kernel
theorem i_151_75 : ins 151 75 = some (.aload_n 0) := by decide +kernel
theorem i_151_76 : ins 151 76 = some (.getfield 7) := by decide +kernel
theorem i_151_79 : ins 151 79 = some (.bipush 112) := by decide +kernel
theorem i_151_81 : ins 151 81 = some (.iload_n 2) := by decide +kernel
theorem i_151_82 : ins 151 82 = some (.iadd) := by decide +kernel
theorem i_151_83 : ins 151 83 = some (.iaload) := by decide +kernel
theorem i_151_84 : ins 151 84 = some (.istore_n 3) := by decide +kernel
theorem i_151_85 : ins 151 85 = some (.aload_n 0) := by decide +kernel
theorem i_151_86 : ins 151 86 = some (.getfield 7) := by decide +kernel
theorem i_151_89 : ins 151 89 = some (.sipush 145) := by decide +kernel
theorem i_151_92 : ins 151 92 = some (.iload_n 3) := by decide +kernel
theorem i_151_93 : ins 151 93 = some (.iadd) := by decide +kernel
theorem i_151_94 : ins 151 94 = some (.iaload) := by decide +kernel
theorem i_151_95 : ins 151 95 = some (.iconst 2) := by decide +kernel
theorem i_151_96 : ins 151 96 = some (.if_icmp .ne 7) := by decide +kernel
theorem i_151_99 : ins 151 99 = some (.iload_n 1) := by decide +kernel
theorem i_151_100 : ins 151 100 = some (.ifCond .ne 20) := by decide +kernel
theorem i_151_103 : ins 151 103 = some (.aload_n 0) := by decide +kernel
theorem i_151_104 : ins 151 104 = some (.getfield 7) := by decide +kernel
theorem i_151_107 : ins 151 107 = some (.bipush 28) := by decide +kernel
theorem i_151_109 : ins 151 109 = some (.iload_n 3) := by decide +kernel
theorem i_151_110 : ins 151 110 = some (.iadd) := by decide +kernel
theorem i_151_111 : ins 151 111 = some (.iaload) := by decide +kernel
theorem i_151_112 : ins 151 112 = some (.aload_n 0) := by decide +kernel
theorem i_151_113 : ins 151 113 = some (.iload_n 3) := by decide +kernel
theorem i_151_114 : ins 151 114 = some (.invokevirtual 141) := by decide +kernel
theorem i_151_117 : ins 151 117 = some (.if_icmp .gt 7) := by decide +kernel
theorem i_151_120 : ins 151 120 = some (.iconst 1) := by decide +kernel
theorem i_151_121 : ins 151 121 = some (.goto 4) := by decide +kernel
theorem i_151_124 : ins 151 124 = some (.iconst 0) := by decide +kernel
theorem i_151_125 : ins 151 125 = some (.istore 4) := by decide +kernel
theorem i_151_127 : ins 151 127 = some (.iload 4) := by decide +kernel
theorem i_151_129 : ins 151 129 = some (.ifCond .ne 17) := by decide +kernel
theorem i_151_132 : ins 151 132 = some (.aload_n 0) := by decide +kernel
theorem i_151_133 : ins 151 133 = some (.getfield 7) := by decide +kernel
theorem i_151_136 : ins 151 136 = some (.iconst 0) := by decide +kernel
theorem i_151_137 : ins 151 137 = some (.iload_n 3) := by decide +kernel
theorem i_151_138 : ins 151 138 = some (.iadd) := by decide +kernel
theorem i_151_139 : ins 151 139 = some (.iconst 3) := by decide +kernel
theorem i_151_140 : ins 151 140 = some (.iastore) := by decide +kernel
theorem i_151_141 : ins 151 141 = some (.aload_n 0) := by decide +kernel
theorem i_151_142 : ins 151 142 = some (.iload_n 2) := by decide +kernel
theorem i_151_143 : ins 151 143 = some (.invokevirtual 144) := by decide +kernel
theorem i_151_146 : ins 151 146 = some (.iinc 2 (-1)) := by decide +kernel
theorem i_151_149 : ins 151 149 = some (.goto (-78)) := by decide +kernel
theorem i_151_152 : ins 151 152 = some (.return_) := by decide +kernel
theorem o_152 : mOwn 152 = 8 := rfl
theorem i_152_0 : ins 152 0 = some (.aload_n 0) := by decide +kernel
theorem i_152_1 : ins 152 1 = some (.getfield 7) := by decide +kernel
theorem i_152_4 : ins 152 4 = some (.bipush 112) := by decide +kernel
theorem i_152_6 : ins 152 6 = some (.aload_n 0) := by decide +kernel
theorem i_152_7 : ins 152 7 = some (.getfield 7) := by decide +kernel
theorem i_152_10 : ins 152 10 = some (.sipush 140) := by decide +kernel
theorem i_152_13 : ins 152 13 = some (.iaload) := by decide +kernel
theorem i_152_14 : ins 152 14 = some (.iadd) := by decide +kernel
theorem i_152_15 : ins 152 15 = some (.iload_n 1) := by decide +kernel
theorem i_152_16 : ins 152 16 = some (.iastore) := by decide +kernel
theorem i_152_17 : ins 152 17 = some (.aload_n 0) := by decide +kernel
theorem i_152_18 : ins 152 18 = some (.getfield 7) := by decide +kernel
theorem i_152_21 : ins 152 21 = some (.sipush 140) := by decide +kernel
theorem i_152_24 : ins 152 24 = some (.dup2) := by decide +kernel
theorem i_152_25 : ins 152 25 = some (.iaload) := by decide +kernel
theorem i_152_26 : ins 152 26 = some (.iconst 1) := by decide +kernel
theorem i_152_27 : ins 152 27 = some (.iadd) := by decide +kernel
theorem i_152_28 : ins 152 28 = some (.iastore) := by decide +kernel
theorem i_152_29 : ins 152 29 = some (.aload_n 0) := by decide +kernel
theorem i_152_30 : ins 152 30 = some (.getfield 7) := by decide +kernel
theorem i_152_33 : ins 152 33 = some (.iconst 0) := by decide +kernel
theorem i_152_34 : ins 152 34 = some (.iload_n 1) := by decide +kernel
theorem i_152_35 : ins 152 35 = some (.iadd) := by decide +kernel
theorem i_152_36 : ins 152 36 = some (.iconst 1) := by decide +kernel
theorem i_152_37 : ins 152 37 = some (.iastore) := by decide +kernel
theorem i_152_38 : ins 152 38 = some (.return_) := by decide +kernel
theorem o_153 : mOwn 153 = 8 := rfl
theorem i_153_0 : ins 153 0 = some (.aload_n 0) := by decide +kernel
theorem i_153_1 : ins 153 1 = some (.invokevirtual 148) := by decide +kernel
theorem i_153_4 : ins 153 4 = some (.aload_n 0) := by decide +kernel
theorem i_153_5 : ins 153 5 = some (.getfield 7) := by decide +kernel
theorem i_153_8 : ins 153 8 = some (.sipush 142) := by decide +kernel
theorem i_153_11 : ins 153 11 = some (.dup2) := by decide +kernel
theorem i_153_12 : ins 153 12 = some (.iaload) := by decide +kernel
theorem i_153_13 : ins 153 13 = some (.iconst 1) := by decide +kernel
theorem i_153_14 : ins 153 14 = some (.iadd) := by decide +kernel
theorem i_153_15 : ins 153 15 = some (.iastore) := by decide +kernel
theorem i_153_16 : ins 153 16 = some (.aload_n 0) := by decide +kernel
theorem i_153_17 : ins 153 17 = some (.getfield 7) := by decide +kernel
theorem i_153_20 : ins 153 20 = some (.sipush 144) := by decide +kernel
theorem i_153_23 : ins 153 23 = some (.iaload) := by decide +kernel
theorem i_153_24 : ins 153 24 = some (.ifCond .eq 54) := by decide +kernel
theorem i_153_27 : ins 153 27 = some (.aload_n 0) := by decide +kernel
theorem i_153_28 : ins 153 28 = some (.getfield 7) := by decide +kernel
theorem i_153_31 : ins 153 31 = some (.sipush 142) := by decide +kernel
theorem i_153_34 : ins 153 34 = some (.iaload) := by decide +kernel
theorem i_153_35 : ins 153 35 = some (.aload_n 0) := by decide +kernel
theorem i_153_36 : ins 153 36 = some (.getfield 7) := by decide +kernel
theorem i_153_39 : ins 153 39 = some (.sipush 144) := by decide +kernel
theorem i_153_42 : ins 153 42 = some (.iaload) := by decide +kernel
theorem i_153_43 : ins 153 43 = some (.irem) := by decide +kernel
theorem i_153_44 : ins 153 44 = some (.ifCond .ne 34) := by decide +kernel
theorem i_153_47 : ins 153 47 = some (.aload_n 0) := by decide +kernel
theorem i_153_48 : ins 153 48 = some (.getfield 7) := by decide +kernel
theorem i_153_51 : ins 153 51 = some (.sipush 140) := by decide +kernel
theorem i_153_54 : ins 153 54 = some (.iaload) := by decide +kernel
theorem i_153_55 : ins 153 55 = some (.ifCond .le 23) := by decide +kernel
theorem i_153_58 : ins 153 58 = some (.aload_n 0) := by decide +kernel
theorem i_153_59 : ins 153 59 = some (.getfield 7) := by decide +kernel
theorem i_153_62 : ins 153 62 = some (.iconst 0) := by decide +kernel
theorem i_153_63 : ins 153 63 = some (.aload_n 0) := by decide +kernel
theorem i_153_64 : ins 153 64 = some (.getfield 7) := by decide +kernel
theorem i_153_67 : ins 153 67 = some (.bipush 112) := by decide +kernel
theorem i_153_69 : ins 153 69 = some (.iaload) := by decide +kernel
theorem i_153_70 : ins 153 70 = some (.iadd) := by decide +kernel
theorem i_153_71 : ins 153 71 = some (.iconst 2) := by decide +kernel
theorem i_153_72 : ins 153 72 = some (.iastore) := by decide +kernel
theorem i_153_73 : ins 153 73 = some (.aload_n 0) := by decide +kernel
theorem i_153_74 : ins 153 74 = some (.iconst 0) := by decide +kernel
theorem i_153_75 : ins 153 75 = some (.invokevirtual 144) := by decide +kernel
theorem i_153_78 : ins 153 78 = some (.aload_n 0) := by decide +kernel
theorem i_153_79 : ins 153 79 = some (.invokevirtual 151) := by decide +kernel
theorem i_153_82 : ins 153 82 = some (.aload_n 0) := by decide +kernel
theorem i_153_83 : ins 153 83 = some (.getfield 7) := by decide +kernel
theorem i_153_86 : ins 153 86 = some (.sipush 141) := by decide +kernel
theorem i_153_89 : ins 153 89 = some (.iaload) := by decide +kernel
theorem i_153_90 : ins 153 90 = some (.istore_n 2) := by decide +kernel
theorem i_153_91 : ins 153 91 = some (.iload_n 2) := by decide +kernel
theorem i_153_92 : ins 153 92 = some (.aload_n 0) := by decide +kernel
theorem i_153_93 : ins 153 93 = some (.invokevirtual 132) := by decide +kernel
theorem i_153_96 : ins 153 96 = some (.if_icmp .ge 57) := by decide +kernel
theorem i_153_99 : ins 153 99 = some (.aload_n 0) := by decide +kernel
theorem i_153_100 : ins 153 100 = some (.getfield 7) := by decide +kernel
theorem i_153_103 : ins 153 103 = some (.sipush 141) := by decide +kernel
theorem i_153_106 : ins 153 106 = some (.dup2) := by decide +kernel
theorem i_153_107 : ins 153 107 = some (.iaload) := by decide +kernel
theorem i_153_108 : ins 153 108 = some (.iconst 1) := by decide +kernel
theorem i_153_109 : ins 153 109 = some (.iadd) := by decide +kernel
theorem i_153_110 : ins 153 110 = some (.iastore) := by decide +kernel
theorem i_153_111 : ins 153 111 = some (.iload_n 1) := by decide +kernel
theorem i_153_112 : ins 153 112 = some (.ifCond .eq 32) := by decide +kernel
theorem i_153_115 : ins 153 115 = some (.aload_n 0) := by decide +kernel
theorem i_153_116 : ins 153 116 = some (.getfield 7) := by decide +kernel
theorem i_153_119 : ins 153 119 = some (.sipush 140) := by decide +kernel
theorem i_153_122 : ins 153 122 = some (.iaload) := by decide +kernel
theorem i_153_123 : ins 153 123 = some (.aload_n 0) := by decide +kernel
theorem i_153_124 : ins 153 124 = some (.getfield 7) := by decide +kernel
theorem i_153_127 : ins 153 127 = some (.sipush 201) := by decide +kernel
theorem i_153_130 : ins 153 130 = some (.iload_n 2) := by decide +kernel
theorem i_153_131 : ins 153 131 = some (.iadd) := by decide +kernel
theorem i_153_132 : ins 153 132 = some (.iaload) := by decide +kernel
theorem i_153_133 : ins 153 133 = some (.if_icmp .lt 11) := by decide +kernel
theorem i_153_136 : ins 153 136 = some (.aload_n 0) := by decide +kernel
theorem i_153_137 : ins 153 137 = some (.iload_n 2) := by decide +kernel
theorem i_153_138 : ins 153 138 = some (.invokevirtual 154) := by decide +kernel
theorem i_153_141 : ins 153 141 = some (.goto 12) := by decide +kernel
theorem i_153_144 : ins 153 144 = some (.aload_n 0) := by decide +kernel
theorem i_153_145 : ins 153 145 = some (.getfield 7) := by decide +kernel
theorem i_153_148 : ins 153 148 = some (.iconst 0) := by decide +kernel
theorem i_153_149 : ins 153 149 = some (.iload_n 2) := by decide +kernel
theorem i_153_150 : ins 153 150 = some (.iadd) := by decide +kernel
theorem i_153_151 : ins 153 151 = some (.iconst 4) := by decide +kernel
theorem i_153_152 : ins 153 152 = some (.iastore) := by decide +kernel
theorem i_153_153 : ins 153 153 = some (.return_) := by decide +kernel
theorem o_154 : mOwn 154 = 8 := rfl
theorem i_154_0 : ins 154 0 = some (.aload_n 0) := by decide +kernel
theorem i_154_1 : ins 154 1 = some (.getfield 129) := by decide +kernel
theorem i_154_4 : ins 154 4 = some (.bipush 24) := by decide +kernel
theorem i_154_6 : ins 154 6 = some (.if_icmp .ne 40) := by decide +kernel
theorem i_154_9 : ins 154 9 = some (.iconst 0) := by decide +kernel
theorem i_154_10 : ins 154 10 = some (.istore_n 1) := by decide +kernel
theorem i_154_11 : ins 154 11 = some (.iload_n 1) := by decide +kernel
theorem i_154_12 : ins 154 12 = some (.sipush 3335) := by decide +kernel
theorem i_154_15 : ins 154 15 = some (.if_icmp .ge 25) := by decide +kernel
theorem i_154_18 : ins 154 18 = some (.aload_n 0) := by decide +kernel
theorem i_154_19 : ins 154 19 = some (.getfield 20) := by decide +kernel
theorem i_154_22 : ins 154 22 = some (.iload_n 1) := by decide +kernel
theorem i_154_23 : ins 154 23 = some (.aload_n 0) := by decide +kernel
theorem i_154_24 : ins 154 24 = some (.getfield 20) := by decide +kernel
theorem i_154_27 : ins 154 27 = some (.iload_n 1) := by decide +kernel
theorem i_154_28 : ins 154 28 = some (.sipush 145) := by decide +kernel
theorem i_154_31 : ins 154 31 = some (.iadd) := by decide +kernel
theorem i_154_32 : ins 154 32 = some (.iaload) := by decide +kernel
theorem i_154_33 : ins 154 33 = some (.iastore) := by decide +kernel
theorem i_154_34 : ins 154 34 = some (.iinc 1 1) := by decide +kernel
theorem i_154_37 : ins 154 37 = some (.goto (-26)) := by decide +kernel
theorem i_154_40 : ins 154 40 = some (.aload_n 0) := by decide +kernel
theorem i_154_41 : ins 154 41 = some (.bipush 23) := by decide +kernel
theorem i_154_43 : ins 154 43 = some (.putfield 129) := by decide +kernel
theorem i_154_46 : ins 154 46 = some (.iconst 0) := by decide +kernel
theorem i_154_47 : ins 154 47 = some (.istore_n 1) := by decide +kernel
theorem i_154_48 : ins 154 48 = some (.iload_n 1) := by decide +kernel
theorem i_154_49 : ins 154 49 = some (.sipush 145) := by decide +kernel
theorem i_154_52 : ins 154 52 = some (.if_icmp .ge 30) := by decide +kernel
theorem i_154_55 : ins 154 55 = some (.aload_n 0) := by decide +kernel
theorem i_154_56 : ins 154 56 = some (.getfield 20) := by decide +kernel
theorem i_154_59 : ins 154 59 = some (.sipush 145) := by decide +kernel
theorem i_154_62 : ins 154 62 = some (.aload_n 0) := by decide +kernel
theorem i_154_63 : ins 154 63 = some (.getfield 129) := by decide +kernel
theorem i_154_66 : ins 154 66 = some (.imul) := by decide +kernel
theorem i_154_67 : ins 154 67 = some (.iload_n 1) := by decide +kernel
theorem i_154_68 : ins 154 68 = some (.iadd) := by decide +kernel
theorem i_154_69 : ins 154 69 = some (.aload_n 0) := by decide +kernel
theorem i_154_70 : ins 154 70 = some (.getfield 7) := by decide +kernel
theorem i_154_73 : ins 154 73 = some (.iload_n 1) := by decide +kernel
theorem i_154_74 : ins 154 74 = some (.iaload) := by decide +kernel
theorem i_154_75 : ins 154 75 = some (.iastore) := by decide +kernel
theorem i_154_76 : ins 154 76 = some (.iinc 1 1) := by decide +kernel
theorem i_154_79 : ins 154 79 = some (.goto (-31)) := by decide +kernel
theorem i_154_82 : ins 154 82 = some (.aload_n 0) := by decide +kernel
theorem i_154_83 : ins 154 83 = some (.dup) := by decide +kernel
theorem i_154_84 : ins 154 84 = some (.getfield 129) := by decide +kernel
theorem i_154_87 : ins 154 87 = some (.iconst 1) := by decide +kernel
theorem i_154_88 : ins 154 88 = some (.iadd) := by decide +kernel
theorem i_154_89 : ins 154 89 = some (.putfield 129) := by decide +kernel
theorem i_154_92 : ins 154 92 = some (.return_) := by decide +kernel
theorem o_155 : mOwn 155 = 8 := rfl
theorem i_155_0 : ins 155 0 = some (.aload_n 0) := by decide +kernel
theorem i_155_1 : ins 155 1 = some (.invokevirtual 157) := by decide +kernel
theorem i_155_4 : ins 155 4 = some (.ifCond .ne 6) := by decide +kernel
theorem i_155_7 : ins 155 7 = some (.ldc 161) := by decide +kernel
theorem i_155_9 : ins 155 9 = some (.ireturn) := by decide +kernel
theorem i_155_10 : ins 155 10 = some (.iload_n 1) := by decide +kernel
theorem i_155_11 : ins 155 11 = some (.i2l) := by decide +kernel
theorem i_155_12 : ins 155 12 = some (.lconst 1) := by decide +kernel
theorem i_155_13 : ins 155 13 = some (.ldc2_w 162) := by decide +kernel
theorem i_155_16 : ins 155 16 = some (.invokestatic 63) := by decide +kernel
theorem i_155_19 : ins 155 19 = some (.ifCond .ne 6) := by decide +kernel
theorem i_155_22 : ins 155 22 = some (.ldc 73) := by decide +kernel
theorem i_155_24 : ins 155 24 = some (.ireturn) := by decide +kernel
theorem i_155_25 : ins 155 25 = some (.aload_n 0) := by decide +kernel
theorem i_155_26 : ins 155 26 = some (.getfield 7) := by decide +kernel
theorem i_155_29 : ins 155 29 = some (.sipush 142) := by decide +kernel
theorem i_155_32 : ins 155 32 = some (.iaload) := by decide +kernel
theorem i_155_33 : ins 155 33 = some (.iload_n 1) := by decide +kernel
theorem i_155_34 : ins 155 34 = some (.iadd) := by decide +kernel
theorem i_155_35 : ins 155 35 = some (.sipush 999) := by decide +kernel
theorem i_155_38 : ins 155 38 = some (.if_icmp .le 6) := by decide +kernel
theorem i_155_41 : ins 155 41 = some (.ldc 86) := by decide +kernel
theorem i_155_43 : ins 155 43 = some (.ireturn) := by decide +kernel
theorem i_155_44 : ins 155 44 = some (.iconst 0) := by decide +kernel
theorem i_155_45 : ins 155 45 = some (.istore_n 2) := by decide +kernel
theorem i_155_46 : ins 155 46 = some (.iload_n 2) := by decide +kernel
theorem i_155_47 : ins 155 47 = some (.iload_n 1) := by decide +kernel
theorem i_155_48 : ins 155 48 = some (.if_icmp .ge 18) := by decide +kernel
theorem i_155_51 : ins 155 51 = some (.aload_n 0) := by decide +kernel
theorem i_155_52 : ins 155 52 = some (.invokevirtual 164) := by decide +kernel
theorem i_155_55 : ins 155 55 = some (.aload_n 0) := by decide +kernel
theorem i_155_56 : ins 155 56 = some (.iconst 1) := by decide +kernel
theorem i_155_57 : ins 155 57 = some (.invokevirtual 167) := by decide +kernel
theorem i_155_60 : ins 155 60 = some (.iinc 2 1) := by decide +kernel
theorem i_155_63 : ins 155 63 = some (.goto (-17)) := by decide +kernel
theorem i_155_66 : ins 155 66 = some (.aload_n 0) := by decide +kernel
theorem i_155_67 : ins 155 67 = some (.getfield 7) := by decide +kernel
theorem i_155_70 : ins 155 70 = some (.sipush 140) := by decide +kernel
theorem i_155_73 : ins 155 73 = some (.iaload) := by decide +kernel
theorem i_155_74 : ins 155 74 = some (.ireturn) := by decide +kernel
theorem o_156 : mOwn 156 = 8 := rfl
theorem i_156_0 : ins 156 0 = some (.aload_n 0) := by decide +kernel
theorem i_156_1 : ins 156 1 = some (.getfield 7) := by decide +kernel
theorem i_156_4 : ins 156 4 = some (.iconst 0) := by decide +kernel
theorem i_156_5 : ins 156 5 = some (.iload_n 1) := by decide +kernel
theorem i_156_6 : ins 156 6 = some (.iadd) := by decide +kernel
theorem i_156_7 : ins 156 7 = some (.iaload) := by decide +kernel
theorem i_156_8 : ins 156 8 = some (.iconst 1) := by decide +kernel
theorem i_156_9 : ins 156 9 = some (.if_icmp .ne 7) := by decide +kernel
theorem i_156_12 : ins 156 12 = some (.iconst 1) := by decide +kernel
theorem i_156_13 : ins 156 13 = some (.goto 4) := by decide +kernel
theorem i_156_16 : ins 156 16 = some (.iconst 0) := by decide +kernel
theorem i_156_17 : ins 156 17 = some (.ireturn) := by decide +kernel
theorem o_157 : mOwn 157 = 8 := rfl
theorem i_157_0 : ins 157 0 = some (.aload_n 0) := by decide +kernel
theorem i_157_1 : ins 157 1 = some (.getfield 7) := by decide +kernel
theorem i_157_4 : ins 157 4 = some (.bipush 56) := by decide +kernel
theorem i_157_6 : ins 157 6 = some (.iload_n 1) := by decide +kernel
theorem i_157_7 : ins 157 7 = some (.iadd) := by decide +kernel
theorem i_157_8 : ins 157 8 = some (.iload_n 2) := by decide +kernel
theorem i_157_9 : ins 157 9 = some (.iastore) := by decide +kernel
theorem i_157_10 : ins 157 10 = some (.aload_n 0) := by decide +kernel
theorem i_157_11 : ins 157 11 = some (.getfield 7) := by decide +kernel
theorem i_157_14 : ins 157 14 = some (.bipush 84) := by decide +kernel
theorem i_157_16 : ins 157 16 = some (.iload_n 1) := by decide +kernel
theorem i_157_17 : ins 157 17 = some (.iadd) := by decide +kernel
theorem i_157_18 : ins 157 18 = some (.iload_n 1) := by decide +kernel
theorem i_157_19 : ins 157 19 = some (.iastore) := by decide +kernel
theorem i_157_20 : ins 157 20 = some (.return_) := by decide +kernel
theorem o_158 : mOwn 158 = 8 := rfl
theorem i_158_0 : ins 158 0 = some (.aload_n 0) := by decide +kernel
theorem i_158_1 : ins 158 1 = some (.iload_n 1) := by decide +kernel
theorem i_158_2 : ins 158 2 = some (.invokevirtual 171) := by decide +kernel
theorem i_158_5 : ins 158 5 = some (.ifCond .eq 15) := by decide +kernel
theorem i_158_8 : ins 158 8 = some (.iload_n 2) := by decide +kernel
theorem i_158_9 : ins 158 9 = some (.i2l) := by decide +kernel
theorem i_158_10 : ins 158 10 = some (.lconst 0) := by decide +kernel
theorem i_158_11 : ins 158 11 = some (.ldc2_w 174) := by decide +kernel
theorem i_158_14 : ins 158 14 = some (.invokestatic 63) := by decide +kernel
theorem i_158_17 : ins 158 17 = some (.ifCond .ne 6) := by decide +kernel
theorem i_158_20 : ins 158 20 = some (.ldc 73) := by decide +kernel
theorem i_158_22 : ins 158 22 = some (.ireturn) := by decide +kernel
theorem i_158_23 : ins 158 23 = some (.aload_n 0) := by decide +kernel
theorem i_158_24 : ins 158 24 = some (.iload_n 1) := by decide +kernel
theorem i_158_25 : ins 158 25 = some (.invokevirtual 176) := by decide +kernel
theorem i_158_28 : ins 158 28 = some (.ifCond .ne 6) := by decide +kernel
theorem i_158_31 : ins 158 31 = some (.ldc 161) := by decide +kernel
theorem i_158_33 : ins 158 33 = some (.ireturn) := by decide +kernel
theorem i_158_34 : ins 158 34 = some (.aload_n 0) := by decide +kernel
theorem i_158_35 : ins 158 35 = some (.invokevirtual 164) := by decide +kernel
theorem i_158_38 : ins 158 38 = some (.aload_n 0) := by decide +kernel
theorem i_158_39 : ins 158 39 = some (.iload_n 1) := by decide +kernel
theorem i_158_40 : ins 158 40 = some (.invokevirtual 135) := by decide +kernel
theorem i_158_43 : ins 158 43 = some (.istore_n 3) := by decide +kernel
theorem i_158_44 : ins 158 44 = some (.aload_n 0) := by decide +kernel
theorem i_158_45 : ins 158 45 = some (.iload_n 1) := by decide +kernel
theorem i_158_46 : ins 158 46 = some (.iload_n 2) := by decide +kernel
theorem i_158_47 : ins 158 47 = some (.invokevirtual 179) := by decide +kernel
theorem i_158_50 : ins 158 50 = some (.iload_n 3) := by decide +kernel
theorem i_158_51 : ins 158 51 = some (.ireturn) := by decide +kernel
theorem o_159 : mOwn 159 = 8 := rfl
theorem i_159_0 : ins 159 0 = some (.ldc 183) := by decide +kernel
theorem i_159_2 : ins 159 2 = some (.istore_n 2) := by decide +kernel
theorem i_159_3 : ins 159 3 = some (.iconst 0) := by decide +kernel
theorem i_159_4 : ins 159 4 = some (.istore_n 3) := by decide +kernel
theorem i_159_5 : ins 159 5 = some (.iload_n 3) := by decide +kernel
theorem i_159_6 : ins 159 6 = some (.aload_n 0) := by decide +kernel
theorem i_159_7 : ins 159 7 = some (.getfield 7) := by decide +kernel
theorem i_159_10 : ins 159 10 = some (.sipush 140) := by decide +kernel
theorem i_159_13 : ins 159 13 = some (.iaload) := by decide +kernel
theorem i_159_14 : ins 159 14 = some (.if_icmp .ge 28) := by decide +kernel
theorem i_159_17 : ins 159 17 = some (.aload_n 0) := by decide +kernel
theorem i_159_18 : ins 159 18 = some (.getfield 7) := by decide +kernel
theorem i_159_21 : ins 159 21 = some (.bipush 112) := by decide +kernel
theorem i_159_23 : ins 159 23 = some (.iload_n 3) := by decide +kernel
theorem i_159_24 : ins 159 24 = some (.iadd) := by decide +kernel
theorem i_159_25 : ins 159 25 = some (.iaload) := by decide +kernel
theorem i_159_26 : ins 159 26 = some (.iload_n 1) := by decide +kernel
theorem i_159_27 : ins 159 27 = some (.if_icmp .ne 7) := by decide +kernel
theorem i_159_30 : ins 159 30 = some (.iload_n 3) := by decide +kernel
theorem i_159_31 : ins 159 31 = some (.goto 4) := by decide +kernel
theorem i_159_34 : ins 159 34 = some (.iload_n 2) := by decide +kernel
theorem i_159_35 : ins 159 35 = some (.istore_n 2) := by decide +kernel
theorem i_159_36 : ins 159 36 = some (.iinc 3 1) := by decide +kernel
theorem i_159_39 : ins 159 39 = some (.goto (-34)) := by decide +kernel
theorem i_159_42 : ins 159 42 = some (.iload_n 2) := by decide +kernel
theorem i_159_43 : ins 159 43 = some (.ireturn) := by decide +kernel
theorem o_160 : mOwn 160 = 8 := rfl
theorem i_160_0 : ins 160 0 = some (.aload_n 0) := by decide +kernel
theorem i_160_1 : ins 160 1 = some (.iload_n 1) := by decide +kernel
theorem i_160_2 : ins 160 2 = some (.invokevirtual 171) := by decide +kernel
theorem i_160_5 : ins 160 5 = some (.ifCond .ne 6) := by decide +kernel
theorem i_160_8 : ins 160 8 = some (.ldc 73) := by decide +kernel
theorem i_160_10 : ins 160 10 = some (.ireturn) := by decide +kernel
theorem i_160_11 : ins 160 11 = some (.aload_n 0) := by decide +kernel
theorem i_160_12 : ins 160 12 = some (.iload_n 1) := by decide +kernel
theorem i_160_13 : ins 160 13 = some (.invokevirtual 176) := by decide +kernel
theorem i_160_16 : ins 160 16 = some (.ifCond .ne 6) := by decide +kernel
theorem i_160_19 : ins 160 19 = some (.ldc 161) := by decide +kernel
theorem i_160_21 : ins 160 21 = some (.ireturn) := by decide +kernel
theorem i_160_22 : ins 160 22 = some (.aload_n 0) := by decide +kernel
theorem i_160_23 : ins 160 23 = some (.invokevirtual 164) := by decide +kernel
theorem i_160_26 : ins 160 26 = some (.aload_n 0) := by decide +kernel
theorem i_160_27 : ins 160 27 = some (.aload_n 0) := by decide +kernel
theorem i_160_28 : ins 160 28 = some (.iload_n 1) := by decide +kernel
theorem i_160_29 : ins 160 29 = some (.invokevirtual 184) := by decide +kernel
theorem i_160_32 : ins 160 32 = some (.invokevirtual 144) := by decide +kernel
theorem i_160_35 : ins 160 35 = some (.aload_n 0) := by decide +kernel
theorem i_160_36 : ins 160 36 = some (.getfield 7) := by decide +kernel
theorem i_160_39 : ins 160 39 = some (.iconst 0) := by decide +kernel
theorem i_160_40 : ins 160 40 = some (.iload_n 1) := by decide +kernel
theorem i_160_41 : ins 160 41 = some (.iadd) := by decide +kernel
theorem i_160_42 : ins 160 42 = some (.iconst 3) := by decide +kernel
theorem i_160_43 : ins 160 43 = some (.iastore) := by decide +kernel
theorem i_160_44 : ins 160 44 = some (.aload_n 0) := by decide +kernel
theorem i_160_45 : ins 160 45 = some (.getfield 7) := by decide +kernel
theorem i_160_48 : ins 160 48 = some (.sipush 140) := by decide +kernel
theorem i_160_51 : ins 160 51 = some (.iaload) := by decide +kernel
theorem i_160_52 : ins 160 52 = some (.ireturn) := by decide +kernel
theorem o_161 : mOwn 161 = 8 := rfl
theorem i_161_0 : ins 161 0 = some (.aload_n 0) := by decide +kernel
theorem i_161_1 : ins 161 1 = some (.invokevirtual 157) := by decide +kernel
theorem i_161_4 : ins 161 4 = some (.ifCond .ne 6) := by decide +kernel
theorem i_161_7 : ins 161 7 = some (.ldc 161) := by decide +kernel
theorem i_161_9 : ins 161 9 = some (.ireturn) := by decide +kernel
theorem i_161_10 : ins 161 10 = some (.iload_n 1) := by decide +kernel
theorem i_161_11 : ins 161 11 = some (.i2l) := by decide +kernel
theorem i_161_12 : ins 161 12 = some (.lconst 0) := by decide +kernel
theorem i_161_13 : ins 161 13 = some (.ldc2_w 174) := by decide +kernel
theorem i_161_16 : ins 161 16 = some (.invokestatic 63) := by decide +kernel
theorem i_161_19 : ins 161 19 = some (.ifCond .eq 15) := by decide +kernel
theorem i_161_22 : ins 161 22 = some (.iload_n 2) := by decide +kernel
theorem i_161_23 : ins 161 23 = some (.i2l) := by decide +kernel
theorem i_161_24 : ins 161 24 = some (.lconst 0) := by decide +kernel
theorem i_161_25 : ins 161 25 = some (.ldc2_w 187) := by decide +kernel
theorem i_161_28 : ins 161 28 = some (.invokestatic 63) := by decide +kernel
theorem i_161_31 : ins 161 31 = some (.ifCond .ne 6) := by decide +kernel
theorem i_161_34 : ins 161 34 = some (.ldc 73) := by decide +kernel
theorem i_161_36 : ins 161 36 = some (.ireturn) := by decide +kernel
theorem i_161_37 : ins 161 37 = some (.aload_n 0) := by decide +kernel
theorem i_161_38 : ins 161 38 = some (.invokevirtual 164) := by decide +kernel
theorem i_161_41 : ins 161 41 = some (.bipush 10) := by decide +kernel
theorem i_161_43 : ins 161 43 = some (.aload_n 0) := by decide +kernel
theorem i_161_44 : ins 161 44 = some (.getfield 7) := by decide +kernel
theorem i_161_47 : ins 161 47 = some (.sipush 143) := by decide +kernel
theorem i_161_50 : ins 161 50 = some (.iaload) := by decide +kernel
theorem i_161_51 : ins 161 51 = some (.imul) := by decide +kernel
theorem i_161_52 : ins 161 52 = some (.aload_n 0) := by decide +kernel
theorem i_161_53 : ins 161 53 = some (.getfield 7) := by decide +kernel
theorem i_161_56 : ins 161 56 = some (.sipush 144) := by decide +kernel
theorem i_161_59 : ins 161 59 = some (.iaload) := by decide +kernel
theorem i_161_60 : ins 161 60 = some (.iadd) := by decide +kernel
theorem i_161_61 : ins 161 61 = some (.istore_n 3) := by decide +kernel
theorem i_161_62 : ins 161 62 = some (.aload_n 0) := by decide +kernel
theorem i_161_63 : ins 161 63 = some (.getfield 7) := by decide +kernel
theorem i_161_66 : ins 161 66 = some (.sipush 143) := by decide +kernel
theorem i_161_69 : ins 161 69 = some (.iload_n 1) := by decide +kernel
theorem i_161_70 : ins 161 70 = some (.iastore) := by decide +kernel
theorem i_161_71 : ins 161 71 = some (.aload_n 0) := by decide +kernel
theorem i_161_72 : ins 161 72 = some (.getfield 7) := by decide +kernel
theorem i_161_75 : ins 161 75 = some (.sipush 144) := by decide +kernel
theorem i_161_78 : ins 161 78 = some (.iload_n 2) := by decide +kernel
theorem i_161_79 : ins 161 79 = some (.iastore) := by decide +kernel
theorem i_161_80 : ins 161 80 = some (.iload_n 3) := by decide +kernel
theorem i_161_81 : ins 161 81 = some (.ireturn) := by decide +kernel
theorem o_162 : mOwn 162 = 8 := rfl
theorem i_162_0 : ins 162 0 = some (.aload_n 0) := by decide +kernel
theorem i_162_1 : ins 162 1 = some (.getfield 129) := by decide +kernel
theorem i_162_4 : ins 162 4 = some (.ifCond .ne 6) := by decide +kernel
theorem i_162_7 : ins 162 7 = some (.ldc 161) := by decide +kernel
theorem i_162_9 : ins 162 9 = some (.ireturn) := by decide +kernel
theorem i_162_10 : ins 162 10 = some (.aload_n 0) := by decide +kernel
theorem i_162_11 : ins 162 11 = some (.dup) := by decide +kernel
theorem i_162_12 : ins 162 12 = some (.getfield 129) := by decide +kernel
theorem i_162_15 : ins 162 15 = some (.iconst 1) := by decide +kernel
theorem i_162_16 : ins 162 16 = some (.isub) := by decide +kernel
theorem i_162_17 : ins 162 17 = some (.putfield 129) := by decide +kernel
theorem i_162_20 : ins 162 20 = some (.iconst 0) := by decide +kernel
theorem i_162_21 : ins 162 21 = some (.istore_n 1) := by decide +kernel
theorem i_162_22 : ins 162 22 = some (.iload_n 1) := by decide +kernel
theorem i_162_23 : ins 162 23 = some (.sipush 145) := by decide +kernel
theorem i_162_26 : ins 162 26 = some (.if_icmp .ge 30) := by decide +kernel
theorem i_162_29 : ins 162 29 = some (.aload_n 0) := by decide +kernel
theorem i_162_30 : ins 162 30 = some (.getfield 7) := by decide +kernel
theorem i_162_33 : ins 162 33 = some (.iload_n 1) := by decide +kernel
theorem i_162_34 : ins 162 34 = some (.aload_n 0) := by decide +kernel
theorem i_162_35 : ins 162 35 = some (.getfield 20) := by decide +kernel
theorem i_162_38 : ins 162 38 = some (.sipush 145) := by decide +kernel
theorem i_162_41 : ins 162 41 = some (.aload_n 0) := by decide +kernel
theorem i_162_42 : ins 162 42 = some (.getfield 129) := by decide +kernel
theorem i_162_45 : ins 162 45 = some (.imul) := by decide +kernel
theorem i_162_46 : ins 162 46 = some (.iload_n 1) := by decide +kernel
theorem i_162_47 : ins 162 47 = some (.iadd) := by decide +kernel
theorem i_162_48 : ins 162 48 = some (.iaload) := by decide +kernel
theorem i_162_49 : ins 162 49 = some (.iastore) := by decide +kernel
theorem i_162_50 : ins 162 50 = some (.iinc 1 1) := by decide +kernel
theorem i_162_53 : ins 162 53 = some (.goto (-31)) := by decide +kernel
theorem i_162_56 : ins 162 56 = some (.aload_n 0) := by decide +kernel
theorem i_162_57 : ins 162 57 = some (.getfield 129) := by decide +kernel
theorem i_162_60 : ins 162 60 = some (.ireturn) := by decide +kernel
theorem o_163 : mOwn 163 = 8 := rfl
theorem i_163_0 : ins 163 0 = some (.aload_n 0) := by decide +kernel
theorem i_163_1 : ins 163 1 = some (.iload_n 1) := by decide +kernel
theorem i_163_2 : ins 163 2 = some (.invokevirtual 171) := by decide +kernel
theorem i_163_5 : ins 163 5 = some (.ifCond .eq 15) := by decide +kernel
theorem i_163_8 : ins 163 8 = some (.iload_n 2) := by decide +kernel
theorem i_163_9 : ins 163 9 = some (.i2l) := by decide +kernel
theorem i_163_10 : ins 163 10 = some (.lconst 0) := by decide +kernel
theorem i_163_11 : ins 163 11 = some (.ldc2_w 189) := by decide +kernel
theorem i_163_14 : ins 163 14 = some (.invokestatic 63) := by decide +kernel
theorem i_163_17 : ins 163 17 = some (.ifCond .ne 6) := by decide +kernel
theorem i_163_20 : ins 163 20 = some (.ldc 73) := by decide +kernel
theorem i_163_22 : ins 163 22 = some (.ireturn) := by decide +kernel
theorem i_163_23 : ins 163 23 = some (.iload_n 2) := by decide +kernel
theorem i_163_24 : ins 163 24 = some (.tableswitch 78 0 4 #[36, 42, 51, 61, 67]) := by decide +kernel
theorem i_163_60 : ins 163 60 = some (.aload_n 0) := by decide +kernel
theorem i_163_61 : ins 163 61 = some (.iload_n 1) := by decide +kernel
theorem i_163_62 : ins 163 62 = some (.invokevirtual 184) := by decide +kernel
theorem i_163_65 : ins 163 65 = some (.ireturn) := by decide +kernel
theorem i_163_66 : ins 163 66 = some (.aload_n 0) := by decide +kernel
theorem i_163_67 : ins 163 67 = some (.getfield 7) := by decide +kernel
theorem i_163_70 : ins 163 70 = some (.iconst 0) := by decide +kernel
theorem i_163_71 : ins 163 71 = some (.iload_n 1) := by decide +kernel
theorem i_163_72 : ins 163 72 = some (.iadd) := by decide +kernel
theorem i_163_73 : ins 163 73 = some (.iaload) := by decide +kernel
theorem i_163_74 : ins 163 74 = some (.ireturn) := by decide +kernel
theorem i_163_75 : ins 163 75 = some (.aload_n 0) := by decide +kernel
theorem i_163_76 : ins 163 76 = some (.getfield 7) := by decide +kernel
theorem i_163_79 : ins 163 79 = some (.bipush 28) := by decide +kernel
theorem i_163_81 : ins 163 81 = some (.iload_n 1) := by decide +kernel
theorem i_163_82 : ins 163 82 = some (.iadd) := by decide +kernel
theorem i_163_83 : ins 163 83 = some (.iaload) := by decide +kernel
theorem i_163_84 : ins 163 84 = some (.ireturn) := by decide +kernel
theorem i_163_85 : ins 163 85 = some (.aload_n 0) := by decide +kernel
theorem i_163_86 : ins 163 86 = some (.iload_n 1) := by decide +kernel
theorem i_163_87 : ins 163 87 = some (.invokevirtual 135) := by decide +kernel
theorem i_163_90 : ins 163 90 = some (.ireturn) := by decide +kernel
theorem i_163_91 : ins 163 91 = some (.aload_n 0) := by decide +kernel
theorem i_163_92 : ins 163 92 = some (.getfield 7) := by decide +kernel
theorem i_163_95 : ins 163 95 = some (.sipush 173) := by decide +kernel
theorem i_163_98 : ins 163 98 = some (.iload_n 1) := by decide +kernel
theorem i_163_99 : ins 163 99 = some (.iadd) := by decide +kernel
theorem i_163_100 : ins 163 100 = some (.iaload) := by decide +kernel
theorem i_163_101 : ins 163 101 = some (.ireturn) := by decide +kernel
theorem i_163_102 : ins 163 102 = some (.aload_n 0) := by decide +kernel
theorem i_163_103 : ins 163 103 = some (.getfield 7) := by decide +kernel
theorem i_163_106 : ins 163 106 = some (.bipush 84) := by decide +kernel
theorem i_163_108 : ins 163 108 = some (.iload_n 1) := by decide +kernel
theorem i_163_109 : ins 163 109 = some (.iadd) := by decide +kernel
theorem i_163_110 : ins 163 110 = some (.iaload) := by decide +kernel
theorem i_163_111 : ins 163 111 = some (.ireturn) := by decide +kernel
theorem o_164 : mOwn 164 = 8 := rfl
theorem i_164_0 : ins 164 0 = some (.iload_n 1) := by decide +kernel
theorem i_164_1 : ins 164 1 = some (.ifCond .ge 8) := by decide +kernel
theorem i_164_4 : ins 164 4 = some (.ldc 73) := by decide +kernel
theorem i_164_6 : ins 164 6 = some (.goto 29) := by decide +kernel
theorem i_164_9 : ins 164 9 = some (.iload_n 1) := by decide +kernel
theorem i_164_10 : ins 164 10 = some (.aload_n 0) := by decide +kernel
theorem i_164_11 : ins 164 11 = some (.getfield 7) := by decide +kernel
theorem i_164_14 : ins 164 14 = some (.sipush 140) := by decide +kernel
theorem i_164_17 : ins 164 17 = some (.iaload) := by decide +kernel
theorem i_164_18 : ins 164 18 = some (.if_icmp .ge 15) := by decide +kernel
theorem i_164_21 : ins 164 21 = some (.aload_n 0) := by decide +kernel
theorem i_164_22 : ins 164 22 = some (.getfield 7) := by decide +kernel
theorem i_164_25 : ins 164 25 = some (.bipush 112) := by decide +kernel
theorem i_164_27 : ins 164 27 = some (.iload_n 1) := by decide +kernel
theorem i_164_28 : ins 164 28 = some (.iadd) := by decide +kernel
theorem i_164_29 : ins 164 29 = some (.iaload) := by decide +kernel
theorem i_164_30 : ins 164 30 = some (.goto 5) := by decide +kernel
theorem i_164_33 : ins 164 33 = some (.ldc 183) := by decide +kernel
theorem i_164_35 : ins 164 35 = some (.ireturn) := by decide +kernel
