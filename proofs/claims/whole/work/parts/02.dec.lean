theorem dX0_init_0 : decode cX0_init 0 = .ok (.aload_n 0, 1) := by decide +kernel
theorem dX0_init_1 : decode cX0_init 1 = .ok (.invokespecial 3, 3) := by decide +kernel
theorem dX0_init_4 : decode cX0_init 4 = .ok (.aload_n 0, 1) := by decide +kernel
theorem dX0_init_5 : decode cX0_init 5 = .ok (.iconst 0, 1) := by decide +kernel
theorem dX0_init_6 : decode cX0_init 6 = .ok (.putfield 11, 3) := by decide +kernel
theorem dX0_init_9 : decode cX0_init 9 = .ok (.return_, 1) := by decide +kernel
theorem dX0_restart_0 : decode cX0_restart 0 = .ok (.aload_n 0, 1) := by decide +kernel
theorem dX0_restart_1 : decode cX0_restart 1 = .ok (.iconst 0, 1) := by decide +kernel
theorem dX0_restart_2 : decode cX0_restart 2 = .ok (.putfield 11, 3) := by decide +kernel
theorem dX0_restart_5 : decode cX0_restart 5 = .ok (.return_, 1) := by decide +kernel
theorem dX0_isComplete_0 : decode cX0_isComplete 0 = .ok (.aload_n 0, 1) := by decide +kernel
theorem dX0_isComplete_1 : decode cX0_isComplete 1 = .ok (.getfield 11, 3) := by decide +kernel
theorem dX0_isComplete_4 : decode cX0_isComplete 4 = .ok (.bipush 6, 2) := by decide +kernel
theorem dX0_isComplete_6 : decode cX0_isComplete 6 = .ok (.if_icmp .eq 12, 3) := by decide +kernel
theorem dX0_isComplete_9 : decode cX0_isComplete 9 = .ok (.aload_n 0, 1) := by decide +kernel
theorem dX0_isComplete_10 : decode cX0_isComplete 10 = .ok (.getfield 11, 3) := by decide +kernel
theorem dX0_isComplete_13 : decode cX0_isComplete 13 = .ok (.bipush 8, 2) := by decide +kernel
theorem dX0_isComplete_15 : decode cX0_isComplete 15 = .ok (.if_icmp .ne 7, 3) := by decide +kernel
theorem dX0_isComplete_18 : decode cX0_isComplete 18 = .ok (.iconst 1, 1) := by decide +kernel
theorem dX0_isComplete_19 : decode cX0_isComplete 19 = .ok (.goto 4, 3) := by decide +kernel
theorem dX0_isComplete_22 : decode cX0_isComplete 22 = .ok (.iconst 0, 1) := by decide +kernel
theorem dX0_isComplete_23 : decode cX0_isComplete 23 = .ok (.ireturn, 1) := by decide +kernel
theorem dX0_accepts_0 : decode cX0_accepts 0 = .ok (.aload_n 0, 1) := by decide +kernel
theorem dX0_accepts_1 : decode cX0_accepts 1 = .ok (.getfield 11, 3) := by decide +kernel
theorem dX0_accepts_4 : decode cX0_accepts 4 = .ok (.tableswitch 147 0 7 #[48, 54, 60, 69, 75, 100, 111, 136], 48) := by decide +kernel
theorem dX0_accepts_52 : decode cX0_accepts 52 = .ok (.aload_n 0, 1) := by decide +kernel
theorem dX0_accepts_53 : decode cX0_accepts 53 = .ok (.iload_n 1, 1) := by decide +kernel
theorem dX0_accepts_54 : decode cX0_accepts 54 = .ok (.invokevirtual 15, 3) := by decide +kernel
theorem dX0_accepts_57 : decode cX0_accepts 57 = .ok (.ireturn, 1) := by decide +kernel
theorem dX0_accepts_58 : decode cX0_accepts 58 = .ok (.aload_n 0, 1) := by decide +kernel
theorem dX0_accepts_59 : decode cX0_accepts 59 = .ok (.iload_n 1, 1) := by decide +kernel
theorem dX0_accepts_60 : decode cX0_accepts 60 = .ok (.invokevirtual 19, 3) := by decide +kernel
theorem dX0_accepts_63 : decode cX0_accepts 63 = .ok (.ireturn, 1) := by decide +kernel
theorem dX0_accepts_64 : decode cX0_accepts 64 = .ok (.aload_n 0, 1) := by decide +kernel
theorem dX0_accepts_65 : decode cX0_accepts 65 = .ok (.iload_n 1, 1) := by decide +kernel
theorem dX0_accepts_66 : decode cX0_accepts 66 = .ok (.bipush 62, 2) := by decide +kernel
theorem dX0_accepts_68 : decode cX0_accepts 68 = .ok (.iconst 3, 1) := by decide +kernel
theorem dX0_accepts_69 : decode cX0_accepts 69 = .ok (.invokevirtual 22, 3) := by decide +kernel
theorem dX0_accepts_72 : decode cX0_accepts 72 = .ok (.ireturn, 1) := by decide +kernel
theorem dX0_accepts_73 : decode cX0_accepts 73 = .ok (.aload_n 0, 1) := by decide +kernel
theorem dX0_accepts_74 : decode cX0_accepts 74 = .ok (.iload_n 1, 1) := by decide +kernel
theorem dX0_accepts_75 : decode cX0_accepts 75 = .ok (.invokevirtual 26, 3) := by decide +kernel
theorem dX0_accepts_78 : decode cX0_accepts 78 = .ok (.ireturn, 1) := by decide +kernel
theorem dX0_accepts_79 : decode cX0_accepts 79 = .ok (.aload_n 0, 1) := by decide +kernel
theorem dX0_accepts_80 : decode cX0_accepts 80 = .ok (.iload_n 1, 1) := by decide +kernel
theorem dX0_accepts_81 : decode cX0_accepts 81 = .ok (.bipush 58, 2) := by decide +kernel
theorem dX0_accepts_83 : decode cX0_accepts 83 = .ok (.iconst 5, 1) := by decide +kernel
theorem dX0_accepts_84 : decode cX0_accepts 84 = .ok (.invokevirtual 22, 3) := by decide +kernel
theorem dX0_accepts_87 : decode cX0_accepts 87 = .ok (.ifCond .ne 11, 3) := by decide +kernel
theorem dX0_accepts_90 : decode cX0_accepts 90 = .ok (.aload_n 0, 1) := by decide +kernel
theorem dX0_accepts_91 : decode cX0_accepts 91 = .ok (.iload_n 1, 1) := by decide +kernel
theorem dX0_accepts_92 : decode cX0_accepts 92 = .ok (.invokevirtual 26, 3) := by decide +kernel
theorem dX0_accepts_95 : decode cX0_accepts 95 = .ok (.ifCond .eq 7, 3) := by decide +kernel
theorem dX0_accepts_98 : decode cX0_accepts 98 = .ok (.iconst 1, 1) := by decide +kernel
theorem dX0_accepts_99 : decode cX0_accepts 99 = .ok (.goto 4, 3) := by decide +kernel
theorem dX0_accepts_102 : decode cX0_accepts 102 = .ok (.iconst 0, 1) := by decide +kernel
theorem dX0_accepts_103 : decode cX0_accepts 103 = .ok (.ireturn, 1) := by decide +kernel
theorem dX0_accepts_104 : decode cX0_accepts 104 = .ok (.aload_n 0, 1) := by decide +kernel
theorem dX0_accepts_105 : decode cX0_accepts 105 = .ok (.iload_n 1, 1) := by decide +kernel
theorem dX0_accepts_106 : decode cX0_accepts 106 = .ok (.iconst 1, 1) := by decide +kernel
theorem dX0_accepts_107 : decode cX0_accepts 107 = .ok (.bipush 9, 2) := by decide +kernel
theorem dX0_accepts_109 : decode cX0_accepts 109 = .ok (.bipush 6, 2) := by decide +kernel
theorem dX0_accepts_111 : decode cX0_accepts 111 = .ok (.invokevirtual 29, 3) := by decide +kernel
theorem dX0_accepts_114 : decode cX0_accepts 114 = .ok (.ireturn, 1) := by decide +kernel
theorem dX0_accepts_115 : decode cX0_accepts 115 = .ok (.aload_n 0, 1) := by decide +kernel
theorem dX0_accepts_116 : decode cX0_accepts 116 = .ok (.iload_n 1, 1) := by decide +kernel
theorem dX0_accepts_117 : decode cX0_accepts 117 = .ok (.bipush 59, 2) := by decide +kernel
theorem dX0_accepts_119 : decode cX0_accepts 119 = .ok (.iconst 0, 1) := by decide +kernel
theorem dX0_accepts_120 : decode cX0_accepts 120 = .ok (.invokevirtual 22, 3) := by decide +kernel
theorem dX0_accepts_123 : decode cX0_accepts 123 = .ok (.ifCond .ne 11, 3) := by decide +kernel
theorem dX0_accepts_126 : decode cX0_accepts 126 = .ok (.aload_n 0, 1) := by decide +kernel
theorem dX0_accepts_127 : decode cX0_accepts 127 = .ok (.iload_n 1, 1) := by decide +kernel
theorem dX0_accepts_128 : decode cX0_accepts 128 = .ok (.invokevirtual 33, 3) := by decide +kernel
theorem dX0_accepts_131 : decode cX0_accepts 131 = .ok (.ifCond .eq 7, 3) := by decide +kernel
theorem dX0_accepts_134 : decode cX0_accepts 134 = .ok (.iconst 1, 1) := by decide +kernel
theorem dX0_accepts_135 : decode cX0_accepts 135 = .ok (.goto 4, 3) := by decide +kernel
theorem dX0_accepts_138 : decode cX0_accepts 138 = .ok (.iconst 0, 1) := by decide +kernel
theorem dX0_accepts_139 : decode cX0_accepts 139 = .ok (.ireturn, 1) := by decide +kernel
theorem dX0_accepts_140 : decode cX0_accepts 140 = .ok (.aload_n 0, 1) := by decide +kernel
theorem dX0_accepts_141 : decode cX0_accepts 141 = .ok (.iload_n 1, 1) := by decide +kernel
theorem dX0_accepts_142 : decode cX0_accepts 142 = .ok (.iconst 0, 1) := by decide +kernel
theorem dX0_accepts_143 : decode cX0_accepts 143 = .ok (.bipush 7, 2) := by decide +kernel
theorem dX0_accepts_145 : decode cX0_accepts 145 = .ok (.bipush 8, 2) := by decide +kernel
theorem dX0_accepts_147 : decode cX0_accepts 147 = .ok (.invokevirtual 29, 3) := by decide +kernel
theorem dX0_accepts_150 : decode cX0_accepts 150 = .ok (.ireturn, 1) := by decide +kernel
theorem dX0_accepts_151 : decode cX0_accepts 151 = .ok (.aload_n 0, 1) := by decide +kernel
theorem dX0_accepts_152 : decode cX0_accepts 152 = .ok (.iload_n 1, 1) := by decide +kernel
theorem dX0_accepts_153 : decode cX0_accepts 153 = .ok (.bipush 59, 2) := by decide +kernel
theorem dX0_accepts_155 : decode cX0_accepts 155 = .ok (.iconst 0, 1) := by decide +kernel
theorem dX0_accepts_156 : decode cX0_accepts 156 = .ok (.invokevirtual 22, 3) := by decide +kernel
theorem dX0_accepts_159 : decode cX0_accepts 159 = .ok (.ireturn, 1) := by decide +kernel
theorem dX0_acceptsLetter_0 : decode cX0_acceptsLetter 0 = .ok (.iload_n 1, 1) := by decide +kernel
theorem dX0_acceptsLetter_1 : decode cX0_acceptsLetter 1 = .ok (.tableswitch 100 98 114 #[83, 83, 83, 100, 100, 83, 100, 100, 100, 100, 83, 100, 100, 100, 100, 83, 83], 83) := by decide +kernel
theorem dX0_acceptsLetter_84 : decode cX0_acceptsLetter 84 = .ok (.aload_n 0, 1) := by decide +kernel
theorem dX0_acceptsLetter_85 : decode cX0_acceptsLetter 85 = .ok (.iload_n 1, 1) := by decide +kernel
theorem dX0_acceptsLetter_86 : decode cX0_acceptsLetter 86 = .ok (.putfield 36, 3) := by decide +kernel
theorem dX0_acceptsLetter_89 : decode cX0_acceptsLetter 89 = .ok (.aload_n 0, 1) := by decide +kernel
theorem dX0_acceptsLetter_90 : decode cX0_acceptsLetter 90 = .ok (.iconst 0, 1) := by decide +kernel
theorem dX0_acceptsLetter_91 : decode cX0_acceptsLetter 91 = .ok (.putfield 39, 3) := by decide +kernel
theorem dX0_acceptsLetter_94 : decode cX0_acceptsLetter 94 = .ok (.aload_n 0, 1) := by decide +kernel
theorem dX0_acceptsLetter_95 : decode cX0_acceptsLetter 95 = .ok (.iconst 1, 1) := by decide +kernel
theorem dX0_acceptsLetter_96 : decode cX0_acceptsLetter 96 = .ok (.putfield 11, 3) := by decide +kernel
theorem dX0_acceptsLetter_99 : decode cX0_acceptsLetter 99 = .ok (.iconst 1, 1) := by decide +kernel
theorem dX0_acceptsLetter_100 : decode cX0_acceptsLetter 100 = .ok (.ireturn, 1) := by decide +kernel
theorem dX0_acceptsLetter_101 : decode cX0_acceptsLetter 101 = .ok (.iconst 0, 1) := by decide +kernel
theorem dX0_acceptsLetter_102 : decode cX0_acceptsLetter 102 = .ok (.ireturn, 1) := by decide +kernel
theorem dX0_acceptsFirst_0 : decode cX0_acceptsFirst 0 = .ok (.iload_n 1, 1) := by decide +kernel
theorem dX0_acceptsFirst_1 : decode cX0_acceptsFirst 1 = .ok (.bipush 48, 2) := by decide +kernel
theorem dX0_acceptsFirst_3 : decode cX0_acceptsFirst 3 = .ok (.isub, 1) := by decide +kernel
theorem dX0_acceptsFirst_4 : decode cX0_acceptsFirst 4 = .ok (.istore_n 2, 1) := by decide +kernel
theorem dX0_acceptsFirst_5 : decode cX0_acceptsFirst 5 = .ok (.iload_n 2, 1) := by decide +kernel
theorem dX0_acceptsFirst_6 : decode cX0_acceptsFirst 6 = .ok (.aload_n 0, 1) := by decide +kernel
theorem dX0_acceptsFirst_7 : decode cX0_acceptsFirst 7 = .ok (.getfield 36, 3) := by decide +kernel
theorem dX0_acceptsFirst_10 : decode cX0_acceptsFirst 10 = .ok (.bipush 100, 2) := by decide +kernel
theorem dX0_acceptsFirst_12 : decode cX0_acceptsFirst 12 = .ok (.if_icmp .ne 7, 3) := by decide +kernel
theorem dX0_acceptsFirst_15 : decode cX0_acceptsFirst 15 = .ok (.iconst 1, 1) := by decide +kernel
theorem dX0_acceptsFirst_16 : decode cX0_acceptsFirst 16 = .ok (.goto 4, 3) := by decide +kernel
theorem dX0_acceptsFirst_19 : decode cX0_acceptsFirst 19 = .ok (.iconst 0, 1) := by decide +kernel
theorem dX0_acceptsFirst_20 : decode cX0_acceptsFirst 20 = .ok (.if_icmp .lt 11, 3) := by decide +kernel
theorem dX0_acceptsFirst_23 : decode cX0_acceptsFirst 23 = .ok (.iload_n 2, 1) := by decide +kernel
theorem dX0_acceptsFirst_24 : decode cX0_acceptsFirst 24 = .ok (.aload_n 0, 1) := by decide +kernel
theorem dX0_acceptsFirst_25 : decode cX0_acceptsFirst 25 = .ok (.invokevirtual 42, 3) := by decide +kernel
theorem dX0_acceptsFirst_28 : decode cX0_acceptsFirst 28 = .ok (.if_icmp .le 5, 3) := by decide +kernel
theorem dX0_acceptsFirst_31 : decode cX0_acceptsFirst 31 = .ok (.iconst 0, 1) := by decide +kernel
theorem dX0_acceptsFirst_32 : decode cX0_acceptsFirst 32 = .ok (.ireturn, 1) := by decide +kernel
theorem dX0_acceptsFirst_33 : decode cX0_acceptsFirst 33 = .ok (.aload_n 0, 1) := by decide +kernel
theorem dX0_acceptsFirst_34 : decode cX0_acceptsFirst 34 = .ok (.iload_n 2, 1) := by decide +kernel
theorem dX0_acceptsFirst_35 : decode cX0_acceptsFirst 35 = .ok (.putfield 46, 3) := by decide +kernel
theorem dX0_acceptsFirst_38 : decode cX0_acceptsFirst 38 = .ok (.aload_n 0, 1) := by decide +kernel
theorem dX0_acceptsFirst_39 : decode cX0_acceptsFirst 39 = .ok (.getfield 36, 3) := by decide +kernel
theorem dX0_acceptsFirst_42 : decode cX0_acceptsFirst 42 = .ok (.bipush 98, 2) := by decide +kernel
theorem dX0_acceptsFirst_44 : decode cX0_acceptsFirst 44 = .ok (.if_icmp .ne 11, 3) := by decide +kernel
theorem dX0_acceptsFirst_47 : decode cX0_acceptsFirst 47 = .ok (.aload_n 0, 1) := by decide +kernel
theorem dX0_acceptsFirst_48 : decode cX0_acceptsFirst 48 = .ok (.iconst 2, 1) := by decide +kernel
theorem dX0_acceptsFirst_49 : decode cX0_acceptsFirst 49 = .ok (.putfield 11, 3) := by decide +kernel
theorem dX0_acceptsFirst_52 : decode cX0_acceptsFirst 52 = .ok (.goto 23, 3) := by decide +kernel
theorem dX0_acceptsFirst_55 : decode cX0_acceptsFirst 55 = .ok (.aload_n 0, 1) := by decide +kernel
theorem dX0_acceptsFirst_56 : decode cX0_acceptsFirst 56 = .ok (.aload_n 0, 1) := by decide +kernel
theorem dX0_acceptsFirst_57 : decode cX0_acceptsFirst 57 = .ok (.getfield 36, 3) := by decide +kernel
theorem dX0_acceptsFirst_60 : decode cX0_acceptsFirst 60 = .ok (.bipush 113, 2) := by decide +kernel
theorem dX0_acceptsFirst_62 : decode cX0_acceptsFirst 62 = .ok (.if_icmp .ne 8, 3) := by decide +kernel
theorem dX0_acceptsFirst_65 : decode cX0_acceptsFirst 65 = .ok (.bipush 7, 2) := by decide +kernel
theorem dX0_acceptsFirst_67 : decode cX0_acceptsFirst 67 = .ok (.goto 5, 3) := by decide +kernel
theorem dX0_acceptsFirst_70 : decode cX0_acceptsFirst 70 = .ok (.bipush 8, 2) := by decide +kernel
theorem dX0_acceptsFirst_72 : decode cX0_acceptsFirst 72 = .ok (.putfield 11, 3) := by decide +kernel
theorem dX0_acceptsFirst_75 : decode cX0_acceptsFirst 75 = .ok (.iconst 1, 1) := by decide +kernel
theorem dX0_acceptsFirst_76 : decode cX0_acceptsFirst 76 = .ok (.ireturn, 1) := by decide +kernel
theorem dX0_greatestFirst_0 : decode cX0_greatestFirst 0 = .ok (.aload_n 0, 1) := by decide +kernel
theorem dX0_greatestFirst_1 : decode cX0_greatestFirst 1 = .ok (.getfield 36, 3) := by decide +kernel
theorem dX0_greatestFirst_4 : decode cX0_greatestFirst 4 = .ok (.lookupswitch 59 #[(98, 52), (99, 54), (103, 56), (113, 52), (114, 54)], 52) := by decide +kernel
theorem dX0_greatestFirst_56 : decode cX0_greatestFirst 56 = .ok (.iconst 3, 1) := by decide +kernel
theorem dX0_greatestFirst_57 : decode cX0_greatestFirst 57 = .ok (.ireturn, 1) := by decide +kernel
theorem dX0_greatestFirst_58 : decode cX0_greatestFirst 58 = .ok (.iconst 4, 1) := by decide +kernel
theorem dX0_greatestFirst_59 : decode cX0_greatestFirst 59 = .ok (.ireturn, 1) := by decide +kernel
theorem dX0_greatestFirst_60 : decode cX0_greatestFirst 60 = .ok (.bipush 7, 2) := by decide +kernel
theorem dX0_greatestFirst_62 : decode cX0_greatestFirst 62 = .ok (.ireturn, 1) := by decide +kernel
theorem dX0_greatestFirst_63 : decode cX0_greatestFirst 63 = .ok (.bipush 9, 2) := by decide +kernel
theorem dX0_greatestFirst_65 : decode cX0_greatestFirst 65 = .ok (.ireturn, 1) := by decide +kernel
theorem dX0_acceptsSign_0 : decode cX0_acceptsSign 0 = .ok (.iload_n 1, 1) := by decide +kernel
theorem dX0_acceptsSign_1 : decode cX0_acceptsSign 1 = .ok (.iload_n 2, 1) := by decide +kernel
theorem dX0_acceptsSign_2 : decode cX0_acceptsSign 2 = .ok (.if_icmp .eq 5, 3) := by decide +kernel
theorem dX0_acceptsSign_5 : decode cX0_acceptsSign 5 = .ok (.iconst 0, 1) := by decide +kernel
theorem dX0_acceptsSign_6 : decode cX0_acceptsSign 6 = .ok (.ireturn, 1) := by decide +kernel
theorem dX0_acceptsSign_7 : decode cX0_acceptsSign 7 = .ok (.aload_n 0, 1) := by decide +kernel
theorem dX0_acceptsSign_8 : decode cX0_acceptsSign 8 = .ok (.iload_n 3, 1) := by decide +kernel
theorem dX0_acceptsSign_9 : decode cX0_acceptsSign 9 = .ok (.putfield 11, 3) := by decide +kernel
theorem dX0_acceptsSign_12 : decode cX0_acceptsSign 12 = .ok (.iconst 1, 1) := by decide +kernel
theorem dX0_acceptsSign_13 : decode cX0_acceptsSign 13 = .ok (.ireturn, 1) := by decide +kernel
theorem dX0_acceptsTaker_0 : decode cX0_acceptsTaker 0 = .ok (.iload_n 1, 1) := by decide +kernel
theorem dX0_acceptsTaker_1 : decode cX0_acceptsTaker 1 = .ok (.bipush 48, 2) := by decide +kernel
theorem dX0_acceptsTaker_3 : decode cX0_acceptsTaker 3 = .ok (.isub, 1) := by decide +kernel
theorem dX0_acceptsTaker_4 : decode cX0_acceptsTaker 4 = .ok (.istore_n 2, 1) := by decide +kernel
theorem dX0_acceptsTaker_5 : decode cX0_acceptsTaker 5 = .ok (.iload_n 2, 1) := by decide +kernel
theorem dX0_acceptsTaker_6 : decode cX0_acceptsTaker 6 = .ok (.ifCond .lt 25, 3) := by decide +kernel
theorem dX0_acceptsTaker_9 : decode cX0_acceptsTaker 9 = .ok (.iload_n 2, 1) := by decide +kernel
theorem dX0_acceptsTaker_10 : decode cX0_acceptsTaker 10 = .ok (.iconst 4, 1) := by decide +kernel
theorem dX0_acceptsTaker_11 : decode cX0_acceptsTaker 11 = .ok (.if_icmp .ge 20, 3) := by decide +kernel
theorem dX0_acceptsTaker_14 : decode cX0_acceptsTaker 14 = .ok (.iload_n 2, 1) := by decide +kernel
theorem dX0_acceptsTaker_15 : decode cX0_acceptsTaker 15 = .ok (.aload_n 0, 1) := by decide +kernel
theorem dX0_acceptsTaker_16 : decode cX0_acceptsTaker 16 = .ok (.getfield 46, 3) := by decide +kernel
theorem dX0_acceptsTaker_19 : decode cX0_acceptsTaker 19 = .ok (.if_icmp .eq 12, 3) := by decide +kernel
theorem dX0_acceptsTaker_22 : decode cX0_acceptsTaker 22 = .ok (.aload_n 0, 1) := by decide +kernel
theorem dX0_acceptsTaker_23 : decode cX0_acceptsTaker 23 = .ok (.getfield 39, 3) := by decide +kernel
theorem dX0_acceptsTaker_26 : decode cX0_acceptsTaker 26 = .ok (.iload_n 2, 1) := by decide +kernel
theorem dX0_acceptsTaker_27 : decode cX0_acceptsTaker 27 = .ok (.ishr, 1) := by decide +kernel
theorem dX0_acceptsTaker_28 : decode cX0_acceptsTaker 28 = .ok (.ifCond .eq 5, 3) := by decide +kernel
theorem dX0_acceptsTaker_31 : decode cX0_acceptsTaker 31 = .ok (.iconst 0, 1) := by decide +kernel
theorem dX0_acceptsTaker_32 : decode cX0_acceptsTaker 32 = .ok (.ireturn, 1) := by decide +kernel
theorem dX0_acceptsTaker_33 : decode cX0_acceptsTaker 33 = .ok (.aload_n 0, 1) := by decide +kernel
theorem dX0_acceptsTaker_34 : decode cX0_acceptsTaker 34 = .ok (.dup, 1) := by decide +kernel
theorem dX0_acceptsTaker_35 : decode cX0_acceptsTaker 35 = .ok (.getfield 39, 3) := by decide +kernel
theorem dX0_acceptsTaker_38 : decode cX0_acceptsTaker 38 = .ok (.iconst 1, 1) := by decide +kernel
theorem dX0_acceptsTaker_39 : decode cX0_acceptsTaker 39 = .ok (.iload_n 2, 1) := by decide +kernel
theorem dX0_acceptsTaker_40 : decode cX0_acceptsTaker 40 = .ok (.ishl, 1) := by decide +kernel
theorem dX0_acceptsTaker_41 : decode cX0_acceptsTaker 41 = .ok (.ior, 1) := by decide +kernel
theorem dX0_acceptsTaker_42 : decode cX0_acceptsTaker 42 = .ok (.putfield 39, 3) := by decide +kernel
theorem dX0_acceptsTaker_45 : decode cX0_acceptsTaker 45 = .ok (.aload_n 0, 1) := by decide +kernel
theorem dX0_acceptsTaker_46 : decode cX0_acceptsTaker 46 = .ok (.iconst 4, 1) := by decide +kernel
theorem dX0_acceptsTaker_47 : decode cX0_acceptsTaker 47 = .ok (.putfield 11, 3) := by decide +kernel
theorem dX0_acceptsTaker_50 : decode cX0_acceptsTaker 50 = .ok (.iconst 1, 1) := by decide +kernel
theorem dX0_acceptsTaker_51 : decode cX0_acceptsTaker 51 = .ok (.ireturn, 1) := by decide +kernel
theorem dX0_acceptsNumber_0 : decode cX0_acceptsNumber 0 = .ok (.iload_n 1, 1) := by decide +kernel
theorem dX0_acceptsNumber_1 : decode cX0_acceptsNumber 1 = .ok (.bipush 48, 2) := by decide +kernel
theorem dX0_acceptsNumber_3 : decode cX0_acceptsNumber 3 = .ok (.isub, 1) := by decide +kernel
theorem dX0_acceptsNumber_4 : decode cX0_acceptsNumber 4 = .ok (.istore 5, 2) := by decide +kernel
theorem dX0_acceptsNumber_6 : decode cX0_acceptsNumber 6 = .ok (.iload 5, 2) := by decide +kernel
theorem dX0_acceptsNumber_8 : decode cX0_acceptsNumber 8 = .ok (.iload_n 2, 1) := by decide +kernel
theorem dX0_acceptsNumber_9 : decode cX0_acceptsNumber 9 = .ok (.if_icmp .lt 9, 3) := by decide +kernel
theorem dX0_acceptsNumber_12 : decode cX0_acceptsNumber 12 = .ok (.iload 5, 2) := by decide +kernel
theorem dX0_acceptsNumber_14 : decode cX0_acceptsNumber 14 = .ok (.iload_n 3, 1) := by decide +kernel
theorem dX0_acceptsNumber_15 : decode cX0_acceptsNumber 15 = .ok (.if_icmp .le 5, 3) := by decide +kernel
theorem dX0_acceptsNumber_18 : decode cX0_acceptsNumber 18 = .ok (.iconst 0, 1) := by decide +kernel
theorem dX0_acceptsNumber_19 : decode cX0_acceptsNumber 19 = .ok (.ireturn, 1) := by decide +kernel
theorem dX0_acceptsNumber_20 : decode cX0_acceptsNumber 20 = .ok (.aload_n 0, 1) := by decide +kernel
theorem dX0_acceptsNumber_21 : decode cX0_acceptsNumber 21 = .ok (.iload 5, 2) := by decide +kernel
theorem dX0_acceptsNumber_23 : decode cX0_acceptsNumber 23 = .ok (.putfield 49, 3) := by decide +kernel
theorem dX0_acceptsNumber_26 : decode cX0_acceptsNumber 26 = .ok (.aload_n 0, 1) := by decide +kernel
theorem dX0_acceptsNumber_27 : decode cX0_acceptsNumber 27 = .ok (.iload 4, 2) := by decide +kernel
theorem dX0_acceptsNumber_29 : decode cX0_acceptsNumber 29 = .ok (.putfield 11, 3) := by decide +kernel
theorem dX0_acceptsNumber_32 : decode cX0_acceptsNumber 32 = .ok (.iconst 1, 1) := by decide +kernel
theorem dX0_acceptsNumber_33 : decode cX0_acceptsNumber 33 = .ok (.ireturn, 1) := by decide +kernel
theorem dX0_acceptsSecondDigit_0 : decode cX0_acceptsSecondDigit 0 = .ok (.iload_n 1, 1) := by decide +kernel
theorem dX0_acceptsSecondDigit_1 : decode cX0_acceptsSecondDigit 1 = .ok (.bipush 48, 2) := by decide +kernel
theorem dX0_acceptsSecondDigit_3 : decode cX0_acceptsSecondDigit 3 = .ok (.isub, 1) := by decide +kernel
theorem dX0_acceptsSecondDigit_4 : decode cX0_acceptsSecondDigit 4 = .ok (.istore_n 2, 1) := by decide +kernel
theorem dX0_acceptsSecondDigit_5 : decode cX0_acceptsSecondDigit 5 = .ok (.iload_n 2, 1) := by decide +kernel
theorem dX0_acceptsSecondDigit_6 : decode cX0_acceptsSecondDigit 6 = .ok (.ifCond .lt 23, 3) := by decide +kernel
theorem dX0_acceptsSecondDigit_9 : decode cX0_acceptsSecondDigit 9 = .ok (.iload_n 2, 1) := by decide +kernel
theorem dX0_acceptsSecondDigit_10 : decode cX0_acceptsSecondDigit 10 = .ok (.bipush 9, 2) := by decide +kernel
theorem dX0_acceptsSecondDigit_12 : decode cX0_acceptsSecondDigit 12 = .ok (.if_icmp .gt 17, 3) := by decide +kernel
theorem dX0_acceptsSecondDigit_15 : decode cX0_acceptsSecondDigit 15 = .ok (.aload_n 0, 1) := by decide +kernel
theorem dX0_acceptsSecondDigit_16 : decode cX0_acceptsSecondDigit 16 = .ok (.getfield 49, 3) := by decide +kernel
theorem dX0_acceptsSecondDigit_19 : decode cX0_acceptsSecondDigit 19 = .ok (.bipush 10, 2) := by decide +kernel
theorem dX0_acceptsSecondDigit_21 : decode cX0_acceptsSecondDigit 21 = .ok (.imul, 1) := by decide +kernel
theorem dX0_acceptsSecondDigit_22 : decode cX0_acceptsSecondDigit 22 = .ok (.iload_n 2, 1) := by decide +kernel
theorem dX0_acceptsSecondDigit_23 : decode cX0_acceptsSecondDigit 23 = .ok (.iadd, 1) := by decide +kernel
theorem dX0_acceptsSecondDigit_24 : decode cX0_acceptsSecondDigit 24 = .ok (.bipush 50, 2) := by decide +kernel
theorem dX0_acceptsSecondDigit_26 : decode cX0_acceptsSecondDigit 26 = .ok (.if_icmp .le 5, 3) := by decide +kernel
theorem dX0_acceptsSecondDigit_29 : decode cX0_acceptsSecondDigit 29 = .ok (.iconst 0, 1) := by decide +kernel
theorem dX0_acceptsSecondDigit_30 : decode cX0_acceptsSecondDigit 30 = .ok (.ireturn, 1) := by decide +kernel
theorem dX0_acceptsSecondDigit_31 : decode cX0_acceptsSecondDigit 31 = .ok (.aload_n 0, 1) := by decide +kernel
theorem dX0_acceptsSecondDigit_32 : decode cX0_acceptsSecondDigit 32 = .ok (.aload_n 0, 1) := by decide +kernel
theorem dX0_acceptsSecondDigit_33 : decode cX0_acceptsSecondDigit 33 = .ok (.getfield 49, 3) := by decide +kernel
theorem dX0_acceptsSecondDigit_36 : decode cX0_acceptsSecondDigit 36 = .ok (.bipush 10, 2) := by decide +kernel
theorem dX0_acceptsSecondDigit_38 : decode cX0_acceptsSecondDigit 38 = .ok (.imul, 1) := by decide +kernel
theorem dX0_acceptsSecondDigit_39 : decode cX0_acceptsSecondDigit 39 = .ok (.iload_n 2, 1) := by decide +kernel
theorem dX0_acceptsSecondDigit_40 : decode cX0_acceptsSecondDigit 40 = .ok (.iadd, 1) := by decide +kernel
theorem dX0_acceptsSecondDigit_41 : decode cX0_acceptsSecondDigit 41 = .ok (.putfield 49, 3) := by decide +kernel
theorem dX0_acceptsSecondDigit_44 : decode cX0_acceptsSecondDigit 44 = .ok (.aload_n 0, 1) := by decide +kernel
theorem dX0_acceptsSecondDigit_45 : decode cX0_acceptsSecondDigit 45 = .ok (.bipush 8, 2) := by decide +kernel
theorem dX0_acceptsSecondDigit_47 : decode cX0_acceptsSecondDigit 47 = .ok (.putfield 11, 3) := by decide +kernel
theorem dX0_acceptsSecondDigit_50 : decode cX0_acceptsSecondDigit 50 = .ok (.iconst 1, 1) := by decide +kernel
theorem dX0_acceptsSecondDigit_51 : decode cX0_acceptsSecondDigit 51 = .ok (.ireturn, 1) := by decide +kernel
theorem dX1_init_0 : decode cX1_init 0 = .ok (.aload_n 0, 1) := by decide +kernel
theorem dX1_init_1 : decode cX1_init 1 = .ok (.invokespecial 3, 3) := by decide +kernel
theorem dX1_init_4 : decode cX1_init 4 = .ok (.aload_n 0, 1) := by decide +kernel
theorem dX1_init_5 : decode cX1_init 5 = .ok (.bipush 8, 2) := by decide +kernel
theorem dX1_init_7 : decode cX1_init 7 = .ok (.newarray .int, 2) := by decide +kernel
theorem dX1_init_9 : decode cX1_init 9 = .ok (.putfield 9, 3) := by decide +kernel
theorem dX1_init_12 : decode cX1_init 12 = .ok (.aload_n 0, 1) := by decide +kernel
theorem dX1_init_13 : decode cX1_init 13 = .ok (.bipush 8, 2) := by decide +kernel
theorem dX1_init_15 : decode cX1_init 15 = .ok (.newarray .int, 2) := by decide +kernel
theorem dX1_init_17 : decode cX1_init 17 = .ok (.putfield 15, 3) := by decide +kernel
theorem dX1_init_20 : decode cX1_init 20 = .ok (.aload_n 0, 1) := by decide +kernel
theorem dX1_init_21 : decode cX1_init 21 = .ok (.bipush 32, 2) := by decide +kernel
theorem dX1_init_23 : decode cX1_init 23 = .ok (.newarray .int, 2) := by decide +kernel
theorem dX1_init_25 : decode cX1_init 25 = .ok (.putfield 18, 3) := by decide +kernel
theorem dX1_init_28 : decode cX1_init 28 = .ok (.aload_n 0, 1) := by decide +kernel
theorem dX1_init_29 : decode cX1_init 29 = .ok (.bipush 8, 2) := by decide +kernel
theorem dX1_init_31 : decode cX1_init 31 = .ok (.newarray .int, 2) := by decide +kernel
theorem dX1_init_33 : decode cX1_init 33 = .ok (.putfield 21, 3) := by decide +kernel
theorem dX1_init_36 : decode cX1_init 36 = .ok (.aload_n 0, 1) := by decide +kernel
theorem dX1_init_37 : decode cX1_init 37 = .ok (.bipush 8, 2) := by decide +kernel
theorem dX1_init_39 : decode cX1_init 39 = .ok (.newarray .int, 2) := by decide +kernel
theorem dX1_init_41 : decode cX1_init 41 = .ok (.putfield 24, 3) := by decide +kernel
theorem dX1_init_44 : decode cX1_init 44 = .ok (.aload_n 0, 1) := by decide +kernel
theorem dX1_init_45 : decode cX1_init 45 = .ok (.bipush 8, 2) := by decide +kernel
theorem dX1_init_47 : decode cX1_init 47 = .ok (.newarray .int, 2) := by decide +kernel
theorem dX1_init_49 : decode cX1_init 49 = .ok (.putfield 27, 3) := by decide +kernel
theorem dX1_init_52 : decode cX1_init 52 = .ok (.aload_n 0, 1) := by decide +kernel
theorem dX1_init_53 : decode cX1_init 53 = .ok (.iconst 4, 1) := by decide +kernel
theorem dX1_init_54 : decode cX1_init 54 = .ok (.newarray .int, 2) := by decide +kernel
theorem dX1_init_56 : decode cX1_init 56 = .ok (.putfield 30, 3) := by decide +kernel
theorem dX1_init_59 : decode cX1_init 59 = .ok (.aload_n 0, 1) := by decide +kernel
theorem dX1_init_60 : decode cX1_init 60 = .ok (.bipush 32, 2) := by decide +kernel
theorem dX1_init_62 : decode cX1_init 62 = .ok (.newarray .int, 2) := by decide +kernel
theorem dX1_init_64 : decode cX1_init 64 = .ok (.putfield 33, 3) := by decide +kernel
theorem dX1_init_67 : decode cX1_init 67 = .ok (.aload_n 0, 1) := by decide +kernel
theorem dX1_init_68 : decode cX1_init 68 = .ok (.bipush 120, 2) := by decide +kernel
theorem dX1_init_70 : decode cX1_init 70 = .ok (.newarray .int, 2) := by decide +kernel
theorem dX1_init_72 : decode cX1_init 72 = .ok (.putfield 36, 3) := by decide +kernel
theorem dX1_init_75 : decode cX1_init 75 = .ok (.aload_n 0, 1) := by decide +kernel
theorem dX1_init_76 : decode cX1_init 76 = .ok (.iconst 5, 1) := by decide +kernel
theorem dX1_init_77 : decode cX1_init 77 = .ok (.newarray .int, 2) := by decide +kernel
theorem dX1_init_79 : decode cX1_init 79 = .ok (.putfield 39, 3) := by decide +kernel
theorem dX1_init_82 : decode cX1_init 82 = .ok (.aload_n 0, 1) := by decide +kernel
theorem dX1_init_83 : decode cX1_init 83 = .ok (.bipush 60, 2) := by decide +kernel
theorem dX1_init_85 : decode cX1_init 85 = .ok (.newarray .int, 2) := by decide +kernel
theorem dX1_init_87 : decode cX1_init 87 = .ok (.putfield 42, 3) := by decide +kernel
theorem dX1_init_90 : decode cX1_init 90 = .ok (.aload_n 0, 1) := by decide +kernel
theorem dX1_init_91 : decode cX1_init 91 = .ok (.bipush 31, 2) := by decide +kernel
theorem dX1_init_93 : decode cX1_init 93 = .ok (.putfield 45, 3) := by decide +kernel
theorem dX1_init_96 : decode cX1_init 96 = .ok (.iconst 0, 1) := by decide +kernel
theorem dX1_init_97 : decode cX1_init 97 = .ok (.istore_n 1, 1) := by decide +kernel
theorem dX1_init_98 : decode cX1_init 98 = .ok (.iload_n 1, 1) := by decide +kernel
theorem dX1_init_99 : decode cX1_init 99 = .ok (.iconst 4, 1) := by decide +kernel
theorem dX1_init_100 : decode cX1_init 100 = .ok (.if_icmp .ge 17, 3) := by decide +kernel
theorem dX1_init_103 : decode cX1_init 103 = .ok (.aload_n 0, 1) := by decide +kernel
theorem dX1_init_104 : decode cX1_init 104 = .ok (.getfield 30, 3) := by decide +kernel
theorem dX1_init_107 : decode cX1_init 107 = .ok (.iload_n 1, 1) := by decide +kernel
theorem dX1_init_108 : decode cX1_init 108 = .ok (.bipush 100, 2) := by decide +kernel
theorem dX1_init_110 : decode cX1_init 110 = .ok (.iastore, 1) := by decide +kernel
theorem dX1_init_111 : decode cX1_init 111 = .ok (.iinc 1 1, 3) := by decide +kernel
theorem dX1_init_114 : decode cX1_init 114 = .ok (.goto (-16), 3) := by decide +kernel
theorem dX1_init_117 : decode cX1_init 117 = .ok (.return_, 1) := by decide +kernel
theorem dX1_copyFrom_0 : decode cX1_copyFrom 0 = .ok (.aload_n 0, 1) := by decide +kernel
theorem dX1_copyFrom_1 : decode cX1_copyFrom 1 = .ok (.aload_n 1, 1) := by decide +kernel
theorem dX1_copyFrom_2 : decode cX1_copyFrom 2 = .ok (.getfield 49, 3) := by decide +kernel
theorem dX1_copyFrom_5 : decode cX1_copyFrom 5 = .ok (.putfield 49, 3) := by decide +kernel
theorem dX1_copyFrom_8 : decode cX1_copyFrom 8 = .ok (.aload_n 1, 1) := by decide +kernel
theorem dX1_copyFrom_9 : decode cX1_copyFrom 9 = .ok (.getfield 9, 3) := by decide +kernel
theorem dX1_copyFrom_12 : decode cX1_copyFrom 12 = .ok (.iconst 0, 1) := by decide +kernel
theorem dX1_copyFrom_13 : decode cX1_copyFrom 13 = .ok (.aload_n 0, 1) := by decide +kernel
theorem dX1_copyFrom_14 : decode cX1_copyFrom 14 = .ok (.getfield 9, 3) := by decide +kernel
theorem dX1_copyFrom_17 : decode cX1_copyFrom 17 = .ok (.iconst 0, 1) := by decide +kernel
theorem dX1_copyFrom_18 : decode cX1_copyFrom 18 = .ok (.bipush 8, 2) := by decide +kernel
theorem dX1_copyFrom_20 : decode cX1_copyFrom 20 = .ok (.invokestatic 52, 3) := by decide +kernel
theorem dX1_copyFrom_23 : decode cX1_copyFrom 23 = .ok (.aload_n 1, 1) := by decide +kernel
theorem dX1_copyFrom_24 : decode cX1_copyFrom 24 = .ok (.getfield 15, 3) := by decide +kernel
theorem dX1_copyFrom_27 : decode cX1_copyFrom 27 = .ok (.iconst 0, 1) := by decide +kernel
theorem dX1_copyFrom_28 : decode cX1_copyFrom 28 = .ok (.aload_n 0, 1) := by decide +kernel
theorem dX1_copyFrom_29 : decode cX1_copyFrom 29 = .ok (.getfield 15, 3) := by decide +kernel
theorem dX1_copyFrom_32 : decode cX1_copyFrom 32 = .ok (.iconst 0, 1) := by decide +kernel
theorem dX1_copyFrom_33 : decode cX1_copyFrom 33 = .ok (.bipush 8, 2) := by decide +kernel
theorem dX1_copyFrom_35 : decode cX1_copyFrom 35 = .ok (.invokestatic 52, 3) := by decide +kernel
theorem dX1_copyFrom_38 : decode cX1_copyFrom 38 = .ok (.aload_n 1, 1) := by decide +kernel
theorem dX1_copyFrom_39 : decode cX1_copyFrom 39 = .ok (.getfield 18, 3) := by decide +kernel
theorem dX1_copyFrom_42 : decode cX1_copyFrom 42 = .ok (.iconst 0, 1) := by decide +kernel
theorem dX1_copyFrom_43 : decode cX1_copyFrom 43 = .ok (.aload_n 0, 1) := by decide +kernel
theorem dX1_copyFrom_44 : decode cX1_copyFrom 44 = .ok (.getfield 18, 3) := by decide +kernel
theorem dX1_copyFrom_47 : decode cX1_copyFrom 47 = .ok (.iconst 0, 1) := by decide +kernel
theorem dX1_copyFrom_48 : decode cX1_copyFrom 48 = .ok (.bipush 32, 2) := by decide +kernel
theorem dX1_copyFrom_50 : decode cX1_copyFrom 50 = .ok (.invokestatic 52, 3) := by decide +kernel
theorem dX1_copyFrom_53 : decode cX1_copyFrom 53 = .ok (.aload_n 1, 1) := by decide +kernel
theorem dX1_copyFrom_54 : decode cX1_copyFrom 54 = .ok (.getfield 21, 3) := by decide +kernel
theorem dX1_copyFrom_57 : decode cX1_copyFrom 57 = .ok (.iconst 0, 1) := by decide +kernel
theorem dX1_copyFrom_58 : decode cX1_copyFrom 58 = .ok (.aload_n 0, 1) := by decide +kernel
theorem dX1_copyFrom_59 : decode cX1_copyFrom 59 = .ok (.getfield 21, 3) := by decide +kernel
theorem dX1_copyFrom_62 : decode cX1_copyFrom 62 = .ok (.iconst 0, 1) := by decide +kernel
theorem dX1_copyFrom_63 : decode cX1_copyFrom 63 = .ok (.bipush 8, 2) := by decide +kernel
theorem dX1_copyFrom_65 : decode cX1_copyFrom 65 = .ok (.invokestatic 52, 3) := by decide +kernel
theorem dX1_copyFrom_68 : decode cX1_copyFrom 68 = .ok (.aload_n 1, 1) := by decide +kernel
theorem dX1_copyFrom_69 : decode cX1_copyFrom 69 = .ok (.getfield 24, 3) := by decide +kernel
theorem dX1_copyFrom_72 : decode cX1_copyFrom 72 = .ok (.iconst 0, 1) := by decide +kernel
theorem dX1_copyFrom_73 : decode cX1_copyFrom 73 = .ok (.aload_n 0, 1) := by decide +kernel
theorem dX1_copyFrom_74 : decode cX1_copyFrom 74 = .ok (.getfield 24, 3) := by decide +kernel
theorem dX1_copyFrom_77 : decode cX1_copyFrom 77 = .ok (.iconst 0, 1) := by decide +kernel
theorem dX1_copyFrom_78 : decode cX1_copyFrom 78 = .ok (.bipush 8, 2) := by decide +kernel
theorem dX1_copyFrom_80 : decode cX1_copyFrom 80 = .ok (.invokestatic 52, 3) := by decide +kernel
theorem dX1_copyFrom_83 : decode cX1_copyFrom 83 = .ok (.aload_n 1, 1) := by decide +kernel
theorem dX1_copyFrom_84 : decode cX1_copyFrom 84 = .ok (.getfield 27, 3) := by decide +kernel
theorem dX1_copyFrom_87 : decode cX1_copyFrom 87 = .ok (.iconst 0, 1) := by decide +kernel
theorem dX1_copyFrom_88 : decode cX1_copyFrom 88 = .ok (.aload_n 0, 1) := by decide +kernel
theorem dX1_copyFrom_89 : decode cX1_copyFrom 89 = .ok (.getfield 27, 3) := by decide +kernel
theorem dX1_copyFrom_92 : decode cX1_copyFrom 92 = .ok (.iconst 0, 1) := by decide +kernel
theorem dX1_copyFrom_93 : decode cX1_copyFrom 93 = .ok (.bipush 8, 2) := by decide +kernel
theorem dX1_copyFrom_95 : decode cX1_copyFrom 95 = .ok (.invokestatic 52, 3) := by decide +kernel
theorem dX1_copyFrom_98 : decode cX1_copyFrom 98 = .ok (.aload_n 0, 1) := by decide +kernel
theorem dX1_copyFrom_99 : decode cX1_copyFrom 99 = .ok (.aload_n 1, 1) := by decide +kernel
theorem dX1_copyFrom_100 : decode cX1_copyFrom 100 = .ok (.getfield 58, 3) := by decide +kernel
theorem dX1_copyFrom_103 : decode cX1_copyFrom 103 = .ok (.putfield 58, 3) := by decide +kernel
theorem dX1_copyFrom_106 : decode cX1_copyFrom 106 = .ok (.aload_n 0, 1) := by decide +kernel
theorem dX1_copyFrom_107 : decode cX1_copyFrom 107 = .ok (.aload_n 1, 1) := by decide +kernel
theorem dX1_copyFrom_108 : decode cX1_copyFrom 108 = .ok (.getfield 45, 3) := by decide +kernel
theorem dX1_copyFrom_111 : decode cX1_copyFrom 111 = .ok (.putfield 45, 3) := by decide +kernel
theorem dX1_copyFrom_114 : decode cX1_copyFrom 114 = .ok (.aload_n 1, 1) := by decide +kernel
theorem dX1_copyFrom_115 : decode cX1_copyFrom 115 = .ok (.getfield 30, 3) := by decide +kernel
theorem dX1_copyFrom_118 : decode cX1_copyFrom 118 = .ok (.iconst 0, 1) := by decide +kernel
theorem dX1_copyFrom_119 : decode cX1_copyFrom 119 = .ok (.aload_n 0, 1) := by decide +kernel
theorem dX1_copyFrom_120 : decode cX1_copyFrom 120 = .ok (.getfield 30, 3) := by decide +kernel
theorem dX1_copyFrom_123 : decode cX1_copyFrom 123 = .ok (.iconst 0, 1) := by decide +kernel
theorem dX1_copyFrom_124 : decode cX1_copyFrom 124 = .ok (.iconst 4, 1) := by decide +kernel
theorem dX1_copyFrom_125 : decode cX1_copyFrom 125 = .ok (.invokestatic 52, 3) := by decide +kernel
theorem dX1_copyFrom_128 : decode cX1_copyFrom 128 = .ok (.aload_n 1, 1) := by decide +kernel
theorem dX1_copyFrom_129 : decode cX1_copyFrom 129 = .ok (.getfield 33, 3) := by decide +kernel
theorem dX1_copyFrom_132 : decode cX1_copyFrom 132 = .ok (.iconst 0, 1) := by decide +kernel
theorem dX1_copyFrom_133 : decode cX1_copyFrom 133 = .ok (.aload_n 0, 1) := by decide +kernel
theorem dX1_copyFrom_134 : decode cX1_copyFrom 134 = .ok (.getfield 33, 3) := by decide +kernel
theorem dX1_copyFrom_137 : decode cX1_copyFrom 137 = .ok (.iconst 0, 1) := by decide +kernel
theorem dX1_copyFrom_138 : decode cX1_copyFrom 138 = .ok (.bipush 32, 2) := by decide +kernel
theorem dX1_copyFrom_140 : decode cX1_copyFrom 140 = .ok (.invokestatic 52, 3) := by decide +kernel
theorem dX1_copyFrom_143 : decode cX1_copyFrom 143 = .ok (.aload_n 1, 1) := by decide +kernel
theorem dX1_copyFrom_144 : decode cX1_copyFrom 144 = .ok (.getfield 36, 3) := by decide +kernel
theorem dX1_copyFrom_147 : decode cX1_copyFrom 147 = .ok (.iconst 0, 1) := by decide +kernel
theorem dX1_copyFrom_148 : decode cX1_copyFrom 148 = .ok (.aload_n 0, 1) := by decide +kernel
theorem dX1_copyFrom_149 : decode cX1_copyFrom 149 = .ok (.getfield 36, 3) := by decide +kernel
theorem dX1_copyFrom_152 : decode cX1_copyFrom 152 = .ok (.iconst 0, 1) := by decide +kernel
theorem dX1_copyFrom_153 : decode cX1_copyFrom 153 = .ok (.bipush 120, 2) := by decide +kernel
theorem dX1_copyFrom_155 : decode cX1_copyFrom 155 = .ok (.invokestatic 52, 3) := by decide +kernel
theorem dX1_copyFrom_158 : decode cX1_copyFrom 158 = .ok (.aload_n 1, 1) := by decide +kernel
theorem dX1_copyFrom_159 : decode cX1_copyFrom 159 = .ok (.getfield 39, 3) := by decide +kernel
theorem dX1_copyFrom_162 : decode cX1_copyFrom 162 = .ok (.iconst 0, 1) := by decide +kernel
theorem dX1_copyFrom_163 : decode cX1_copyFrom 163 = .ok (.aload_n 0, 1) := by decide +kernel
theorem dX1_copyFrom_164 : decode cX1_copyFrom 164 = .ok (.getfield 39, 3) := by decide +kernel
theorem dX1_copyFrom_167 : decode cX1_copyFrom 167 = .ok (.iconst 0, 1) := by decide +kernel
theorem dX1_copyFrom_168 : decode cX1_copyFrom 168 = .ok (.iconst 5, 1) := by decide +kernel
theorem dX1_copyFrom_169 : decode cX1_copyFrom 169 = .ok (.invokestatic 52, 3) := by decide +kernel
theorem dX1_copyFrom_172 : decode cX1_copyFrom 172 = .ok (.aload_n 1, 1) := by decide +kernel
theorem dX1_copyFrom_173 : decode cX1_copyFrom 173 = .ok (.getfield 42, 3) := by decide +kernel
theorem dX1_copyFrom_176 : decode cX1_copyFrom 176 = .ok (.iconst 0, 1) := by decide +kernel
theorem dX1_copyFrom_177 : decode cX1_copyFrom 177 = .ok (.aload_n 0, 1) := by decide +kernel
theorem dX1_copyFrom_178 : decode cX1_copyFrom 178 = .ok (.getfield 42, 3) := by decide +kernel
theorem dX1_copyFrom_181 : decode cX1_copyFrom 181 = .ok (.iconst 0, 1) := by decide +kernel
theorem dX1_copyFrom_182 : decode cX1_copyFrom 182 = .ok (.bipush 60, 2) := by decide +kernel
theorem dX1_copyFrom_184 : decode cX1_copyFrom 184 = .ok (.invokestatic 52, 3) := by decide +kernel
theorem dX1_copyFrom_187 : decode cX1_copyFrom 187 = .ok (.aload_n 0, 1) := by decide +kernel
theorem dX1_copyFrom_188 : decode cX1_copyFrom 188 = .ok (.aload_n 1, 1) := by decide +kernel
theorem dX1_copyFrom_189 : decode cX1_copyFrom 189 = .ok (.getfield 61, 3) := by decide +kernel
theorem dX1_copyFrom_192 : decode cX1_copyFrom 192 = .ok (.putfield 61, 3) := by decide +kernel
theorem dX1_copyFrom_195 : decode cX1_copyFrom 195 = .ok (.aload_n 0, 1) := by decide +kernel
theorem dX1_copyFrom_196 : decode cX1_copyFrom 196 = .ok (.aload_n 1, 1) := by decide +kernel
theorem dX1_copyFrom_197 : decode cX1_copyFrom 197 = .ok (.getfield 64, 3) := by decide +kernel
theorem dX1_copyFrom_200 : decode cX1_copyFrom 200 = .ok (.putfield 64, 3) := by decide +kernel
theorem dX1_copyFrom_203 : decode cX1_copyFrom 203 = .ok (.aload_n 0, 1) := by decide +kernel
theorem dX1_copyFrom_204 : decode cX1_copyFrom 204 = .ok (.aload_n 1, 1) := by decide +kernel
theorem dX1_copyFrom_205 : decode cX1_copyFrom 205 = .ok (.getfield 67, 3) := by decide +kernel
theorem dX1_copyFrom_208 : decode cX1_copyFrom 208 = .ok (.putfield 67, 3) := by decide +kernel
theorem dX1_copyFrom_211 : decode cX1_copyFrom 211 = .ok (.aload_n 0, 1) := by decide +kernel
theorem dX1_copyFrom_212 : decode cX1_copyFrom 212 = .ok (.aload_n 1, 1) := by decide +kernel
theorem dX1_copyFrom_213 : decode cX1_copyFrom 213 = .ok (.getfield 70, 3) := by decide +kernel
theorem dX1_copyFrom_216 : decode cX1_copyFrom 216 = .ok (.putfield 70, 3) := by decide +kernel
theorem dX1_copyFrom_219 : decode cX1_copyFrom 219 = .ok (.return_, 1) := by decide +kernel
theorem dX1_knows_0 : decode cX1_knows 0 = .ok (.iload_n 1, 1) := by decide +kernel
theorem dX1_knows_1 : decode cX1_knows 1 = .ok (.ifCond .lt 15, 3) := by decide +kernel
theorem dX1_knows_4 : decode cX1_knows 4 = .ok (.iload_n 1, 1) := by decide +kernel
theorem dX1_knows_5 : decode cX1_knows 5 = .ok (.aload_n 0, 1) := by decide +kernel
theorem dX1_knows_6 : decode cX1_knows 6 = .ok (.getfield 49, 3) := by decide +kernel
theorem dX1_knows_9 : decode cX1_knows 9 = .ok (.if_icmp .ge 7, 3) := by decide +kernel
theorem dX1_knows_12 : decode cX1_knows 12 = .ok (.iconst 1, 1) := by decide +kernel
theorem dX1_knows_13 : decode cX1_knows 13 = .ok (.goto 4, 3) := by decide +kernel
theorem dX1_knows_16 : decode cX1_knows 16 = .ok (.iconst 0, 1) := by decide +kernel
theorem dX1_knows_17 : decode cX1_knows 17 = .ok (.ireturn, 1) := by decide +kernel
theorem dX1_hasMessage_0 : decode cX1_hasMessage 0 = .ok (.iload_n 1, 1) := by decide +kernel
theorem dX1_hasMessage_1 : decode cX1_hasMessage 1 = .ok (.ifCond .lt 15, 3) := by decide +kernel
theorem dX1_hasMessage_4 : decode cX1_hasMessage 4 = .ok (.iload_n 1, 1) := by decide +kernel
theorem dX1_hasMessage_5 : decode cX1_hasMessage 5 = .ok (.aload_n 0, 1) := by decide +kernel
theorem dX1_hasMessage_6 : decode cX1_hasMessage 6 = .ok (.getfield 61, 3) := by decide +kernel
theorem dX1_hasMessage_9 : decode cX1_hasMessage 9 = .ok (.if_icmp .ge 7, 3) := by decide +kernel
theorem dX1_hasMessage_12 : decode cX1_hasMessage 12 = .ok (.iconst 1, 1) := by decide +kernel
theorem dX1_hasMessage_13 : decode cX1_hasMessage 13 = .ok (.goto 4, 3) := by decide +kernel
theorem dX1_hasMessage_16 : decode cX1_hasMessage 16 = .ok (.iconst 0, 1) := by decide +kernel
theorem dX1_hasMessage_17 : decode cX1_hasMessage 17 = .ok (.ireturn, 1) := by decide +kernel
theorem dX1_stands_0 : decode cX1_stands 0 = .ok (.aload_n 0, 1) := by decide +kernel
theorem dX1_stands_1 : decode cX1_stands 1 = .ok (.getfield 45, 3) := by decide +kernel
theorem dX1_stands_4 : decode cX1_stands 4 = .ok (.iload_n 1, 1) := by decide +kernel
theorem dX1_stands_5 : decode cX1_stands 5 = .ok (.ishr, 1) := by decide +kernel
theorem dX1_stands_6 : decode cX1_stands 6 = .ok (.iconst 1, 1) := by decide +kernel
theorem dX1_stands_7 : decode cX1_stands 7 = .ok (.iand, 1) := by decide +kernel
theorem dX1_stands_8 : decode cX1_stands 8 = .ok (.iconst 1, 1) := by decide +kernel
theorem dX1_stands_9 : decode cX1_stands 9 = .ok (.if_icmp .ne 7, 3) := by decide +kernel
theorem dX1_stands_12 : decode cX1_stands 12 = .ok (.iconst 1, 1) := by decide +kernel
theorem dX1_stands_13 : decode cX1_stands 13 = .ok (.goto 4, 3) := by decide +kernel
theorem dX1_stands_16 : decode cX1_stands 16 = .ok (.iconst 0, 1) := by decide +kernel
theorem dX1_stands_17 : decode cX1_stands 17 = .ok (.ireturn, 1) := by decide +kernel
theorem dX1_isOver_0 : decode cX1_isOver 0 = .ok (.aload_n 0, 1) := by decide +kernel
theorem dX1_isOver_1 : decode cX1_isOver 1 = .ok (.getfield 58, 3) := by decide +kernel
theorem dX1_isOver_4 : decode cX1_isOver 4 = .ok (.iload_n 1, 1) := by decide +kernel
theorem dX1_isOver_5 : decode cX1_isOver 5 = .ok (.ishr, 1) := by decide +kernel
theorem dX1_isOver_6 : decode cX1_isOver 6 = .ok (.iconst 1, 1) := by decide +kernel
theorem dX1_isOver_7 : decode cX1_isOver 7 = .ok (.iand, 1) := by decide +kernel
theorem dX1_isOver_8 : decode cX1_isOver 8 = .ok (.iconst 1, 1) := by decide +kernel
theorem dX1_isOver_9 : decode cX1_isOver 9 = .ok (.if_icmp .ne 7, 3) := by decide +kernel
theorem dX1_isOver_12 : decode cX1_isOver 12 = .ok (.iconst 1, 1) := by decide +kernel
theorem dX1_isOver_13 : decode cX1_isOver 13 = .ok (.goto 4, 3) := by decide +kernel
theorem dX1_isOver_16 : decode cX1_isOver 16 = .ok (.iconst 0, 1) := by decide +kernel
theorem dX1_isOver_17 : decode cX1_isOver 17 = .ok (.ireturn, 1) := by decide +kernel
theorem dX1_shareOf_0 : decode cX1_shareOf 0 = .ok (.aload_n 0, 1) := by decide +kernel
theorem dX1_shareOf_1 : decode cX1_shareOf 1 = .ok (.getfield 18, 3) := by decide +kernel
theorem dX1_shareOf_4 : decode cX1_shareOf 4 = .ok (.iload_n 2, 1) := by decide +kernel
theorem dX1_shareOf_5 : decode cX1_shareOf 5 = .ok (.bipush 8, 2) := by decide +kernel
theorem dX1_shareOf_7 : decode cX1_shareOf 7 = .ok (.imul, 1) := by decide +kernel
theorem dX1_shareOf_8 : decode cX1_shareOf 8 = .ok (.iload_n 1, 1) := by decide +kernel
theorem dX1_shareOf_9 : decode cX1_shareOf 9 = .ok (.iadd, 1) := by decide +kernel
theorem dX1_shareOf_10 : decode cX1_shareOf 10 = .ok (.iaload, 1) := by decide +kernel
theorem dX1_shareOf_11 : decode cX1_shareOf 11 = .ok (.ireturn, 1) := by decide +kernel
theorem dX1_stateOf_0 : decode cX1_stateOf 0 = .ok (.aload_n 0, 1) := by decide +kernel
theorem dX1_stateOf_1 : decode cX1_stateOf 1 = .ok (.getfield 33, 3) := by decide +kernel
theorem dX1_stateOf_4 : decode cX1_stateOf 4 = .ok (.iload_n 1, 1) := by decide +kernel
theorem dX1_stateOf_5 : decode cX1_stateOf 5 = .ok (.bipush 8, 2) := by decide +kernel
theorem dX1_stateOf_7 : decode cX1_stateOf 7 = .ok (.imul, 1) := by decide +kernel
theorem dX1_stateOf_8 : decode cX1_stateOf 8 = .ok (.iload_n 2, 1) := by decide +kernel
theorem dX1_stateOf_9 : decode cX1_stateOf 9 = .ok (.iadd, 1) := by decide +kernel
theorem dX1_stateOf_10 : decode cX1_stateOf 10 = .ok (.iaload, 1) := by decide +kernel
theorem dX1_stateOf_11 : decode cX1_stateOf 11 = .ok (.ireturn, 1) := by decide +kernel
theorem dX1_kindOfRecord_0 : decode cX1_kindOfRecord 0 = .ok (.aload_n 0, 1) := by decide +kernel
theorem dX1_kindOfRecord_1 : decode cX1_kindOfRecord 1 = .ok (.getfield 36, 3) := by decide +kernel
theorem dX1_kindOfRecord_4 : decode cX1_kindOfRecord 4 = .ok (.iload_n 1, 1) := by decide +kernel
theorem dX1_kindOfRecord_5 : decode cX1_kindOfRecord 5 = .ok (.bipush 24, 2) := by decide +kernel
theorem dX1_kindOfRecord_7 : decode cX1_kindOfRecord 7 = .ok (.imul, 1) := by decide +kernel
theorem dX1_kindOfRecord_8 : decode cX1_kindOfRecord 8 = .ok (.iload_n 2, 1) := by decide +kernel
theorem dX1_kindOfRecord_9 : decode cX1_kindOfRecord 9 = .ok (.iadd, 1) := by decide +kernel
theorem dX1_kindOfRecord_10 : decode cX1_kindOfRecord 10 = .ok (.iaload, 1) := by decide +kernel
theorem dX1_kindOfRecord_11 : decode cX1_kindOfRecord 11 = .ok (.iconst 3, 1) := by decide +kernel
theorem dX1_kindOfRecord_12 : decode cX1_kindOfRecord 12 = .ok (.ishr, 1) := by decide +kernel
theorem dX1_kindOfRecord_13 : decode cX1_kindOfRecord 13 = .ok (.ireturn, 1) := by decide +kernel
theorem dX1_transferOfRecord_0 : decode cX1_transferOfRecord 0 = .ok (.aload_n 0, 1) := by decide +kernel
theorem dX1_transferOfRecord_1 : decode cX1_transferOfRecord 1 = .ok (.getfield 36, 3) := by decide +kernel
theorem dX1_transferOfRecord_4 : decode cX1_transferOfRecord 4 = .ok (.iload_n 1, 1) := by decide +kernel
theorem dX1_transferOfRecord_5 : decode cX1_transferOfRecord 5 = .ok (.bipush 24, 2) := by decide +kernel
theorem dX1_transferOfRecord_7 : decode cX1_transferOfRecord 7 = .ok (.imul, 1) := by decide +kernel
theorem dX1_transferOfRecord_8 : decode cX1_transferOfRecord 8 = .ok (.iload_n 2, 1) := by decide +kernel
theorem dX1_transferOfRecord_9 : decode cX1_transferOfRecord 9 = .ok (.iadd, 1) := by decide +kernel
theorem dX1_transferOfRecord_10 : decode cX1_transferOfRecord 10 = .ok (.iaload, 1) := by decide +kernel
theorem dX1_transferOfRecord_11 : decode cX1_transferOfRecord 11 = .ok (.bipush 7, 2) := by decide +kernel
theorem dX1_transferOfRecord_13 : decode cX1_transferOfRecord 13 = .ok (.iand, 1) := by decide +kernel
theorem dX1_transferOfRecord_14 : decode cX1_transferOfRecord 14 = .ok (.ireturn, 1) := by decide +kernel
theorem dX1_outcomeByLog_0 : decode cX1_outcomeByLog 0 = .ok (.iconst 0, 1) := by decide +kernel
theorem dX1_outcomeByLog_1 : decode cX1_outcomeByLog 1 = .ok (.istore_n 2, 1) := by decide +kernel
theorem dX1_outcomeByLog_2 : decode cX1_outcomeByLog 2 = .ok (.iconst 0, 1) := by decide +kernel
theorem dX1_outcomeByLog_3 : decode cX1_outcomeByLog 3 = .ok (.istore_n 3, 1) := by decide +kernel
theorem dX1_outcomeByLog_4 : decode cX1_outcomeByLog 4 = .ok (.iload_n 3, 1) := by decide +kernel
theorem dX1_outcomeByLog_5 : decode cX1_outcomeByLog 5 = .ok (.aload_n 0, 1) := by decide +kernel
theorem dX1_outcomeByLog_6 : decode cX1_outcomeByLog 6 = .ok (.getfield 39, 3) := by decide +kernel
theorem dX1_outcomeByLog_9 : decode cX1_outcomeByLog 9 = .ok (.iconst 4, 1) := by decide +kernel
theorem dX1_outcomeByLog_10 : decode cX1_outcomeByLog 10 = .ok (.iaload, 1) := by decide +kernel
theorem dX1_outcomeByLog_11 : decode cX1_outcomeByLog 11 = .ok (.if_icmp .ge 51, 3) := by decide +kernel
theorem dX1_outcomeByLog_14 : decode cX1_outcomeByLog 14 = .ok (.aload_n 0, 1) := by decide +kernel
theorem dX1_outcomeByLog_15 : decode cX1_outcomeByLog 15 = .ok (.iconst 4, 1) := by decide +kernel
theorem dX1_outcomeByLog_16 : decode cX1_outcomeByLog 16 = .ok (.iload_n 3, 1) := by decide +kernel
theorem dX1_outcomeByLog_17 : decode cX1_outcomeByLog 17 = .ok (.invokevirtual 73, 3) := by decide +kernel
theorem dX1_outcomeByLog_20 : decode cX1_outcomeByLog 20 = .ok (.istore 4, 2) := by decide +kernel
theorem dX1_outcomeByLog_22 : decode cX1_outcomeByLog 22 = .ok (.aload_n 0, 1) := by decide +kernel
theorem dX1_outcomeByLog_23 : decode cX1_outcomeByLog 23 = .ok (.iconst 4, 1) := by decide +kernel
theorem dX1_outcomeByLog_24 : decode cX1_outcomeByLog 24 = .ok (.iload_n 3, 1) := by decide +kernel
theorem dX1_outcomeByLog_25 : decode cX1_outcomeByLog 25 = .ok (.invokevirtual 77, 3) := by decide +kernel
theorem dX1_outcomeByLog_28 : decode cX1_outcomeByLog 28 = .ok (.iload_n 1, 1) := by decide +kernel
theorem dX1_outcomeByLog_29 : decode cX1_outcomeByLog 29 = .ok (.if_icmp .ne 27, 3) := by decide +kernel
theorem dX1_outcomeByLog_32 : decode cX1_outcomeByLog 32 = .ok (.iload 4, 2) := by decide +kernel
theorem dX1_outcomeByLog_34 : decode cX1_outcomeByLog 34 = .ok (.iconst 1, 1) := by decide +kernel
theorem dX1_outcomeByLog_35 : decode cX1_outcomeByLog 35 = .ok (.if_icmp .eq 9, 3) := by decide +kernel
theorem dX1_outcomeByLog_38 : decode cX1_outcomeByLog 38 = .ok (.iload 4, 2) := by decide +kernel
theorem dX1_outcomeByLog_40 : decode cX1_outcomeByLog 40 = .ok (.iconst 2, 1) := by decide +kernel
theorem dX1_outcomeByLog_41 : decode cX1_outcomeByLog 41 = .ok (.if_icmp .ne 15, 3) := by decide +kernel
theorem dX1_outcomeByLog_44 : decode cX1_outcomeByLog 44 = .ok (.iload 4, 2) := by decide +kernel
theorem dX1_outcomeByLog_46 : decode cX1_outcomeByLog 46 = .ok (.iconst 1, 1) := by decide +kernel
theorem dX1_outcomeByLog_47 : decode cX1_outcomeByLog 47 = .ok (.if_icmp .ne 7, 3) := by decide +kernel
theorem dX1_outcomeByLog_50 : decode cX1_outcomeByLog 50 = .ok (.iconst 1, 1) := by decide +kernel
theorem dX1_outcomeByLog_51 : decode cX1_outcomeByLog 51 = .ok (.goto 4, 3) := by decide +kernel
theorem dX1_outcomeByLog_54 : decode cX1_outcomeByLog 54 = .ok (.iconst 2, 1) := by decide +kernel
theorem dX1_outcomeByLog_55 : decode cX1_outcomeByLog 55 = .ok (.istore_n 2, 1) := by decide +kernel
theorem dX1_outcomeByLog_56 : decode cX1_outcomeByLog 56 = .ok (.iinc 3 1, 3) := by decide +kernel
theorem dX1_outcomeByLog_59 : decode cX1_outcomeByLog 59 = .ok (.goto (-55), 3) := by decide +kernel
theorem dX1_outcomeByLog_62 : decode cX1_outcomeByLog 62 = .ok (.iload_n 2, 1) := by decide +kernel
theorem dX1_outcomeByLog_63 : decode cX1_outcomeByLog 63 = .ok (.ireturn, 1) := by decide +kernel
theorem dX1_sharesNotMade_0 : decode cX1_sharesNotMade 0 = .ok (.iconst 0, 1) := by decide +kernel
theorem dX1_sharesNotMade_1 : decode cX1_sharesNotMade 1 = .ok (.istore_n 2, 1) := by decide +kernel
theorem dX1_sharesNotMade_2 : decode cX1_sharesNotMade 2 = .ok (.iconst 0, 1) := by decide +kernel
theorem dX1_sharesNotMade_3 : decode cX1_sharesNotMade 3 = .ok (.istore_n 3, 1) := by decide +kernel
theorem dX1_sharesNotMade_4 : decode cX1_sharesNotMade 4 = .ok (.iload_n 3, 1) := by decide +kernel
theorem dX1_sharesNotMade_5 : decode cX1_sharesNotMade 5 = .ok (.iconst 4, 1) := by decide +kernel
theorem dX1_sharesNotMade_6 : decode cX1_sharesNotMade 6 = .ok (.if_icmp .ge 28, 3) := by decide +kernel
theorem dX1_sharesNotMade_9 : decode cX1_sharesNotMade 9 = .ok (.aload_n 0, 1) := by decide +kernel
theorem dX1_sharesNotMade_10 : decode cX1_sharesNotMade 10 = .ok (.iload_n 3, 1) := by decide +kernel
theorem dX1_sharesNotMade_11 : decode cX1_sharesNotMade 11 = .ok (.iload_n 1, 1) := by decide +kernel
theorem dX1_sharesNotMade_12 : decode cX1_sharesNotMade 12 = .ok (.invokevirtual 80, 3) := by decide +kernel
theorem dX1_sharesNotMade_15 : decode cX1_sharesNotMade 15 = .ok (.iconst 2, 1) := by decide +kernel
theorem dX1_sharesNotMade_16 : decode cX1_sharesNotMade 16 = .ok (.if_icmp .eq 12, 3) := by decide +kernel
theorem dX1_sharesNotMade_19 : decode cX1_sharesNotMade 19 = .ok (.iload_n 2, 1) := by decide +kernel
theorem dX1_sharesNotMade_20 : decode cX1_sharesNotMade 20 = .ok (.aload_n 0, 1) := by decide +kernel
theorem dX1_sharesNotMade_21 : decode cX1_sharesNotMade 21 = .ok (.iload_n 1, 1) := by decide +kernel
theorem dX1_sharesNotMade_22 : decode cX1_sharesNotMade 22 = .ok (.iload_n 3, 1) := by decide +kernel
theorem dX1_sharesNotMade_23 : decode cX1_sharesNotMade 23 = .ok (.invokevirtual 83, 3) := by decide +kernel
theorem dX1_sharesNotMade_26 : decode cX1_sharesNotMade 26 = .ok (.iadd, 1) := by decide +kernel
theorem dX1_sharesNotMade_27 : decode cX1_sharesNotMade 27 = .ok (.istore_n 2, 1) := by decide +kernel
theorem dX1_sharesNotMade_28 : decode cX1_sharesNotMade 28 = .ok (.iinc 3 1, 3) := by decide +kernel
theorem dX1_sharesNotMade_31 : decode cX1_sharesNotMade 31 = .ok (.goto (-27), 3) := by decide +kernel
theorem dX1_sharesNotMade_34 : decode cX1_sharesNotMade 34 = .ok (.iload_n 2, 1) := by decide +kernel
theorem dX1_sharesNotMade_35 : decode cX1_sharesNotMade 35 = .ok (.ireturn, 1) := by decide +kernel
theorem dX1_wouldTake_0 : decode cX1_wouldTake 0 = .ok (.aload_n 0, 1) := by decide +kernel
theorem dX1_wouldTake_1 : decode cX1_wouldTake 1 = .ok (.getfield 30, 3) := by decide +kernel
theorem dX1_wouldTake_4 : decode cX1_wouldTake 4 = .ok (.iload_n 1, 1) := by decide +kernel
theorem dX1_wouldTake_5 : decode cX1_wouldTake 5 = .ok (.iaload, 1) := by decide +kernel
theorem dX1_wouldTake_6 : decode cX1_wouldTake 6 = .ok (.iload_n 2, 1) := by decide +kernel
theorem dX1_wouldTake_7 : decode cX1_wouldTake 7 = .ok (.iadd, 1) := by decide +kernel
theorem dX1_wouldTake_8 : decode cX1_wouldTake 8 = .ok (.istore_n 3, 1) := by decide +kernel
theorem dX1_wouldTake_9 : decode cX1_wouldTake 9 = .ok (.iconst 0, 1) := by decide +kernel
theorem dX1_wouldTake_10 : decode cX1_wouldTake 10 = .ok (.istore 4, 2) := by decide +kernel
theorem dX1_wouldTake_12 : decode cX1_wouldTake 12 = .ok (.iload 4, 2) := by decide +kernel
theorem dX1_wouldTake_14 : decode cX1_wouldTake 14 = .ok (.aload_n 0, 1) := by decide +kernel
theorem dX1_wouldTake_15 : decode cX1_wouldTake 15 = .ok (.getfield 49, 3) := by decide +kernel
theorem dX1_wouldTake_18 : decode cX1_wouldTake 18 = .ok (.if_icmp .ge 68, 3) := by decide +kernel
theorem dX1_wouldTake_21 : decode cX1_wouldTake 21 = .ok (.aload_n 0, 1) := by decide +kernel
theorem dX1_wouldTake_22 : decode cX1_wouldTake 22 = .ok (.iload 4, 2) := by decide +kernel
theorem dX1_wouldTake_24 : decode cX1_wouldTake 24 = .ok (.iload_n 1, 1) := by decide +kernel
theorem dX1_wouldTake_25 : decode cX1_wouldTake 25 = .ok (.invokevirtual 83, 3) := by decide +kernel
theorem dX1_wouldTake_28 : decode cX1_wouldTake 28 = .ok (.istore 5, 2) := by decide +kernel
theorem dX1_wouldTake_30 : decode cX1_wouldTake 30 = .ok (.iload_n 2, 1) := by decide +kernel
theorem dX1_wouldTake_31 : decode cX1_wouldTake 31 = .ok (.ifCond .ge 16, 3) := by decide +kernel
theorem dX1_wouldTake_34 : decode cX1_wouldTake 34 = .ok (.iload 5, 2) := by decide +kernel
theorem dX1_wouldTake_36 : decode cX1_wouldTake 36 = .ok (.ifCond .ge 7, 3) := by decide +kernel
theorem dX1_wouldTake_39 : decode cX1_wouldTake 39 = .ok (.iconst 1, 1) := by decide +kernel
theorem dX1_wouldTake_40 : decode cX1_wouldTake 40 = .ok (.goto 17, 3) := by decide +kernel
theorem dX1_wouldTake_43 : decode cX1_wouldTake 43 = .ok (.iconst 0, 1) := by decide +kernel
theorem dX1_wouldTake_44 : decode cX1_wouldTake 44 = .ok (.goto 13, 3) := by decide +kernel
theorem dX1_wouldTake_47 : decode cX1_wouldTake 47 = .ok (.iload 5, 2) := by decide +kernel
theorem dX1_wouldTake_49 : decode cX1_wouldTake 49 = .ok (.ifCond .le 7, 3) := by decide +kernel
theorem dX1_wouldTake_52 : decode cX1_wouldTake 52 = .ok (.iconst 1, 1) := by decide +kernel
theorem dX1_wouldTake_53 : decode cX1_wouldTake 53 = .ok (.goto 4, 3) := by decide +kernel
theorem dX1_wouldTake_56 : decode cX1_wouldTake 56 = .ok (.iconst 0, 1) := by decide +kernel
theorem dX1_wouldTake_57 : decode cX1_wouldTake 57 = .ok (.istore 6, 2) := by decide +kernel
theorem dX1_wouldTake_59 : decode cX1_wouldTake 59 = .ok (.iload 6, 2) := by decide +kernel
theorem dX1_wouldTake_61 : decode cX1_wouldTake 61 = .ok (.ifCond .eq 19, 3) := by decide +kernel
theorem dX1_wouldTake_64 : decode cX1_wouldTake 64 = .ok (.aload_n 0, 1) := by decide +kernel
theorem dX1_wouldTake_65 : decode cX1_wouldTake 65 = .ok (.iload_n 1, 1) := by decide +kernel
theorem dX1_wouldTake_66 : decode cX1_wouldTake 66 = .ok (.iload 4, 2) := by decide +kernel
theorem dX1_wouldTake_68 : decode cX1_wouldTake 68 = .ok (.invokevirtual 80, 3) := by decide +kernel
theorem dX1_wouldTake_71 : decode cX1_wouldTake 71 = .ok (.iconst 1, 1) := by decide +kernel
theorem dX1_wouldTake_72 : decode cX1_wouldTake 72 = .ok (.if_icmp .ne 8, 3) := by decide +kernel
theorem dX1_wouldTake_75 : decode cX1_wouldTake 75 = .ok (.iload_n 3, 1) := by decide +kernel
theorem dX1_wouldTake_76 : decode cX1_wouldTake 76 = .ok (.iload 5, 2) := by decide +kernel
theorem dX1_wouldTake_78 : decode cX1_wouldTake 78 = .ok (.iadd, 1) := by decide +kernel
theorem dX1_wouldTake_79 : decode cX1_wouldTake 79 = .ok (.istore_n 3, 1) := by decide +kernel
theorem dX1_wouldTake_80 : decode cX1_wouldTake 80 = .ok (.iinc 4 1, 3) := by decide +kernel
theorem dX1_wouldTake_83 : decode cX1_wouldTake 83 = .ok (.goto (-71), 3) := by decide +kernel
theorem dX1_wouldTake_86 : decode cX1_wouldTake 86 = .ok (.iload_n 3, 1) := by decide +kernel
theorem dX1_wouldTake_87 : decode cX1_wouldTake 87 = .ok (.ifCond .lt 14, 3) := by decide +kernel
theorem dX1_wouldTake_90 : decode cX1_wouldTake 90 = .ok (.iload_n 3, 1) := by decide +kernel
theorem dX1_wouldTake_91 : decode cX1_wouldTake 91 = .ok (.sipush 999, 3) := by decide +kernel
theorem dX1_wouldTake_94 : decode cX1_wouldTake 94 = .ok (.if_icmp .gt 7, 3) := by decide +kernel
theorem dX1_wouldTake_97 : decode cX1_wouldTake 97 = .ok (.iconst 1, 1) := by decide +kernel
theorem dX1_wouldTake_98 : decode cX1_wouldTake 98 = .ok (.goto 4, 3) := by decide +kernel
theorem dX1_wouldTake_101 : decode cX1_wouldTake 101 = .ok (.iconst 0, 1) := by decide +kernel
theorem dX1_wouldTake_102 : decode cX1_wouldTake 102 = .ok (.ireturn, 1) := by decide +kernel
theorem dX1_allWouldTake_0 : decode cX1_allWouldTake 0 = .ok (.iconst 0, 1) := by decide +kernel
theorem dX1_allWouldTake_1 : decode cX1_allWouldTake 1 = .ok (.istore 4, 2) := by decide +kernel
theorem dX1_allWouldTake_3 : decode cX1_allWouldTake 3 = .ok (.iload 4, 2) := by decide +kernel
theorem dX1_allWouldTake_5 : decode cX1_allWouldTake 5 = .ok (.iconst 4, 1) := by decide +kernel
theorem dX1_allWouldTake_6 : decode cX1_allWouldTake 6 = .ok (.if_icmp .ge 37, 3) := by decide +kernel
theorem dX1_allWouldTake_9 : decode cX1_allWouldTake 9 = .ok (.iload_n 1, 1) := by decide +kernel
theorem dX1_allWouldTake_10 : decode cX1_allWouldTake 10 = .ok (.iload_n 2, 1) := by decide +kernel
theorem dX1_allWouldTake_11 : decode cX1_allWouldTake 11 = .ok (.iload_n 3, 1) := by decide +kernel
theorem dX1_allWouldTake_12 : decode cX1_allWouldTake 12 = .ok (.iload 4, 2) := by decide +kernel
theorem dX1_allWouldTake_14 : decode cX1_allWouldTake 14 = .ok (.invokestatic 86, 3) := by decide +kernel
theorem dX1_allWouldTake_17 : decode cX1_allWouldTake 17 = .ok (.istore 5, 2) := by decide +kernel
theorem dX1_allWouldTake_19 : decode cX1_allWouldTake 19 = .ok (.iload 5, 2) := by decide +kernel
theorem dX1_allWouldTake_21 : decode cX1_allWouldTake 21 = .ok (.ifCond .eq 16, 3) := by decide +kernel
theorem dX1_allWouldTake_24 : decode cX1_allWouldTake 24 = .ok (.aload_n 0, 1) := by decide +kernel
theorem dX1_allWouldTake_25 : decode cX1_allWouldTake 25 = .ok (.iload 4, 2) := by decide +kernel
theorem dX1_allWouldTake_27 : decode cX1_allWouldTake 27 = .ok (.iload 5, 2) := by decide +kernel
theorem dX1_allWouldTake_29 : decode cX1_allWouldTake 29 = .ok (.invokevirtual 90, 3) := by decide +kernel
theorem dX1_allWouldTake_32 : decode cX1_allWouldTake 32 = .ok (.ifCond .ne 5, 3) := by decide +kernel
theorem dX1_allWouldTake_35 : decode cX1_allWouldTake 35 = .ok (.iconst 0, 1) := by decide +kernel
theorem dX1_allWouldTake_36 : decode cX1_allWouldTake 36 = .ok (.ireturn, 1) := by decide +kernel
theorem dX1_allWouldTake_37 : decode cX1_allWouldTake 37 = .ok (.iinc 4 1, 3) := by decide +kernel
theorem dX1_allWouldTake_40 : decode cX1_allWouldTake 40 = .ok (.goto (-37), 3) := by decide +kernel
theorem dX1_allWouldTake_43 : decode cX1_allWouldTake 43 = .ok (.iconst 1, 1) := by decide +kernel
theorem dX1_allWouldTake_44 : decode cX1_allWouldTake 44 = .ok (.ireturn, 1) := by decide +kernel
theorem dX1_canStart_0 : decode cX1_canStart 0 = .ok (.aload_n 0, 1) := by decide +kernel
theorem dX1_canStart_1 : decode cX1_canStart 1 = .ok (.iconst 4, 1) := by decide +kernel
theorem dX1_canStart_2 : decode cX1_canStart 2 = .ok (.invokevirtual 94, 3) := by decide +kernel
theorem dX1_canStart_5 : decode cX1_canStart 5 = .ok (.ifCond .eq 16, 3) := by decide +kernel
theorem dX1_canStart_8 : decode cX1_canStart 8 = .ok (.aload_n 0, 1) := by decide +kernel
theorem dX1_canStart_9 : decode cX1_canStart 9 = .ok (.getfield 49, 3) := by decide +kernel
theorem dX1_canStart_12 : decode cX1_canStart 12 = .ok (.bipush 8, 2) := by decide +kernel
theorem dX1_canStart_14 : decode cX1_canStart 14 = .ok (.if_icmp .ge 7, 3) := by decide +kernel
theorem dX1_canStart_17 : decode cX1_canStart 17 = .ok (.iconst 1, 1) := by decide +kernel
theorem dX1_canStart_18 : decode cX1_canStart 18 = .ok (.goto 4, 3) := by decide +kernel
theorem dX1_canStart_21 : decode cX1_canStart 21 = .ok (.iconst 0, 1) := by decide +kernel
theorem dX1_canStart_22 : decode cX1_canStart 22 = .ok (.ireturn, 1) := by decide +kernel
theorem dX1_canDecide_0 : decode cX1_canDecide 0 = .ok (.aload_n 0, 1) := by decide +kernel
theorem dX1_canDecide_1 : decode cX1_canDecide 1 = .ok (.iconst 4, 1) := by decide +kernel
theorem dX1_canDecide_2 : decode cX1_canDecide 2 = .ok (.invokevirtual 94, 3) := by decide +kernel
theorem dX1_canDecide_5 : decode cX1_canDecide 5 = .ok (.ifCond .eq 16, 3) := by decide +kernel
theorem dX1_canDecide_8 : decode cX1_canDecide 8 = .ok (.aload_n 0, 1) := by decide +kernel
theorem dX1_canDecide_9 : decode cX1_canDecide 9 = .ok (.getfield 21, 3) := by decide +kernel
theorem dX1_canDecide_12 : decode cX1_canDecide 12 = .ok (.iload_n 1, 1) := by decide +kernel
theorem dX1_canDecide_13 : decode cX1_canDecide 13 = .ok (.iaload, 1) := by decide +kernel
theorem dX1_canDecide_14 : decode cX1_canDecide 14 = .ok (.ifCond .ne 7, 3) := by decide +kernel
theorem dX1_canDecide_17 : decode cX1_canDecide 17 = .ok (.iconst 1, 1) := by decide +kernel
theorem dX1_canDecide_18 : decode cX1_canDecide 18 = .ok (.goto 4, 3) := by decide +kernel
theorem dX1_canDecide_21 : decode cX1_canDecide 21 = .ok (.iconst 0, 1) := by decide +kernel
theorem dX1_canDecide_22 : decode cX1_canDecide 22 = .ok (.ireturn, 1) := by decide +kernel
theorem dX1_canAskWhatNow_0 : decode cX1_canAskWhatNow 0 = .ok (.aload_n 0, 1) := by decide +kernel
theorem dX1_canAskWhatNow_1 : decode cX1_canAskWhatNow 1 = .ok (.iload_n 1, 1) := by decide +kernel
theorem dX1_canAskWhatNow_2 : decode cX1_canAskWhatNow 2 = .ok (.invokevirtual 94, 3) := by decide +kernel
theorem dX1_canAskWhatNow_5 : decode cX1_canAskWhatNow 5 = .ok (.ifCond .eq 17, 3) := by decide +kernel
theorem dX1_canAskWhatNow_8 : decode cX1_canAskWhatNow 8 = .ok (.aload_n 0, 1) := by decide +kernel
theorem dX1_canAskWhatNow_9 : decode cX1_canAskWhatNow 9 = .ok (.iload_n 1, 1) := by decide +kernel
theorem dX1_canAskWhatNow_10 : decode cX1_canAskWhatNow 10 = .ok (.iload_n 2, 1) := by decide +kernel
theorem dX1_canAskWhatNow_11 : decode cX1_canAskWhatNow 11 = .ok (.invokevirtual 80, 3) := by decide +kernel
theorem dX1_canAskWhatNow_14 : decode cX1_canAskWhatNow 14 = .ok (.iconst 1, 1) := by decide +kernel
theorem dX1_canAskWhatNow_15 : decode cX1_canAskWhatNow 15 = .ok (.if_icmp .ne 7, 3) := by decide +kernel
theorem dX1_canAskWhatNow_18 : decode cX1_canAskWhatNow 18 = .ok (.iconst 1, 1) := by decide +kernel
theorem dX1_canAskWhatNow_19 : decode cX1_canAskWhatNow 19 = .ok (.goto 4, 3) := by decide +kernel
theorem dX1_canAskWhatNow_22 : decode cX1_canAskWhatNow 22 = .ok (.iconst 0, 1) := by decide +kernel
theorem dX1_canAskWhatNow_23 : decode cX1_canAskWhatNow 23 = .ok (.ireturn, 1) := by decide +kernel
theorem dX1_write_0 : decode cX1_write 0 = .ok (.aload_n 0, 1) := by decide +kernel
theorem dX1_write_1 : decode cX1_write 1 = .ok (.getfield 39, 3) := by decide +kernel
theorem dX1_write_4 : decode cX1_write 4 = .ok (.iload_n 1, 1) := by decide +kernel
theorem dX1_write_5 : decode cX1_write 5 = .ok (.iaload, 1) := by decide +kernel
theorem dX1_write_6 : decode cX1_write 6 = .ok (.istore 4, 2) := by decide +kernel
theorem dX1_write_8 : decode cX1_write 8 = .ok (.iload 4, 2) := by decide +kernel
theorem dX1_write_10 : decode cX1_write 10 = .ok (.bipush 24, 2) := by decide +kernel
theorem dX1_write_12 : decode cX1_write 12 = .ok (.if_icmp .ge 30, 3) := by decide +kernel
theorem dX1_write_15 : decode cX1_write 15 = .ok (.aload_n 0, 1) := by decide +kernel
theorem dX1_write_16 : decode cX1_write 16 = .ok (.getfield 36, 3) := by decide +kernel
theorem dX1_write_19 : decode cX1_write 19 = .ok (.iload_n 1, 1) := by decide +kernel
theorem dX1_write_20 : decode cX1_write 20 = .ok (.bipush 24, 2) := by decide +kernel
theorem dX1_write_22 : decode cX1_write 22 = .ok (.imul, 1) := by decide +kernel
theorem dX1_write_23 : decode cX1_write 23 = .ok (.iload 4, 2) := by decide +kernel
theorem dX1_write_25 : decode cX1_write 25 = .ok (.iadd, 1) := by decide +kernel
theorem dX1_write_26 : decode cX1_write 26 = .ok (.iload_n 2, 1) := by decide +kernel
theorem dX1_write_27 : decode cX1_write 27 = .ok (.iconst 3, 1) := by decide +kernel
theorem dX1_write_28 : decode cX1_write 28 = .ok (.ishl, 1) := by decide +kernel
theorem dX1_write_29 : decode cX1_write 29 = .ok (.iload_n 3, 1) := by decide +kernel
theorem dX1_write_30 : decode cX1_write 30 = .ok (.ior, 1) := by decide +kernel
theorem dX1_write_31 : decode cX1_write 31 = .ok (.iastore, 1) := by decide +kernel
theorem dX1_write_32 : decode cX1_write 32 = .ok (.aload_n 0, 1) := by decide +kernel
theorem dX1_write_33 : decode cX1_write 33 = .ok (.getfield 39, 3) := by decide +kernel
theorem dX1_write_36 : decode cX1_write 36 = .ok (.iload_n 1, 1) := by decide +kernel
theorem dX1_write_37 : decode cX1_write 37 = .ok (.iload 4, 2) := by decide +kernel
theorem dX1_write_39 : decode cX1_write 39 = .ok (.iconst 1, 1) := by decide +kernel
theorem dX1_write_40 : decode cX1_write 40 = .ok (.iadd, 1) := by decide +kernel
theorem dX1_write_41 : decode cX1_write 41 = .ok (.iastore, 1) := by decide +kernel
theorem dX1_write_42 : decode cX1_write 42 = .ok (.return_, 1) := by decide +kernel
theorem dX1_send_0 : decode cX1_send 0 = .ok (.iconst 0, 1) := by decide +kernel
theorem dX1_send_1 : decode cX1_send 1 = .ok (.istore 4, 2) := by decide +kernel
theorem dX1_send_3 : decode cX1_send 3 = .ok (.iload 4, 2) := by decide +kernel
theorem dX1_send_5 : decode cX1_send 5 = .ok (.iconst 4, 1) := by decide +kernel
theorem dX1_send_6 : decode cX1_send 6 = .ok (.if_icmp .ge 80, 3) := by decide +kernel
theorem dX1_send_9 : decode cX1_send 9 = .ok (.iload_n 3, 1) := by decide +kernel
theorem dX1_send_10 : decode cX1_send 10 = .ok (.iload 4, 2) := by decide +kernel
theorem dX1_send_12 : decode cX1_send 12 = .ok (.ishr, 1) := by decide +kernel
theorem dX1_send_13 : decode cX1_send 13 = .ok (.iconst 1, 1) := by decide +kernel
theorem dX1_send_14 : decode cX1_send 14 = .ok (.iand, 1) := by decide +kernel
theorem dX1_send_15 : decode cX1_send 15 = .ok (.iconst 1, 1) := by decide +kernel
theorem dX1_send_16 : decode cX1_send 16 = .ok (.if_icmp .ne 64, 3) := by decide +kernel
theorem dX1_send_19 : decode cX1_send 19 = .ok (.aload_n 0, 1) := by decide +kernel
theorem dX1_send_20 : decode cX1_send 20 = .ok (.dup, 1) := by decide +kernel
theorem dX1_send_21 : decode cX1_send 21 = .ok (.getfield 64, 3) := by decide +kernel
theorem dX1_send_24 : decode cX1_send 24 = .ok (.iconst 1, 1) := by decide +kernel
theorem dX1_send_25 : decode cX1_send 25 = .ok (.iadd, 1) := by decide +kernel
theorem dX1_send_26 : decode cX1_send 26 = .ok (.putfield 64, 3) := by decide +kernel
theorem dX1_send_29 : decode cX1_send 29 = .ok (.aload_n 0, 1) := by decide +kernel
theorem dX1_send_30 : decode cX1_send 30 = .ok (.getfield 61, 3) := by decide +kernel
theorem dX1_send_33 : decode cX1_send 33 = .ok (.bipush 60, 2) := by decide +kernel
theorem dX1_send_35 : decode cX1_send 35 = .ok (.if_icmp .ge 35, 3) := by decide +kernel
theorem dX1_send_38 : decode cX1_send 38 = .ok (.aload_n 0, 1) := by decide +kernel
theorem dX1_send_39 : decode cX1_send 39 = .ok (.getfield 42, 3) := by decide +kernel
theorem dX1_send_42 : decode cX1_send 42 = .ok (.aload_n 0, 1) := by decide +kernel
theorem dX1_send_43 : decode cX1_send 43 = .ok (.getfield 61, 3) := by decide +kernel
theorem dX1_send_46 : decode cX1_send 46 = .ok (.iload_n 1, 1) := by decide +kernel
theorem dX1_send_47 : decode cX1_send 47 = .ok (.iconst 5, 1) := by decide +kernel
theorem dX1_send_48 : decode cX1_send 48 = .ok (.ishl, 1) := by decide +kernel
theorem dX1_send_49 : decode cX1_send 49 = .ok (.iload_n 2, 1) := by decide +kernel
theorem dX1_send_50 : decode cX1_send 50 = .ok (.iconst 2, 1) := by decide +kernel
theorem dX1_send_51 : decode cX1_send 51 = .ok (.ishl, 1) := by decide +kernel
theorem dX1_send_52 : decode cX1_send 52 = .ok (.ior, 1) := by decide +kernel
theorem dX1_send_53 : decode cX1_send 53 = .ok (.iload 4, 2) := by decide +kernel
theorem dX1_send_55 : decode cX1_send 55 = .ok (.ior, 1) := by decide +kernel
theorem dX1_send_56 : decode cX1_send 56 = .ok (.iastore, 1) := by decide +kernel
theorem dX1_send_57 : decode cX1_send 57 = .ok (.aload_n 0, 1) := by decide +kernel
theorem dX1_send_58 : decode cX1_send 58 = .ok (.dup, 1) := by decide +kernel
theorem dX1_send_59 : decode cX1_send 59 = .ok (.getfield 61, 3) := by decide +kernel
theorem dX1_send_62 : decode cX1_send 62 = .ok (.iconst 1, 1) := by decide +kernel
theorem dX1_send_63 : decode cX1_send 63 = .ok (.iadd, 1) := by decide +kernel
theorem dX1_send_64 : decode cX1_send 64 = .ok (.putfield 61, 3) := by decide +kernel
theorem dX1_send_67 : decode cX1_send 67 = .ok (.goto 13, 3) := by decide +kernel
theorem dX1_send_70 : decode cX1_send 70 = .ok (.aload_n 0, 1) := by decide +kernel
theorem dX1_send_71 : decode cX1_send 71 = .ok (.dup, 1) := by decide +kernel
theorem dX1_send_72 : decode cX1_send 72 = .ok (.getfield 70, 3) := by decide +kernel
theorem dX1_send_75 : decode cX1_send 75 = .ok (.iconst 1, 1) := by decide +kernel
theorem dX1_send_76 : decode cX1_send 76 = .ok (.iadd, 1) := by decide +kernel
theorem dX1_send_77 : decode cX1_send 77 = .ok (.putfield 70, 3) := by decide +kernel
theorem dX1_send_80 : decode cX1_send 80 = .ok (.iinc 4 1, 3) := by decide +kernel
theorem dX1_send_83 : decode cX1_send 83 = .ok (.goto (-80), 3) := by decide +kernel
theorem dX1_send_86 : decode cX1_send 86 = .ok (.return_, 1) := by decide +kernel
theorem dX1_takeOut_0 : decode cX1_takeOut 0 = .ok (.aload_n 0, 1) := by decide +kernel
theorem dX1_takeOut_1 : decode cX1_takeOut 1 = .ok (.getfield 42, 3) := by decide +kernel
theorem dX1_takeOut_4 : decode cX1_takeOut 4 = .ok (.iload_n 1, 1) := by decide +kernel
theorem dX1_takeOut_5 : decode cX1_takeOut 5 = .ok (.iaload, 1) := by decide +kernel
theorem dX1_takeOut_6 : decode cX1_takeOut 6 = .ok (.istore_n 2, 1) := by decide +kernel
theorem dX1_takeOut_7 : decode cX1_takeOut 7 = .ok (.iload_n 1, 1) := by decide +kernel
theorem dX1_takeOut_8 : decode cX1_takeOut 8 = .ok (.iconst 1, 1) := by decide +kernel
theorem dX1_takeOut_9 : decode cX1_takeOut 9 = .ok (.iadd, 1) := by decide +kernel
theorem dX1_takeOut_10 : decode cX1_takeOut 10 = .ok (.istore_n 3, 1) := by decide +kernel
theorem dX1_takeOut_11 : decode cX1_takeOut 11 = .ok (.iload_n 3, 1) := by decide +kernel
theorem dX1_takeOut_12 : decode cX1_takeOut 12 = .ok (.aload_n 0, 1) := by decide +kernel
theorem dX1_takeOut_13 : decode cX1_takeOut 13 = .ok (.getfield 61, 3) := by decide +kernel
theorem dX1_takeOut_16 : decode cX1_takeOut 16 = .ok (.if_icmp .ge 23, 3) := by decide +kernel
theorem dX1_takeOut_19 : decode cX1_takeOut 19 = .ok (.aload_n 0, 1) := by decide +kernel
theorem dX1_takeOut_20 : decode cX1_takeOut 20 = .ok (.getfield 42, 3) := by decide +kernel
theorem dX1_takeOut_23 : decode cX1_takeOut 23 = .ok (.iload_n 3, 1) := by decide +kernel
theorem dX1_takeOut_24 : decode cX1_takeOut 24 = .ok (.iconst 1, 1) := by decide +kernel
theorem dX1_takeOut_25 : decode cX1_takeOut 25 = .ok (.isub, 1) := by decide +kernel
theorem dX1_takeOut_26 : decode cX1_takeOut 26 = .ok (.aload_n 0, 1) := by decide +kernel
theorem dX1_takeOut_27 : decode cX1_takeOut 27 = .ok (.getfield 42, 3) := by decide +kernel
theorem dX1_takeOut_30 : decode cX1_takeOut 30 = .ok (.iload_n 3, 1) := by decide +kernel
theorem dX1_takeOut_31 : decode cX1_takeOut 31 = .ok (.iaload, 1) := by decide +kernel
theorem dX1_takeOut_32 : decode cX1_takeOut 32 = .ok (.iastore, 1) := by decide +kernel
theorem dX1_takeOut_33 : decode cX1_takeOut 33 = .ok (.iinc 3 1, 3) := by decide +kernel
theorem dX1_takeOut_36 : decode cX1_takeOut 36 = .ok (.goto (-25), 3) := by decide +kernel
theorem dX1_takeOut_39 : decode cX1_takeOut 39 = .ok (.aload_n 0, 1) := by decide +kernel
theorem dX1_takeOut_40 : decode cX1_takeOut 40 = .ok (.dup, 1) := by decide +kernel
theorem dX1_takeOut_41 : decode cX1_takeOut 41 = .ok (.getfield 61, 3) := by decide +kernel
theorem dX1_takeOut_44 : decode cX1_takeOut 44 = .ok (.iconst 1, 1) := by decide +kernel
theorem dX1_takeOut_45 : decode cX1_takeOut 45 = .ok (.isub, 1) := by decide +kernel
theorem dX1_takeOut_46 : decode cX1_takeOut 46 = .ok (.putfield 61, 3) := by decide +kernel
theorem dX1_takeOut_49 : decode cX1_takeOut 49 = .ok (.iload_n 2, 1) := by decide +kernel
theorem dX1_takeOut_50 : decode cX1_takeOut 50 = .ok (.ireturn, 1) := by decide +kernel
theorem dX1_loseFrom_0 : decode cX1_loseFrom 0 = .ok (.aload_n 0, 1) := by decide +kernel
theorem dX1_loseFrom_1 : decode cX1_loseFrom 1 = .ok (.dup, 1) := by decide +kernel
theorem dX1_loseFrom_2 : decode cX1_loseFrom 2 = .ok (.getfield 70, 3) := by decide +kernel
theorem dX1_loseFrom_5 : decode cX1_loseFrom 5 = .ok (.iconst 1, 1) := by decide +kernel
theorem dX1_loseFrom_6 : decode cX1_loseFrom 6 = .ok (.iadd, 1) := by decide +kernel
theorem dX1_loseFrom_7 : decode cX1_loseFrom 7 = .ok (.putfield 70, 3) := by decide +kernel
theorem dX1_loseFrom_10 : decode cX1_loseFrom 10 = .ok (.aload_n 0, 1) := by decide +kernel
theorem dX1_loseFrom_11 : decode cX1_loseFrom 11 = .ok (.iload_n 1, 1) := by decide +kernel
theorem dX1_loseFrom_12 : decode cX1_loseFrom 12 = .ok (.invokevirtual 98, 3) := by decide +kernel
theorem dX1_loseFrom_15 : decode cX1_loseFrom 15 = .ok (.invokestatic 102, 3) := by decide +kernel
theorem dX1_loseFrom_18 : decode cX1_loseFrom 18 = .ok (.ireturn, 1) := by decide +kernel
theorem dX1_deliverFirst_0 : decode cX1_deliverFirst 0 = .ok (.iconst 0, 1) := by decide +kernel
theorem dX1_deliverFirst_1 : decode cX1_deliverFirst 1 = .ok (.istore_n 2, 1) := by decide +kernel
theorem dX1_deliverFirst_2 : decode cX1_deliverFirst 2 = .ok (.iload_n 2, 1) := by decide +kernel
theorem dX1_deliverFirst_3 : decode cX1_deliverFirst 3 = .ok (.iload_n 1, 1) := by decide +kernel
theorem dX1_deliverFirst_4 : decode cX1_deliverFirst 4 = .ok (.if_icmp .ge 22, 3) := by decide +kernel
theorem dX1_deliverFirst_7 : decode cX1_deliverFirst 7 = .ok (.aload_n 0, 1) := by decide +kernel
theorem dX1_deliverFirst_8 : decode cX1_deliverFirst 8 = .ok (.getfield 61, 3) := by decide +kernel
theorem dX1_deliverFirst_11 : decode cX1_deliverFirst 11 = .ok (.ifCond .le 15, 3) := by decide +kernel
theorem dX1_deliverFirst_14 : decode cX1_deliverFirst 14 = .ok (.aload_n 0, 1) := by decide +kernel
theorem dX1_deliverFirst_15 : decode cX1_deliverFirst 15 = .ok (.iconst 0, 1) := by decide +kernel
theorem dX1_deliverFirst_16 : decode cX1_deliverFirst 16 = .ok (.invokevirtual 105, 3) := by decide +kernel
theorem dX1_deliverFirst_19 : decode cX1_deliverFirst 19 = .ok (.pop, 1) := by decide +kernel
theorem dX1_deliverFirst_20 : decode cX1_deliverFirst 20 = .ok (.iinc 2 1, 3) := by decide +kernel
theorem dX1_deliverFirst_23 : decode cX1_deliverFirst 23 = .ok (.goto (-21), 3) := by decide +kernel
theorem dX1_deliverFirst_26 : decode cX1_deliverFirst 26 = .ok (.iload_n 2, 1) := by decide +kernel
theorem dX1_deliverFirst_27 : decode cX1_deliverFirst 27 = .ok (.ireturn, 1) := by decide +kernel
theorem dX1_deliverFrom_0 : decode cX1_deliverFrom 0 = .ok (.aload_n 0, 1) := by decide +kernel
theorem dX1_deliverFrom_1 : decode cX1_deliverFrom 1 = .ok (.iload_n 1, 1) := by decide +kernel
theorem dX1_deliverFrom_2 : decode cX1_deliverFrom 2 = .ok (.invokevirtual 98, 3) := by decide +kernel
theorem dX1_deliverFrom_5 : decode cX1_deliverFrom 5 = .ok (.istore_n 2, 1) := by decide +kernel
theorem dX1_deliverFrom_6 : decode cX1_deliverFrom 6 = .ok (.iload_n 2, 1) := by decide +kernel
theorem dX1_deliverFrom_7 : decode cX1_deliverFrom 7 = .ok (.invokestatic 102, 3) := by decide +kernel
theorem dX1_deliverFrom_10 : decode cX1_deliverFrom 10 = .ok (.istore_n 3, 1) := by decide +kernel
theorem dX1_deliverFrom_11 : decode cX1_deliverFrom 11 = .ok (.iload_n 2, 1) := by decide +kernel
theorem dX1_deliverFrom_12 : decode cX1_deliverFrom 12 = .ok (.invokestatic 108, 3) := by decide +kernel
theorem dX1_deliverFrom_15 : decode cX1_deliverFrom 15 = .ok (.istore 4, 2) := by decide +kernel
theorem dX1_deliverFrom_17 : decode cX1_deliverFrom 17 = .ok (.iload_n 2, 1) := by decide +kernel
theorem dX1_deliverFrom_18 : decode cX1_deliverFrom 18 = .ok (.invokestatic 111, 3) := by decide +kernel
theorem dX1_deliverFrom_21 : decode cX1_deliverFrom 21 = .ok (.istore 5, 2) := by decide +kernel
theorem dX1_deliverFrom_23 : decode cX1_deliverFrom 23 = .ok (.aload_n 0, 1) := by decide +kernel
theorem dX1_deliverFrom_24 : decode cX1_deliverFrom 24 = .ok (.iload_n 3, 1) := by decide +kernel
theorem dX1_deliverFrom_25 : decode cX1_deliverFrom 25 = .ok (.invokestatic 114, 3) := by decide +kernel
theorem dX1_deliverFrom_28 : decode cX1_deliverFrom 28 = .ok (.ifCond .eq 8, 3) := by decide +kernel
theorem dX1_deliverFrom_31 : decode cX1_deliverFrom 31 = .ok (.iload 5, 2) := by decide +kernel
theorem dX1_deliverFrom_33 : decode cX1_deliverFrom 33 = .ok (.goto 4, 3) := by decide +kernel
theorem dX1_deliverFrom_36 : decode cX1_deliverFrom 36 = .ok (.iconst 4, 1) := by decide +kernel
theorem dX1_deliverFrom_37 : decode cX1_deliverFrom 37 = .ok (.invokevirtual 94, 3) := by decide +kernel
theorem dX1_deliverFrom_40 : decode cX1_deliverFrom 40 = .ok (.ifCond .ne 15, 3) := by decide +kernel
theorem dX1_deliverFrom_43 : decode cX1_deliverFrom 43 = .ok (.aload_n 0, 1) := by decide +kernel
theorem dX1_deliverFrom_44 : decode cX1_deliverFrom 44 = .ok (.dup, 1) := by decide +kernel
theorem dX1_deliverFrom_45 : decode cX1_deliverFrom 45 = .ok (.getfield 70, 3) := by decide +kernel
theorem dX1_deliverFrom_48 : decode cX1_deliverFrom 48 = .ok (.iconst 1, 1) := by decide +kernel
theorem dX1_deliverFrom_49 : decode cX1_deliverFrom 49 = .ok (.iadd, 1) := by decide +kernel
theorem dX1_deliverFrom_50 : decode cX1_deliverFrom 50 = .ok (.putfield 70, 3) := by decide +kernel
theorem dX1_deliverFrom_53 : decode cX1_deliverFrom 53 = .ok (.iconst 0, 1) := by decide +kernel
theorem dX1_deliverFrom_54 : decode cX1_deliverFrom 54 = .ok (.ireturn, 1) := by decide +kernel
theorem dX1_deliverFrom_55 : decode cX1_deliverFrom 55 = .ok (.aload_n 0, 1) := by decide +kernel
theorem dX1_deliverFrom_56 : decode cX1_deliverFrom 56 = .ok (.dup, 1) := by decide +kernel
theorem dX1_deliverFrom_57 : decode cX1_deliverFrom 57 = .ok (.getfield 67, 3) := by decide +kernel
theorem dX1_deliverFrom_60 : decode cX1_deliverFrom 60 = .ok (.iconst 1, 1) := by decide +kernel
theorem dX1_deliverFrom_61 : decode cX1_deliverFrom 61 = .ok (.iadd, 1) := by decide +kernel
theorem dX1_deliverFrom_62 : decode cX1_deliverFrom 62 = .ok (.putfield 67, 3) := by decide +kernel
theorem dX1_deliverFrom_65 : decode cX1_deliverFrom 65 = .ok (.iload_n 3, 1) := by decide +kernel
theorem dX1_deliverFrom_66 : decode cX1_deliverFrom 66 = .ok (.tableswitch 102 0 5 #[38, 49, 60, 69, 80, 91], 38) := by decide +kernel
theorem dX1_deliverFrom_104 : decode cX1_deliverFrom 104 = .ok (.aload_n 0, 1) := by decide +kernel
theorem dX1_deliverFrom_105 : decode cX1_deliverFrom 105 = .ok (.iload 5, 2) := by decide +kernel
theorem dX1_deliverFrom_107 : decode cX1_deliverFrom 107 = .ok (.iload 4, 2) := by decide +kernel
theorem dX1_deliverFrom_109 : decode cX1_deliverFrom 109 = .ok (.invokevirtual 117, 3) := by decide +kernel
theorem dX1_deliverFrom_112 : decode cX1_deliverFrom 112 = .ok (.goto 64, 3) := by decide +kernel
theorem dX1_deliverFrom_115 : decode cX1_deliverFrom 115 = .ok (.aload_n 0, 1) := by decide +kernel
theorem dX1_deliverFrom_116 : decode cX1_deliverFrom 116 = .ok (.iload 5, 2) := by decide +kernel
theorem dX1_deliverFrom_118 : decode cX1_deliverFrom 118 = .ok (.iload 4, 2) := by decide +kernel
theorem dX1_deliverFrom_120 : decode cX1_deliverFrom 120 = .ok (.invokevirtual 121, 3) := by decide +kernel
theorem dX1_deliverFrom_123 : decode cX1_deliverFrom 123 = .ok (.goto 53, 3) := by decide +kernel
theorem dX1_deliverFrom_126 : decode cX1_deliverFrom 126 = .ok (.aload_n 0, 1) := by decide +kernel
theorem dX1_deliverFrom_127 : decode cX1_deliverFrom 127 = .ok (.iload 4, 2) := by decide +kernel
theorem dX1_deliverFrom_129 : decode cX1_deliverFrom 129 = .ok (.invokevirtual 124, 3) := by decide +kernel
theorem dX1_deliverFrom_132 : decode cX1_deliverFrom 132 = .ok (.goto 44, 3) := by decide +kernel
theorem dX1_deliverFrom_135 : decode cX1_deliverFrom 135 = .ok (.aload_n 0, 1) := by decide +kernel
theorem dX1_deliverFrom_136 : decode cX1_deliverFrom 136 = .ok (.iload 5, 2) := by decide +kernel
theorem dX1_deliverFrom_138 : decode cX1_deliverFrom 138 = .ok (.iload 4, 2) := by decide +kernel
theorem dX1_deliverFrom_140 : decode cX1_deliverFrom 140 = .ok (.invokevirtual 128, 3) := by decide +kernel
theorem dX1_deliverFrom_143 : decode cX1_deliverFrom 143 = .ok (.goto 33, 3) := by decide +kernel
theorem dX1_deliverFrom_146 : decode cX1_deliverFrom 146 = .ok (.aload_n 0, 1) := by decide +kernel
theorem dX1_deliverFrom_147 : decode cX1_deliverFrom 147 = .ok (.iload 5, 2) := by decide +kernel
theorem dX1_deliverFrom_149 : decode cX1_deliverFrom 149 = .ok (.iload 4, 2) := by decide +kernel
theorem dX1_deliverFrom_151 : decode cX1_deliverFrom 151 = .ok (.invokevirtual 131, 3) := by decide +kernel
theorem dX1_deliverFrom_154 : decode cX1_deliverFrom 154 = .ok (.goto 22, 3) := by decide +kernel
theorem dX1_deliverFrom_157 : decode cX1_deliverFrom 157 = .ok (.aload_n 0, 1) := by decide +kernel
theorem dX1_deliverFrom_158 : decode cX1_deliverFrom 158 = .ok (.iload 5, 2) := by decide +kernel
theorem dX1_deliverFrom_160 : decode cX1_deliverFrom 160 = .ok (.iload 4, 2) := by decide +kernel
theorem dX1_deliverFrom_162 : decode cX1_deliverFrom 162 = .ok (.invokevirtual 134, 3) := by decide +kernel
theorem dX1_deliverFrom_165 : decode cX1_deliverFrom 165 = .ok (.goto 11, 3) := by decide +kernel
theorem dX1_deliverFrom_168 : decode cX1_deliverFrom 168 = .ok (.aload_n 0, 1) := by decide +kernel
theorem dX1_deliverFrom_169 : decode cX1_deliverFrom 169 = .ok (.iload 5, 2) := by decide +kernel
theorem dX1_deliverFrom_171 : decode cX1_deliverFrom 171 = .ok (.iload 4, 2) := by decide +kernel
theorem dX1_deliverFrom_173 : decode cX1_deliverFrom 173 = .ok (.invokevirtual 137, 3) := by decide +kernel
theorem dX1_deliverFrom_176 : decode cX1_deliverFrom 176 = .ok (.iconst 1, 1) := by decide +kernel
theorem dX1_deliverFrom_177 : decode cX1_deliverFrom 177 = .ok (.ireturn, 1) := by decide +kernel
theorem dX1_storeWrites_0 : decode cX1_storeWrites 0 = .ok (.aload_n 0, 1) := by decide +kernel
theorem dX1_storeWrites_1 : decode cX1_storeWrites 1 = .ok (.iload_n 1, 1) := by decide +kernel
theorem dX1_storeWrites_2 : decode cX1_storeWrites 2 = .ok (.iload_n 2, 1) := by decide +kernel
theorem dX1_storeWrites_3 : decode cX1_storeWrites 3 = .ok (.iload_n 3, 1) := by decide +kernel
theorem dX1_storeWrites_4 : decode cX1_storeWrites 4 = .ok (.invokevirtual 140, 3) := by decide +kernel
theorem dX1_storeWrites_7 : decode cX1_storeWrites 7 = .ok (.aload_n 0, 1) := by decide +kernel
theorem dX1_storeWrites_8 : decode cX1_storeWrites 8 = .ok (.getfield 33, 3) := by decide +kernel
theorem dX1_storeWrites_11 : decode cX1_storeWrites 11 = .ok (.iload_n 1, 1) := by decide +kernel
theorem dX1_storeWrites_12 : decode cX1_storeWrites 12 = .ok (.bipush 8, 2) := by decide +kernel
theorem dX1_storeWrites_14 : decode cX1_storeWrites 14 = .ok (.imul, 1) := by decide +kernel
theorem dX1_storeWrites_15 : decode cX1_storeWrites 15 = .ok (.iload_n 3, 1) := by decide +kernel
theorem dX1_storeWrites_16 : decode cX1_storeWrites 16 = .ok (.iadd, 1) := by decide +kernel
theorem dX1_storeWrites_17 : decode cX1_storeWrites 17 = .ok (.iload_n 2, 1) := by decide +kernel
theorem dX1_storeWrites_18 : decode cX1_storeWrites 18 = .ok (.invokestatic 144, 3) := by decide +kernel
theorem dX1_storeWrites_21 : decode cX1_storeWrites 21 = .ok (.iastore, 1) := by decide +kernel
theorem dX1_storeWrites_22 : decode cX1_storeWrites 22 = .ok (.iload_n 2, 1) := by decide +kernel
theorem dX1_storeWrites_23 : decode cX1_storeWrites 23 = .ok (.iconst 1, 1) := by decide +kernel
theorem dX1_storeWrites_24 : decode cX1_storeWrites 24 = .ok (.if_icmp .ne 18, 3) := by decide +kernel
theorem dX1_storeWrites_27 : decode cX1_storeWrites 27 = .ok (.aload_n 0, 1) := by decide +kernel
theorem dX1_storeWrites_28 : decode cX1_storeWrites 28 = .ok (.getfield 30, 3) := by decide +kernel
theorem dX1_storeWrites_31 : decode cX1_storeWrites 31 = .ok (.iload_n 1, 1) := by decide +kernel
theorem dX1_storeWrites_32 : decode cX1_storeWrites 32 = .ok (.dup2, 1) := by decide +kernel
theorem dX1_storeWrites_33 : decode cX1_storeWrites 33 = .ok (.iaload, 1) := by decide +kernel
theorem dX1_storeWrites_34 : decode cX1_storeWrites 34 = .ok (.aload_n 0, 1) := by decide +kernel
theorem dX1_storeWrites_35 : decode cX1_storeWrites 35 = .ok (.iload_n 3, 1) := by decide +kernel
theorem dX1_storeWrites_36 : decode cX1_storeWrites 36 = .ok (.iload_n 1, 1) := by decide +kernel
theorem dX1_storeWrites_37 : decode cX1_storeWrites 37 = .ok (.invokevirtual 83, 3) := by decide +kernel
theorem dX1_storeWrites_40 : decode cX1_storeWrites 40 = .ok (.iadd, 1) := by decide +kernel
theorem dX1_storeWrites_41 : decode cX1_storeWrites 41 = .ok (.iastore, 1) := by decide +kernel
theorem dX1_storeWrites_42 : decode cX1_storeWrites 42 = .ok (.return_, 1) := by decide +kernel
theorem dX1_storeHearsAsking_0 : decode cX1_storeHearsAsking 0 = .ok (.aload_n 0, 1) := by decide +kernel
theorem dX1_storeHearsAsking_1 : decode cX1_storeHearsAsking 1 = .ok (.iload_n 1, 1) := by decide +kernel
theorem dX1_storeHearsAsking_2 : decode cX1_storeHearsAsking 2 = .ok (.iload_n 2, 1) := by decide +kernel
theorem dX1_storeHearsAsking_3 : decode cX1_storeHearsAsking 3 = .ok (.invokevirtual 80, 3) := by decide +kernel
theorem dX1_storeHearsAsking_6 : decode cX1_storeHearsAsking 6 = .ok (.ifCond .ne 30, 3) := by decide +kernel
theorem dX1_storeHearsAsking_9 : decode cX1_storeHearsAsking 9 = .ok (.aload_n 0, 1) := by decide +kernel
theorem dX1_storeHearsAsking_10 : decode cX1_storeHearsAsking 10 = .ok (.iload_n 1, 1) := by decide +kernel
theorem dX1_storeHearsAsking_11 : decode cX1_storeHearsAsking 11 = .ok (.aload_n 0, 1) := by decide +kernel
theorem dX1_storeHearsAsking_12 : decode cX1_storeHearsAsking 12 = .ok (.iload_n 2, 1) := by decide +kernel
theorem dX1_storeHearsAsking_13 : decode cX1_storeHearsAsking 13 = .ok (.iload_n 1, 1) := by decide +kernel
theorem dX1_storeHearsAsking_14 : decode cX1_storeHearsAsking 14 = .ok (.invokevirtual 83, 3) := by decide +kernel
theorem dX1_storeHearsAsking_17 : decode cX1_storeHearsAsking 17 = .ok (.invokevirtual 90, 3) := by decide +kernel
theorem dX1_storeHearsAsking_20 : decode cX1_storeHearsAsking 20 = .ok (.istore_n 3, 1) := by decide +kernel
theorem dX1_storeHearsAsking_21 : decode cX1_storeHearsAsking 21 = .ok (.aload_n 0, 1) := by decide +kernel
theorem dX1_storeHearsAsking_22 : decode cX1_storeHearsAsking 22 = .ok (.iload_n 1, 1) := by decide +kernel
theorem dX1_storeHearsAsking_23 : decode cX1_storeHearsAsking 23 = .ok (.iload_n 3, 1) := by decide +kernel
theorem dX1_storeHearsAsking_24 : decode cX1_storeHearsAsking 24 = .ok (.ifCond .eq 7, 3) := by decide +kernel
theorem dX1_storeHearsAsking_27 : decode cX1_storeHearsAsking 27 = .ok (.iconst 4, 1) := by decide +kernel
theorem dX1_storeHearsAsking_28 : decode cX1_storeHearsAsking 28 = .ok (.goto 4, 3) := by decide +kernel
theorem dX1_storeHearsAsking_31 : decode cX1_storeHearsAsking 31 = .ok (.iconst 2, 1) := by decide +kernel
theorem dX1_storeHearsAsking_32 : decode cX1_storeHearsAsking 32 = .ok (.iload_n 2, 1) := by decide +kernel
theorem dX1_storeHearsAsking_33 : decode cX1_storeHearsAsking 33 = .ok (.invokevirtual 147, 3) := by decide +kernel
theorem dX1_storeHearsAsking_36 : decode cX1_storeHearsAsking 36 = .ok (.aload_n 0, 1) := by decide +kernel
theorem dX1_storeHearsAsking_37 : decode cX1_storeHearsAsking 37 = .ok (.aload_n 0, 1) := by decide +kernel
theorem dX1_storeHearsAsking_38 : decode cX1_storeHearsAsking 38 = .ok (.iload_n 1, 1) := by decide +kernel
theorem dX1_storeHearsAsking_39 : decode cX1_storeHearsAsking 39 = .ok (.iload_n 2, 1) := by decide +kernel
theorem dX1_storeHearsAsking_40 : decode cX1_storeHearsAsking 40 = .ok (.invokevirtual 80, 3) := by decide +kernel
theorem dX1_storeHearsAsking_43 : decode cX1_storeHearsAsking 43 = .ok (.iconst 3, 1) := by decide +kernel
theorem dX1_storeHearsAsking_44 : decode cX1_storeHearsAsking 44 = .ok (.if_icmp .ne 7, 3) := by decide +kernel
theorem dX1_storeHearsAsking_47 : decode cX1_storeHearsAsking 47 = .ok (.iconst 2, 1) := by decide +kernel
theorem dX1_storeHearsAsking_48 : decode cX1_storeHearsAsking 48 = .ok (.goto 4, 3) := by decide +kernel
theorem dX1_storeHearsAsking_51 : decode cX1_storeHearsAsking 51 = .ok (.iconst 1, 1) := by decide +kernel
theorem dX1_storeHearsAsking_52 : decode cX1_storeHearsAsking 52 = .ok (.iload_n 2, 1) := by decide +kernel
theorem dX1_storeHearsAsking_53 : decode cX1_storeHearsAsking 53 = .ok (.iconst 1, 1) := by decide +kernel
theorem dX1_storeHearsAsking_54 : decode cX1_storeHearsAsking 54 = .ok (.iload_n 1, 1) := by decide +kernel
theorem dX1_storeHearsAsking_55 : decode cX1_storeHearsAsking 55 = .ok (.ishl, 1) := by decide +kernel
theorem dX1_storeHearsAsking_56 : decode cX1_storeHearsAsking 56 = .ok (.invokevirtual 150, 3) := by decide +kernel
theorem dX1_storeHearsAsking_59 : decode cX1_storeHearsAsking 59 = .ok (.return_, 1) := by decide +kernel
theorem dX1_storeHearsMake_0 : decode cX1_storeHearsMake 0 = .ok (.aload_n 0, 1) := by decide +kernel
theorem dX1_storeHearsMake_1 : decode cX1_storeHearsMake 1 = .ok (.iload_n 1, 1) := by decide +kernel
theorem dX1_storeHearsMake_2 : decode cX1_storeHearsMake 2 = .ok (.iload_n 2, 1) := by decide +kernel
theorem dX1_storeHearsMake_3 : decode cX1_storeHearsMake 3 = .ok (.invokevirtual 80, 3) := by decide +kernel
theorem dX1_storeHearsMake_6 : decode cX1_storeHearsMake 6 = .ok (.iconst 1, 1) := by decide +kernel
theorem dX1_storeHearsMake_7 : decode cX1_storeHearsMake 7 = .ok (.if_icmp .ne 10, 3) := by decide +kernel
theorem dX1_storeHearsMake_10 : decode cX1_storeHearsMake 10 = .ok (.aload_n 0, 1) := by decide +kernel
theorem dX1_storeHearsMake_11 : decode cX1_storeHearsMake 11 = .ok (.iload_n 1, 1) := by decide +kernel
theorem dX1_storeHearsMake_12 : decode cX1_storeHearsMake 12 = .ok (.iconst 1, 1) := by decide +kernel
theorem dX1_storeHearsMake_13 : decode cX1_storeHearsMake 13 = .ok (.iload_n 2, 1) := by decide +kernel
theorem dX1_storeHearsMake_14 : decode cX1_storeHearsMake 14 = .ok (.invokevirtual 147, 3) := by decide +kernel
theorem dX1_storeHearsMake_17 : decode cX1_storeHearsMake 17 = .ok (.aload_n 0, 1) := by decide +kernel
theorem dX1_storeHearsMake_18 : decode cX1_storeHearsMake 18 = .ok (.iload_n 1, 1) := by decide +kernel
theorem dX1_storeHearsMake_19 : decode cX1_storeHearsMake 19 = .ok (.iload_n 2, 1) := by decide +kernel
theorem dX1_storeHearsMake_20 : decode cX1_storeHearsMake 20 = .ok (.invokevirtual 80, 3) := by decide +kernel
theorem dX1_storeHearsMake_23 : decode cX1_storeHearsMake 23 = .ok (.iconst 2, 1) := by decide +kernel
theorem dX1_storeHearsMake_24 : decode cX1_storeHearsMake 24 = .ok (.if_icmp .ne 12, 3) := by decide +kernel
theorem dX1_storeHearsMake_27 : decode cX1_storeHearsMake 27 = .ok (.aload_n 0, 1) := by decide +kernel
theorem dX1_storeHearsMake_28 : decode cX1_storeHearsMake 28 = .ok (.iconst 5, 1) := by decide +kernel
theorem dX1_storeHearsMake_29 : decode cX1_storeHearsMake 29 = .ok (.iload_n 2, 1) := by decide +kernel
theorem dX1_storeHearsMake_30 : decode cX1_storeHearsMake 30 = .ok (.iconst 1, 1) := by decide +kernel
theorem dX1_storeHearsMake_31 : decode cX1_storeHearsMake 31 = .ok (.iload_n 1, 1) := by decide +kernel
theorem dX1_storeHearsMake_32 : decode cX1_storeHearsMake 32 = .ok (.ishl, 1) := by decide +kernel
theorem dX1_storeHearsMake_33 : decode cX1_storeHearsMake 33 = .ok (.invokevirtual 150, 3) := by decide +kernel
theorem dX1_storeHearsMake_36 : decode cX1_storeHearsMake 36 = .ok (.return_, 1) := by decide +kernel
theorem dX1_storeHearsDrop_0 : decode cX1_storeHearsDrop 0 = .ok (.aload_n 0, 1) := by decide +kernel
theorem dX1_storeHearsDrop_1 : decode cX1_storeHearsDrop 1 = .ok (.iload_n 1, 1) := by decide +kernel
theorem dX1_storeHearsDrop_2 : decode cX1_storeHearsDrop 2 = .ok (.iload_n 2, 1) := by decide +kernel
theorem dX1_storeHearsDrop_3 : decode cX1_storeHearsDrop 3 = .ok (.invokevirtual 80, 3) := by decide +kernel
theorem dX1_storeHearsDrop_6 : decode cX1_storeHearsDrop 6 = .ok (.istore_n 3, 1) := by decide +kernel
theorem dX1_storeHearsDrop_7 : decode cX1_storeHearsDrop 7 = .ok (.iload_n 3, 1) := by decide +kernel
theorem dX1_storeHearsDrop_8 : decode cX1_storeHearsDrop 8 = .ok (.iconst 1, 1) := by decide +kernel
theorem dX1_storeHearsDrop_9 : decode cX1_storeHearsDrop 9 = .ok (.if_icmp .eq 7, 3) := by decide +kernel
theorem dX1_storeHearsDrop_12 : decode cX1_storeHearsDrop 12 = .ok (.iload_n 3, 1) := by decide +kernel
theorem dX1_storeHearsDrop_13 : decode cX1_storeHearsDrop 13 = .ok (.ifCond .ne 10, 3) := by decide +kernel
theorem dX1_storeHearsDrop_16 : decode cX1_storeHearsDrop 16 = .ok (.aload_n 0, 1) := by decide +kernel
theorem dX1_storeHearsDrop_17 : decode cX1_storeHearsDrop 17 = .ok (.iload_n 1, 1) := by decide +kernel
theorem dX1_storeHearsDrop_18 : decode cX1_storeHearsDrop 18 = .ok (.iconst 2, 1) := by decide +kernel
theorem dX1_storeHearsDrop_19 : decode cX1_storeHearsDrop 19 = .ok (.iload_n 2, 1) := by decide +kernel
theorem dX1_storeHearsDrop_20 : decode cX1_storeHearsDrop 20 = .ok (.invokevirtual 147, 3) := by decide +kernel
theorem dX1_storeHearsDrop_23 : decode cX1_storeHearsDrop 23 = .ok (.aload_n 0, 1) := by decide +kernel
theorem dX1_storeHearsDrop_24 : decode cX1_storeHearsDrop 24 = .ok (.iload_n 1, 1) := by decide +kernel
theorem dX1_storeHearsDrop_25 : decode cX1_storeHearsDrop 25 = .ok (.iload_n 2, 1) := by decide +kernel
theorem dX1_storeHearsDrop_26 : decode cX1_storeHearsDrop 26 = .ok (.invokevirtual 80, 3) := by decide +kernel
theorem dX1_storeHearsDrop_29 : decode cX1_storeHearsDrop 29 = .ok (.iconst 3, 1) := by decide +kernel
theorem dX1_storeHearsDrop_30 : decode cX1_storeHearsDrop 30 = .ok (.if_icmp .ne 12, 3) := by decide +kernel
theorem dX1_storeHearsDrop_33 : decode cX1_storeHearsDrop 33 = .ok (.aload_n 0, 1) := by decide +kernel
theorem dX1_storeHearsDrop_34 : decode cX1_storeHearsDrop 34 = .ok (.iconst 5, 1) := by decide +kernel
theorem dX1_storeHearsDrop_35 : decode cX1_storeHearsDrop 35 = .ok (.iload_n 2, 1) := by decide +kernel
theorem dX1_storeHearsDrop_36 : decode cX1_storeHearsDrop 36 = .ok (.iconst 1, 1) := by decide +kernel
theorem dX1_storeHearsDrop_37 : decode cX1_storeHearsDrop 37 = .ok (.iload_n 1, 1) := by decide +kernel
theorem dX1_storeHearsDrop_38 : decode cX1_storeHearsDrop 38 = .ok (.ishl, 1) := by decide +kernel
theorem dX1_storeHearsDrop_39 : decode cX1_storeHearsDrop 39 = .ok (.invokevirtual 150, 3) := by decide +kernel
theorem dX1_storeHearsDrop_42 : decode cX1_storeHearsDrop 42 = .ok (.return_, 1) := by decide +kernel
theorem dX1_start_0 : decode cX1_start 0 = .ok (.aload_n 0, 1) := by decide +kernel
theorem dX1_start_1 : decode cX1_start 1 = .ok (.getfield 49, 3) := by decide +kernel
theorem dX1_start_4 : decode cX1_start 4 = .ok (.istore 4, 2) := by decide +kernel
theorem dX1_start_6 : decode cX1_start 6 = .ok (.aload_n 0, 1) := by decide +kernel
theorem dX1_start_7 : decode cX1_start 7 = .ok (.getfield 9, 3) := by decide +kernel
theorem dX1_start_10 : decode cX1_start 10 = .ok (.iload 4, 2) := by decide +kernel
theorem dX1_start_12 : decode cX1_start 12 = .ok (.iload_n 3, 1) := by decide +kernel
theorem dX1_start_13 : decode cX1_start 13 = .ok (.iastore, 1) := by decide +kernel
theorem dX1_start_14 : decode cX1_start 14 = .ok (.aload_n 0, 1) := by decide +kernel
theorem dX1_start_15 : decode cX1_start 15 = .ok (.getfield 15, 3) := by decide +kernel
theorem dX1_start_18 : decode cX1_start 18 = .ok (.iload 4, 2) := by decide +kernel
theorem dX1_start_20 : decode cX1_start 20 = .ok (.iload_n 2, 1) := by decide +kernel
theorem dX1_start_21 : decode cX1_start 21 = .ok (.iconst 1, 1) := by decide +kernel
theorem dX1_start_22 : decode cX1_start 22 = .ok (.iload_n 1, 1) := by decide +kernel
theorem dX1_start_23 : decode cX1_start 23 = .ok (.ishl, 1) := by decide +kernel
theorem dX1_start_24 : decode cX1_start 24 = .ok (.ior, 1) := by decide +kernel
theorem dX1_start_25 : decode cX1_start 25 = .ok (.iastore, 1) := by decide +kernel
theorem dX1_start_26 : decode cX1_start 26 = .ok (.iconst 0, 1) := by decide +kernel
theorem dX1_start_27 : decode cX1_start 27 = .ok (.istore 5, 2) := by decide +kernel
theorem dX1_start_29 : decode cX1_start 29 = .ok (.iload 5, 2) := by decide +kernel
theorem dX1_start_31 : decode cX1_start 31 = .ok (.iconst 4, 1) := by decide +kernel
theorem dX1_start_32 : decode cX1_start 32 = .ok (.if_icmp .ge 30, 3) := by decide +kernel
theorem dX1_start_35 : decode cX1_start 35 = .ok (.aload_n 0, 1) := by decide +kernel
theorem dX1_start_36 : decode cX1_start 36 = .ok (.getfield 18, 3) := by decide +kernel
theorem dX1_start_39 : decode cX1_start 39 = .ok (.iload 5, 2) := by decide +kernel
theorem dX1_start_41 : decode cX1_start 41 = .ok (.bipush 8, 2) := by decide +kernel
theorem dX1_start_43 : decode cX1_start 43 = .ok (.imul, 1) := by decide +kernel
theorem dX1_start_44 : decode cX1_start 44 = .ok (.iload 4, 2) := by decide +kernel
theorem dX1_start_46 : decode cX1_start 46 = .ok (.iadd, 1) := by decide +kernel
theorem dX1_start_47 : decode cX1_start 47 = .ok (.iload_n 1, 1) := by decide +kernel
theorem dX1_start_48 : decode cX1_start 48 = .ok (.iload_n 2, 1) := by decide +kernel
theorem dX1_start_49 : decode cX1_start 49 = .ok (.iload_n 3, 1) := by decide +kernel
theorem dX1_start_50 : decode cX1_start 50 = .ok (.iload 5, 2) := by decide +kernel
theorem dX1_start_52 : decode cX1_start 52 = .ok (.invokestatic 86, 3) := by decide +kernel
theorem dX1_start_55 : decode cX1_start 55 = .ok (.iastore, 1) := by decide +kernel
theorem dX1_start_56 : decode cX1_start 56 = .ok (.iinc 5 1, 3) := by decide +kernel
theorem dX1_start_59 : decode cX1_start 59 = .ok (.goto (-30), 3) := by decide +kernel
theorem dX1_start_62 : decode cX1_start 62 = .ok (.aload_n 0, 1) := by decide +kernel
theorem dX1_start_63 : decode cX1_start 63 = .ok (.dup, 1) := by decide +kernel
theorem dX1_start_64 : decode cX1_start 64 = .ok (.getfield 49, 3) := by decide +kernel
theorem dX1_start_67 : decode cX1_start 67 = .ok (.iconst 1, 1) := by decide +kernel
theorem dX1_start_68 : decode cX1_start 68 = .ok (.iadd, 1) := by decide +kernel
theorem dX1_start_69 : decode cX1_start 69 = .ok (.putfield 49, 3) := by decide +kernel
theorem dX1_start_72 : decode cX1_start 72 = .ok (.aload_n 0, 1) := by decide +kernel
theorem dX1_start_73 : decode cX1_start 73 = .ok (.iconst 4, 1) := by decide +kernel
theorem dX1_start_74 : decode cX1_start 74 = .ok (.iconst 0, 1) := by decide +kernel
theorem dX1_start_75 : decode cX1_start 75 = .ok (.iload 4, 2) := by decide +kernel
theorem dX1_start_77 : decode cX1_start 77 = .ok (.invokevirtual 140, 3) := by decide +kernel
theorem dX1_start_80 : decode cX1_start 80 = .ok (.aload_n 0, 1) := by decide +kernel
theorem dX1_start_81 : decode cX1_start 81 = .ok (.iconst 0, 1) := by decide +kernel
theorem dX1_start_82 : decode cX1_start 82 = .ok (.iload 4, 2) := by decide +kernel
theorem dX1_start_84 : decode cX1_start 84 = .ok (.aload_n 0, 1) := by decide +kernel
theorem dX1_start_85 : decode cX1_start 85 = .ok (.getfield 15, 3) := by decide +kernel
theorem dX1_start_88 : decode cX1_start 88 = .ok (.iload 4, 2) := by decide +kernel
theorem dX1_start_90 : decode cX1_start 90 = .ok (.iaload, 1) := by decide +kernel
theorem dX1_start_91 : decode cX1_start 91 = .ok (.invokevirtual 150, 3) := by decide +kernel
theorem dX1_start_94 : decode cX1_start 94 = .ok (.iload 4, 2) := by decide +kernel
theorem dX1_start_96 : decode cX1_start 96 = .ok (.ireturn, 1) := by decide +kernel
theorem dX1_decide_0 : decode cX1_decide 0 = .ok (.aload_n 0, 1) := by decide +kernel
theorem dX1_decide_1 : decode cX1_decide 1 = .ok (.getfield 21, 3) := by decide +kernel
theorem dX1_decide_4 : decode cX1_decide 4 = .ok (.iload_n 1, 1) := by decide +kernel
theorem dX1_decide_5 : decode cX1_decide 5 = .ok (.iload_n 2, 1) := by decide +kernel
theorem dX1_decide_6 : decode cX1_decide 6 = .ok (.iastore, 1) := by decide +kernel
theorem dX1_decide_7 : decode cX1_decide 7 = .ok (.aload_n 0, 1) := by decide +kernel
theorem dX1_decide_8 : decode cX1_decide 8 = .ok (.iconst 4, 1) := by decide +kernel
theorem dX1_decide_9 : decode cX1_decide 9 = .ok (.iload_n 2, 1) := by decide +kernel
theorem dX1_decide_10 : decode cX1_decide 10 = .ok (.iconst 1, 1) := by decide +kernel
theorem dX1_decide_11 : decode cX1_decide 11 = .ok (.if_icmp .ne 7, 3) := by decide +kernel
theorem dX1_decide_14 : decode cX1_decide 14 = .ok (.iconst 1, 1) := by decide +kernel
theorem dX1_decide_15 : decode cX1_decide 15 = .ok (.goto 4, 3) := by decide +kernel
theorem dX1_decide_18 : decode cX1_decide 18 = .ok (.iconst 2, 1) := by decide +kernel
theorem dX1_decide_19 : decode cX1_decide 19 = .ok (.iload_n 1, 1) := by decide +kernel
theorem dX1_decide_20 : decode cX1_decide 20 = .ok (.invokevirtual 140, 3) := by decide +kernel
theorem dX1_decide_23 : decode cX1_decide 23 = .ok (.aload_n 0, 1) := by decide +kernel
theorem dX1_decide_24 : decode cX1_decide 24 = .ok (.aload_n 0, 1) := by decide +kernel
theorem dX1_decide_25 : decode cX1_decide 25 = .ok (.iload_n 1, 1) := by decide +kernel
theorem dX1_decide_26 : decode cX1_decide 26 = .ok (.invokevirtual 153, 3) := by decide +kernel
theorem dX1_decide_29 : decode cX1_decide 29 = .ok (.iload_n 1, 1) := by decide +kernel
theorem dX1_decide_30 : decode cX1_decide 30 = .ok (.aload_n 0, 1) := by decide +kernel
theorem dX1_decide_31 : decode cX1_decide 31 = .ok (.getfield 15, 3) := by decide +kernel
theorem dX1_decide_34 : decode cX1_decide 34 = .ok (.iload_n 1, 1) := by decide +kernel
theorem dX1_decide_35 : decode cX1_decide 35 = .ok (.iaload, 1) := by decide +kernel
theorem dX1_decide_36 : decode cX1_decide 36 = .ok (.invokevirtual 150, 3) := by decide +kernel
theorem dX1_decide_39 : decode cX1_decide 39 = .ok (.return_, 1) := by decide +kernel
theorem dX1_orderFor_0 : decode cX1_orderFor 0 = .ok (.aload_n 0, 1) := by decide +kernel
theorem dX1_orderFor_1 : decode cX1_orderFor 1 = .ok (.getfield 21, 3) := by decide +kernel
theorem dX1_orderFor_4 : decode cX1_orderFor 4 = .ok (.iload_n 1, 1) := by decide +kernel
theorem dX1_orderFor_5 : decode cX1_orderFor 5 = .ok (.iaload, 1) := by decide +kernel
theorem dX1_orderFor_6 : decode cX1_orderFor 6 = .ok (.iconst 1, 1) := by decide +kernel
theorem dX1_orderFor_7 : decode cX1_orderFor 7 = .ok (.if_icmp .ne 7, 3) := by decide +kernel
theorem dX1_orderFor_10 : decode cX1_orderFor 10 = .ok (.iconst 3, 1) := by decide +kernel
theorem dX1_orderFor_11 : decode cX1_orderFor 11 = .ok (.goto 4, 3) := by decide +kernel
theorem dX1_orderFor_14 : decode cX1_orderFor 14 = .ok (.iconst 4, 1) := by decide +kernel
theorem dX1_orderFor_15 : decode cX1_orderFor 15 = .ok (.ireturn, 1) := by decide +kernel
theorem dX1_clerkHearsYes_0 : decode cX1_clerkHearsYes 0 = .ok (.aload_n 0, 1) := by decide +kernel
theorem dX1_clerkHearsYes_1 : decode cX1_clerkHearsYes 1 = .ok (.getfield 21, 3) := by decide +kernel
theorem dX1_clerkHearsYes_4 : decode cX1_clerkHearsYes 4 = .ok (.iload_n 2, 1) := by decide +kernel
theorem dX1_clerkHearsYes_5 : decode cX1_clerkHearsYes 5 = .ok (.iaload, 1) := by decide +kernel
theorem dX1_clerkHearsYes_6 : decode cX1_clerkHearsYes 6 = .ok (.ifCond .ne 36, 3) := by decide +kernel
theorem dX1_clerkHearsYes_9 : decode cX1_clerkHearsYes 9 = .ok (.aload_n 0, 1) := by decide +kernel
theorem dX1_clerkHearsYes_10 : decode cX1_clerkHearsYes 10 = .ok (.getfield 24, 3) := by decide +kernel
theorem dX1_clerkHearsYes_13 : decode cX1_clerkHearsYes 13 = .ok (.iload_n 2, 1) := by decide +kernel
theorem dX1_clerkHearsYes_14 : decode cX1_clerkHearsYes 14 = .ok (.dup2, 1) := by decide +kernel
theorem dX1_clerkHearsYes_15 : decode cX1_clerkHearsYes 15 = .ok (.iaload, 1) := by decide +kernel
theorem dX1_clerkHearsYes_16 : decode cX1_clerkHearsYes 16 = .ok (.iconst 1, 1) := by decide +kernel
theorem dX1_clerkHearsYes_17 : decode cX1_clerkHearsYes 17 = .ok (.iload_n 1, 1) := by decide +kernel
theorem dX1_clerkHearsYes_18 : decode cX1_clerkHearsYes 18 = .ok (.ishl, 1) := by decide +kernel
theorem dX1_clerkHearsYes_19 : decode cX1_clerkHearsYes 19 = .ok (.ior, 1) := by decide +kernel
theorem dX1_clerkHearsYes_20 : decode cX1_clerkHearsYes 20 = .ok (.iastore, 1) := by decide +kernel
theorem dX1_clerkHearsYes_21 : decode cX1_clerkHearsYes 21 = .ok (.aload_n 0, 1) := by decide +kernel
theorem dX1_clerkHearsYes_22 : decode cX1_clerkHearsYes 22 = .ok (.getfield 24, 3) := by decide +kernel
theorem dX1_clerkHearsYes_25 : decode cX1_clerkHearsYes 25 = .ok (.iload_n 2, 1) := by decide +kernel
theorem dX1_clerkHearsYes_26 : decode cX1_clerkHearsYes 26 = .ok (.iaload, 1) := by decide +kernel
theorem dX1_clerkHearsYes_27 : decode cX1_clerkHearsYes 27 = .ok (.aload_n 0, 1) := by decide +kernel
theorem dX1_clerkHearsYes_28 : decode cX1_clerkHearsYes 28 = .ok (.getfield 15, 3) := by decide +kernel
theorem dX1_clerkHearsYes_31 : decode cX1_clerkHearsYes 31 = .ok (.iload_n 2, 1) := by decide +kernel
theorem dX1_clerkHearsYes_32 : decode cX1_clerkHearsYes 32 = .ok (.iaload, 1) := by decide +kernel
theorem dX1_clerkHearsYes_33 : decode cX1_clerkHearsYes 33 = .ok (.if_icmp .ne 9, 3) := by decide +kernel
theorem dX1_clerkHearsYes_36 : decode cX1_clerkHearsYes 36 = .ok (.aload_n 0, 1) := by decide +kernel
theorem dX1_clerkHearsYes_37 : decode cX1_clerkHearsYes 37 = .ok (.iload_n 2, 1) := by decide +kernel
theorem dX1_clerkHearsYes_38 : decode cX1_clerkHearsYes 38 = .ok (.iconst 1, 1) := by decide +kernel
theorem dX1_clerkHearsYes_39 : decode cX1_clerkHearsYes 39 = .ok (.invokevirtual 156, 3) := by decide +kernel
theorem dX1_clerkHearsYes_42 : decode cX1_clerkHearsYes 42 = .ok (.return_, 1) := by decide +kernel
theorem dX1_clerkHearsNo_0 : decode cX1_clerkHearsNo 0 = .ok (.aload_n 0, 1) := by decide +kernel
theorem dX1_clerkHearsNo_1 : decode cX1_clerkHearsNo 1 = .ok (.getfield 21, 3) := by decide +kernel
theorem dX1_clerkHearsNo_4 : decode cX1_clerkHearsNo 4 = .ok (.iload_n 1, 1) := by decide +kernel
theorem dX1_clerkHearsNo_5 : decode cX1_clerkHearsNo 5 = .ok (.iaload, 1) := by decide +kernel
theorem dX1_clerkHearsNo_6 : decode cX1_clerkHearsNo 6 = .ok (.ifCond .ne 9, 3) := by decide +kernel
theorem dX1_clerkHearsNo_9 : decode cX1_clerkHearsNo 9 = .ok (.aload_n 0, 1) := by decide +kernel
theorem dX1_clerkHearsNo_10 : decode cX1_clerkHearsNo 10 = .ok (.iload_n 1, 1) := by decide +kernel
theorem dX1_clerkHearsNo_11 : decode cX1_clerkHearsNo 11 = .ok (.iconst 2, 1) := by decide +kernel
theorem dX1_clerkHearsNo_12 : decode cX1_clerkHearsNo 12 = .ok (.invokevirtual 156, 3) := by decide +kernel
theorem dX1_clerkHearsNo_15 : decode cX1_clerkHearsNo 15 = .ok (.return_, 1) := by decide +kernel
theorem dX1_clerkHearsDone_0 : decode cX1_clerkHearsDone 0 = .ok (.aload_n 0, 1) := by decide +kernel
theorem dX1_clerkHearsDone_1 : decode cX1_clerkHearsDone 1 = .ok (.getfield 27, 3) := by decide +kernel
theorem dX1_clerkHearsDone_4 : decode cX1_clerkHearsDone 4 = .ok (.iload_n 2, 1) := by decide +kernel
theorem dX1_clerkHearsDone_5 : decode cX1_clerkHearsDone 5 = .ok (.dup2, 1) := by decide +kernel
theorem dX1_clerkHearsDone_6 : decode cX1_clerkHearsDone 6 = .ok (.iaload, 1) := by decide +kernel
theorem dX1_clerkHearsDone_7 : decode cX1_clerkHearsDone 7 = .ok (.iconst 1, 1) := by decide +kernel
theorem dX1_clerkHearsDone_8 : decode cX1_clerkHearsDone 8 = .ok (.iload_n 1, 1) := by decide +kernel
theorem dX1_clerkHearsDone_9 : decode cX1_clerkHearsDone 9 = .ok (.ishl, 1) := by decide +kernel
theorem dX1_clerkHearsDone_10 : decode cX1_clerkHearsDone 10 = .ok (.ior, 1) := by decide +kernel
theorem dX1_clerkHearsDone_11 : decode cX1_clerkHearsDone 11 = .ok (.iastore, 1) := by decide +kernel
theorem dX1_clerkHearsDone_12 : decode cX1_clerkHearsDone 12 = .ok (.aload_n 0, 1) := by decide +kernel
theorem dX1_clerkHearsDone_13 : decode cX1_clerkHearsDone 13 = .ok (.getfield 27, 3) := by decide +kernel
theorem dX1_clerkHearsDone_16 : decode cX1_clerkHearsDone 16 = .ok (.iload_n 2, 1) := by decide +kernel
theorem dX1_clerkHearsDone_17 : decode cX1_clerkHearsDone 17 = .ok (.iaload, 1) := by decide +kernel
theorem dX1_clerkHearsDone_18 : decode cX1_clerkHearsDone 18 = .ok (.aload_n 0, 1) := by decide +kernel
theorem dX1_clerkHearsDone_19 : decode cX1_clerkHearsDone 19 = .ok (.getfield 15, 3) := by decide +kernel
theorem dX1_clerkHearsDone_22 : decode cX1_clerkHearsDone 22 = .ok (.iload_n 2, 1) := by decide +kernel
theorem dX1_clerkHearsDone_23 : decode cX1_clerkHearsDone 23 = .ok (.iaload, 1) := by decide +kernel
theorem dX1_clerkHearsDone_24 : decode cX1_clerkHearsDone 24 = .ok (.if_icmp .ne 30, 3) := by decide +kernel
theorem dX1_clerkHearsDone_27 : decode cX1_clerkHearsDone 27 = .ok (.aload_n 0, 1) := by decide +kernel
theorem dX1_clerkHearsDone_28 : decode cX1_clerkHearsDone 28 = .ok (.iload_n 2, 1) := by decide +kernel
theorem dX1_clerkHearsDone_29 : decode cX1_clerkHearsDone 29 = .ok (.invokevirtual 159, 3) := by decide +kernel
theorem dX1_clerkHearsDone_32 : decode cX1_clerkHearsDone 32 = .ok (.ifCond .ne 22, 3) := by decide +kernel
theorem dX1_clerkHearsDone_35 : decode cX1_clerkHearsDone 35 = .ok (.aload_n 0, 1) := by decide +kernel
theorem dX1_clerkHearsDone_36 : decode cX1_clerkHearsDone 36 = .ok (.iconst 4, 1) := by decide +kernel
theorem dX1_clerkHearsDone_37 : decode cX1_clerkHearsDone 37 = .ok (.iconst 3, 1) := by decide +kernel
theorem dX1_clerkHearsDone_38 : decode cX1_clerkHearsDone 38 = .ok (.iload_n 2, 1) := by decide +kernel
theorem dX1_clerkHearsDone_39 : decode cX1_clerkHearsDone 39 = .ok (.invokevirtual 140, 3) := by decide +kernel
theorem dX1_clerkHearsDone_42 : decode cX1_clerkHearsDone 42 = .ok (.aload_n 0, 1) := by decide +kernel
theorem dX1_clerkHearsDone_43 : decode cX1_clerkHearsDone 43 = .ok (.dup, 1) := by decide +kernel
theorem dX1_clerkHearsDone_44 : decode cX1_clerkHearsDone 44 = .ok (.getfield 58, 3) := by decide +kernel
theorem dX1_clerkHearsDone_47 : decode cX1_clerkHearsDone 47 = .ok (.iconst 1, 1) := by decide +kernel
theorem dX1_clerkHearsDone_48 : decode cX1_clerkHearsDone 48 = .ok (.iload_n 2, 1) := by decide +kernel
theorem dX1_clerkHearsDone_49 : decode cX1_clerkHearsDone 49 = .ok (.ishl, 1) := by decide +kernel
theorem dX1_clerkHearsDone_50 : decode cX1_clerkHearsDone 50 = .ok (.ior, 1) := by decide +kernel
theorem dX1_clerkHearsDone_51 : decode cX1_clerkHearsDone 51 = .ok (.putfield 58, 3) := by decide +kernel
theorem dX1_clerkHearsDone_54 : decode cX1_clerkHearsDone 54 = .ok (.return_, 1) := by decide +kernel
theorem dX1_clerkHearsWhatNow_0 : decode cX1_clerkHearsWhatNow 0 = .ok (.aload_n 0, 1) := by decide +kernel
theorem dX1_clerkHearsWhatNow_1 : decode cX1_clerkHearsWhatNow 1 = .ok (.getfield 21, 3) := by decide +kernel
theorem dX1_clerkHearsWhatNow_4 : decode cX1_clerkHearsWhatNow 4 = .ok (.iload_n 2, 1) := by decide +kernel
theorem dX1_clerkHearsWhatNow_5 : decode cX1_clerkHearsWhatNow 5 = .ok (.iaload, 1) := by decide +kernel
theorem dX1_clerkHearsWhatNow_6 : decode cX1_clerkHearsWhatNow 6 = .ok (.ifCond .eq 16, 3) := by decide +kernel
theorem dX1_clerkHearsWhatNow_9 : decode cX1_clerkHearsWhatNow 9 = .ok (.aload_n 0, 1) := by decide +kernel
theorem dX1_clerkHearsWhatNow_10 : decode cX1_clerkHearsWhatNow 10 = .ok (.aload_n 0, 1) := by decide +kernel
theorem dX1_clerkHearsWhatNow_11 : decode cX1_clerkHearsWhatNow 11 = .ok (.iload_n 2, 1) := by decide +kernel
theorem dX1_clerkHearsWhatNow_12 : decode cX1_clerkHearsWhatNow 12 = .ok (.invokevirtual 153, 3) := by decide +kernel
theorem dX1_clerkHearsWhatNow_15 : decode cX1_clerkHearsWhatNow 15 = .ok (.iload_n 2, 1) := by decide +kernel
theorem dX1_clerkHearsWhatNow_16 : decode cX1_clerkHearsWhatNow 16 = .ok (.iconst 1, 1) := by decide +kernel
theorem dX1_clerkHearsWhatNow_17 : decode cX1_clerkHearsWhatNow 17 = .ok (.iload_n 1, 1) := by decide +kernel
theorem dX1_clerkHearsWhatNow_18 : decode cX1_clerkHearsWhatNow 18 = .ok (.ishl, 1) := by decide +kernel
theorem dX1_clerkHearsWhatNow_19 : decode cX1_clerkHearsWhatNow 19 = .ok (.invokevirtual 150, 3) := by decide +kernel
theorem dX1_clerkHearsWhatNow_22 : decode cX1_clerkHearsWhatNow 22 = .ok (.return_, 1) := by decide +kernel
theorem dX1_takeDown_0 : decode cX1_takeDown 0 = .ok (.aload_n 0, 1) := by decide +kernel
theorem dX1_takeDown_1 : decode cX1_takeDown 1 = .ok (.dup, 1) := by decide +kernel
theorem dX1_takeDown_2 : decode cX1_takeDown 2 = .ok (.getfield 45, 3) := by decide +kernel
theorem dX1_takeDown_5 : decode cX1_takeDown 5 = .ok (.iconst 1, 1) := by decide +kernel
theorem dX1_takeDown_6 : decode cX1_takeDown 6 = .ok (.iload_n 1, 1) := by decide +kernel
theorem dX1_takeDown_7 : decode cX1_takeDown 7 = .ok (.ishl, 1) := by decide +kernel
theorem dX1_takeDown_8 : decode cX1_takeDown 8 = .ok (.iconst (-1), 1) := by decide +kernel
theorem dX1_takeDown_9 : decode cX1_takeDown 9 = .ok (.ixor, 1) := by decide +kernel
theorem dX1_takeDown_10 : decode cX1_takeDown 10 = .ok (.iand, 1) := by decide +kernel
theorem dX1_takeDown_11 : decode cX1_takeDown 11 = .ok (.putfield 45, 3) := by decide +kernel
theorem dX1_takeDown_14 : decode cX1_takeDown 14 = .ok (.iload_n 1, 1) := by decide +kernel
theorem dX1_takeDown_15 : decode cX1_takeDown 15 = .ok (.iconst 4, 1) := by decide +kernel
theorem dX1_takeDown_16 : decode cX1_takeDown 16 = .ok (.if_icmp .ne 33, 3) := by decide +kernel
theorem dX1_takeDown_19 : decode cX1_takeDown 19 = .ok (.iconst 0, 1) := by decide +kernel
theorem dX1_takeDown_20 : decode cX1_takeDown 20 = .ok (.istore_n 2, 1) := by decide +kernel
theorem dX1_takeDown_21 : decode cX1_takeDown 21 = .ok (.iload_n 2, 1) := by decide +kernel
theorem dX1_takeDown_22 : decode cX1_takeDown 22 = .ok (.aload_n 0, 1) := by decide +kernel
theorem dX1_takeDown_23 : decode cX1_takeDown 23 = .ok (.getfield 49, 3) := by decide +kernel
theorem dX1_takeDown_26 : decode cX1_takeDown 26 = .ok (.if_icmp .ge 23, 3) := by decide +kernel
theorem dX1_takeDown_29 : decode cX1_takeDown 29 = .ok (.aload_n 0, 1) := by decide +kernel
theorem dX1_takeDown_30 : decode cX1_takeDown 30 = .ok (.getfield 24, 3) := by decide +kernel
theorem dX1_takeDown_33 : decode cX1_takeDown 33 = .ok (.iload_n 2, 1) := by decide +kernel
theorem dX1_takeDown_34 : decode cX1_takeDown 34 = .ok (.iconst 0, 1) := by decide +kernel
theorem dX1_takeDown_35 : decode cX1_takeDown 35 = .ok (.iastore, 1) := by decide +kernel
theorem dX1_takeDown_36 : decode cX1_takeDown 36 = .ok (.aload_n 0, 1) := by decide +kernel
theorem dX1_takeDown_37 : decode cX1_takeDown 37 = .ok (.getfield 27, 3) := by decide +kernel
theorem dX1_takeDown_40 : decode cX1_takeDown 40 = .ok (.iload_n 2, 1) := by decide +kernel
theorem dX1_takeDown_41 : decode cX1_takeDown 41 = .ok (.iconst 0, 1) := by decide +kernel
theorem dX1_takeDown_42 : decode cX1_takeDown 42 = .ok (.iastore, 1) := by decide +kernel
theorem dX1_takeDown_43 : decode cX1_takeDown 43 = .ok (.iinc 2 1, 3) := by decide +kernel
theorem dX1_takeDown_46 : decode cX1_takeDown 46 = .ok (.goto (-25), 3) := by decide +kernel
theorem dX1_takeDown_49 : decode cX1_takeDown 49 = .ok (.return_, 1) := by decide +kernel
theorem dX1_bringUp_0 : decode cX1_bringUp 0 = .ok (.aload_n 0, 1) := by decide +kernel
theorem dX1_bringUp_1 : decode cX1_bringUp 1 = .ok (.dup, 1) := by decide +kernel
theorem dX1_bringUp_2 : decode cX1_bringUp 2 = .ok (.getfield 45, 3) := by decide +kernel
theorem dX1_bringUp_5 : decode cX1_bringUp 5 = .ok (.iconst 1, 1) := by decide +kernel
theorem dX1_bringUp_6 : decode cX1_bringUp 6 = .ok (.iload_n 1, 1) := by decide +kernel
theorem dX1_bringUp_7 : decode cX1_bringUp 7 = .ok (.ishl, 1) := by decide +kernel
theorem dX1_bringUp_8 : decode cX1_bringUp 8 = .ok (.ior, 1) := by decide +kernel
theorem dX1_bringUp_9 : decode cX1_bringUp 9 = .ok (.putfield 45, 3) := by decide +kernel
theorem dX1_bringUp_12 : decode cX1_bringUp 12 = .ok (.iconst 0, 1) := by decide +kernel
theorem dX1_bringUp_13 : decode cX1_bringUp 13 = .ok (.istore_n 2, 1) := by decide +kernel
theorem dX1_bringUp_14 : decode cX1_bringUp 14 = .ok (.iload_n 2, 1) := by decide +kernel
theorem dX1_bringUp_15 : decode cX1_bringUp 15 = .ok (.aload_n 0, 1) := by decide +kernel
theorem dX1_bringUp_16 : decode cX1_bringUp 16 = .ok (.getfield 49, 3) := by decide +kernel
theorem dX1_bringUp_19 : decode cX1_bringUp 19 = .ok (.if_icmp .ge 42, 3) := by decide +kernel
theorem dX1_bringUp_22 : decode cX1_bringUp 22 = .ok (.iload_n 1, 1) := by decide +kernel
theorem dX1_bringUp_23 : decode cX1_bringUp 23 = .ok (.iconst 4, 1) := by decide +kernel
theorem dX1_bringUp_24 : decode cX1_bringUp 24 = .ok (.if_icmp .ne 11, 3) := by decide +kernel
theorem dX1_bringUp_27 : decode cX1_bringUp 27 = .ok (.aload_n 0, 1) := by decide +kernel
theorem dX1_bringUp_28 : decode cX1_bringUp 28 = .ok (.iload_n 2, 1) := by decide +kernel
theorem dX1_bringUp_29 : decode cX1_bringUp 29 = .ok (.invokevirtual 162, 3) := by decide +kernel
theorem dX1_bringUp_32 : decode cX1_bringUp 32 = .ok (.goto 23, 3) := by decide +kernel
theorem dX1_bringUp_35 : decode cX1_bringUp 35 = .ok (.aload_n 0, 1) := by decide +kernel
theorem dX1_bringUp_36 : decode cX1_bringUp 36 = .ok (.iload_n 1, 1) := by decide +kernel
theorem dX1_bringUp_37 : decode cX1_bringUp 37 = .ok (.iload_n 2, 1) := by decide +kernel
theorem dX1_bringUp_38 : decode cX1_bringUp 38 = .ok (.invokevirtual 80, 3) := by decide +kernel
theorem dX1_bringUp_41 : decode cX1_bringUp 41 = .ok (.iconst 1, 1) := by decide +kernel
theorem dX1_bringUp_42 : decode cX1_bringUp 42 = .ok (.if_icmp .ne 13, 3) := by decide +kernel
theorem dX1_bringUp_45 : decode cX1_bringUp 45 = .ok (.aload_n 0, 1) := by decide +kernel
theorem dX1_bringUp_46 : decode cX1_bringUp 46 = .ok (.bipush 6, 2) := by decide +kernel
theorem dX1_bringUp_48 : decode cX1_bringUp 48 = .ok (.iload_n 2, 1) := by decide +kernel
theorem dX1_bringUp_49 : decode cX1_bringUp 49 = .ok (.iconst 1, 1) := by decide +kernel
theorem dX1_bringUp_50 : decode cX1_bringUp 50 = .ok (.iload_n 1, 1) := by decide +kernel
theorem dX1_bringUp_51 : decode cX1_bringUp 51 = .ok (.ishl, 1) := by decide +kernel
theorem dX1_bringUp_52 : decode cX1_bringUp 52 = .ok (.invokevirtual 150, 3) := by decide +kernel
theorem dX1_bringUp_55 : decode cX1_bringUp 55 = .ok (.iinc 2 1, 3) := by decide +kernel
theorem dX1_bringUp_58 : decode cX1_bringUp 58 = .ok (.goto (-44), 3) := by decide +kernel
theorem dX1_bringUp_61 : decode cX1_bringUp 61 = .ok (.return_, 1) := by decide +kernel
theorem dX1_clerkTakesUp_0 : decode cX1_clerkTakesUp 0 = .ok (.aload_n 0, 1) := by decide +kernel
theorem dX1_clerkTakesUp_1 : decode cX1_clerkTakesUp 1 = .ok (.getfield 21, 3) := by decide +kernel
theorem dX1_clerkTakesUp_4 : decode cX1_clerkTakesUp 4 = .ok (.iload_n 1, 1) := by decide +kernel
theorem dX1_clerkTakesUp_5 : decode cX1_clerkTakesUp 5 = .ok (.iaload, 1) := by decide +kernel
theorem dX1_clerkTakesUp_6 : decode cX1_clerkTakesUp 6 = .ok (.ifCond .ne 12, 3) := by decide +kernel
theorem dX1_clerkTakesUp_9 : decode cX1_clerkTakesUp 9 = .ok (.aload_n 0, 1) := by decide +kernel
theorem dX1_clerkTakesUp_10 : decode cX1_clerkTakesUp 10 = .ok (.iload_n 1, 1) := by decide +kernel
theorem dX1_clerkTakesUp_11 : decode cX1_clerkTakesUp 11 = .ok (.iconst 2, 1) := by decide +kernel
theorem dX1_clerkTakesUp_12 : decode cX1_clerkTakesUp 12 = .ok (.invokevirtual 156, 3) := by decide +kernel
theorem dX1_clerkTakesUp_15 : decode cX1_clerkTakesUp 15 = .ok (.goto 27, 3) := by decide +kernel
theorem dX1_clerkTakesUp_18 : decode cX1_clerkTakesUp 18 = .ok (.aload_n 0, 1) := by decide +kernel
theorem dX1_clerkTakesUp_19 : decode cX1_clerkTakesUp 19 = .ok (.iload_n 1, 1) := by decide +kernel
theorem dX1_clerkTakesUp_20 : decode cX1_clerkTakesUp 20 = .ok (.invokevirtual 159, 3) := by decide +kernel
theorem dX1_clerkTakesUp_23 : decode cX1_clerkTakesUp 23 = .ok (.ifCond .ne 19, 3) := by decide +kernel
theorem dX1_clerkTakesUp_26 : decode cX1_clerkTakesUp 26 = .ok (.aload_n 0, 1) := by decide +kernel
theorem dX1_clerkTakesUp_27 : decode cX1_clerkTakesUp 27 = .ok (.aload_n 0, 1) := by decide +kernel
theorem dX1_clerkTakesUp_28 : decode cX1_clerkTakesUp 28 = .ok (.iload_n 1, 1) := by decide +kernel
theorem dX1_clerkTakesUp_29 : decode cX1_clerkTakesUp 29 = .ok (.invokevirtual 153, 3) := by decide +kernel
theorem dX1_clerkTakesUp_32 : decode cX1_clerkTakesUp 32 = .ok (.iload_n 1, 1) := by decide +kernel
theorem dX1_clerkTakesUp_33 : decode cX1_clerkTakesUp 33 = .ok (.aload_n 0, 1) := by decide +kernel
theorem dX1_clerkTakesUp_34 : decode cX1_clerkTakesUp 34 = .ok (.getfield 15, 3) := by decide +kernel
theorem dX1_clerkTakesUp_37 : decode cX1_clerkTakesUp 37 = .ok (.iload_n 1, 1) := by decide +kernel
theorem dX1_clerkTakesUp_38 : decode cX1_clerkTakesUp 38 = .ok (.iaload, 1) := by decide +kernel
theorem dX1_clerkTakesUp_39 : decode cX1_clerkTakesUp 39 = .ok (.invokevirtual 150, 3) := by decide +kernel
theorem dX1_clerkTakesUp_42 : decode cX1_clerkTakesUp 42 = .ok (.return_, 1) := by decide +kernel
theorem dX2_init_0 : decode cX2_init 0 = .ok (.aload_n 0, 1) := by decide +kernel
theorem dX2_init_1 : decode cX2_init 1 = .ok (.invokespecial 1, 3) := by decide +kernel
theorem dX2_init_4 : decode cX2_init 4 = .ok (.aload_n 0, 1) := by decide +kernel
theorem dX2_init_5 : decode cX2_init 5 = .ok (.new 7, 3) := by decide +kernel
theorem dX2_init_8 : decode cX2_init 8 = .ok (.dup, 1) := by decide +kernel
theorem dX2_init_9 : decode cX2_init 9 = .ok (.invokespecial 9, 3) := by decide +kernel
theorem dX2_init_12 : decode cX2_init 12 = .ok (.putfield 10, 3) := by decide +kernel
theorem dX2_init_15 : decode cX2_init 15 = .ok (.aload_n 0, 1) := by decide +kernel
theorem dX2_init_16 : decode cX2_init 16 = .ok (.new 7, 3) := by decide +kernel
theorem dX2_init_19 : decode cX2_init 19 = .ok (.dup, 1) := by decide +kernel
theorem dX2_init_20 : decode cX2_init 20 = .ok (.invokespecial 9, 3) := by decide +kernel
theorem dX2_init_23 : decode cX2_init 23 = .ok (.putfield 16, 3) := by decide +kernel
theorem dX2_init_26 : decode cX2_init 26 = .ok (.aload_n 0, 1) := by decide +kernel
theorem dX2_init_27 : decode cX2_init 27 = .ok (.new 7, 3) := by decide +kernel
theorem dX2_init_30 : decode cX2_init 30 = .ok (.dup, 1) := by decide +kernel
theorem dX2_init_31 : decode cX2_init 31 = .ok (.invokespecial 9, 3) := by decide +kernel
theorem dX2_init_34 : decode cX2_init 34 = .ok (.putfield 19, 3) := by decide +kernel
theorem dX2_init_37 : decode cX2_init 37 = .ok (.aload_n 0, 1) := by decide +kernel
theorem dX2_init_38 : decode cX2_init 38 = .ok (.new 7, 3) := by decide +kernel
theorem dX2_init_41 : decode cX2_init 41 = .ok (.dup, 1) := by decide +kernel
theorem dX2_init_42 : decode cX2_init 42 = .ok (.invokespecial 9, 3) := by decide +kernel
theorem dX2_init_45 : decode cX2_init 45 = .ok (.putfield 22, 3) := by decide +kernel
theorem dX2_init_48 : decode cX2_init 48 = .ok (.aload_n 0, 1) := by decide +kernel
theorem dX2_init_49 : decode cX2_init 49 = .ok (.bipush 6, 2) := by decide +kernel
theorem dX2_init_51 : decode cX2_init 51 = .ok (.anewarray 7, 3) := by decide +kernel
theorem dX2_init_54 : decode cX2_init 54 = .ok (.putfield 25, 3) := by decide +kernel
theorem dX2_init_57 : decode cX2_init 57 = .ok (.aload_n 0, 1) := by decide +kernel
theorem dX2_init_58 : decode cX2_init 58 = .ok (.bipush 60, 2) := by decide +kernel
theorem dX2_init_60 : decode cX2_init 60 = .ok (.newarray .int, 2) := by decide +kernel
theorem dX2_init_62 : decode cX2_init 62 = .ok (.putfield 29, 3) := by decide +kernel
theorem dX2_init_65 : decode cX2_init 65 = .ok (.aload_n 0, 1) := by decide +kernel
theorem dX2_init_66 : decode cX2_init 66 = .ok (.new 33, 3) := by decide +kernel
theorem dX2_init_69 : decode cX2_init 69 = .ok (.dup, 1) := by decide +kernel
theorem dX2_init_70 : decode cX2_init 70 = .ok (.invokespecial 35, 3) := by decide +kernel
theorem dX2_init_73 : decode cX2_init 73 = .ok (.putfield 36, 3) := by decide +kernel
theorem dX2_init_76 : decode cX2_init 76 = .ok (.iconst 0, 1) := by decide +kernel
theorem dX2_init_77 : decode cX2_init 77 = .ok (.istore_n 1, 1) := by decide +kernel
theorem dX2_init_78 : decode cX2_init 78 = .ok (.iload_n 1, 1) := by decide +kernel
theorem dX2_init_79 : decode cX2_init 79 = .ok (.bipush 6, 2) := by decide +kernel
theorem dX2_init_81 : decode cX2_init 81 = .ok (.if_icmp .ge 22, 3) := by decide +kernel
theorem dX2_init_84 : decode cX2_init 84 = .ok (.aload_n 0, 1) := by decide +kernel
theorem dX2_init_85 : decode cX2_init 85 = .ok (.getfield 25, 3) := by decide +kernel
theorem dX2_init_88 : decode cX2_init 88 = .ok (.iload_n 1, 1) := by decide +kernel
theorem dX2_init_89 : decode cX2_init 89 = .ok (.new 7, 3) := by decide +kernel
theorem dX2_init_92 : decode cX2_init 92 = .ok (.dup, 1) := by decide +kernel
theorem dX2_init_93 : decode cX2_init 93 = .ok (.invokespecial 9, 3) := by decide +kernel
theorem dX2_init_96 : decode cX2_init 96 = .ok (.aastore, 1) := by decide +kernel
theorem dX2_init_97 : decode cX2_init 97 = .ok (.iinc 1 1, 3) := by decide +kernel
theorem dX2_init_100 : decode cX2_init 100 = .ok (.goto (-22), 3) := by decide +kernel
theorem dX2_init_103 : decode cX2_init 103 = .ok (.aload_n 0, 1) := by decide +kernel
theorem dX2_init_104 : decode cX2_init 104 = .ok (.iconst 0, 1) := by decide +kernel
theorem dX2_init_105 : decode cX2_init 105 = .ok (.putfield 40, 3) := by decide +kernel
theorem dX2_init_108 : decode cX2_init 108 = .ok (.aload_n 0, 1) := by decide +kernel
theorem dX2_init_109 : decode cX2_init 109 = .ok (.iconst 0, 1) := by decide +kernel
theorem dX2_init_110 : decode cX2_init 110 = .ok (.putfield 44, 3) := by decide +kernel
theorem dX2_init_113 : decode cX2_init 113 = .ok (.aload_n 0, 1) := by decide +kernel
theorem dX2_init_114 : decode cX2_init 114 = .ok (.iconst 0, 1) := by decide +kernel
theorem dX2_init_115 : decode cX2_init 115 = .ok (.putfield 48, 3) := by decide +kernel
theorem dX2_init_118 : decode cX2_init 118 = .ok (.return_, 1) := by decide +kernel
theorem dX2_begin_0 : decode cX2_begin 0 = .ok (.aload_n 0, 1) := by decide +kernel
theorem dX2_begin_1 : decode cX2_begin 1 = .ok (.iload_n 1, 1) := by decide +kernel
theorem dX2_begin_2 : decode cX2_begin 2 = .ok (.invokevirtual 51, 3) := by decide +kernel
theorem dX2_begin_5 : decode cX2_begin 5 = .ok (.aload_n 0, 1) := by decide +kernel
theorem dX2_begin_6 : decode cX2_begin 6 = .ok (.iload_n 1, 1) := by decide +kernel
theorem dX2_begin_7 : decode cX2_begin 7 = .ok (.iload_n 2, 1) := by decide +kernel
theorem dX2_begin_8 : decode cX2_begin 8 = .ok (.invokevirtual 55, 3) := by decide +kernel
theorem dX2_begin_11 : decode cX2_begin 11 = .ok (.iload_n 3, 1) := by decide +kernel
theorem dX2_begin_12 : decode cX2_begin 12 = .ok (.iconst 1, 1) := by decide +kernel
theorem dX2_begin_13 : decode cX2_begin 13 = .ok (.if_icmp .lt 9, 3) := by decide +kernel
theorem dX2_begin_16 : decode cX2_begin 16 = .ok (.iload_n 3, 1) := by decide +kernel
theorem dX2_begin_17 : decode cX2_begin 17 = .ok (.bipush 50, 2) := by decide +kernel
theorem dX2_begin_19 : decode cX2_begin 19 = .ok (.if_icmp .le 13, 3) := by decide +kernel
theorem dX2_begin_22 : decode cX2_begin 22 = .ok (.new 59, 3) := by decide +kernel
theorem dX2_begin_25 : decode cX2_begin 25 = .ok (.dup, 1) := by decide +kernel
theorem dX2_begin_26 : decode cX2_begin 26 = .ok (.ldc 61, 2) := by decide +kernel
theorem dX2_begin_28 : decode cX2_begin 28 = .ok (.invokespecial 63, 3) := by decide +kernel
theorem dX2_begin_31 : decode cX2_begin 31 = .ok (.athrow, 1) := by decide +kernel
theorem dX2_begin_32 : decode cX2_begin 32 = .ok (.aload_n 0, 1) := by decide +kernel
theorem dX2_begin_33 : decode cX2_begin 33 = .ok (.getfield 10, 3) := by decide +kernel
theorem dX2_begin_36 : decode cX2_begin 36 = .ok (.invokevirtual 66, 3) := by decide +kernel
theorem dX2_begin_39 : decode cX2_begin 39 = .ok (.ifCond .ne 13, 3) := by decide +kernel
theorem dX2_begin_42 : decode cX2_begin 42 = .ok (.new 70, 3) := by decide +kernel
theorem dX2_begin_45 : decode cX2_begin 45 = .ok (.dup, 1) := by decide +kernel
theorem dX2_begin_46 : decode cX2_begin 46 = .ok (.ldc 72, 2) := by decide +kernel
theorem dX2_begin_48 : decode cX2_begin 48 = .ok (.invokespecial 74, 3) := by decide +kernel
theorem dX2_begin_51 : decode cX2_begin 51 = .ok (.athrow, 1) := by decide +kernel
theorem dX2_begin_52 : decode cX2_begin 52 = .ok (.aload_n 0, 1) := by decide +kernel
theorem dX2_begin_53 : decode cX2_begin 53 = .ok (.invokevirtual 75, 3) := by decide +kernel
theorem dX2_begin_56 : decode cX2_begin 56 = .ok (.aload_n 0, 1) := by decide +kernel
theorem dX2_begin_57 : decode cX2_begin 57 = .ok (.getfield 10, 3) := by decide +kernel
theorem dX2_begin_60 : decode cX2_begin 60 = .ok (.iload_n 1, 1) := by decide +kernel
theorem dX2_begin_61 : decode cX2_begin 61 = .ok (.iload_n 2, 1) := by decide +kernel
theorem dX2_begin_62 : decode cX2_begin 62 = .ok (.iload_n 3, 1) := by decide +kernel
theorem dX2_begin_63 : decode cX2_begin 63 = .ok (.invokevirtual 78, 3) := by decide +kernel
theorem dX2_begin_66 : decode cX2_begin 66 = .ok (.ireturn, 1) := by decide +kernel
theorem dX2_giveUp_0 : decode cX2_giveUp 0 = .ok (.aload_n 0, 1) := by decide +kernel
theorem dX2_giveUp_1 : decode cX2_giveUp 1 = .ok (.iload_n 1, 1) := by decide +kernel
theorem dX2_giveUp_2 : decode cX2_giveUp 2 = .ok (.invokevirtual 82, 3) := by decide +kernel
theorem dX2_giveUp_5 : decode cX2_giveUp 5 = .ok (.aload_n 0, 1) := by decide +kernel
theorem dX2_giveUp_6 : decode cX2_giveUp 6 = .ok (.getfield 10, 3) := by decide +kernel
theorem dX2_giveUp_9 : decode cX2_giveUp 9 = .ok (.iload_n 1, 1) := by decide +kernel
theorem dX2_giveUp_10 : decode cX2_giveUp 10 = .ok (.invokevirtual 85, 3) := by decide +kernel
theorem dX2_giveUp_13 : decode cX2_giveUp 13 = .ok (.ifCond .ne 13, 3) := by decide +kernel
theorem dX2_giveUp_16 : decode cX2_giveUp 16 = .ok (.new 70, 3) := by decide +kernel
theorem dX2_giveUp_19 : decode cX2_giveUp 19 = .ok (.dup, 1) := by decide +kernel
theorem dX2_giveUp_20 : decode cX2_giveUp 20 = .ok (.ldc 89, 2) := by decide +kernel
theorem dX2_giveUp_22 : decode cX2_giveUp 22 = .ok (.invokespecial 74, 3) := by decide +kernel
theorem dX2_giveUp_25 : decode cX2_giveUp 25 = .ok (.athrow, 1) := by decide +kernel
theorem dX2_giveUp_26 : decode cX2_giveUp 26 = .ok (.aload_n 0, 1) := by decide +kernel
theorem dX2_giveUp_27 : decode cX2_giveUp 27 = .ok (.invokevirtual 75, 3) := by decide +kernel
theorem dX2_giveUp_30 : decode cX2_giveUp 30 = .ok (.aload_n 0, 1) := by decide +kernel
theorem dX2_giveUp_31 : decode cX2_giveUp 31 = .ok (.getfield 10, 3) := by decide +kernel
theorem dX2_giveUp_34 : decode cX2_giveUp 34 = .ok (.iload_n 1, 1) := by decide +kernel
theorem dX2_giveUp_35 : decode cX2_giveUp 35 = .ok (.iconst 2, 1) := by decide +kernel
theorem dX2_giveUp_36 : decode cX2_giveUp 36 = .ok (.invokevirtual 91, 3) := by decide +kernel
theorem dX2_giveUp_39 : decode cX2_giveUp 39 = .ok (.aload_n 0, 1) := by decide +kernel
theorem dX2_giveUp_40 : decode cX2_giveUp 40 = .ok (.getfield 10, 3) := by decide +kernel
theorem dX2_giveUp_43 : decode cX2_giveUp 43 = .ok (.getfield 94, 3) := by decide +kernel
theorem dX2_giveUp_46 : decode cX2_giveUp 46 = .ok (.ireturn, 1) := by decide +kernel
theorem dX2_ask_0 : decode cX2_ask 0 = .ok (.aload_n 0, 1) := by decide +kernel
theorem dX2_ask_1 : decode cX2_ask 1 = .ok (.iload_n 1, 1) := by decide +kernel
theorem dX2_ask_2 : decode cX2_ask 2 = .ok (.invokevirtual 51, 3) := by decide +kernel
theorem dX2_ask_5 : decode cX2_ask 5 = .ok (.aload_n 0, 1) := by decide +kernel
theorem dX2_ask_6 : decode cX2_ask 6 = .ok (.iload_n 2, 1) := by decide +kernel
theorem dX2_ask_7 : decode cX2_ask 7 = .ok (.invokevirtual 82, 3) := by decide +kernel
theorem dX2_ask_10 : decode cX2_ask 10 = .ok (.aload_n 0, 1) := by decide +kernel
theorem dX2_ask_11 : decode cX2_ask 11 = .ok (.getfield 10, 3) := by decide +kernel
theorem dX2_ask_14 : decode cX2_ask 14 = .ok (.iload_n 1, 1) := by decide +kernel
theorem dX2_ask_15 : decode cX2_ask 15 = .ok (.iload_n 2, 1) := by decide +kernel
theorem dX2_ask_16 : decode cX2_ask 16 = .ok (.invokevirtual 97, 3) := by decide +kernel
theorem dX2_ask_19 : decode cX2_ask 19 = .ok (.ifCond .ne 13, 3) := by decide +kernel
theorem dX2_ask_22 : decode cX2_ask 22 = .ok (.new 70, 3) := by decide +kernel
theorem dX2_ask_25 : decode cX2_ask 25 = .ok (.dup, 1) := by decide +kernel
theorem dX2_ask_26 : decode cX2_ask 26 = .ok (.ldc 101, 2) := by decide +kernel
theorem dX2_ask_28 : decode cX2_ask 28 = .ok (.invokespecial 74, 3) := by decide +kernel
theorem dX2_ask_31 : decode cX2_ask 31 = .ok (.athrow, 1) := by decide +kernel
theorem dX2_ask_32 : decode cX2_ask 32 = .ok (.aload_n 0, 1) := by decide +kernel
theorem dX2_ask_33 : decode cX2_ask 33 = .ok (.invokevirtual 75, 3) := by decide +kernel
theorem dX2_ask_36 : decode cX2_ask 36 = .ok (.aload_n 0, 1) := by decide +kernel
theorem dX2_ask_37 : decode cX2_ask 37 = .ok (.getfield 10, 3) := by decide +kernel
theorem dX2_ask_40 : decode cX2_ask 40 = .ok (.bipush 6, 2) := by decide +kernel
theorem dX2_ask_42 : decode cX2_ask 42 = .ok (.iload_n 2, 1) := by decide +kernel
theorem dX2_ask_43 : decode cX2_ask 43 = .ok (.iconst 1, 1) := by decide +kernel
theorem dX2_ask_44 : decode cX2_ask 44 = .ok (.iload_n 1, 1) := by decide +kernel
theorem dX2_ask_45 : decode cX2_ask 45 = .ok (.ishl, 1) := by decide +kernel
theorem dX2_ask_46 : decode cX2_ask 46 = .ok (.invokevirtual 103, 3) := by decide +kernel
theorem dX2_ask_49 : decode cX2_ask 49 = .ok (.aload_n 0, 1) := by decide +kernel
theorem dX2_ask_50 : decode cX2_ask 50 = .ok (.getfield 10, 3) := by decide +kernel
theorem dX2_ask_53 : decode cX2_ask 53 = .ok (.getfield 94, 3) := by decide +kernel
theorem dX2_ask_56 : decode cX2_ask 56 = .ok (.ireturn, 1) := by decide +kernel
theorem dX2_deliver_0 : decode cX2_deliver 0 = .ok (.aload_n 0, 1) := by decide +kernel
theorem dX2_deliver_1 : decode cX2_deliver 1 = .ok (.iload_n 1, 1) := by decide +kernel
theorem dX2_deliver_2 : decode cX2_deliver 2 = .ok (.invokevirtual 107, 3) := by decide +kernel
theorem dX2_deliver_5 : decode cX2_deliver 5 = .ok (.aload_n 0, 1) := by decide +kernel
theorem dX2_deliver_6 : decode cX2_deliver 6 = .ok (.invokevirtual 75, 3) := by decide +kernel
theorem dX2_deliver_9 : decode cX2_deliver 9 = .ok (.aload_n 0, 1) := by decide +kernel
theorem dX2_deliver_10 : decode cX2_deliver 10 = .ok (.getfield 10, 3) := by decide +kernel
theorem dX2_deliver_13 : decode cX2_deliver 13 = .ok (.iload_n 1, 1) := by decide +kernel
theorem dX2_deliver_14 : decode cX2_deliver 14 = .ok (.invokevirtual 110, 3) := by decide +kernel
theorem dX2_deliver_17 : decode cX2_deliver 17 = .ok (.ireturn, 1) := by decide +kernel
theorem dX2_deliverAll_0 : decode cX2_deliverAll 0 = .ok (.aload_n 0, 1) := by decide +kernel
theorem dX2_deliverAll_1 : decode cX2_deliverAll 1 = .ok (.invokevirtual 75, 3) := by decide +kernel
theorem dX2_deliverAll_4 : decode cX2_deliverAll 4 = .ok (.aload_n 0, 1) := by decide +kernel
theorem dX2_deliverAll_5 : decode cX2_deliverAll 5 = .ok (.getfield 10, 3) := by decide +kernel
theorem dX2_deliverAll_8 : decode cX2_deliverAll 8 = .ok (.ldc 113, 2) := by decide +kernel
theorem dX2_deliverAll_10 : decode cX2_deliverAll 10 = .ok (.invokevirtual 114, 3) := by decide +kernel
theorem dX2_deliverAll_13 : decode cX2_deliverAll 13 = .ok (.ireturn, 1) := by decide +kernel
theorem dX2_lose_0 : decode cX2_lose 0 = .ok (.aload_n 0, 1) := by decide +kernel
theorem dX2_lose_1 : decode cX2_lose 1 = .ok (.iload_n 1, 1) := by decide +kernel
theorem dX2_lose_2 : decode cX2_lose 2 = .ok (.invokevirtual 107, 3) := by decide +kernel
theorem dX2_lose_5 : decode cX2_lose 5 = .ok (.aload_n 0, 1) := by decide +kernel
theorem dX2_lose_6 : decode cX2_lose 6 = .ok (.invokevirtual 75, 3) := by decide +kernel
theorem dX2_lose_9 : decode cX2_lose 9 = .ok (.aload_n 0, 1) := by decide +kernel
theorem dX2_lose_10 : decode cX2_lose 10 = .ok (.getfield 10, 3) := by decide +kernel
theorem dX2_lose_13 : decode cX2_lose 13 = .ok (.iload_n 1, 1) := by decide +kernel
theorem dX2_lose_14 : decode cX2_lose 14 = .ok (.invokevirtual 118, 3) := by decide +kernel
theorem dX2_lose_17 : decode cX2_lose 17 = .ok (.ireturn, 1) := by decide +kernel
theorem dX2_crash_0 : decode cX2_crash 0 = .ok (.aload_n 0, 1) := by decide +kernel
theorem dX2_crash_1 : decode cX2_crash 1 = .ok (.iload_n 1, 1) := by decide +kernel
theorem dX2_crash_2 : decode cX2_crash 2 = .ok (.invokevirtual 121, 3) := by decide +kernel
theorem dX2_crash_5 : decode cX2_crash 5 = .ok (.aload_n 0, 1) := by decide +kernel
theorem dX2_crash_6 : decode cX2_crash 6 = .ok (.getfield 10, 3) := by decide +kernel
theorem dX2_crash_9 : decode cX2_crash 9 = .ok (.iload_n 1, 1) := by decide +kernel
theorem dX2_crash_10 : decode cX2_crash 10 = .ok (.invokevirtual 124, 3) := by decide +kernel
theorem dX2_crash_13 : decode cX2_crash 13 = .ok (.ifCond .ne 13, 3) := by decide +kernel
theorem dX2_crash_16 : decode cX2_crash 16 = .ok (.new 70, 3) := by decide +kernel
theorem dX2_crash_19 : decode cX2_crash 19 = .ok (.dup, 1) := by decide +kernel
theorem dX2_crash_20 : decode cX2_crash 20 = .ok (.ldc 127, 2) := by decide +kernel
theorem dX2_crash_22 : decode cX2_crash 22 = .ok (.invokespecial 74, 3) := by decide +kernel
theorem dX2_crash_25 : decode cX2_crash 25 = .ok (.athrow, 1) := by decide +kernel
theorem dX2_crash_26 : decode cX2_crash 26 = .ok (.aload_n 0, 1) := by decide +kernel
theorem dX2_crash_27 : decode cX2_crash 27 = .ok (.invokevirtual 75, 3) := by decide +kernel
theorem dX2_crash_30 : decode cX2_crash 30 = .ok (.aload_n 0, 1) := by decide +kernel
theorem dX2_crash_31 : decode cX2_crash 31 = .ok (.getfield 10, 3) := by decide +kernel
theorem dX2_crash_34 : decode cX2_crash 34 = .ok (.iload_n 1, 1) := by decide +kernel
theorem dX2_crash_35 : decode cX2_crash 35 = .ok (.invokevirtual 129, 3) := by decide +kernel
theorem dX2_crash_38 : decode cX2_crash 38 = .ok (.aload_n 0, 1) := by decide +kernel
theorem dX2_crash_39 : decode cX2_crash 39 = .ok (.getfield 10, 3) := by decide +kernel
theorem dX2_crash_42 : decode cX2_crash 42 = .ok (.getfield 132, 3) := by decide +kernel
theorem dX2_crash_45 : decode cX2_crash 45 = .ok (.invokestatic 135, 3) := by decide +kernel
theorem dX2_crash_48 : decode cX2_crash 48 = .ok (.ireturn, 1) := by decide +kernel
theorem dX2_recover_0 : decode cX2_recover 0 = .ok (.aload_n 0, 1) := by decide +kernel
theorem dX2_recover_1 : decode cX2_recover 1 = .ok (.iload_n 1, 1) := by decide +kernel
theorem dX2_recover_2 : decode cX2_recover 2 = .ok (.invokevirtual 121, 3) := by decide +kernel
theorem dX2_recover_5 : decode cX2_recover 5 = .ok (.aload_n 0, 1) := by decide +kernel
theorem dX2_recover_6 : decode cX2_recover 6 = .ok (.getfield 10, 3) := by decide +kernel
theorem dX2_recover_9 : decode cX2_recover 9 = .ok (.iload_n 1, 1) := by decide +kernel
theorem dX2_recover_10 : decode cX2_recover 10 = .ok (.invokevirtual 124, 3) := by decide +kernel
theorem dX2_recover_13 : decode cX2_recover 13 = .ok (.ifCond .eq 13, 3) := by decide +kernel
theorem dX2_recover_16 : decode cX2_recover 16 = .ok (.new 70, 3) := by decide +kernel
theorem dX2_recover_19 : decode cX2_recover 19 = .ok (.dup, 1) := by decide +kernel
theorem dX2_recover_20 : decode cX2_recover 20 = .ok (.ldc 140, 2) := by decide +kernel
theorem dX2_recover_22 : decode cX2_recover 22 = .ok (.invokespecial 74, 3) := by decide +kernel
theorem dX2_recover_25 : decode cX2_recover 25 = .ok (.athrow, 1) := by decide +kernel
theorem dX2_recover_26 : decode cX2_recover 26 = .ok (.aload_n 0, 1) := by decide +kernel
theorem dX2_recover_27 : decode cX2_recover 27 = .ok (.invokevirtual 75, 3) := by decide +kernel
theorem dX2_recover_30 : decode cX2_recover 30 = .ok (.aload_n 0, 1) := by decide +kernel
theorem dX2_recover_31 : decode cX2_recover 31 = .ok (.getfield 10, 3) := by decide +kernel
theorem dX2_recover_34 : decode cX2_recover 34 = .ok (.iload_n 1, 1) := by decide +kernel
theorem dX2_recover_35 : decode cX2_recover 35 = .ok (.invokevirtual 142, 3) := by decide +kernel
theorem dX2_recover_38 : decode cX2_recover 38 = .ok (.aload_n 0, 1) := by decide +kernel
theorem dX2_recover_39 : decode cX2_recover 39 = .ok (.getfield 10, 3) := by decide +kernel
theorem dX2_recover_42 : decode cX2_recover 42 = .ok (.getfield 94, 3) := by decide +kernel
theorem dX2_recover_45 : decode cX2_recover 45 = .ok (.ireturn, 1) := by decide +kernel
theorem dX2_append_0 : decode cX2_append 0 = .ok (.iload_n 1, 1) := by decide +kernel
theorem dX2_append_1 : decode cX2_append 1 = .ok (.bipush 33, 2) := by decide +kernel
theorem dX2_append_3 : decode cX2_append 3 = .ok (.if_icmp .lt 9, 3) := by decide +kernel
theorem dX2_append_6 : decode cX2_append 6 = .ok (.iload_n 1, 1) := by decide +kernel
theorem dX2_append_7 : decode cX2_append 7 = .ok (.bipush 126, 2) := by decide +kernel
theorem dX2_append_9 : decode cX2_append 9 = .ok (.if_icmp .le 13, 3) := by decide +kernel
theorem dX2_append_12 : decode cX2_append 12 = .ok (.new 59, 3) := by decide +kernel
theorem dX2_append_15 : decode cX2_append 15 = .ok (.dup, 1) := by decide +kernel
theorem dX2_append_16 : decode cX2_append 16 = .ok (.ldc 145, 2) := by decide +kernel
theorem dX2_append_18 : decode cX2_append 18 = .ok (.invokespecial 63, 3) := by decide +kernel
theorem dX2_append_21 : decode cX2_append 21 = .ok (.athrow, 1) := by decide +kernel
theorem dX2_append_22 : decode cX2_append 22 = .ok (.aload_n 0, 1) := by decide +kernel
theorem dX2_append_23 : decode cX2_append 23 = .ok (.getfield 48, 3) := by decide +kernel
theorem dX2_append_26 : decode cX2_append 26 = .ok (.bipush 60, 2) := by decide +kernel
theorem dX2_append_28 : decode cX2_append 28 = .ok (.if_icmp .lt 13, 3) := by decide +kernel
theorem dX2_append_31 : decode cX2_append 31 = .ok (.new 70, 3) := by decide +kernel
theorem dX2_append_34 : decode cX2_append 34 = .ok (.dup, 1) := by decide +kernel
theorem dX2_append_35 : decode cX2_append 35 = .ok (.ldc 147, 2) := by decide +kernel
theorem dX2_append_37 : decode cX2_append 37 = .ok (.invokespecial 74, 3) := by decide +kernel
theorem dX2_append_40 : decode cX2_append 40 = .ok (.athrow, 1) := by decide +kernel
theorem dX2_append_41 : decode cX2_append 41 = .ok (.aload_n 0, 1) := by decide +kernel
theorem dX2_append_42 : decode cX2_append 42 = .ok (.getfield 29, 3) := by decide +kernel
theorem dX2_append_45 : decode cX2_append 45 = .ok (.aload_n 0, 1) := by decide +kernel
theorem dX2_append_46 : decode cX2_append 46 = .ok (.getfield 48, 3) := by decide +kernel
theorem dX2_append_49 : decode cX2_append 49 = .ok (.iload_n 1, 1) := by decide +kernel
theorem dX2_append_50 : decode cX2_append 50 = .ok (.iastore, 1) := by decide +kernel
theorem dX2_append_51 : decode cX2_append 51 = .ok (.aload_n 0, 1) := by decide +kernel
theorem dX2_append_52 : decode cX2_append 52 = .ok (.dup, 1) := by decide +kernel
theorem dX2_append_53 : decode cX2_append 53 = .ok (.getfield 48, 3) := by decide +kernel
theorem dX2_append_56 : decode cX2_append 56 = .ok (.iconst 1, 1) := by decide +kernel
theorem dX2_append_57 : decode cX2_append 57 = .ok (.iadd, 1) := by decide +kernel
theorem dX2_append_58 : decode cX2_append 58 = .ok (.putfield 48, 3) := by decide +kernel
theorem dX2_append_61 : decode cX2_append 61 = .ok (.aload_n 0, 1) := by decide +kernel
theorem dX2_append_62 : decode cX2_append 62 = .ok (.getfield 48, 3) := by decide +kernel
theorem dX2_append_65 : decode cX2_append 65 = .ok (.ireturn, 1) := by decide +kernel
theorem dX2_clearBuffer_0 : decode cX2_clearBuffer 0 = .ok (.aload_n 0, 1) := by decide +kernel
theorem dX2_clearBuffer_1 : decode cX2_clearBuffer 1 = .ok (.getfield 48, 3) := by decide +kernel
theorem dX2_clearBuffer_4 : decode cX2_clearBuffer 4 = .ok (.istore_n 1, 1) := by decide +kernel
theorem dX2_clearBuffer_5 : decode cX2_clearBuffer 5 = .ok (.aload_n 0, 1) := by decide +kernel
theorem dX2_clearBuffer_6 : decode cX2_clearBuffer 6 = .ok (.iconst 0, 1) := by decide +kernel
theorem dX2_clearBuffer_7 : decode cX2_clearBuffer 7 = .ok (.putfield 48, 3) := by decide +kernel
theorem dX2_clearBuffer_10 : decode cX2_clearBuffer 10 = .ok (.iload_n 1, 1) := by decide +kernel
theorem dX2_clearBuffer_11 : decode cX2_clearBuffer 11 = .ok (.ireturn, 1) := by decide +kernel
theorem dX2_firstError_0 : decode cX2_firstError 0 = .ok (.aload_n 0, 1) := by decide +kernel
theorem dX2_firstError_1 : decode cX2_firstError 1 = .ok (.getfield 36, 3) := by decide +kernel
theorem dX2_firstError_4 : decode cX2_firstError 4 = .ok (.invokevirtual 149, 3) := by decide +kernel
theorem dX2_firstError_7 : decode cX2_firstError 7 = .ok (.iconst 0, 1) := by decide +kernel
theorem dX2_firstError_8 : decode cX2_firstError 8 = .ok (.istore_n 1, 1) := by decide +kernel
theorem dX2_firstError_9 : decode cX2_firstError 9 = .ok (.iload_n 1, 1) := by decide +kernel
theorem dX2_firstError_10 : decode cX2_firstError 10 = .ok (.aload_n 0, 1) := by decide +kernel
theorem dX2_firstError_11 : decode cX2_firstError 11 = .ok (.getfield 48, 3) := by decide +kernel
theorem dX2_firstError_14 : decode cX2_firstError 14 = .ok (.if_icmp .ge 27, 3) := by decide +kernel
theorem dX2_firstError_17 : decode cX2_firstError 17 = .ok (.aload_n 0, 1) := by decide +kernel
theorem dX2_firstError_18 : decode cX2_firstError 18 = .ok (.getfield 36, 3) := by decide +kernel
theorem dX2_firstError_21 : decode cX2_firstError 21 = .ok (.aload_n 0, 1) := by decide +kernel
theorem dX2_firstError_22 : decode cX2_firstError 22 = .ok (.getfield 29, 3) := by decide +kernel
theorem dX2_firstError_25 : decode cX2_firstError 25 = .ok (.iload_n 1, 1) := by decide +kernel
theorem dX2_firstError_26 : decode cX2_firstError 26 = .ok (.iaload, 1) := by decide +kernel
theorem dX2_firstError_27 : decode cX2_firstError 27 = .ok (.invokevirtual 152, 3) := by decide +kernel
theorem dX2_firstError_30 : decode cX2_firstError 30 = .ok (.ifCond .ne 5, 3) := by decide +kernel
theorem dX2_firstError_33 : decode cX2_firstError 33 = .ok (.iload_n 1, 1) := by decide +kernel
theorem dX2_firstError_34 : decode cX2_firstError 34 = .ok (.ireturn, 1) := by decide +kernel
theorem dX2_firstError_35 : decode cX2_firstError 35 = .ok (.iinc 1 1, 3) := by decide +kernel
theorem dX2_firstError_38 : decode cX2_firstError 38 = .ok (.goto (-29), 3) := by decide +kernel
theorem dX2_firstError_41 : decode cX2_firstError 41 = .ok (.aload_n 0, 1) := by decide +kernel
theorem dX2_firstError_42 : decode cX2_firstError 42 = .ok (.getfield 48, 3) := by decide +kernel
theorem dX2_firstError_45 : decode cX2_firstError 45 = .ok (.ireturn, 1) := by decide +kernel
theorem dX2_runCourse_0 : decode cX2_runCourse 0 = .ok (.aload_n 0, 1) := by decide +kernel
theorem dX2_runCourse_1 : decode cX2_runCourse 1 = .ok (.invokevirtual 155, 3) := by decide +kernel
theorem dX2_runCourse_4 : decode cX2_runCourse 4 = .ok (.aload_n 0, 1) := by decide +kernel
theorem dX2_runCourse_5 : decode cX2_runCourse 5 = .ok (.getfield 48, 3) := by decide +kernel
theorem dX2_runCourse_8 : decode cX2_runCourse 8 = .ok (.if_icmp .lt 13, 3) := by decide +kernel
theorem dX2_runCourse_11 : decode cX2_runCourse 11 = .ok (.aload_n 0, 1) := by decide +kernel
theorem dX2_runCourse_12 : decode cX2_runCourse 12 = .ok (.getfield 36, 3) := by decide +kernel
theorem dX2_runCourse_15 : decode cX2_runCourse 15 = .ok (.invokevirtual 159, 3) := by decide +kernel
theorem dX2_runCourse_18 : decode cX2_runCourse 18 = .ok (.ifCond .ne 13, 3) := by decide +kernel
theorem dX2_runCourse_21 : decode cX2_runCourse 21 = .ok (.new 59, 3) := by decide +kernel
theorem dX2_runCourse_24 : decode cX2_runCourse 24 = .ok (.dup, 1) := by decide +kernel
theorem dX2_runCourse_25 : decode cX2_runCourse 25 = .ok (.ldc 162, 2) := by decide +kernel
theorem dX2_runCourse_27 : decode cX2_runCourse 27 = .ok (.invokespecial 63, 3) := by decide +kernel
theorem dX2_runCourse_30 : decode cX2_runCourse 30 = .ok (.athrow, 1) := by decide +kernel
theorem dX2_runCourse_31 : decode cX2_runCourse 31 = .ok (.aload_n 0, 1) := by decide +kernel
theorem dX2_runCourse_32 : decode cX2_runCourse 32 = .ok (.invokevirtual 75, 3) := by decide +kernel
theorem dX2_runCourse_35 : decode cX2_runCourse 35 = .ok (.iconst 0, 1) := by decide +kernel
theorem dX2_runCourse_36 : decode cX2_runCourse 36 = .ok (.istore_n 1, 1) := by decide +kernel
theorem dX2_runCourse_37 : decode cX2_runCourse 37 = .ok (.aload_n 0, 1) := by decide +kernel
theorem dX2_runCourse_38 : decode cX2_runCourse 38 = .ok (.getfield 36, 3) := by decide +kernel
theorem dX2_runCourse_41 : decode cX2_runCourse 41 = .ok (.invokevirtual 149, 3) := by decide +kernel
theorem dX2_runCourse_44 : decode cX2_runCourse 44 = .ok (.iconst 0, 1) := by decide +kernel
theorem dX2_runCourse_45 : decode cX2_runCourse 45 = .ok (.istore_n 2, 1) := by decide +kernel
theorem dX2_runCourse_46 : decode cX2_runCourse 46 = .ok (.iload_n 2, 1) := by decide +kernel
theorem dX2_runCourse_47 : decode cX2_runCourse 47 = .ok (.aload_n 0, 1) := by decide +kernel
theorem dX2_runCourse_48 : decode cX2_runCourse 48 = .ok (.getfield 48, 3) := by decide +kernel
theorem dX2_runCourse_51 : decode cX2_runCourse 51 = .ok (.if_icmp .gt 63, 3) := by decide +kernel
theorem dX2_runCourse_54 : decode cX2_runCourse 54 = .ok (.iload_n 2, 1) := by decide +kernel
theorem dX2_runCourse_55 : decode cX2_runCourse 55 = .ok (.aload_n 0, 1) := by decide +kernel
theorem dX2_runCourse_56 : decode cX2_runCourse 56 = .ok (.getfield 48, 3) := by decide +kernel
theorem dX2_runCourse_59 : decode cX2_runCourse 59 = .ok (.if_icmp .eq 14, 3) := by decide +kernel
theorem dX2_runCourse_62 : decode cX2_runCourse 62 = .ok (.aload_n 0, 1) := by decide +kernel
theorem dX2_runCourse_63 : decode cX2_runCourse 63 = .ok (.getfield 29, 3) := by decide +kernel
theorem dX2_runCourse_66 : decode cX2_runCourse 66 = .ok (.iload_n 2, 1) := by decide +kernel
theorem dX2_runCourse_67 : decode cX2_runCourse 67 = .ok (.iaload, 1) := by decide +kernel
theorem dX2_runCourse_68 : decode cX2_runCourse 68 = .ok (.bipush 59, 2) := by decide +kernel
theorem dX2_runCourse_70 : decode cX2_runCourse 70 = .ok (.if_icmp .ne 16, 3) := by decide +kernel
theorem dX2_runCourse_73 : decode cX2_runCourse 73 = .ok (.aload_n 0, 1) := by decide +kernel
theorem dX2_runCourse_74 : decode cX2_runCourse 74 = .ok (.invokevirtual 164, 3) := by decide +kernel
theorem dX2_runCourse_77 : decode cX2_runCourse 77 = .ok (.ifCond .ne 6, 3) := by decide +kernel
theorem dX2_runCourse_80 : decode cX2_runCourse 80 = .ok (.goto 34, 3) := by decide +kernel
theorem dX2_runCourse_83 : decode cX2_runCourse 83 = .ok (.iinc 1 1, 3) := by decide +kernel
theorem dX2_runCourse_86 : decode cX2_runCourse 86 = .ok (.iload_n 2, 1) := by decide +kernel
theorem dX2_runCourse_87 : decode cX2_runCourse 87 = .ok (.aload_n 0, 1) := by decide +kernel
theorem dX2_runCourse_88 : decode cX2_runCourse 88 = .ok (.getfield 48, 3) := by decide +kernel
theorem dX2_runCourse_91 : decode cX2_runCourse 91 = .ok (.if_icmp .ge 17, 3) := by decide +kernel
theorem dX2_runCourse_94 : decode cX2_runCourse 94 = .ok (.aload_n 0, 1) := by decide +kernel
theorem dX2_runCourse_95 : decode cX2_runCourse 95 = .ok (.getfield 36, 3) := by decide +kernel
theorem dX2_runCourse_98 : decode cX2_runCourse 98 = .ok (.aload_n 0, 1) := by decide +kernel
theorem dX2_runCourse_99 : decode cX2_runCourse 99 = .ok (.getfield 29, 3) := by decide +kernel
theorem dX2_runCourse_102 : decode cX2_runCourse 102 = .ok (.iload_n 2, 1) := by decide +kernel
theorem dX2_runCourse_103 : decode cX2_runCourse 103 = .ok (.iaload, 1) := by decide +kernel
theorem dX2_runCourse_104 : decode cX2_runCourse 104 = .ok (.invokevirtual 152, 3) := by decide +kernel
theorem dX2_runCourse_107 : decode cX2_runCourse 107 = .ok (.pop, 1) := by decide +kernel
theorem dX2_runCourse_108 : decode cX2_runCourse 108 = .ok (.iinc 2 1, 3) := by decide +kernel
theorem dX2_runCourse_111 : decode cX2_runCourse 111 = .ok (.goto (-65), 3) := by decide +kernel
theorem dX2_runCourse_114 : decode cX2_runCourse 114 = .ok (.aload_n 0, 1) := by decide +kernel
theorem dX2_runCourse_115 : decode cX2_runCourse 115 = .ok (.iconst 0, 1) := by decide +kernel
theorem dX2_runCourse_116 : decode cX2_runCourse 116 = .ok (.putfield 48, 3) := by decide +kernel
theorem dX2_runCourse_119 : decode cX2_runCourse 119 = .ok (.iload_n 1, 1) := by decide +kernel
theorem dX2_runCourse_120 : decode cX2_runCourse 120 = .ok (.ireturn, 1) := by decide +kernel
theorem dX2_keep_0 : decode cX2_keep 0 = .ok (.aload_n 0, 1) := by decide +kernel
theorem dX2_keep_1 : decode cX2_keep 1 = .ok (.getfield 16, 3) := by decide +kernel
theorem dX2_keep_4 : decode cX2_keep 4 = .ok (.aload_n 0, 1) := by decide +kernel
theorem dX2_keep_5 : decode cX2_keep 5 = .ok (.getfield 10, 3) := by decide +kernel
theorem dX2_keep_8 : decode cX2_keep 8 = .ok (.invokevirtual 167, 3) := by decide +kernel
theorem dX2_keep_11 : decode cX2_keep 11 = .ok (.aload_n 0, 1) := by decide +kernel
theorem dX2_keep_12 : decode cX2_keep 12 = .ok (.iconst 1, 1) := by decide +kernel
theorem dX2_keep_13 : decode cX2_keep 13 = .ok (.putfield 44, 3) := by decide +kernel
theorem dX2_keep_16 : decode cX2_keep 16 = .ok (.aload_n 0, 1) := by decide +kernel
theorem dX2_keep_17 : decode cX2_keep 17 = .ok (.getfield 10, 3) := by decide +kernel
theorem dX2_keep_20 : decode cX2_keep 20 = .ok (.getfield 94, 3) := by decide +kernel
theorem dX2_keep_23 : decode cX2_keep 23 = .ok (.ireturn, 1) := by decide +kernel
theorem dX2_goBack_0 : decode cX2_goBack 0 = .ok (.aload_n 0, 1) := by decide +kernel
theorem dX2_goBack_1 : decode cX2_goBack 1 = .ok (.getfield 44, 3) := by decide +kernel
theorem dX2_goBack_4 : decode cX2_goBack 4 = .ok (.ifCond .ne 13, 3) := by decide +kernel
theorem dX2_goBack_7 : decode cX2_goBack 7 = .ok (.new 70, 3) := by decide +kernel
theorem dX2_goBack_10 : decode cX2_goBack 10 = .ok (.dup, 1) := by decide +kernel
theorem dX2_goBack_11 : decode cX2_goBack 11 = .ok (.ldc 171, 2) := by decide +kernel
theorem dX2_goBack_13 : decode cX2_goBack 13 = .ok (.invokespecial 74, 3) := by decide +kernel
theorem dX2_goBack_16 : decode cX2_goBack 16 = .ok (.athrow, 1) := by decide +kernel
theorem dX2_goBack_17 : decode cX2_goBack 17 = .ok (.aload_n 0, 1) := by decide +kernel
theorem dX2_goBack_18 : decode cX2_goBack 18 = .ok (.invokevirtual 75, 3) := by decide +kernel
theorem dX2_goBack_21 : decode cX2_goBack 21 = .ok (.aload_n 0, 1) := by decide +kernel
theorem dX2_goBack_22 : decode cX2_goBack 22 = .ok (.getfield 10, 3) := by decide +kernel
theorem dX2_goBack_25 : decode cX2_goBack 25 = .ok (.aload_n 0, 1) := by decide +kernel
theorem dX2_goBack_26 : decode cX2_goBack 26 = .ok (.getfield 16, 3) := by decide +kernel
theorem dX2_goBack_29 : decode cX2_goBack 29 = .ok (.invokevirtual 167, 3) := by decide +kernel
theorem dX2_goBack_32 : decode cX2_goBack 32 = .ok (.aload_n 0, 1) := by decide +kernel
theorem dX2_goBack_33 : decode cX2_goBack 33 = .ok (.getfield 10, 3) := by decide +kernel
theorem dX2_goBack_36 : decode cX2_goBack 36 = .ok (.getfield 94, 3) := by decide +kernel
theorem dX2_goBack_39 : decode cX2_goBack 39 = .ok (.ireturn, 1) := by decide +kernel
theorem dX2_undo_0 : decode cX2_undo 0 = .ok (.aload_n 0, 1) := by decide +kernel
theorem dX2_undo_1 : decode cX2_undo 1 = .ok (.getfield 40, 3) := by decide +kernel
theorem dX2_undo_4 : decode cX2_undo 4 = .ok (.iconst 1, 1) := by decide +kernel
theorem dX2_undo_5 : decode cX2_undo 5 = .ok (.if_icmp .ge 13, 3) := by decide +kernel
theorem dX2_undo_8 : decode cX2_undo 8 = .ok (.new 70, 3) := by decide +kernel
theorem dX2_undo_11 : decode cX2_undo 11 = .ok (.dup, 1) := by decide +kernel
theorem dX2_undo_12 : decode cX2_undo 12 = .ok (.ldc 173, 2) := by decide +kernel
theorem dX2_undo_14 : decode cX2_undo 14 = .ok (.invokespecial 74, 3) := by decide +kernel
theorem dX2_undo_17 : decode cX2_undo 17 = .ok (.athrow, 1) := by decide +kernel
theorem dX2_undo_18 : decode cX2_undo 18 = .ok (.aload_n 0, 1) := by decide +kernel
theorem dX2_undo_19 : decode cX2_undo 19 = .ok (.dup, 1) := by decide +kernel
theorem dX2_undo_20 : decode cX2_undo 20 = .ok (.getfield 40, 3) := by decide +kernel
theorem dX2_undo_23 : decode cX2_undo 23 = .ok (.iconst 1, 1) := by decide +kernel
theorem dX2_undo_24 : decode cX2_undo 24 = .ok (.isub, 1) := by decide +kernel
theorem dX2_undo_25 : decode cX2_undo 25 = .ok (.putfield 40, 3) := by decide +kernel
theorem dX2_undo_28 : decode cX2_undo 28 = .ok (.aload_n 0, 1) := by decide +kernel
theorem dX2_undo_29 : decode cX2_undo 29 = .ok (.getfield 10, 3) := by decide +kernel
theorem dX2_undo_32 : decode cX2_undo 32 = .ok (.aload_n 0, 1) := by decide +kernel
theorem dX2_undo_33 : decode cX2_undo 33 = .ok (.getfield 25, 3) := by decide +kernel
theorem dX2_undo_36 : decode cX2_undo 36 = .ok (.aload_n 0, 1) := by decide +kernel
theorem dX2_undo_37 : decode cX2_undo 37 = .ok (.getfield 40, 3) := by decide +kernel
theorem dX2_undo_40 : decode cX2_undo 40 = .ok (.aaload, 1) := by decide +kernel
theorem dX2_undo_41 : decode cX2_undo 41 = .ok (.invokevirtual 167, 3) := by decide +kernel
theorem dX2_undo_44 : decode cX2_undo 44 = .ok (.aload_n 0, 1) := by decide +kernel
theorem dX2_undo_45 : decode cX2_undo 45 = .ok (.getfield 40, 3) := by decide +kernel
theorem dX2_undo_48 : decode cX2_undo 48 = .ok (.ireturn, 1) := by decide +kernel
theorem dX2_transfers_0 : decode cX2_transfers 0 = .ok (.aload_n 0, 1) := by decide +kernel
theorem dX2_transfers_1 : decode cX2_transfers 1 = .ok (.getfield 10, 3) := by decide +kernel
theorem dX2_transfers_4 : decode cX2_transfers 4 = .ok (.getfield 175, 3) := by decide +kernel
theorem dX2_transfers_7 : decode cX2_transfers 7 = .ok (.ireturn, 1) := by decide +kernel
theorem dX2_partners_0 : decode cX2_partners 0 = .ok (.aload_n 0, 1) := by decide +kernel
theorem dX2_partners_1 : decode cX2_partners 1 = .ok (.iload_n 1, 1) := by decide +kernel
theorem dX2_partners_2 : decode cX2_partners 2 = .ok (.invokevirtual 82, 3) := by decide +kernel
theorem dX2_partners_5 : decode cX2_partners 5 = .ok (.aload_n 0, 1) := by decide +kernel
theorem dX2_partners_6 : decode cX2_partners 6 = .ok (.getfield 10, 3) := by decide +kernel
theorem dX2_partners_9 : decode cX2_partners 9 = .ok (.getfield 178, 3) := by decide +kernel
theorem dX2_partners_12 : decode cX2_partners 12 = .ok (.iload_n 1, 1) := by decide +kernel
theorem dX2_partners_13 : decode cX2_partners 13 = .ok (.iaload, 1) := by decide +kernel
theorem dX2_partners_14 : decode cX2_partners 14 = .ok (.ireturn, 1) := by decide +kernel
theorem dX2_share_0 : decode cX2_share 0 = .ok (.aload_n 0, 1) := by decide +kernel
theorem dX2_share_1 : decode cX2_share 1 = .ok (.iload_n 1, 1) := by decide +kernel
theorem dX2_share_2 : decode cX2_share 2 = .ok (.invokevirtual 82, 3) := by decide +kernel
theorem dX2_share_5 : decode cX2_share 5 = .ok (.aload_n 0, 1) := by decide +kernel
theorem dX2_share_6 : decode cX2_share 6 = .ok (.iload_n 2, 1) := by decide +kernel
theorem dX2_share_7 : decode cX2_share 7 = .ok (.invokevirtual 51, 3) := by decide +kernel
theorem dX2_share_10 : decode cX2_share 10 = .ok (.aload_n 0, 1) := by decide +kernel
theorem dX2_share_11 : decode cX2_share 11 = .ok (.getfield 10, 3) := by decide +kernel
theorem dX2_share_14 : decode cX2_share 14 = .ok (.iload_n 1, 1) := by decide +kernel
theorem dX2_share_15 : decode cX2_share 15 = .ok (.iload_n 2, 1) := by decide +kernel
theorem dX2_share_16 : decode cX2_share 16 = .ok (.invokevirtual 181, 3) := by decide +kernel
theorem dX2_share_19 : decode cX2_share 19 = .ok (.ireturn, 1) := by decide +kernel
theorem dX2_isUp_0 : decode cX2_isUp 0 = .ok (.aload_n 0, 1) := by decide +kernel
theorem dX2_isUp_1 : decode cX2_isUp 1 = .ok (.iload_n 1, 1) := by decide +kernel
theorem dX2_isUp_2 : decode cX2_isUp 2 = .ok (.invokevirtual 121, 3) := by decide +kernel
theorem dX2_isUp_5 : decode cX2_isUp 5 = .ok (.aload_n 0, 1) := by decide +kernel
theorem dX2_isUp_6 : decode cX2_isUp 6 = .ok (.getfield 10, 3) := by decide +kernel
theorem dX2_isUp_9 : decode cX2_isUp 9 = .ok (.iload_n 1, 1) := by decide +kernel
theorem dX2_isUp_10 : decode cX2_isUp 10 = .ok (.invokevirtual 124, 3) := by decide +kernel
theorem dX2_isUp_13 : decode cX2_isUp 13 = .ok (.ireturn, 1) := by decide +kernel
theorem dX2_amount_0 : decode cX2_amount 0 = .ok (.aload_n 0, 1) := by decide +kernel
theorem dX2_amount_1 : decode cX2_amount 1 = .ok (.iload_n 1, 1) := by decide +kernel
theorem dX2_amount_2 : decode cX2_amount 2 = .ok (.invokevirtual 51, 3) := by decide +kernel
theorem dX2_amount_5 : decode cX2_amount 5 = .ok (.aload_n 0, 1) := by decide +kernel
theorem dX2_amount_6 : decode cX2_amount 6 = .ok (.getfield 10, 3) := by decide +kernel
theorem dX2_amount_9 : decode cX2_amount 9 = .ok (.getfield 185, 3) := by decide +kernel
theorem dX2_amount_12 : decode cX2_amount 12 = .ok (.iload_n 1, 1) := by decide +kernel
theorem dX2_amount_13 : decode cX2_amount 13 = .ok (.iaload, 1) := by decide +kernel
theorem dX2_amount_14 : decode cX2_amount 14 = .ok (.ireturn, 1) := by decide +kernel
theorem dX2_amountByLog_0 : decode cX2_amountByLog 0 = .ok (.aload_n 0, 1) := by decide +kernel
theorem dX2_amountByLog_1 : decode cX2_amountByLog 1 = .ok (.iload_n 1, 1) := by decide +kernel
theorem dX2_amountByLog_2 : decode cX2_amountByLog 2 = .ok (.invokevirtual 51, 3) := by decide +kernel
theorem dX2_amountByLog_5 : decode cX2_amountByLog 5 = .ok (.bipush 100, 2) := by decide +kernel
theorem dX2_amountByLog_7 : decode cX2_amountByLog 7 = .ok (.istore_n 2, 1) := by decide +kernel
theorem dX2_amountByLog_8 : decode cX2_amountByLog 8 = .ok (.iconst 0, 1) := by decide +kernel
theorem dX2_amountByLog_9 : decode cX2_amountByLog 9 = .ok (.istore_n 3, 1) := by decide +kernel
theorem dX2_amountByLog_10 : decode cX2_amountByLog 10 = .ok (.iload_n 3, 1) := by decide +kernel
theorem dX2_amountByLog_11 : decode cX2_amountByLog 11 = .ok (.aload_n 0, 1) := by decide +kernel
theorem dX2_amountByLog_12 : decode cX2_amountByLog 12 = .ok (.getfield 10, 3) := by decide +kernel
theorem dX2_amountByLog_15 : decode cX2_amountByLog 15 = .ok (.getfield 188, 3) := by decide +kernel
theorem dX2_amountByLog_18 : decode cX2_amountByLog 18 = .ok (.iload_n 1, 1) := by decide +kernel
theorem dX2_amountByLog_19 : decode cX2_amountByLog 19 = .ok (.iaload, 1) := by decide +kernel
theorem dX2_amountByLog_20 : decode cX2_amountByLog 20 = .ok (.if_icmp .ge 42, 3) := by decide +kernel
theorem dX2_amountByLog_23 : decode cX2_amountByLog 23 = .ok (.aload_n 0, 1) := by decide +kernel
theorem dX2_amountByLog_24 : decode cX2_amountByLog 24 = .ok (.getfield 10, 3) := by decide +kernel
theorem dX2_amountByLog_27 : decode cX2_amountByLog 27 = .ok (.iload_n 1, 1) := by decide +kernel
theorem dX2_amountByLog_28 : decode cX2_amountByLog 28 = .ok (.iload_n 3, 1) := by decide +kernel
theorem dX2_amountByLog_29 : decode cX2_amountByLog 29 = .ok (.invokevirtual 191, 3) := by decide +kernel
theorem dX2_amountByLog_32 : decode cX2_amountByLog 32 = .ok (.iconst 1, 1) := by decide +kernel
theorem dX2_amountByLog_33 : decode cX2_amountByLog 33 = .ok (.if_icmp .ne 23, 3) := by decide +kernel
theorem dX2_amountByLog_36 : decode cX2_amountByLog 36 = .ok (.iload_n 2, 1) := by decide +kernel
theorem dX2_amountByLog_37 : decode cX2_amountByLog 37 = .ok (.aload_n 0, 1) := by decide +kernel
theorem dX2_amountByLog_38 : decode cX2_amountByLog 38 = .ok (.getfield 10, 3) := by decide +kernel
theorem dX2_amountByLog_41 : decode cX2_amountByLog 41 = .ok (.aload_n 0, 1) := by decide +kernel
theorem dX2_amountByLog_42 : decode cX2_amountByLog 42 = .ok (.getfield 10, 3) := by decide +kernel
theorem dX2_amountByLog_45 : decode cX2_amountByLog 45 = .ok (.iload_n 1, 1) := by decide +kernel
theorem dX2_amountByLog_46 : decode cX2_amountByLog 46 = .ok (.iload_n 3, 1) := by decide +kernel
theorem dX2_amountByLog_47 : decode cX2_amountByLog 47 = .ok (.invokevirtual 194, 3) := by decide +kernel
theorem dX2_amountByLog_50 : decode cX2_amountByLog 50 = .ok (.iload_n 1, 1) := by decide +kernel
theorem dX2_amountByLog_51 : decode cX2_amountByLog 51 = .ok (.invokevirtual 181, 3) := by decide +kernel
theorem dX2_amountByLog_54 : decode cX2_amountByLog 54 = .ok (.iadd, 1) := by decide +kernel
theorem dX2_amountByLog_55 : decode cX2_amountByLog 55 = .ok (.istore_n 2, 1) := by decide +kernel
theorem dX2_amountByLog_56 : decode cX2_amountByLog 56 = .ok (.iinc 3 1, 3) := by decide +kernel
theorem dX2_amountByLog_59 : decode cX2_amountByLog 59 = .ok (.goto (-49), 3) := by decide +kernel
theorem dX2_amountByLog_62 : decode cX2_amountByLog 62 = .ok (.iload_n 2, 1) := by decide +kernel
theorem dX2_amountByLog_63 : decode cX2_amountByLog 63 = .ok (.ireturn, 1) := by decide +kernel
theorem dX2_state_0 : decode cX2_state 0 = .ok (.aload_n 0, 1) := by decide +kernel
theorem dX2_state_1 : decode cX2_state 1 = .ok (.iload_n 1, 1) := by decide +kernel
theorem dX2_state_2 : decode cX2_state 2 = .ok (.invokevirtual 51, 3) := by decide +kernel
theorem dX2_state_5 : decode cX2_state 5 = .ok (.aload_n 0, 1) := by decide +kernel
theorem dX2_state_6 : decode cX2_state 6 = .ok (.iload_n 2, 1) := by decide +kernel
theorem dX2_state_7 : decode cX2_state 7 = .ok (.invokevirtual 82, 3) := by decide +kernel
theorem dX2_state_10 : decode cX2_state 10 = .ok (.aload_n 0, 1) := by decide +kernel
theorem dX2_state_11 : decode cX2_state 11 = .ok (.getfield 10, 3) := by decide +kernel
theorem dX2_state_14 : decode cX2_state 14 = .ok (.iload_n 1, 1) := by decide +kernel
theorem dX2_state_15 : decode cX2_state 15 = .ok (.iload_n 2, 1) := by decide +kernel
theorem dX2_state_16 : decode cX2_state 16 = .ok (.invokevirtual 197, 3) := by decide +kernel
theorem dX2_state_19 : decode cX2_state 19 = .ok (.ireturn, 1) := by decide +kernel
theorem dX2_stateByLog_0 : decode cX2_stateByLog 0 = .ok (.aload_n 0, 1) := by decide +kernel
theorem dX2_stateByLog_1 : decode cX2_stateByLog 1 = .ok (.iload_n 1, 1) := by decide +kernel
theorem dX2_stateByLog_2 : decode cX2_stateByLog 2 = .ok (.invokevirtual 51, 3) := by decide +kernel
theorem dX2_stateByLog_5 : decode cX2_stateByLog 5 = .ok (.aload_n 0, 1) := by decide +kernel
theorem dX2_stateByLog_6 : decode cX2_stateByLog 6 = .ok (.iload_n 2, 1) := by decide +kernel
theorem dX2_stateByLog_7 : decode cX2_stateByLog 7 = .ok (.invokevirtual 82, 3) := by decide +kernel
theorem dX2_stateByLog_10 : decode cX2_stateByLog 10 = .ok (.iconst 0, 1) := by decide +kernel
theorem dX2_stateByLog_11 : decode cX2_stateByLog 11 = .ok (.istore_n 3, 1) := by decide +kernel
theorem dX2_stateByLog_12 : decode cX2_stateByLog 12 = .ok (.iconst 0, 1) := by decide +kernel
theorem dX2_stateByLog_13 : decode cX2_stateByLog 13 = .ok (.istore 4, 2) := by decide +kernel
theorem dX2_stateByLog_15 : decode cX2_stateByLog 15 = .ok (.iload 4, 2) := by decide +kernel
theorem dX2_stateByLog_17 : decode cX2_stateByLog 17 = .ok (.aload_n 0, 1) := by decide +kernel
theorem dX2_stateByLog_18 : decode cX2_stateByLog 18 = .ok (.getfield 10, 3) := by decide +kernel
theorem dX2_stateByLog_21 : decode cX2_stateByLog 21 = .ok (.getfield 188, 3) := by decide +kernel
theorem dX2_stateByLog_24 : decode cX2_stateByLog 24 = .ok (.iload_n 1, 1) := by decide +kernel
theorem dX2_stateByLog_25 : decode cX2_stateByLog 25 = .ok (.iaload, 1) := by decide +kernel
theorem dX2_stateByLog_26 : decode cX2_stateByLog 26 = .ok (.if_icmp .ge 37, 3) := by decide +kernel
theorem dX2_stateByLog_29 : decode cX2_stateByLog 29 = .ok (.aload_n 0, 1) := by decide +kernel
theorem dX2_stateByLog_30 : decode cX2_stateByLog 30 = .ok (.getfield 10, 3) := by decide +kernel
theorem dX2_stateByLog_33 : decode cX2_stateByLog 33 = .ok (.iload_n 1, 1) := by decide +kernel
theorem dX2_stateByLog_34 : decode cX2_stateByLog 34 = .ok (.iload 4, 2) := by decide +kernel
theorem dX2_stateByLog_36 : decode cX2_stateByLog 36 = .ok (.invokevirtual 194, 3) := by decide +kernel
theorem dX2_stateByLog_39 : decode cX2_stateByLog 39 = .ok (.iload_n 2, 1) := by decide +kernel
theorem dX2_stateByLog_40 : decode cX2_stateByLog 40 = .ok (.if_icmp .ne 17, 3) := by decide +kernel
theorem dX2_stateByLog_43 : decode cX2_stateByLog 43 = .ok (.aload_n 0, 1) := by decide +kernel
theorem dX2_stateByLog_44 : decode cX2_stateByLog 44 = .ok (.getfield 10, 3) := by decide +kernel
theorem dX2_stateByLog_47 : decode cX2_stateByLog 47 = .ok (.iload_n 1, 1) := by decide +kernel
theorem dX2_stateByLog_48 : decode cX2_stateByLog 48 = .ok (.iload 4, 2) := by decide +kernel
theorem dX2_stateByLog_50 : decode cX2_stateByLog 50 = .ok (.invokevirtual 191, 3) := by decide +kernel
theorem dX2_stateByLog_53 : decode cX2_stateByLog 53 = .ok (.invokestatic 200, 3) := by decide +kernel
theorem dX2_stateByLog_56 : decode cX2_stateByLog 56 = .ok (.istore_n 3, 1) := by decide +kernel
theorem dX2_stateByLog_57 : decode cX2_stateByLog 57 = .ok (.iinc 4 1, 3) := by decide +kernel
theorem dX2_stateByLog_60 : decode cX2_stateByLog 60 = .ok (.goto (-45), 3) := by decide +kernel
theorem dX2_stateByLog_63 : decode cX2_stateByLog 63 = .ok (.iload_n 3, 1) := by decide +kernel
theorem dX2_stateByLog_64 : decode cX2_stateByLog 64 = .ok (.ireturn, 1) := by decide +kernel
theorem dX2_inDoubt_0 : decode cX2_inDoubt 0 = .ok (.aload_n 0, 1) := by decide +kernel
theorem dX2_inDoubt_1 : decode cX2_inDoubt 1 = .ok (.iload_n 1, 1) := by decide +kernel
theorem dX2_inDoubt_2 : decode cX2_inDoubt 2 = .ok (.invokevirtual 51, 3) := by decide +kernel
theorem dX2_inDoubt_5 : decode cX2_inDoubt 5 = .ok (.iconst 0, 1) := by decide +kernel
theorem dX2_inDoubt_6 : decode cX2_inDoubt 6 = .ok (.istore_n 2, 1) := by decide +kernel
theorem dX2_inDoubt_7 : decode cX2_inDoubt 7 = .ok (.iconst 0, 1) := by decide +kernel
theorem dX2_inDoubt_8 : decode cX2_inDoubt 8 = .ok (.istore_n 3, 1) := by decide +kernel
theorem dX2_inDoubt_9 : decode cX2_inDoubt 9 = .ok (.iload_n 3, 1) := by decide +kernel
theorem dX2_inDoubt_10 : decode cX2_inDoubt 10 = .ok (.aload_n 0, 1) := by decide +kernel
theorem dX2_inDoubt_11 : decode cX2_inDoubt 11 = .ok (.getfield 10, 3) := by decide +kernel
theorem dX2_inDoubt_14 : decode cX2_inDoubt 14 = .ok (.getfield 175, 3) := by decide +kernel
theorem dX2_inDoubt_17 : decode cX2_inDoubt 17 = .ok (.if_icmp .ge 25, 3) := by decide +kernel
theorem dX2_inDoubt_20 : decode cX2_inDoubt 20 = .ok (.aload_n 0, 1) := by decide +kernel
theorem dX2_inDoubt_21 : decode cX2_inDoubt 21 = .ok (.getfield 10, 3) := by decide +kernel
theorem dX2_inDoubt_24 : decode cX2_inDoubt 24 = .ok (.iload_n 1, 1) := by decide +kernel
theorem dX2_inDoubt_25 : decode cX2_inDoubt 25 = .ok (.iload_n 3, 1) := by decide +kernel
theorem dX2_inDoubt_26 : decode cX2_inDoubt 26 = .ok (.invokevirtual 197, 3) := by decide +kernel
theorem dX2_inDoubt_29 : decode cX2_inDoubt 29 = .ok (.iconst 1, 1) := by decide +kernel
theorem dX2_inDoubt_30 : decode cX2_inDoubt 30 = .ok (.if_icmp .ne 6, 3) := by decide +kernel
theorem dX2_inDoubt_33 : decode cX2_inDoubt 33 = .ok (.iinc 2 1, 3) := by decide +kernel
theorem dX2_inDoubt_36 : decode cX2_inDoubt 36 = .ok (.iinc 3 1, 3) := by decide +kernel
theorem dX2_inDoubt_39 : decode cX2_inDoubt 39 = .ok (.goto (-30), 3) := by decide +kernel
theorem dX2_inDoubt_42 : decode cX2_inDoubt 42 = .ok (.iload_n 2, 1) := by decide +kernel
theorem dX2_inDoubt_43 : decode cX2_inDoubt 43 = .ok (.ireturn, 1) := by decide +kernel
theorem dX2_outcome_0 : decode cX2_outcome 0 = .ok (.aload_n 0, 1) := by decide +kernel
theorem dX2_outcome_1 : decode cX2_outcome 1 = .ok (.iload_n 1, 1) := by decide +kernel
theorem dX2_outcome_2 : decode cX2_outcome 2 = .ok (.invokevirtual 82, 3) := by decide +kernel
theorem dX2_outcome_5 : decode cX2_outcome 5 = .ok (.aload_n 0, 1) := by decide +kernel
theorem dX2_outcome_6 : decode cX2_outcome 6 = .ok (.getfield 10, 3) := by decide +kernel
theorem dX2_outcome_9 : decode cX2_outcome 9 = .ok (.iload_n 1, 1) := by decide +kernel
theorem dX2_outcome_10 : decode cX2_outcome 10 = .ok (.invokevirtual 203, 3) := by decide +kernel
theorem dX2_outcome_13 : decode cX2_outcome 13 = .ok (.ireturn, 1) := by decide +kernel
theorem dX2_outcomeByStores_0 : decode cX2_outcomeByStores 0 = .ok (.aload_n 0, 1) := by decide +kernel
theorem dX2_outcomeByStores_1 : decode cX2_outcomeByStores 1 = .ok (.iload_n 1, 1) := by decide +kernel
theorem dX2_outcomeByStores_2 : decode cX2_outcomeByStores 2 = .ok (.invokevirtual 82, 3) := by decide +kernel
theorem dX2_outcomeByStores_5 : decode cX2_outcomeByStores 5 = .ok (.iconst 0, 1) := by decide +kernel
theorem dX2_outcomeByStores_6 : decode cX2_outcomeByStores 6 = .ok (.istore_n 2, 1) := by decide +kernel
theorem dX2_outcomeByStores_7 : decode cX2_outcomeByStores 7 = .ok (.iconst 0, 1) := by decide +kernel
theorem dX2_outcomeByStores_8 : decode cX2_outcomeByStores 8 = .ok (.istore_n 3, 1) := by decide +kernel
theorem dX2_outcomeByStores_9 : decode cX2_outcomeByStores 9 = .ok (.iload_n 3, 1) := by decide +kernel
theorem dX2_outcomeByStores_10 : decode cX2_outcomeByStores 10 = .ok (.iconst 4, 1) := by decide +kernel
theorem dX2_outcomeByStores_11 : decode cX2_outcomeByStores 11 = .ok (.if_icmp .ge 43, 3) := by decide +kernel
theorem dX2_outcomeByStores_14 : decode cX2_outcomeByStores 14 = .ok (.aload_n 0, 1) := by decide +kernel
theorem dX2_outcomeByStores_15 : decode cX2_outcomeByStores 15 = .ok (.getfield 10, 3) := by decide +kernel
theorem dX2_outcomeByStores_18 : decode cX2_outcomeByStores 18 = .ok (.iload_n 3, 1) := by decide +kernel
theorem dX2_outcomeByStores_19 : decode cX2_outcomeByStores 19 = .ok (.iload_n 1, 1) := by decide +kernel
theorem dX2_outcomeByStores_20 : decode cX2_outcomeByStores 20 = .ok (.invokevirtual 197, 3) := by decide +kernel
theorem dX2_outcomeByStores_23 : decode cX2_outcomeByStores 23 = .ok (.istore 4, 2) := by decide +kernel
theorem dX2_outcomeByStores_25 : decode cX2_outcomeByStores 25 = .ok (.iload 4, 2) := by decide +kernel
theorem dX2_outcomeByStores_27 : decode cX2_outcomeByStores 27 = .ok (.iconst 2, 1) := by decide +kernel
theorem dX2_outcomeByStores_28 : decode cX2_outcomeByStores 28 = .ok (.if_icmp .ne 10, 3) := by decide +kernel
theorem dX2_outcomeByStores_31 : decode cX2_outcomeByStores 31 = .ok (.iload_n 2, 1) := by decide +kernel
theorem dX2_outcomeByStores_32 : decode cX2_outcomeByStores 32 = .ok (.iconst 1, 1) := by decide +kernel
theorem dX2_outcomeByStores_33 : decode cX2_outcomeByStores 33 = .ok (.ior, 1) := by decide +kernel
theorem dX2_outcomeByStores_34 : decode cX2_outcomeByStores 34 = .ok (.istore_n 2, 1) := by decide +kernel
theorem dX2_outcomeByStores_35 : decode cX2_outcomeByStores 35 = .ok (.goto 13, 3) := by decide +kernel
theorem dX2_outcomeByStores_38 : decode cX2_outcomeByStores 38 = .ok (.iload 4, 2) := by decide +kernel
theorem dX2_outcomeByStores_40 : decode cX2_outcomeByStores 40 = .ok (.iconst 3, 1) := by decide +kernel
theorem dX2_outcomeByStores_41 : decode cX2_outcomeByStores 41 = .ok (.if_icmp .ne 7, 3) := by decide +kernel
theorem dX2_outcomeByStores_44 : decode cX2_outcomeByStores 44 = .ok (.iload_n 2, 1) := by decide +kernel
theorem dX2_outcomeByStores_45 : decode cX2_outcomeByStores 45 = .ok (.iconst 2, 1) := by decide +kernel
theorem dX2_outcomeByStores_46 : decode cX2_outcomeByStores 46 = .ok (.ior, 1) := by decide +kernel
theorem dX2_outcomeByStores_47 : decode cX2_outcomeByStores 47 = .ok (.istore_n 2, 1) := by decide +kernel
theorem dX2_outcomeByStores_48 : decode cX2_outcomeByStores 48 = .ok (.iinc 3 1, 3) := by decide +kernel
theorem dX2_outcomeByStores_51 : decode cX2_outcomeByStores 51 = .ok (.goto (-42), 3) := by decide +kernel
theorem dX2_outcomeByStores_54 : decode cX2_outcomeByStores 54 = .ok (.iload_n 2, 1) := by decide +kernel
theorem dX2_outcomeByStores_55 : decode cX2_outcomeByStores 55 = .ok (.ireturn, 1) := by decide +kernel
theorem dX2_hasEnded_0 : decode cX2_hasEnded 0 = .ok (.aload_n 0, 1) := by decide +kernel
theorem dX2_hasEnded_1 : decode cX2_hasEnded 1 = .ok (.iload_n 1, 1) := by decide +kernel
theorem dX2_hasEnded_2 : decode cX2_hasEnded 2 = .ok (.invokevirtual 82, 3) := by decide +kernel
theorem dX2_hasEnded_5 : decode cX2_hasEnded 5 = .ok (.aload_n 0, 1) := by decide +kernel
theorem dX2_hasEnded_6 : decode cX2_hasEnded 6 = .ok (.getfield 10, 3) := by decide +kernel
theorem dX2_hasEnded_9 : decode cX2_hasEnded 9 = .ok (.iload_n 1, 1) := by decide +kernel
theorem dX2_hasEnded_10 : decode cX2_hasEnded 10 = .ok (.invokevirtual 206, 3) := by decide +kernel
theorem dX2_hasEnded_13 : decode cX2_hasEnded 13 = .ok (.ireturn, 1) := by decide +kernel
theorem dX2_saidYes_0 : decode cX2_saidYes 0 = .ok (.aload_n 0, 1) := by decide +kernel
theorem dX2_saidYes_1 : decode cX2_saidYes 1 = .ok (.iload_n 1, 1) := by decide +kernel
theorem dX2_saidYes_2 : decode cX2_saidYes 2 = .ok (.invokevirtual 82, 3) := by decide +kernel
theorem dX2_saidYes_5 : decode cX2_saidYes 5 = .ok (.aload_n 0, 1) := by decide +kernel
theorem dX2_saidYes_6 : decode cX2_saidYes 6 = .ok (.getfield 10, 3) := by decide +kernel
theorem dX2_saidYes_9 : decode cX2_saidYes 9 = .ok (.getfield 209, 3) := by decide +kernel
theorem dX2_saidYes_12 : decode cX2_saidYes 12 = .ok (.iload_n 1, 1) := by decide +kernel
theorem dX2_saidYes_13 : decode cX2_saidYes 13 = .ok (.iaload, 1) := by decide +kernel
theorem dX2_saidYes_14 : decode cX2_saidYes 14 = .ok (.ireturn, 1) := by decide +kernel
theorem dX2_saidDone_0 : decode cX2_saidDone 0 = .ok (.aload_n 0, 1) := by decide +kernel
theorem dX2_saidDone_1 : decode cX2_saidDone 1 = .ok (.iload_n 1, 1) := by decide +kernel
theorem dX2_saidDone_2 : decode cX2_saidDone 2 = .ok (.invokevirtual 82, 3) := by decide +kernel
theorem dX2_saidDone_5 : decode cX2_saidDone 5 = .ok (.aload_n 0, 1) := by decide +kernel
theorem dX2_saidDone_6 : decode cX2_saidDone 6 = .ok (.getfield 10, 3) := by decide +kernel
theorem dX2_saidDone_9 : decode cX2_saidDone 9 = .ok (.getfield 212, 3) := by decide +kernel
theorem dX2_saidDone_12 : decode cX2_saidDone 12 = .ok (.iload_n 1, 1) := by decide +kernel
theorem dX2_saidDone_13 : decode cX2_saidDone 13 = .ok (.iaload, 1) := by decide +kernel
theorem dX2_saidDone_14 : decode cX2_saidDone 14 = .ok (.ireturn, 1) := by decide +kernel
theorem dX2_total_0 : decode cX2_total 0 = .ok (.iconst 0, 1) := by decide +kernel
theorem dX2_total_1 : decode cX2_total 1 = .ok (.istore_n 1, 1) := by decide +kernel
theorem dX2_total_2 : decode cX2_total 2 = .ok (.iconst 0, 1) := by decide +kernel
theorem dX2_total_3 : decode cX2_total 3 = .ok (.istore_n 2, 1) := by decide +kernel
theorem dX2_total_4 : decode cX2_total 4 = .ok (.iload_n 2, 1) := by decide +kernel
theorem dX2_total_5 : decode cX2_total 5 = .ok (.iconst 4, 1) := by decide +kernel
theorem dX2_total_6 : decode cX2_total 6 = .ok (.if_icmp .ge 21, 3) := by decide +kernel
theorem dX2_total_9 : decode cX2_total 9 = .ok (.iload_n 1, 1) := by decide +kernel
theorem dX2_total_10 : decode cX2_total 10 = .ok (.aload_n 0, 1) := by decide +kernel
theorem dX2_total_11 : decode cX2_total 11 = .ok (.getfield 10, 3) := by decide +kernel
theorem dX2_total_14 : decode cX2_total 14 = .ok (.getfield 185, 3) := by decide +kernel
theorem dX2_total_17 : decode cX2_total 17 = .ok (.iload_n 2, 1) := by decide +kernel
theorem dX2_total_18 : decode cX2_total 18 = .ok (.iaload, 1) := by decide +kernel
theorem dX2_total_19 : decode cX2_total 19 = .ok (.iadd, 1) := by decide +kernel
theorem dX2_total_20 : decode cX2_total 20 = .ok (.istore_n 1, 1) := by decide +kernel
theorem dX2_total_21 : decode cX2_total 21 = .ok (.iinc 2 1, 3) := by decide +kernel
theorem dX2_total_24 : decode cX2_total 24 = .ok (.goto (-20), 3) := by decide +kernel
theorem dX2_total_27 : decode cX2_total 27 = .ok (.iload_n 1, 1) := by decide +kernel
theorem dX2_total_28 : decode cX2_total 28 = .ok (.ireturn, 1) := by decide +kernel
theorem dX2_onTheWay_0 : decode cX2_onTheWay 0 = .ok (.iconst 0, 1) := by decide +kernel
theorem dX2_onTheWay_1 : decode cX2_onTheWay 1 = .ok (.istore_n 1, 1) := by decide +kernel
theorem dX2_onTheWay_2 : decode cX2_onTheWay 2 = .ok (.iconst 0, 1) := by decide +kernel
theorem dX2_onTheWay_3 : decode cX2_onTheWay 3 = .ok (.istore_n 2, 1) := by decide +kernel
theorem dX2_onTheWay_4 : decode cX2_onTheWay 4 = .ok (.iload_n 2, 1) := by decide +kernel
theorem dX2_onTheWay_5 : decode cX2_onTheWay 5 = .ok (.aload_n 0, 1) := by decide +kernel
theorem dX2_onTheWay_6 : decode cX2_onTheWay 6 = .ok (.getfield 10, 3) := by decide +kernel
theorem dX2_onTheWay_9 : decode cX2_onTheWay 9 = .ok (.getfield 175, 3) := by decide +kernel
theorem dX2_onTheWay_12 : decode cX2_onTheWay 12 = .ok (.if_icmp .ge 33, 3) := by decide +kernel
theorem dX2_onTheWay_15 : decode cX2_onTheWay 15 = .ok (.aload_n 0, 1) := by decide +kernel
theorem dX2_onTheWay_16 : decode cX2_onTheWay 16 = .ok (.getfield 10, 3) := by decide +kernel
theorem dX2_onTheWay_19 : decode cX2_onTheWay 19 = .ok (.getfield 215, 3) := by decide +kernel
theorem dX2_onTheWay_22 : decode cX2_onTheWay 22 = .ok (.iload_n 2, 1) := by decide +kernel
theorem dX2_onTheWay_23 : decode cX2_onTheWay 23 = .ok (.iaload, 1) := by decide +kernel
theorem dX2_onTheWay_24 : decode cX2_onTheWay 24 = .ok (.iconst 1, 1) := by decide +kernel
theorem dX2_onTheWay_25 : decode cX2_onTheWay 25 = .ok (.if_icmp .ne 14, 3) := by decide +kernel
theorem dX2_onTheWay_28 : decode cX2_onTheWay 28 = .ok (.iload_n 1, 1) := by decide +kernel
theorem dX2_onTheWay_29 : decode cX2_onTheWay 29 = .ok (.aload_n 0, 1) := by decide +kernel
theorem dX2_onTheWay_30 : decode cX2_onTheWay 30 = .ok (.getfield 10, 3) := by decide +kernel
theorem dX2_onTheWay_33 : decode cX2_onTheWay 33 = .ok (.iload_n 2, 1) := by decide +kernel
theorem dX2_onTheWay_34 : decode cX2_onTheWay 34 = .ok (.invokevirtual 218, 3) := by decide +kernel
theorem dX2_onTheWay_37 : decode cX2_onTheWay 37 = .ok (.iadd, 1) := by decide +kernel
theorem dX2_onTheWay_38 : decode cX2_onTheWay 38 = .ok (.istore_n 1, 1) := by decide +kernel
theorem dX2_onTheWay_39 : decode cX2_onTheWay 39 = .ok (.iinc 2 1, 3) := by decide +kernel
theorem dX2_onTheWay_42 : decode cX2_onTheWay 42 = .ok (.goto (-38), 3) := by decide +kernel
theorem dX2_onTheWay_45 : decode cX2_onTheWay 45 = .ok (.iload_n 1, 1) := by decide +kernel
theorem dX2_onTheWay_46 : decode cX2_onTheWay 46 = .ok (.ireturn, 1) := by decide +kernel
theorem dX2_records_0 : decode cX2_records 0 = .ok (.aload_n 0, 1) := by decide +kernel
theorem dX2_records_1 : decode cX2_records 1 = .ok (.iload_n 1, 1) := by decide +kernel
theorem dX2_records_2 : decode cX2_records 2 = .ok (.invokevirtual 121, 3) := by decide +kernel
theorem dX2_records_5 : decode cX2_records 5 = .ok (.aload_n 0, 1) := by decide +kernel
theorem dX2_records_6 : decode cX2_records 6 = .ok (.getfield 10, 3) := by decide +kernel
theorem dX2_records_9 : decode cX2_records 9 = .ok (.getfield 188, 3) := by decide +kernel
theorem dX2_records_12 : decode cX2_records 12 = .ok (.iload_n 1, 1) := by decide +kernel
theorem dX2_records_13 : decode cX2_records 13 = .ok (.iaload, 1) := by decide +kernel
theorem dX2_records_14 : decode cX2_records 14 = .ok (.ireturn, 1) := by decide +kernel
theorem dX2_recordKind_0 : decode cX2_recordKind 0 = .ok (.aload_n 0, 1) := by decide +kernel
theorem dX2_recordKind_1 : decode cX2_recordKind 1 = .ok (.iload_n 1, 1) := by decide +kernel
theorem dX2_recordKind_2 : decode cX2_recordKind 2 = .ok (.invokevirtual 121, 3) := by decide +kernel
theorem dX2_recordKind_5 : decode cX2_recordKind 5 = .ok (.aload_n 0, 1) := by decide +kernel
theorem dX2_recordKind_6 : decode cX2_recordKind 6 = .ok (.iload_n 2, 1) := by decide +kernel
theorem dX2_recordKind_7 : decode cX2_recordKind 7 = .ok (.invokevirtual 221, 3) := by decide +kernel
theorem dX2_recordKind_10 : decode cX2_recordKind 10 = .ok (.iload_n 2, 1) := by decide +kernel
theorem dX2_recordKind_11 : decode cX2_recordKind 11 = .ok (.aload_n 0, 1) := by decide +kernel
theorem dX2_recordKind_12 : decode cX2_recordKind 12 = .ok (.getfield 10, 3) := by decide +kernel
theorem dX2_recordKind_15 : decode cX2_recordKind 15 = .ok (.getfield 188, 3) := by decide +kernel
theorem dX2_recordKind_18 : decode cX2_recordKind 18 = .ok (.iload_n 1, 1) := by decide +kernel
theorem dX2_recordKind_19 : decode cX2_recordKind 19 = .ok (.iaload, 1) := by decide +kernel
theorem dX2_recordKind_20 : decode cX2_recordKind 20 = .ok (.if_icmp .ge 15, 3) := by decide +kernel
theorem dX2_recordKind_23 : decode cX2_recordKind 23 = .ok (.aload_n 0, 1) := by decide +kernel
theorem dX2_recordKind_24 : decode cX2_recordKind 24 = .ok (.getfield 10, 3) := by decide +kernel
theorem dX2_recordKind_27 : decode cX2_recordKind 27 = .ok (.iload_n 1, 1) := by decide +kernel
theorem dX2_recordKind_28 : decode cX2_recordKind 28 = .ok (.iload_n 2, 1) := by decide +kernel
theorem dX2_recordKind_29 : decode cX2_recordKind 29 = .ok (.invokevirtual 191, 3) := by decide +kernel
theorem dX2_recordKind_32 : decode cX2_recordKind 32 = .ok (.goto 4, 3) := by decide +kernel
theorem dX2_recordKind_35 : decode cX2_recordKind 35 = .ok (.iconst (-1), 1) := by decide +kernel
theorem dX2_recordKind_36 : decode cX2_recordKind 36 = .ok (.ireturn, 1) := by decide +kernel
theorem dX2_recordTransfer_0 : decode cX2_recordTransfer 0 = .ok (.aload_n 0, 1) := by decide +kernel
theorem dX2_recordTransfer_1 : decode cX2_recordTransfer 1 = .ok (.iload_n 1, 1) := by decide +kernel
theorem dX2_recordTransfer_2 : decode cX2_recordTransfer 2 = .ok (.invokevirtual 121, 3) := by decide +kernel
theorem dX2_recordTransfer_5 : decode cX2_recordTransfer 5 = .ok (.aload_n 0, 1) := by decide +kernel
theorem dX2_recordTransfer_6 : decode cX2_recordTransfer 6 = .ok (.iload_n 2, 1) := by decide +kernel
theorem dX2_recordTransfer_7 : decode cX2_recordTransfer 7 = .ok (.invokevirtual 221, 3) := by decide +kernel
theorem dX2_recordTransfer_10 : decode cX2_recordTransfer 10 = .ok (.iload_n 2, 1) := by decide +kernel
theorem dX2_recordTransfer_11 : decode cX2_recordTransfer 11 = .ok (.aload_n 0, 1) := by decide +kernel
theorem dX2_recordTransfer_12 : decode cX2_recordTransfer 12 = .ok (.getfield 10, 3) := by decide +kernel
theorem dX2_recordTransfer_15 : decode cX2_recordTransfer 15 = .ok (.getfield 188, 3) := by decide +kernel
theorem dX2_recordTransfer_18 : decode cX2_recordTransfer 18 = .ok (.iload_n 1, 1) := by decide +kernel
theorem dX2_recordTransfer_19 : decode cX2_recordTransfer 19 = .ok (.iaload, 1) := by decide +kernel
theorem dX2_recordTransfer_20 : decode cX2_recordTransfer 20 = .ok (.if_icmp .ge 15, 3) := by decide +kernel
theorem dX2_recordTransfer_23 : decode cX2_recordTransfer 23 = .ok (.aload_n 0, 1) := by decide +kernel
theorem dX2_recordTransfer_24 : decode cX2_recordTransfer 24 = .ok (.getfield 10, 3) := by decide +kernel
theorem dX2_recordTransfer_27 : decode cX2_recordTransfer 27 = .ok (.iload_n 1, 1) := by decide +kernel
theorem dX2_recordTransfer_28 : decode cX2_recordTransfer 28 = .ok (.iload_n 2, 1) := by decide +kernel
theorem dX2_recordTransfer_29 : decode cX2_recordTransfer 29 = .ok (.invokevirtual 194, 3) := by decide +kernel
theorem dX2_recordTransfer_32 : decode cX2_recordTransfer 32 = .ok (.goto 4, 3) := by decide +kernel
theorem dX2_recordTransfer_35 : decode cX2_recordTransfer 35 = .ok (.iconst (-1), 1) := by decide +kernel
theorem dX2_recordTransfer_36 : decode cX2_recordTransfer 36 = .ok (.ireturn, 1) := by decide +kernel
theorem dX2_waiting_0 : decode cX2_waiting 0 = .ok (.aload_n 0, 1) := by decide +kernel
theorem dX2_waiting_1 : decode cX2_waiting 1 = .ok (.getfield 10, 3) := by decide +kernel
theorem dX2_waiting_4 : decode cX2_waiting 4 = .ok (.getfield 94, 3) := by decide +kernel
theorem dX2_waiting_7 : decode cX2_waiting 7 = .ok (.ireturn, 1) := by decide +kernel
theorem dX2_kindOf_0 : decode cX2_kindOf 0 = .ok (.aload_n 0, 1) := by decide +kernel
theorem dX2_kindOf_1 : decode cX2_kindOf 1 = .ok (.iload_n 1, 1) := by decide +kernel
theorem dX2_kindOf_2 : decode cX2_kindOf 2 = .ok (.invokevirtual 221, 3) := by decide +kernel
theorem dX2_kindOf_5 : decode cX2_kindOf 5 = .ok (.iload_n 1, 1) := by decide +kernel
theorem dX2_kindOf_6 : decode cX2_kindOf 6 = .ok (.aload_n 0, 1) := by decide +kernel
theorem dX2_kindOf_7 : decode cX2_kindOf 7 = .ok (.getfield 10, 3) := by decide +kernel
theorem dX2_kindOf_10 : decode cX2_kindOf 10 = .ok (.getfield 94, 3) := by decide +kernel
theorem dX2_kindOf_13 : decode cX2_kindOf 13 = .ok (.if_icmp .ge 18, 3) := by decide +kernel
theorem dX2_kindOf_16 : decode cX2_kindOf 16 = .ok (.aload_n 0, 1) := by decide +kernel
theorem dX2_kindOf_17 : decode cX2_kindOf 17 = .ok (.getfield 10, 3) := by decide +kernel
theorem dX2_kindOf_20 : decode cX2_kindOf 20 = .ok (.getfield 224, 3) := by decide +kernel
theorem dX2_kindOf_23 : decode cX2_kindOf 23 = .ok (.iload_n 1, 1) := by decide +kernel
theorem dX2_kindOf_24 : decode cX2_kindOf 24 = .ok (.iaload, 1) := by decide +kernel
theorem dX2_kindOf_25 : decode cX2_kindOf 25 = .ok (.invokestatic 227, 3) := by decide +kernel
theorem dX2_kindOf_28 : decode cX2_kindOf 28 = .ok (.goto 4, 3) := by decide +kernel
theorem dX2_kindOf_31 : decode cX2_kindOf 31 = .ok (.iconst (-1), 1) := by decide +kernel
theorem dX2_kindOf_32 : decode cX2_kindOf 32 = .ok (.ireturn, 1) := by decide +kernel
theorem dX2_transferOf_0 : decode cX2_transferOf 0 = .ok (.aload_n 0, 1) := by decide +kernel
theorem dX2_transferOf_1 : decode cX2_transferOf 1 = .ok (.iload_n 1, 1) := by decide +kernel
theorem dX2_transferOf_2 : decode cX2_transferOf 2 = .ok (.invokevirtual 221, 3) := by decide +kernel
theorem dX2_transferOf_5 : decode cX2_transferOf 5 = .ok (.iload_n 1, 1) := by decide +kernel
theorem dX2_transferOf_6 : decode cX2_transferOf 6 = .ok (.aload_n 0, 1) := by decide +kernel
theorem dX2_transferOf_7 : decode cX2_transferOf 7 = .ok (.getfield 10, 3) := by decide +kernel
theorem dX2_transferOf_10 : decode cX2_transferOf 10 = .ok (.getfield 94, 3) := by decide +kernel
theorem dX2_transferOf_13 : decode cX2_transferOf 13 = .ok (.if_icmp .ge 18, 3) := by decide +kernel
theorem dX2_transferOf_16 : decode cX2_transferOf 16 = .ok (.aload_n 0, 1) := by decide +kernel
theorem dX2_transferOf_17 : decode cX2_transferOf 17 = .ok (.getfield 10, 3) := by decide +kernel
theorem dX2_transferOf_20 : decode cX2_transferOf 20 = .ok (.getfield 224, 3) := by decide +kernel
theorem dX2_transferOf_23 : decode cX2_transferOf 23 = .ok (.iload_n 1, 1) := by decide +kernel
theorem dX2_transferOf_24 : decode cX2_transferOf 24 = .ok (.iaload, 1) := by decide +kernel
theorem dX2_transferOf_25 : decode cX2_transferOf 25 = .ok (.invokestatic 230, 3) := by decide +kernel
theorem dX2_transferOf_28 : decode cX2_transferOf 28 = .ok (.goto 4, 3) := by decide +kernel
theorem dX2_transferOf_31 : decode cX2_transferOf 31 = .ok (.iconst (-1), 1) := by decide +kernel
theorem dX2_transferOf_32 : decode cX2_transferOf 32 = .ok (.ireturn, 1) := by decide +kernel
theorem dX2_storeOf_0 : decode cX2_storeOf 0 = .ok (.aload_n 0, 1) := by decide +kernel
theorem dX2_storeOf_1 : decode cX2_storeOf 1 = .ok (.iload_n 1, 1) := by decide +kernel
theorem dX2_storeOf_2 : decode cX2_storeOf 2 = .ok (.invokevirtual 221, 3) := by decide +kernel
theorem dX2_storeOf_5 : decode cX2_storeOf 5 = .ok (.iload_n 1, 1) := by decide +kernel
theorem dX2_storeOf_6 : decode cX2_storeOf 6 = .ok (.aload_n 0, 1) := by decide +kernel
theorem dX2_storeOf_7 : decode cX2_storeOf 7 = .ok (.getfield 10, 3) := by decide +kernel
theorem dX2_storeOf_10 : decode cX2_storeOf 10 = .ok (.getfield 94, 3) := by decide +kernel
theorem dX2_storeOf_13 : decode cX2_storeOf 13 = .ok (.if_icmp .ge 18, 3) := by decide +kernel
theorem dX2_storeOf_16 : decode cX2_storeOf 16 = .ok (.aload_n 0, 1) := by decide +kernel
theorem dX2_storeOf_17 : decode cX2_storeOf 17 = .ok (.getfield 10, 3) := by decide +kernel
theorem dX2_storeOf_20 : decode cX2_storeOf 20 = .ok (.getfield 224, 3) := by decide +kernel
theorem dX2_storeOf_23 : decode cX2_storeOf 23 = .ok (.iload_n 1, 1) := by decide +kernel
theorem dX2_storeOf_24 : decode cX2_storeOf 24 = .ok (.iaload, 1) := by decide +kernel
theorem dX2_storeOf_25 : decode cX2_storeOf 25 = .ok (.invokestatic 233, 3) := by decide +kernel
theorem dX2_storeOf_28 : decode cX2_storeOf 28 = .ok (.goto 4, 3) := by decide +kernel
theorem dX2_storeOf_31 : decode cX2_storeOf 31 = .ok (.iconst (-1), 1) := by decide +kernel
theorem dX2_storeOf_32 : decode cX2_storeOf 32 = .ok (.ireturn, 1) := by decide +kernel
theorem dX2_sent_0 : decode cX2_sent 0 = .ok (.aload_n 0, 1) := by decide +kernel
theorem dX2_sent_1 : decode cX2_sent 1 = .ok (.getfield 10, 3) := by decide +kernel
theorem dX2_sent_4 : decode cX2_sent 4 = .ok (.getfield 236, 3) := by decide +kernel
theorem dX2_sent_7 : decode cX2_sent 7 = .ok (.ireturn, 1) := by decide +kernel
theorem dX2_sentByAccount_0 : decode cX2_sentByAccount 0 = .ok (.aload_n 0, 1) := by decide +kernel
theorem dX2_sentByAccount_1 : decode cX2_sentByAccount 1 = .ok (.getfield 10, 3) := by decide +kernel
theorem dX2_sentByAccount_4 : decode cX2_sentByAccount 4 = .ok (.getfield 239, 3) := by decide +kernel
theorem dX2_sentByAccount_7 : decode cX2_sentByAccount 7 = .ok (.aload_n 0, 1) := by decide +kernel
theorem dX2_sentByAccount_8 : decode cX2_sentByAccount 8 = .ok (.getfield 10, 3) := by decide +kernel
theorem dX2_sentByAccount_11 : decode cX2_sentByAccount 11 = .ok (.getfield 242, 3) := by decide +kernel
theorem dX2_sentByAccount_14 : decode cX2_sentByAccount 14 = .ok (.iadd, 1) := by decide +kernel
theorem dX2_sentByAccount_15 : decode cX2_sentByAccount 15 = .ok (.aload_n 0, 1) := by decide +kernel
theorem dX2_sentByAccount_16 : decode cX2_sentByAccount 16 = .ok (.getfield 10, 3) := by decide +kernel
theorem dX2_sentByAccount_19 : decode cX2_sentByAccount 19 = .ok (.getfield 94, 3) := by decide +kernel
theorem dX2_sentByAccount_22 : decode cX2_sentByAccount 22 = .ok (.iadd, 1) := by decide +kernel
theorem dX2_sentByAccount_23 : decode cX2_sentByAccount 23 = .ok (.ireturn, 1) := by decide +kernel
theorem dX2_lost_0 : decode cX2_lost 0 = .ok (.aload_n 0, 1) := by decide +kernel
theorem dX2_lost_1 : decode cX2_lost 1 = .ok (.getfield 10, 3) := by decide +kernel
theorem dX2_lost_4 : decode cX2_lost 4 = .ok (.getfield 242, 3) := by decide +kernel
theorem dX2_lost_7 : decode cX2_lost 7 = .ok (.ireturn, 1) := by decide +kernel
theorem dX2_wouldSend_0 : decode cX2_wouldSend 0 = .ok (.aload_n 0, 1) := by decide +kernel
theorem dX2_wouldSend_1 : decode cX2_wouldSend 1 = .ok (.iload_n 1, 1) := by decide +kernel
theorem dX2_wouldSend_2 : decode cX2_wouldSend 2 = .ok (.invokevirtual 107, 3) := by decide +kernel
theorem dX2_wouldSend_5 : decode cX2_wouldSend 5 = .ok (.aload_n 0, 1) := by decide +kernel
theorem dX2_wouldSend_6 : decode cX2_wouldSend 6 = .ok (.getfield 19, 3) := by decide +kernel
theorem dX2_wouldSend_9 : decode cX2_wouldSend 9 = .ok (.aload_n 0, 1) := by decide +kernel
theorem dX2_wouldSend_10 : decode cX2_wouldSend 10 = .ok (.getfield 10, 3) := by decide +kernel
theorem dX2_wouldSend_13 : decode cX2_wouldSend 13 = .ok (.invokevirtual 167, 3) := by decide +kernel
theorem dX2_wouldSend_16 : decode cX2_wouldSend 16 = .ok (.aload_n 0, 1) := by decide +kernel
theorem dX2_wouldSend_17 : decode cX2_wouldSend 17 = .ok (.getfield 19, 3) := by decide +kernel
theorem dX2_wouldSend_20 : decode cX2_wouldSend 20 = .ok (.iload_n 1, 1) := by decide +kernel
theorem dX2_wouldSend_21 : decode cX2_wouldSend 21 = .ok (.invokevirtual 110, 3) := by decide +kernel
theorem dX2_wouldSend_24 : decode cX2_wouldSend 24 = .ok (.ifCond .ne 5, 3) := by decide +kernel
theorem dX2_wouldSend_27 : decode cX2_wouldSend 27 = .ok (.iconst (-1), 1) := by decide +kernel
theorem dX2_wouldSend_28 : decode cX2_wouldSend 28 = .ok (.ireturn, 1) := by decide +kernel
theorem dX2_wouldSend_29 : decode cX2_wouldSend 29 = .ok (.aload_n 0, 1) := by decide +kernel
theorem dX2_wouldSend_30 : decode cX2_wouldSend 30 = .ok (.getfield 19, 3) := by decide +kernel
theorem dX2_wouldSend_33 : decode cX2_wouldSend 33 = .ok (.getfield 236, 3) := by decide +kernel
theorem dX2_wouldSend_36 : decode cX2_wouldSend 36 = .ok (.aload_n 0, 1) := by decide +kernel
theorem dX2_wouldSend_37 : decode cX2_wouldSend 37 = .ok (.getfield 10, 3) := by decide +kernel
theorem dX2_wouldSend_40 : decode cX2_wouldSend 40 = .ok (.getfield 236, 3) := by decide +kernel
theorem dX2_wouldSend_43 : decode cX2_wouldSend 43 = .ok (.isub, 1) := by decide +kernel
theorem dX2_wouldSend_44 : decode cX2_wouldSend 44 = .ok (.ireturn, 1) := by decide +kernel
theorem dX2_messagesToSettle_0 : decode cX2_messagesToSettle 0 = .ok (.aload_n 0, 1) := by decide +kernel
theorem dX2_messagesToSettle_1 : decode cX2_messagesToSettle 1 = .ok (.invokevirtual 245, 3) := by decide +kernel
theorem dX2_messagesToSettle_4 : decode cX2_messagesToSettle 4 = .ok (.ireturn, 1) := by decide +kernel
theorem dX2_outcomeIfSettled_0 : decode cX2_outcomeIfSettled 0 = .ok (.aload_n 0, 1) := by decide +kernel
theorem dX2_outcomeIfSettled_1 : decode cX2_outcomeIfSettled 1 = .ok (.iload_n 1, 1) := by decide +kernel
theorem dX2_outcomeIfSettled_2 : decode cX2_outcomeIfSettled 2 = .ok (.invokevirtual 82, 3) := by decide +kernel
theorem dX2_outcomeIfSettled_5 : decode cX2_outcomeIfSettled 5 = .ok (.aload_n 0, 1) := by decide +kernel
theorem dX2_outcomeIfSettled_6 : decode cX2_outcomeIfSettled 6 = .ok (.invokevirtual 245, 3) := by decide +kernel
theorem dX2_outcomeIfSettled_9 : decode cX2_outcomeIfSettled 9 = .ok (.pop, 1) := by decide +kernel
theorem dX2_outcomeIfSettled_10 : decode cX2_outcomeIfSettled 10 = .ok (.aload_n 0, 1) := by decide +kernel
theorem dX2_outcomeIfSettled_11 : decode cX2_outcomeIfSettled 11 = .ok (.getfield 22, 3) := by decide +kernel
theorem dX2_outcomeIfSettled_14 : decode cX2_outcomeIfSettled 14 = .ok (.iload_n 1, 1) := by decide +kernel
theorem dX2_outcomeIfSettled_15 : decode cX2_outcomeIfSettled 15 = .ok (.invokevirtual 203, 3) := by decide +kernel
theorem dX2_outcomeIfSettled_18 : decode cX2_outcomeIfSettled 18 = .ok (.ireturn, 1) := by decide +kernel
theorem dX2_amountIfSettled_0 : decode cX2_amountIfSettled 0 = .ok (.aload_n 0, 1) := by decide +kernel
theorem dX2_amountIfSettled_1 : decode cX2_amountIfSettled 1 = .ok (.iload_n 1, 1) := by decide +kernel
theorem dX2_amountIfSettled_2 : decode cX2_amountIfSettled 2 = .ok (.invokevirtual 51, 3) := by decide +kernel
theorem dX2_amountIfSettled_5 : decode cX2_amountIfSettled 5 = .ok (.aload_n 0, 1) := by decide +kernel
theorem dX2_amountIfSettled_6 : decode cX2_amountIfSettled 6 = .ok (.invokevirtual 245, 3) := by decide +kernel
theorem dX2_amountIfSettled_9 : decode cX2_amountIfSettled 9 = .ok (.pop, 1) := by decide +kernel
theorem dX2_amountIfSettled_10 : decode cX2_amountIfSettled 10 = .ok (.aload_n 0, 1) := by decide +kernel
theorem dX2_amountIfSettled_11 : decode cX2_amountIfSettled 11 = .ok (.getfield 22, 3) := by decide +kernel
theorem dX2_amountIfSettled_14 : decode cX2_amountIfSettled 14 = .ok (.getfield 185, 3) := by decide +kernel
theorem dX2_amountIfSettled_17 : decode cX2_amountIfSettled 17 = .ok (.iload_n 1, 1) := by decide +kernel
theorem dX2_amountIfSettled_18 : decode cX2_amountIfSettled 18 = .ok (.iaload, 1) := by decide +kernel
theorem dX2_amountIfSettled_19 : decode cX2_amountIfSettled 19 = .ok (.ireturn, 1) := by decide +kernel
theorem dX2_greatestSize_0 : decode cX2_greatestSize 0 = .ok (.aload_n 0, 1) := by decide +kernel
theorem dX2_greatestSize_1 : decode cX2_greatestSize 1 = .ok (.iload_n 1, 1) := by decide +kernel
theorem dX2_greatestSize_2 : decode cX2_greatestSize 2 = .ok (.invokevirtual 51, 3) := by decide +kernel
theorem dX2_greatestSize_5 : decode cX2_greatestSize 5 = .ok (.aload_n 0, 1) := by decide +kernel
theorem dX2_greatestSize_6 : decode cX2_greatestSize 6 = .ok (.iload_n 1, 1) := by decide +kernel
theorem dX2_greatestSize_7 : decode cX2_greatestSize 7 = .ok (.iload_n 2, 1) := by decide +kernel
theorem dX2_greatestSize_8 : decode cX2_greatestSize 8 = .ok (.invokevirtual 55, 3) := by decide +kernel
theorem dX2_greatestSize_11 : decode cX2_greatestSize 11 = .ok (.bipush 50, 2) := by decide +kernel
theorem dX2_greatestSize_13 : decode cX2_greatestSize 13 = .ok (.istore_n 3, 1) := by decide +kernel
theorem dX2_greatestSize_14 : decode cX2_greatestSize 14 = .ok (.iload_n 3, 1) := by decide +kernel
theorem dX2_greatestSize_15 : decode cX2_greatestSize 15 = .ok (.iconst 1, 1) := by decide +kernel
theorem dX2_greatestSize_16 : decode cX2_greatestSize 16 = .ok (.if_icmp .lt 24, 3) := by decide +kernel
theorem dX2_greatestSize_19 : decode cX2_greatestSize 19 = .ok (.aload_n 0, 1) := by decide +kernel
theorem dX2_greatestSize_20 : decode cX2_greatestSize 20 = .ok (.getfield 10, 3) := by decide +kernel
theorem dX2_greatestSize_23 : decode cX2_greatestSize 23 = .ok (.iload_n 1, 1) := by decide +kernel
theorem dX2_greatestSize_24 : decode cX2_greatestSize 24 = .ok (.iload_n 2, 1) := by decide +kernel
theorem dX2_greatestSize_25 : decode cX2_greatestSize 25 = .ok (.iload_n 3, 1) := by decide +kernel
theorem dX2_greatestSize_26 : decode cX2_greatestSize 26 = .ok (.invokevirtual 248, 3) := by decide +kernel
theorem dX2_greatestSize_29 : decode cX2_greatestSize 29 = .ok (.ifCond .eq 5, 3) := by decide +kernel
theorem dX2_greatestSize_32 : decode cX2_greatestSize 32 = .ok (.iload_n 3, 1) := by decide +kernel
theorem dX2_greatestSize_33 : decode cX2_greatestSize 33 = .ok (.ireturn, 1) := by decide +kernel
theorem dX2_greatestSize_34 : decode cX2_greatestSize 34 = .ok (.iinc 3 (-1), 3) := by decide +kernel
theorem dX2_greatestSize_37 : decode cX2_greatestSize 37 = .ok (.goto (-23), 3) := by decide +kernel
theorem dX2_greatestSize_40 : decode cX2_greatestSize 40 = .ok (.iconst 0, 1) := by decide +kernel
theorem dX2_greatestSize_41 : decode cX2_greatestSize 41 = .ok (.ireturn, 1) := by decide +kernel
theorem dX2_lostShare_0 : decode cX2_lostShare 0 = .ok (.aload_n 0, 1) := by decide +kernel
theorem dX2_lostShare_1 : decode cX2_lostShare 1 = .ok (.getfield 10, 3) := by decide +kernel
theorem dX2_lostShare_4 : decode cX2_lostShare 4 = .ok (.getfield 236, 3) := by decide +kernel
theorem dX2_lostShare_7 : decode cX2_lostShare 7 = .ok (.ifCond .ne 5, 3) := by decide +kernel
theorem dX2_lostShare_10 : decode cX2_lostShare 10 = .ok (.dconst 0, 1) := by decide +kernel
theorem dX2_lostShare_11 : decode cX2_lostShare 11 = .ok (.dreturn, 1) := by decide +kernel
theorem dX2_lostShare_12 : decode cX2_lostShare 12 = .ok (.aload_n 0, 1) := by decide +kernel
theorem dX2_lostShare_13 : decode cX2_lostShare 13 = .ok (.getfield 10, 3) := by decide +kernel
theorem dX2_lostShare_16 : decode cX2_lostShare 16 = .ok (.getfield 242, 3) := by decide +kernel
theorem dX2_lostShare_19 : decode cX2_lostShare 19 = .ok (.i2d, 1) := by decide +kernel
theorem dX2_lostShare_20 : decode cX2_lostShare 20 = .ok (.aload_n 0, 1) := by decide +kernel
theorem dX2_lostShare_21 : decode cX2_lostShare 21 = .ok (.getfield 10, 3) := by decide +kernel
theorem dX2_lostShare_24 : decode cX2_lostShare 24 = .ok (.getfield 236, 3) := by decide +kernel
theorem dX2_lostShare_27 : decode cX2_lostShare 27 = .ok (.i2d, 1) := by decide +kernel
theorem dX2_lostShare_28 : decode cX2_lostShare 28 = .ok (.ddiv, 1) := by decide +kernel
theorem dX2_lostShare_29 : decode cX2_lostShare 29 = .ok (.dreturn, 1) := by decide +kernel
theorem dX2_meanSize_0 : decode cX2_meanSize 0 = .ok (.aload_n 0, 1) := by decide +kernel
theorem dX2_meanSize_1 : decode cX2_meanSize 1 = .ok (.getfield 10, 3) := by decide +kernel
theorem dX2_meanSize_4 : decode cX2_meanSize 4 = .ok (.getfield 175, 3) := by decide +kernel
theorem dX2_meanSize_7 : decode cX2_meanSize 7 = .ok (.ifCond .ne 5, 3) := by decide +kernel
theorem dX2_meanSize_10 : decode cX2_meanSize 10 = .ok (.fconst 0, 1) := by decide +kernel
theorem dX2_meanSize_11 : decode cX2_meanSize 11 = .ok (.freturn, 1) := by decide +kernel
theorem dX2_meanSize_12 : decode cX2_meanSize 12 = .ok (.iconst 0, 1) := by decide +kernel
theorem dX2_meanSize_13 : decode cX2_meanSize 13 = .ok (.istore_n 1, 1) := by decide +kernel
theorem dX2_meanSize_14 : decode cX2_meanSize 14 = .ok (.iconst 0, 1) := by decide +kernel
theorem dX2_meanSize_15 : decode cX2_meanSize 15 = .ok (.istore_n 2, 1) := by decide +kernel
theorem dX2_meanSize_16 : decode cX2_meanSize 16 = .ok (.iload_n 2, 1) := by decide +kernel
theorem dX2_meanSize_17 : decode cX2_meanSize 17 = .ok (.aload_n 0, 1) := by decide +kernel
theorem dX2_meanSize_18 : decode cX2_meanSize 18 = .ok (.getfield 10, 3) := by decide +kernel
theorem dX2_meanSize_21 : decode cX2_meanSize 21 = .ok (.getfield 175, 3) := by decide +kernel
theorem dX2_meanSize_24 : decode cX2_meanSize 24 = .ok (.if_icmp .ge 21, 3) := by decide +kernel
theorem dX2_meanSize_27 : decode cX2_meanSize 27 = .ok (.iload_n 1, 1) := by decide +kernel
theorem dX2_meanSize_28 : decode cX2_meanSize 28 = .ok (.aload_n 0, 1) := by decide +kernel
theorem dX2_meanSize_29 : decode cX2_meanSize 29 = .ok (.getfield 10, 3) := by decide +kernel
theorem dX2_meanSize_32 : decode cX2_meanSize 32 = .ok (.getfield 252, 3) := by decide +kernel
theorem dX2_meanSize_35 : decode cX2_meanSize 35 = .ok (.iload_n 2, 1) := by decide +kernel
theorem dX2_meanSize_36 : decode cX2_meanSize 36 = .ok (.iaload, 1) := by decide +kernel
theorem dX2_meanSize_37 : decode cX2_meanSize 37 = .ok (.iadd, 1) := by decide +kernel
theorem dX2_meanSize_38 : decode cX2_meanSize 38 = .ok (.istore_n 1, 1) := by decide +kernel
theorem dX2_meanSize_39 : decode cX2_meanSize 39 = .ok (.iinc 2 1, 3) := by decide +kernel
theorem dX2_meanSize_42 : decode cX2_meanSize 42 = .ok (.goto (-26), 3) := by decide +kernel
theorem dX2_meanSize_45 : decode cX2_meanSize 45 = .ok (.iload_n 1, 1) := by decide +kernel
theorem dX2_meanSize_46 : decode cX2_meanSize 46 = .ok (.i2f, 1) := by decide +kernel
theorem dX2_meanSize_47 : decode cX2_meanSize 47 = .ok (.aload_n 0, 1) := by decide +kernel
theorem dX2_meanSize_48 : decode cX2_meanSize 48 = .ok (.getfield 10, 3) := by decide +kernel
theorem dX2_meanSize_51 : decode cX2_meanSize 51 = .ok (.getfield 175, 3) := by decide +kernel
theorem dX2_meanSize_54 : decode cX2_meanSize 54 = .ok (.i2f, 1) := by decide +kernel
theorem dX2_meanSize_55 : decode cX2_meanSize 55 = .ok (.fdiv, 1) := by decide +kernel
theorem dX2_meanSize_56 : decode cX2_meanSize 56 = .ok (.freturn, 1) := by decide +kernel
theorem dX2_digest_0 : decode cX2_digest 0 = .ok (.aload_n 0, 1) := by decide +kernel
theorem dX2_digest_1 : decode cX2_digest 1 = .ok (.invokevirtual 245, 3) := by decide +kernel
theorem dX2_digest_4 : decode cX2_digest 4 = .ok (.istore_n 1, 1) := by decide +kernel
theorem dX2_digest_5 : decode cX2_digest 5 = .ok (.ldc2_w 255, 3) := by decide +kernel
theorem dX2_digest_8 : decode cX2_digest 8 = .ok (.aload_n 0, 1) := by decide +kernel
theorem dX2_digest_9 : decode cX2_digest 9 = .ok (.getfield 10, 3) := by decide +kernel
theorem dX2_digest_12 : decode cX2_digest 12 = .ok (.getfield 175, 3) := by decide +kernel
theorem dX2_digest_15 : decode cX2_digest 15 = .ok (.i2l, 1) := by decide +kernel
theorem dX2_digest_16 : decode cX2_digest 16 = .ok (.invokestatic 257, 3) := by decide +kernel
theorem dX2_digest_19 : decode cX2_digest 19 = .ok (.lstore_n 2, 1) := by decide +kernel
theorem dX2_digest_20 : decode cX2_digest 20 = .ok (.iconst 0, 1) := by decide +kernel
theorem dX2_digest_21 : decode cX2_digest 21 = .ok (.istore 4, 2) := by decide +kernel
theorem dX2_digest_23 : decode cX2_digest 23 = .ok (.iload 4, 2) := by decide +kernel
theorem dX2_digest_25 : decode cX2_digest 25 = .ok (.aload_n 0, 1) := by decide +kernel
theorem dX2_digest_26 : decode cX2_digest 26 = .ok (.getfield 10, 3) := by decide +kernel
theorem dX2_digest_29 : decode cX2_digest 29 = .ok (.getfield 175, 3) := by decide +kernel
theorem dX2_digest_32 : decode cX2_digest 32 = .ok (.if_icmp .ge 17, 3) := by decide +kernel
theorem dX2_digest_35 : decode cX2_digest 35 = .ok (.aload_n 0, 1) := by decide +kernel
theorem dX2_digest_36 : decode cX2_digest 36 = .ok (.lload_n 2, 1) := by decide +kernel
theorem dX2_digest_37 : decode cX2_digest 37 = .ok (.iload 4, 2) := by decide +kernel
theorem dX2_digest_39 : decode cX2_digest 39 = .ok (.invokevirtual 261, 3) := by decide +kernel
theorem dX2_digest_42 : decode cX2_digest 42 = .ok (.lstore_n 2, 1) := by decide +kernel
theorem dX2_digest_43 : decode cX2_digest 43 = .ok (.iinc 4 1, 3) := by decide +kernel
theorem dX2_digest_46 : decode cX2_digest 46 = .ok (.goto (-23), 3) := by decide +kernel
theorem dX2_digest_49 : decode cX2_digest 49 = .ok (.iconst 0, 1) := by decide +kernel
theorem dX2_digest_50 : decode cX2_digest 50 = .ok (.istore 4, 2) := by decide +kernel
theorem dX2_digest_52 : decode cX2_digest 52 = .ok (.iload 4, 2) := by decide +kernel
theorem dX2_digest_54 : decode cX2_digest 54 = .ok (.iconst 4, 1) := by decide +kernel
theorem dX2_digest_55 : decode cX2_digest 55 = .ok (.if_icmp .ge 61, 3) := by decide +kernel
theorem dX2_digest_58 : decode cX2_digest 58 = .ok (.lload_n 2, 1) := by decide +kernel
theorem dX2_digest_59 : decode cX2_digest 59 = .ok (.aload_n 0, 1) := by decide +kernel
theorem dX2_digest_60 : decode cX2_digest 60 = .ok (.iload 4, 2) := by decide +kernel
theorem dX2_digest_62 : decode cX2_digest 62 = .ok (.invokevirtual 265, 3) := by decide +kernel
theorem dX2_digest_65 : decode cX2_digest 65 = .ok (.i2l, 1) := by decide +kernel
theorem dX2_digest_66 : decode cX2_digest 66 = .ok (.invokestatic 257, 3) := by decide +kernel
theorem dX2_digest_69 : decode cX2_digest 69 = .ok (.lstore_n 2, 1) := by decide +kernel
theorem dX2_digest_70 : decode cX2_digest 70 = .ok (.lload_n 2, 1) := by decide +kernel
theorem dX2_digest_71 : decode cX2_digest 71 = .ok (.aload_n 0, 1) := by decide +kernel
theorem dX2_digest_72 : decode cX2_digest 72 = .ok (.iload 4, 2) := by decide +kernel
theorem dX2_digest_74 : decode cX2_digest 74 = .ok (.invokevirtual 268, 3) := by decide +kernel
theorem dX2_digest_77 : decode cX2_digest 77 = .ok (.i2l, 1) := by decide +kernel
theorem dX2_digest_78 : decode cX2_digest 78 = .ok (.invokestatic 257, 3) := by decide +kernel
theorem dX2_digest_81 : decode cX2_digest 81 = .ok (.lstore_n 2, 1) := by decide +kernel
theorem dX2_digest_82 : decode cX2_digest 82 = .ok (.lload_n 2, 1) := by decide +kernel
theorem dX2_digest_83 : decode cX2_digest 83 = .ok (.aload_n 0, 1) := by decide +kernel
theorem dX2_digest_84 : decode cX2_digest 84 = .ok (.iload 4, 2) := by decide +kernel
theorem dX2_digest_86 : decode cX2_digest 86 = .ok (.invokevirtual 271, 3) := by decide +kernel
theorem dX2_digest_89 : decode cX2_digest 89 = .ok (.i2l, 1) := by decide +kernel
theorem dX2_digest_90 : decode cX2_digest 90 = .ok (.invokestatic 257, 3) := by decide +kernel
theorem dX2_digest_93 : decode cX2_digest 93 = .ok (.lstore_n 2, 1) := by decide +kernel
theorem dX2_digest_94 : decode cX2_digest 94 = .ok (.lload_n 2, 1) := by decide +kernel
theorem dX2_digest_95 : decode cX2_digest 95 = .ok (.aload_n 0, 1) := by decide +kernel
theorem dX2_digest_96 : decode cX2_digest 96 = .ok (.getfield 22, 3) := by decide +kernel
theorem dX2_digest_99 : decode cX2_digest 99 = .ok (.getfield 185, 3) := by decide +kernel
theorem dX2_digest_102 : decode cX2_digest 102 = .ok (.iload 4, 2) := by decide +kernel
theorem dX2_digest_104 : decode cX2_digest 104 = .ok (.iaload, 1) := by decide +kernel
theorem dX2_digest_105 : decode cX2_digest 105 = .ok (.i2l, 1) := by decide +kernel
theorem dX2_digest_106 : decode cX2_digest 106 = .ok (.invokestatic 257, 3) := by decide +kernel
theorem dX2_digest_109 : decode cX2_digest 109 = .ok (.lstore_n 2, 1) := by decide +kernel
theorem dX2_digest_110 : decode cX2_digest 110 = .ok (.iinc 4 1, 3) := by decide +kernel
theorem dX2_digest_113 : decode cX2_digest 113 = .ok (.goto (-61), 3) := by decide +kernel
theorem dX2_digest_116 : decode cX2_digest 116 = .ok (.iconst 0, 1) := by decide +kernel
theorem dX2_digest_117 : decode cX2_digest 117 = .ok (.istore 4, 2) := by decide +kernel
theorem dX2_digest_119 : decode cX2_digest 119 = .ok (.iload 4, 2) := by decide +kernel
theorem dX2_digest_121 : decode cX2_digest 121 = .ok (.iconst 5, 1) := by decide +kernel
theorem dX2_digest_122 : decode cX2_digest 122 = .ok (.if_icmp .ge 17, 3) := by decide +kernel
theorem dX2_digest_125 : decode cX2_digest 125 = .ok (.aload_n 0, 1) := by decide +kernel
theorem dX2_digest_126 : decode cX2_digest 126 = .ok (.lload_n 2, 1) := by decide +kernel
theorem dX2_digest_127 : decode cX2_digest 127 = .ok (.iload 4, 2) := by decide +kernel
theorem dX2_digest_129 : decode cX2_digest 129 = .ok (.invokevirtual 274, 3) := by decide +kernel
theorem dX2_digest_132 : decode cX2_digest 132 = .ok (.lstore_n 2, 1) := by decide +kernel
theorem dX2_digest_133 : decode cX2_digest 133 = .ok (.iinc 4 1, 3) := by decide +kernel
theorem dX2_digest_136 : decode cX2_digest 136 = .ok (.goto (-17), 3) := by decide +kernel
theorem dX2_digest_139 : decode cX2_digest 139 = .ok (.lload_n 2, 1) := by decide +kernel
theorem dX2_digest_140 : decode cX2_digest 140 = .ok (.aload_n 0, 1) := by decide +kernel
theorem dX2_digest_141 : decode cX2_digest 141 = .ok (.invokevirtual 277, 3) := by decide +kernel
theorem dX2_digest_144 : decode cX2_digest 144 = .ok (.i2l, 1) := by decide +kernel
theorem dX2_digest_145 : decode cX2_digest 145 = .ok (.invokestatic 257, 3) := by decide +kernel
theorem dX2_digest_148 : decode cX2_digest 148 = .ok (.lstore_n 2, 1) := by decide +kernel
theorem dX2_digest_149 : decode cX2_digest 149 = .ok (.lload_n 2, 1) := by decide +kernel
theorem dX2_digest_150 : decode cX2_digest 150 = .ok (.aload_n 0, 1) := by decide +kernel
theorem dX2_digest_151 : decode cX2_digest 151 = .ok (.invokevirtual 280, 3) := by decide +kernel
theorem dX2_digest_154 : decode cX2_digest 154 = .ok (.i2l, 1) := by decide +kernel
theorem dX2_digest_155 : decode cX2_digest 155 = .ok (.invokestatic 257, 3) := by decide +kernel
theorem dX2_digest_158 : decode cX2_digest 158 = .ok (.lstore_n 2, 1) := by decide +kernel
theorem dX2_digest_159 : decode cX2_digest 159 = .ok (.aload_n 0, 1) := by decide +kernel
theorem dX2_digest_160 : decode cX2_digest 160 = .ok (.lload_n 2, 1) := by decide +kernel
theorem dX2_digest_161 : decode cX2_digest 161 = .ok (.invokevirtual 283, 3) := by decide +kernel
theorem dX2_digest_164 : decode cX2_digest 164 = .ok (.lstore_n 2, 1) := by decide +kernel
theorem dX2_digest_165 : decode cX2_digest 165 = .ok (.lload_n 2, 1) := by decide +kernel
theorem dX2_digest_166 : decode cX2_digest 166 = .ok (.iload_n 1, 1) := by decide +kernel
theorem dX2_digest_167 : decode cX2_digest 167 = .ok (.i2l, 1) := by decide +kernel
theorem dX2_digest_168 : decode cX2_digest 168 = .ok (.invokestatic 257, 3) := by decide +kernel
theorem dX2_digest_171 : decode cX2_digest 171 = .ok (.lstore_n 2, 1) := by decide +kernel
theorem dX2_digest_172 : decode cX2_digest 172 = .ok (.lload_n 2, 1) := by decide +kernel
theorem dX2_digest_173 : decode cX2_digest 173 = .ok (.aload_n 0, 1) := by decide +kernel
theorem dX2_digest_174 : decode cX2_digest 174 = .ok (.iconst 0, 1) := by decide +kernel
theorem dX2_digest_175 : decode cX2_digest 175 = .ok (.bipush 14, 2) := by decide +kernel
theorem dX2_digest_177 : decode cX2_digest 177 = .ok (.invokevirtual 287, 3) := by decide +kernel
theorem dX2_digest_180 : decode cX2_digest 180 = .ok (.i2l, 1) := by decide +kernel
theorem dX2_digest_181 : decode cX2_digest 181 = .ok (.invokestatic 257, 3) := by decide +kernel
theorem dX2_digest_184 : decode cX2_digest 184 = .ok (.lstore_n 2, 1) := by decide +kernel
theorem dX2_digest_185 : decode cX2_digest 185 = .ok (.lload_n 2, 1) := by decide +kernel
theorem dX2_digest_186 : decode cX2_digest 186 = .ok (.aload_n 0, 1) := by decide +kernel
theorem dX2_digest_187 : decode cX2_digest 187 = .ok (.getfield 40, 3) := by decide +kernel
theorem dX2_digest_190 : decode cX2_digest 190 = .ok (.i2l, 1) := by decide +kernel
theorem dX2_digest_191 : decode cX2_digest 191 = .ok (.invokestatic 257, 3) := by decide +kernel
theorem dX2_digest_194 : decode cX2_digest 194 = .ok (.lstore_n 2, 1) := by decide +kernel
theorem dX2_digest_195 : decode cX2_digest 195 = .ok (.lload_n 2, 1) := by decide +kernel
theorem dX2_digest_196 : decode cX2_digest 196 = .ok (.aload_n 0, 1) := by decide +kernel
theorem dX2_digest_197 : decode cX2_digest 197 = .ok (.invokevirtual 290, 3) := by decide +kernel
theorem dX2_digest_200 : decode cX2_digest 200 = .ok (.invokestatic 294, 3) := by decide +kernel
theorem dX2_digest_203 : decode cX2_digest 203 = .ok (.invokestatic 257, 3) := by decide +kernel
theorem dX2_digest_206 : decode cX2_digest 206 = .ok (.lstore_n 2, 1) := by decide +kernel
theorem dX2_digest_207 : decode cX2_digest 207 = .ok (.lload_n 2, 1) := by decide +kernel
theorem dX2_digest_208 : decode cX2_digest 208 = .ok (.aload_n 0, 1) := by decide +kernel
theorem dX2_digest_209 : decode cX2_digest 209 = .ok (.invokevirtual 298, 3) := by decide +kernel
theorem dX2_digest_212 : decode cX2_digest 212 = .ok (.invokestatic 302, 3) := by decide +kernel
theorem dX2_digest_215 : decode cX2_digest 215 = .ok (.i2l, 1) := by decide +kernel
theorem dX2_digest_216 : decode cX2_digest 216 = .ok (.invokestatic 257, 3) := by decide +kernel
theorem dX2_digest_219 : decode cX2_digest 219 = .ok (.lstore_n 2, 1) := by decide +kernel
theorem dX2_digest_220 : decode cX2_digest 220 = .ok (.lload_n 2, 1) := by decide +kernel
theorem dX2_digest_221 : decode cX2_digest 221 = .ok (.aload_n 0, 1) := by decide +kernel
theorem dX2_digest_222 : decode cX2_digest 222 = .ok (.getfield 44, 3) := by decide +kernel
theorem dX2_digest_225 : decode cX2_digest 225 = .ok (.ifCond .eq 7, 3) := by decide +kernel
theorem dX2_digest_228 : decode cX2_digest 228 = .ok (.lconst 1, 1) := by decide +kernel
theorem dX2_digest_229 : decode cX2_digest 229 = .ok (.goto 4, 3) := by decide +kernel
theorem dX2_digest_232 : decode cX2_digest 232 = .ok (.lconst 0, 1) := by decide +kernel
theorem dX2_digest_233 : decode cX2_digest 233 = .ok (.invokestatic 257, 3) := by decide +kernel
theorem dX2_digest_236 : decode cX2_digest 236 = .ok (.lstore_n 2, 1) := by decide +kernel
theorem dX2_digest_237 : decode cX2_digest 237 = .ok (.lload_n 2, 1) := by decide +kernel
theorem dX2_digest_238 : decode cX2_digest 238 = .ok (.aload_n 0, 1) := by decide +kernel
theorem dX2_digest_239 : decode cX2_digest 239 = .ok (.getfield 48, 3) := by decide +kernel
theorem dX2_digest_242 : decode cX2_digest 242 = .ok (.i2l, 1) := by decide +kernel
theorem dX2_digest_243 : decode cX2_digest 243 = .ok (.invokestatic 257, 3) := by decide +kernel
theorem dX2_digest_246 : decode cX2_digest 246 = .ok (.lstore_n 2, 1) := by decide +kernel
theorem dX2_digest_247 : decode cX2_digest 247 = .ok (.iconst 0, 1) := by decide +kernel
theorem dX2_digest_248 : decode cX2_digest 248 = .ok (.istore 4, 2) := by decide +kernel
theorem dX2_digest_250 : decode cX2_digest 250 = .ok (.iload 4, 2) := by decide +kernel
theorem dX2_digest_252 : decode cX2_digest 252 = .ok (.aload_n 0, 1) := by decide +kernel
theorem dX2_digest_253 : decode cX2_digest 253 = .ok (.getfield 48, 3) := by decide +kernel
theorem dX2_digest_256 : decode cX2_digest 256 = .ok (.if_icmp .ge 22, 3) := by decide +kernel
theorem dX2_digest_259 : decode cX2_digest 259 = .ok (.lload_n 2, 1) := by decide +kernel
theorem dX2_digest_260 : decode cX2_digest 260 = .ok (.aload_n 0, 1) := by decide +kernel
theorem dX2_digest_261 : decode cX2_digest 261 = .ok (.getfield 29, 3) := by decide +kernel
theorem dX2_digest_264 : decode cX2_digest 264 = .ok (.iload 4, 2) := by decide +kernel
theorem dX2_digest_266 : decode cX2_digest 266 = .ok (.iaload, 1) := by decide +kernel
theorem dX2_digest_267 : decode cX2_digest 267 = .ok (.i2l, 1) := by decide +kernel
theorem dX2_digest_268 : decode cX2_digest 268 = .ok (.invokestatic 257, 3) := by decide +kernel
theorem dX2_digest_271 : decode cX2_digest 271 = .ok (.lstore_n 2, 1) := by decide +kernel
theorem dX2_digest_272 : decode cX2_digest 272 = .ok (.iinc 4 1, 3) := by decide +kernel
theorem dX2_digest_275 : decode cX2_digest 275 = .ok (.goto (-25), 3) := by decide +kernel
theorem dX2_digest_278 : decode cX2_digest 278 = .ok (.lload_n 2, 1) := by decide +kernel
theorem dX2_digest_279 : decode cX2_digest 279 = .ok (.lreturn, 1) := by decide +kernel
theorem dX2_requireStore_0 : decode cX2_requireStore 0 = .ok (.iload_n 1, 1) := by decide +kernel
theorem dX2_requireStore_1 : decode cX2_requireStore 1 = .ok (.ifCond .lt 8, 3) := by decide +kernel
theorem dX2_requireStore_4 : decode cX2_requireStore 4 = .ok (.iload_n 1, 1) := by decide +kernel
theorem dX2_requireStore_5 : decode cX2_requireStore 5 = .ok (.iconst 4, 1) := by decide +kernel
theorem dX2_requireStore_6 : decode cX2_requireStore 6 = .ok (.if_icmp .lt 14, 3) := by decide +kernel
theorem dX2_requireStore_9 : decode cX2_requireStore 9 = .ok (.new 306, 3) := by decide +kernel
theorem dX2_requireStore_12 : decode cX2_requireStore 12 = .ok (.dup, 1) := by decide +kernel
theorem dX2_requireStore_13 : decode cX2_requireStore 13 = .ok (.ldc_w 308, 3) := by decide +kernel
theorem dX2_requireStore_16 : decode cX2_requireStore 16 = .ok (.invokespecial 310, 3) := by decide +kernel
theorem dX2_requireStore_19 : decode cX2_requireStore 19 = .ok (.athrow, 1) := by decide +kernel
theorem dX2_requireStore_20 : decode cX2_requireStore 20 = .ok (.return_, 1) := by decide +kernel
theorem dX2_requireSite_0 : decode cX2_requireSite 0 = .ok (.iload_n 1, 1) := by decide +kernel
theorem dX2_requireSite_1 : decode cX2_requireSite 1 = .ok (.ifCond .lt 8, 3) := by decide +kernel
theorem dX2_requireSite_4 : decode cX2_requireSite 4 = .ok (.iload_n 1, 1) := by decide +kernel
theorem dX2_requireSite_5 : decode cX2_requireSite 5 = .ok (.iconst 5, 1) := by decide +kernel
theorem dX2_requireSite_6 : decode cX2_requireSite 6 = .ok (.if_icmp .lt 14, 3) := by decide +kernel
theorem dX2_requireSite_9 : decode cX2_requireSite 9 = .ok (.new 306, 3) := by decide +kernel
theorem dX2_requireSite_12 : decode cX2_requireSite 12 = .ok (.dup, 1) := by decide +kernel
theorem dX2_requireSite_13 : decode cX2_requireSite 13 = .ok (.ldc_w 311, 3) := by decide +kernel
theorem dX2_requireSite_16 : decode cX2_requireSite 16 = .ok (.invokespecial 310, 3) := by decide +kernel
theorem dX2_requireSite_19 : decode cX2_requireSite 19 = .ok (.athrow, 1) := by decide +kernel
theorem dX2_requireSite_20 : decode cX2_requireSite 20 = .ok (.return_, 1) := by decide +kernel
theorem dX2_requireTransfer_0 : decode cX2_requireTransfer 0 = .ok (.aload_n 0, 1) := by decide +kernel
theorem dX2_requireTransfer_1 : decode cX2_requireTransfer 1 = .ok (.getfield 10, 3) := by decide +kernel
theorem dX2_requireTransfer_4 : decode cX2_requireTransfer 4 = .ok (.iload_n 1, 1) := by decide +kernel
theorem dX2_requireTransfer_5 : decode cX2_requireTransfer 5 = .ok (.invokevirtual 313, 3) := by decide +kernel
theorem dX2_requireTransfer_8 : decode cX2_requireTransfer 8 = .ok (.ifCond .ne 14, 3) := by decide +kernel
theorem dX2_requireTransfer_11 : decode cX2_requireTransfer 11 = .ok (.new 306, 3) := by decide +kernel
theorem dX2_requireTransfer_14 : decode cX2_requireTransfer 14 = .ok (.dup, 1) := by decide +kernel
theorem dX2_requireTransfer_15 : decode cX2_requireTransfer 15 = .ok (.ldc_w 316, 3) := by decide +kernel
theorem dX2_requireTransfer_18 : decode cX2_requireTransfer 18 = .ok (.invokespecial 310, 3) := by decide +kernel
theorem dX2_requireTransfer_21 : decode cX2_requireTransfer 21 = .ok (.athrow, 1) := by decide +kernel
theorem dX2_requireTransfer_22 : decode cX2_requireTransfer 22 = .ok (.return_, 1) := by decide +kernel
theorem dX2_requireMessage_0 : decode cX2_requireMessage 0 = .ok (.aload_n 0, 1) := by decide +kernel
theorem dX2_requireMessage_1 : decode cX2_requireMessage 1 = .ok (.getfield 10, 3) := by decide +kernel
theorem dX2_requireMessage_4 : decode cX2_requireMessage 4 = .ok (.iload_n 1, 1) := by decide +kernel
theorem dX2_requireMessage_5 : decode cX2_requireMessage 5 = .ok (.invokevirtual 318, 3) := by decide +kernel
theorem dX2_requireMessage_8 : decode cX2_requireMessage 8 = .ok (.ifCond .ne 14, 3) := by decide +kernel
theorem dX2_requireMessage_11 : decode cX2_requireMessage 11 = .ok (.new 306, 3) := by decide +kernel
theorem dX2_requireMessage_14 : decode cX2_requireMessage 14 = .ok (.dup, 1) := by decide +kernel
theorem dX2_requireMessage_15 : decode cX2_requireMessage 15 = .ok (.ldc_w 321, 3) := by decide +kernel
theorem dX2_requireMessage_18 : decode cX2_requireMessage 18 = .ok (.invokespecial 310, 3) := by decide +kernel
theorem dX2_requireMessage_21 : decode cX2_requireMessage 21 = .ok (.athrow, 1) := by decide +kernel
theorem dX2_requireMessage_22 : decode cX2_requireMessage 22 = .ok (.return_, 1) := by decide +kernel
theorem dX2_requireNotBelowZero_0 : decode cX2_requireNotBelowZero 0 = .ok (.iload_n 1, 1) := by decide +kernel
theorem dX2_requireNotBelowZero_1 : decode cX2_requireNotBelowZero 1 = .ok (.ifCond .ge 14, 3) := by decide +kernel
theorem dX2_requireNotBelowZero_4 : decode cX2_requireNotBelowZero 4 = .ok (.new 306, 3) := by decide +kernel
theorem dX2_requireNotBelowZero_7 : decode cX2_requireNotBelowZero 7 = .ok (.dup, 1) := by decide +kernel
theorem dX2_requireNotBelowZero_8 : decode cX2_requireNotBelowZero 8 = .ok (.ldc_w 323, 3) := by decide +kernel
theorem dX2_requireNotBelowZero_11 : decode cX2_requireNotBelowZero 11 = .ok (.invokespecial 310, 3) := by decide +kernel
theorem dX2_requireNotBelowZero_14 : decode cX2_requireNotBelowZero 14 = .ok (.athrow, 1) := by decide +kernel
theorem dX2_requireNotBelowZero_15 : decode cX2_requireNotBelowZero 15 = .ok (.return_, 1) := by decide +kernel
theorem dX2_requireTakers_0 : decode cX2_requireTakers 0 = .ok (.iload_n 2, 1) := by decide +kernel
theorem dX2_requireTakers_1 : decode cX2_requireTakers 1 = .ok (.iconst 1, 1) := by decide +kernel
theorem dX2_requireTakers_2 : decode cX2_requireTakers 2 = .ok (.if_icmp .lt 18, 3) := by decide +kernel
theorem dX2_requireTakers_5 : decode cX2_requireTakers 5 = .ok (.iload_n 2, 1) := by decide +kernel
theorem dX2_requireTakers_6 : decode cX2_requireTakers 6 = .ok (.bipush 15, 2) := by decide +kernel
theorem dX2_requireTakers_8 : decode cX2_requireTakers 8 = .ok (.if_icmp .gt 12, 3) := by decide +kernel
theorem dX2_requireTakers_11 : decode cX2_requireTakers 11 = .ok (.iload_n 2, 1) := by decide +kernel
theorem dX2_requireTakers_12 : decode cX2_requireTakers 12 = .ok (.iload_n 1, 1) := by decide +kernel
theorem dX2_requireTakers_13 : decode cX2_requireTakers 13 = .ok (.ishr, 1) := by decide +kernel
theorem dX2_requireTakers_14 : decode cX2_requireTakers 14 = .ok (.iconst 1, 1) := by decide +kernel
theorem dX2_requireTakers_15 : decode cX2_requireTakers 15 = .ok (.iand, 1) := by decide +kernel
theorem dX2_requireTakers_16 : decode cX2_requireTakers 16 = .ok (.iconst 1, 1) := by decide +kernel
theorem dX2_requireTakers_17 : decode cX2_requireTakers 17 = .ok (.if_icmp .ne 14, 3) := by decide +kernel
theorem dX2_requireTakers_20 : decode cX2_requireTakers 20 = .ok (.new 59, 3) := by decide +kernel
theorem dX2_requireTakers_23 : decode cX2_requireTakers 23 = .ok (.dup, 1) := by decide +kernel
theorem dX2_requireTakers_24 : decode cX2_requireTakers 24 = .ok (.ldc_w 325, 3) := by decide +kernel
theorem dX2_requireTakers_27 : decode cX2_requireTakers 27 = .ok (.invokespecial 63, 3) := by decide +kernel
theorem dX2_requireTakers_30 : decode cX2_requireTakers 30 = .ok (.athrow, 1) := by decide +kernel
theorem dX2_requireTakers_31 : decode cX2_requireTakers 31 = .ok (.return_, 1) := by decide +kernel
theorem dX2_save_0 : decode cX2_save 0 = .ok (.aload_n 0, 1) := by decide +kernel
theorem dX2_save_1 : decode cX2_save 1 = .ok (.getfield 40, 3) := by decide +kernel
theorem dX2_save_4 : decode cX2_save 4 = .ok (.bipush 6, 2) := by decide +kernel
theorem dX2_save_6 : decode cX2_save 6 = .ok (.if_icmp .lt 50, 3) := by decide +kernel
theorem dX2_save_9 : decode cX2_save 9 = .ok (.aload_n 0, 1) := by decide +kernel
theorem dX2_save_10 : decode cX2_save 10 = .ok (.getfield 25, 3) := by decide +kernel
theorem dX2_save_13 : decode cX2_save 13 = .ok (.iconst 0, 1) := by decide +kernel
theorem dX2_save_14 : decode cX2_save 14 = .ok (.aaload, 1) := by decide +kernel
theorem dX2_save_15 : decode cX2_save 15 = .ok (.astore_n 1, 1) := by decide +kernel
theorem dX2_save_16 : decode cX2_save 16 = .ok (.iconst 1, 1) := by decide +kernel
theorem dX2_save_17 : decode cX2_save 17 = .ok (.istore_n 2, 1) := by decide +kernel
theorem dX2_save_18 : decode cX2_save 18 = .ok (.iload_n 2, 1) := by decide +kernel
theorem dX2_save_19 : decode cX2_save 19 = .ok (.bipush 6, 2) := by decide +kernel
theorem dX2_save_21 : decode cX2_save 21 = .ok (.if_icmp .ge 23, 3) := by decide +kernel
theorem dX2_save_24 : decode cX2_save 24 = .ok (.aload_n 0, 1) := by decide +kernel
theorem dX2_save_25 : decode cX2_save 25 = .ok (.getfield 25, 3) := by decide +kernel
theorem dX2_save_28 : decode cX2_save 28 = .ok (.iload_n 2, 1) := by decide +kernel
theorem dX2_save_29 : decode cX2_save 29 = .ok (.iconst 1, 1) := by decide +kernel
theorem dX2_save_30 : decode cX2_save 30 = .ok (.isub, 1) := by decide +kernel
theorem dX2_save_31 : decode cX2_save 31 = .ok (.aload_n 0, 1) := by decide +kernel
theorem dX2_save_32 : decode cX2_save 32 = .ok (.getfield 25, 3) := by decide +kernel
theorem dX2_save_35 : decode cX2_save 35 = .ok (.iload_n 2, 1) := by decide +kernel
theorem dX2_save_36 : decode cX2_save 36 = .ok (.aaload, 1) := by decide +kernel
theorem dX2_save_37 : decode cX2_save 37 = .ok (.aastore, 1) := by decide +kernel
theorem dX2_save_38 : decode cX2_save 38 = .ok (.iinc 2 1, 3) := by decide +kernel
theorem dX2_save_41 : decode cX2_save 41 = .ok (.goto (-23), 3) := by decide +kernel
theorem dX2_save_44 : decode cX2_save 44 = .ok (.aload_n 0, 1) := by decide +kernel
theorem dX2_save_45 : decode cX2_save 45 = .ok (.getfield 25, 3) := by decide +kernel
theorem dX2_save_48 : decode cX2_save 48 = .ok (.iconst 5, 1) := by decide +kernel
theorem dX2_save_49 : decode cX2_save 49 = .ok (.aload_n 1, 1) := by decide +kernel
theorem dX2_save_50 : decode cX2_save 50 = .ok (.aastore, 1) := by decide +kernel
theorem dX2_save_51 : decode cX2_save 51 = .ok (.aload_n 0, 1) := by decide +kernel
theorem dX2_save_52 : decode cX2_save 52 = .ok (.iconst 5, 1) := by decide +kernel
theorem dX2_save_53 : decode cX2_save 53 = .ok (.putfield 40, 3) := by decide +kernel
theorem dX2_save_56 : decode cX2_save 56 = .ok (.aload_n 0, 1) := by decide +kernel
theorem dX2_save_57 : decode cX2_save 57 = .ok (.getfield 25, 3) := by decide +kernel
theorem dX2_save_60 : decode cX2_save 60 = .ok (.aload_n 0, 1) := by decide +kernel
theorem dX2_save_61 : decode cX2_save 61 = .ok (.getfield 40, 3) := by decide +kernel
theorem dX2_save_64 : decode cX2_save 64 = .ok (.aaload, 1) := by decide +kernel
theorem dX2_save_65 : decode cX2_save 65 = .ok (.aload_n 0, 1) := by decide +kernel
theorem dX2_save_66 : decode cX2_save 66 = .ok (.getfield 10, 3) := by decide +kernel
theorem dX2_save_69 : decode cX2_save 69 = .ok (.invokevirtual 167, 3) := by decide +kernel
theorem dX2_save_72 : decode cX2_save 72 = .ok (.aload_n 0, 1) := by decide +kernel
theorem dX2_save_73 : decode cX2_save 73 = .ok (.dup, 1) := by decide +kernel
theorem dX2_save_74 : decode cX2_save 74 = .ok (.getfield 40, 3) := by decide +kernel
theorem dX2_save_77 : decode cX2_save 77 = .ok (.iconst 1, 1) := by decide +kernel
theorem dX2_save_78 : decode cX2_save 78 = .ok (.iadd, 1) := by decide +kernel
theorem dX2_save_79 : decode cX2_save 79 = .ok (.putfield 40, 3) := by decide +kernel
theorem dX2_save_82 : decode cX2_save 82 = .ok (.return_, 1) := by decide +kernel
theorem dX2_doPart_0 : decode cX2_doPart 0 = .ok (.aload_n 0, 1) := by decide +kernel
theorem dX2_doPart_1 : decode cX2_doPart 1 = .ok (.getfield 36, 3) := by decide +kernel
theorem dX2_doPart_4 : decode cX2_doPart 4 = .ok (.getfield 327, 3) := by decide +kernel
theorem dX2_doPart_7 : decode cX2_doPart 7 = .ok (.istore_n 1, 1) := by decide +kernel
theorem dX2_doPart_8 : decode cX2_doPart 8 = .ok (.aload_n 0, 1) := by decide +kernel
theorem dX2_doPart_9 : decode cX2_doPart 9 = .ok (.getfield 36, 3) := by decide +kernel
theorem dX2_doPart_12 : decode cX2_doPart 12 = .ok (.getfield 330, 3) := by decide +kernel
theorem dX2_doPart_15 : decode cX2_doPart 15 = .ok (.tableswitch 292 98 114 #[81, 153, 118, 292, 292, 199, 292, 292, 292, 292, 129, 292, 292, 292, 292, 234, 176], 81) := by decide +kernel
theorem dX2_doPart_96 : decode cX2_doPart 96 = .ok (.aload_n 0, 1) := by decide +kernel
theorem dX2_doPart_97 : decode cX2_doPart 97 = .ok (.getfield 10, 3) := by decide +kernel
theorem dX2_doPart_100 : decode cX2_doPart 100 = .ok (.invokevirtual 66, 3) := by decide +kernel
theorem dX2_doPart_103 : decode cX2_doPart 103 = .ok (.ifCond .ne 5, 3) := by decide +kernel
theorem dX2_doPart_106 : decode cX2_doPart 106 = .ok (.iconst 0, 1) := by decide +kernel
theorem dX2_doPart_107 : decode cX2_doPart 107 = .ok (.ireturn, 1) := by decide +kernel
theorem dX2_doPart_108 : decode cX2_doPart 108 = .ok (.aload_n 0, 1) := by decide +kernel
theorem dX2_doPart_109 : decode cX2_doPart 109 = .ok (.getfield 10, 3) := by decide +kernel
theorem dX2_doPart_112 : decode cX2_doPart 112 = .ok (.iload_n 1, 1) := by decide +kernel
theorem dX2_doPart_113 : decode cX2_doPart 113 = .ok (.aload_n 0, 1) := by decide +kernel
theorem dX2_doPart_114 : decode cX2_doPart 114 = .ok (.getfield 36, 3) := by decide +kernel
theorem dX2_doPart_117 : decode cX2_doPart 117 = .ok (.getfield 333, 3) := by decide +kernel
theorem dX2_doPart_120 : decode cX2_doPart 120 = .ok (.aload_n 0, 1) := by decide +kernel
theorem dX2_doPart_121 : decode cX2_doPart 121 = .ok (.getfield 36, 3) := by decide +kernel
theorem dX2_doPart_124 : decode cX2_doPart 124 = .ok (.getfield 336, 3) := by decide +kernel
theorem dX2_doPart_127 : decode cX2_doPart 127 = .ok (.invokevirtual 78, 3) := by decide +kernel
theorem dX2_doPart_130 : decode cX2_doPart 130 = .ok (.pop, 1) := by decide +kernel
theorem dX2_doPart_131 : decode cX2_doPart 131 = .ok (.iconst 1, 1) := by decide +kernel
theorem dX2_doPart_132 : decode cX2_doPart 132 = .ok (.ireturn, 1) := by decide +kernel
theorem dX2_doPart_133 : decode cX2_doPart 133 = .ok (.aload_n 0, 1) := by decide +kernel
theorem dX2_doPart_134 : decode cX2_doPart 134 = .ok (.getfield 10, 3) := by decide +kernel
theorem dX2_doPart_137 : decode cX2_doPart 137 = .ok (.iload_n 1, 1) := by decide +kernel
theorem dX2_doPart_138 : decode cX2_doPart 138 = .ok (.invokevirtual 114, 3) := by decide +kernel
theorem dX2_doPart_141 : decode cX2_doPart 141 = .ok (.pop, 1) := by decide +kernel
theorem dX2_doPart_142 : decode cX2_doPart 142 = .ok (.iconst 1, 1) := by decide +kernel
theorem dX2_doPart_143 : decode cX2_doPart 143 = .ok (.ireturn, 1) := by decide +kernel
theorem dX2_doPart_144 : decode cX2_doPart 144 = .ok (.aload_n 0, 1) := by decide +kernel
theorem dX2_doPart_145 : decode cX2_doPart 145 = .ok (.getfield 10, 3) := by decide +kernel
theorem dX2_doPart_148 : decode cX2_doPart 148 = .ok (.iload_n 1, 1) := by decide +kernel
theorem dX2_doPart_149 : decode cX2_doPart 149 = .ok (.invokevirtual 318, 3) := by decide +kernel
theorem dX2_doPart_152 : decode cX2_doPart 152 = .ok (.ifCond .ne 5, 3) := by decide +kernel
theorem dX2_doPart_155 : decode cX2_doPart 155 = .ok (.iconst 0, 1) := by decide +kernel
theorem dX2_doPart_156 : decode cX2_doPart 156 = .ok (.ireturn, 1) := by decide +kernel
theorem dX2_doPart_157 : decode cX2_doPart 157 = .ok (.aload_n 0, 1) := by decide +kernel
theorem dX2_doPart_158 : decode cX2_doPart 158 = .ok (.getfield 10, 3) := by decide +kernel
theorem dX2_doPart_161 : decode cX2_doPart 161 = .ok (.iload_n 1, 1) := by decide +kernel
theorem dX2_doPart_162 : decode cX2_doPart 162 = .ok (.invokevirtual 118, 3) := by decide +kernel
theorem dX2_doPart_165 : decode cX2_doPart 165 = .ok (.pop, 1) := by decide +kernel
theorem dX2_doPart_166 : decode cX2_doPart 166 = .ok (.iconst 1, 1) := by decide +kernel
theorem dX2_doPart_167 : decode cX2_doPart 167 = .ok (.ireturn, 1) := by decide +kernel
theorem dX2_doPart_168 : decode cX2_doPart 168 = .ok (.aload_n 0, 1) := by decide +kernel
theorem dX2_doPart_169 : decode cX2_doPart 169 = .ok (.getfield 10, 3) := by decide +kernel
theorem dX2_doPart_172 : decode cX2_doPart 172 = .ok (.iload_n 1, 1) := by decide +kernel
theorem dX2_doPart_173 : decode cX2_doPart 173 = .ok (.invokevirtual 124, 3) := by decide +kernel
theorem dX2_doPart_176 : decode cX2_doPart 176 = .ok (.ifCond .ne 5, 3) := by decide +kernel
theorem dX2_doPart_179 : decode cX2_doPart 179 = .ok (.iconst 0, 1) := by decide +kernel
theorem dX2_doPart_180 : decode cX2_doPart 180 = .ok (.ireturn, 1) := by decide +kernel
theorem dX2_doPart_181 : decode cX2_doPart 181 = .ok (.aload_n 0, 1) := by decide +kernel
theorem dX2_doPart_182 : decode cX2_doPart 182 = .ok (.getfield 10, 3) := by decide +kernel
theorem dX2_doPart_185 : decode cX2_doPart 185 = .ok (.iload_n 1, 1) := by decide +kernel
theorem dX2_doPart_186 : decode cX2_doPart 186 = .ok (.invokevirtual 129, 3) := by decide +kernel
theorem dX2_doPart_189 : decode cX2_doPart 189 = .ok (.iconst 1, 1) := by decide +kernel
theorem dX2_doPart_190 : decode cX2_doPart 190 = .ok (.ireturn, 1) := by decide +kernel
theorem dX2_doPart_191 : decode cX2_doPart 191 = .ok (.aload_n 0, 1) := by decide +kernel
theorem dX2_doPart_192 : decode cX2_doPart 192 = .ok (.getfield 10, 3) := by decide +kernel
theorem dX2_doPart_195 : decode cX2_doPart 195 = .ok (.iload_n 1, 1) := by decide +kernel
theorem dX2_doPart_196 : decode cX2_doPart 196 = .ok (.invokevirtual 124, 3) := by decide +kernel
theorem dX2_doPart_199 : decode cX2_doPart 199 = .ok (.ifCond .eq 5, 3) := by decide +kernel
theorem dX2_doPart_202 : decode cX2_doPart 202 = .ok (.iconst 0, 1) := by decide +kernel
theorem dX2_doPart_203 : decode cX2_doPart 203 = .ok (.ireturn, 1) := by decide +kernel
theorem dX2_doPart_204 : decode cX2_doPart 204 = .ok (.aload_n 0, 1) := by decide +kernel
theorem dX2_doPart_205 : decode cX2_doPart 205 = .ok (.getfield 10, 3) := by decide +kernel
theorem dX2_doPart_208 : decode cX2_doPart 208 = .ok (.iload_n 1, 1) := by decide +kernel
theorem dX2_doPart_209 : decode cX2_doPart 209 = .ok (.invokevirtual 142, 3) := by decide +kernel
theorem dX2_doPart_212 : decode cX2_doPart 212 = .ok (.iconst 1, 1) := by decide +kernel
theorem dX2_doPart_213 : decode cX2_doPart 213 = .ok (.ireturn, 1) := by decide +kernel
theorem dX2_doPart_214 : decode cX2_doPart 214 = .ok (.aload_n 0, 1) := by decide +kernel
theorem dX2_doPart_215 : decode cX2_doPart 215 = .ok (.getfield 10, 3) := by decide +kernel
theorem dX2_doPart_218 : decode cX2_doPart 218 = .ok (.iload_n 1, 1) := by decide +kernel
theorem dX2_doPart_219 : decode cX2_doPart 219 = .ok (.invokevirtual 313, 3) := by decide +kernel
theorem dX2_doPart_222 : decode cX2_doPart 222 = .ok (.ifCond .eq 14, 3) := by decide +kernel
theorem dX2_doPart_225 : decode cX2_doPart 225 = .ok (.aload_n 0, 1) := by decide +kernel
theorem dX2_doPart_226 : decode cX2_doPart 226 = .ok (.getfield 10, 3) := by decide +kernel
theorem dX2_doPart_229 : decode cX2_doPart 229 = .ok (.iload_n 1, 1) := by decide +kernel
theorem dX2_doPart_230 : decode cX2_doPart 230 = .ok (.invokevirtual 85, 3) := by decide +kernel
theorem dX2_doPart_233 : decode cX2_doPart 233 = .ok (.ifCond .ne 5, 3) := by decide +kernel
theorem dX2_doPart_236 : decode cX2_doPart 236 = .ok (.iconst 0, 1) := by decide +kernel
theorem dX2_doPart_237 : decode cX2_doPart 237 = .ok (.ireturn, 1) := by decide +kernel
theorem dX2_doPart_238 : decode cX2_doPart 238 = .ok (.aload_n 0, 1) := by decide +kernel
theorem dX2_doPart_239 : decode cX2_doPart 239 = .ok (.getfield 10, 3) := by decide +kernel
theorem dX2_doPart_242 : decode cX2_doPart 242 = .ok (.iload_n 1, 1) := by decide +kernel
theorem dX2_doPart_243 : decode cX2_doPart 243 = .ok (.iconst 2, 1) := by decide +kernel
theorem dX2_doPart_244 : decode cX2_doPart 244 = .ok (.invokevirtual 91, 3) := by decide +kernel
theorem dX2_doPart_247 : decode cX2_doPart 247 = .ok (.iconst 1, 1) := by decide +kernel
theorem dX2_doPart_248 : decode cX2_doPart 248 = .ok (.ireturn, 1) := by decide +kernel
theorem dX2_doPart_249 : decode cX2_doPart 249 = .ok (.aload_n 0, 1) := by decide +kernel
theorem dX2_doPart_250 : decode cX2_doPart 250 = .ok (.getfield 10, 3) := by decide +kernel
theorem dX2_doPart_253 : decode cX2_doPart 253 = .ok (.aload_n 0, 1) := by decide +kernel
theorem dX2_doPart_254 : decode cX2_doPart 254 = .ok (.getfield 36, 3) := by decide +kernel
theorem dX2_doPart_257 : decode cX2_doPart 257 = .ok (.getfield 336, 3) := by decide +kernel
theorem dX2_doPart_260 : decode cX2_doPart 260 = .ok (.invokevirtual 313, 3) := by decide +kernel
theorem dX2_doPart_263 : decode cX2_doPart 263 = .ok (.ifCond .eq 21, 3) := by decide +kernel
theorem dX2_doPart_266 : decode cX2_doPart 266 = .ok (.aload_n 0, 1) := by decide +kernel
theorem dX2_doPart_267 : decode cX2_doPart 267 = .ok (.getfield 10, 3) := by decide +kernel
theorem dX2_doPart_270 : decode cX2_doPart 270 = .ok (.iload_n 1, 1) := by decide +kernel
theorem dX2_doPart_271 : decode cX2_doPart 271 = .ok (.aload_n 0, 1) := by decide +kernel
theorem dX2_doPart_272 : decode cX2_doPart 272 = .ok (.getfield 36, 3) := by decide +kernel
theorem dX2_doPart_275 : decode cX2_doPart 275 = .ok (.getfield 336, 3) := by decide +kernel
theorem dX2_doPart_278 : decode cX2_doPart 278 = .ok (.invokevirtual 97, 3) := by decide +kernel
theorem dX2_doPart_281 : decode cX2_doPart 281 = .ok (.ifCond .ne 5, 3) := by decide +kernel
theorem dX2_doPart_284 : decode cX2_doPart 284 = .ok (.iconst 0, 1) := by decide +kernel
theorem dX2_doPart_285 : decode cX2_doPart 285 = .ok (.ireturn, 1) := by decide +kernel
theorem dX2_doPart_286 : decode cX2_doPart 286 = .ok (.aload_n 0, 1) := by decide +kernel
theorem dX2_doPart_287 : decode cX2_doPart 287 = .ok (.getfield 10, 3) := by decide +kernel
theorem dX2_doPart_290 : decode cX2_doPart 290 = .ok (.bipush 6, 2) := by decide +kernel
theorem dX2_doPart_292 : decode cX2_doPart 292 = .ok (.aload_n 0, 1) := by decide +kernel
theorem dX2_doPart_293 : decode cX2_doPart 293 = .ok (.getfield 36, 3) := by decide +kernel
theorem dX2_doPart_296 : decode cX2_doPart 296 = .ok (.getfield 336, 3) := by decide +kernel
theorem dX2_doPart_299 : decode cX2_doPart 299 = .ok (.iconst 1, 1) := by decide +kernel
theorem dX2_doPart_300 : decode cX2_doPart 300 = .ok (.iload_n 1, 1) := by decide +kernel
theorem dX2_doPart_301 : decode cX2_doPart 301 = .ok (.ishl, 1) := by decide +kernel
theorem dX2_doPart_302 : decode cX2_doPart 302 = .ok (.invokevirtual 103, 3) := by decide +kernel
theorem dX2_doPart_305 : decode cX2_doPart 305 = .ok (.iconst 1, 1) := by decide +kernel
theorem dX2_doPart_306 : decode cX2_doPart 306 = .ok (.ireturn, 1) := by decide +kernel
theorem dX2_doPart_307 : decode cX2_doPart 307 = .ok (.iconst 0, 1) := by decide +kernel
theorem dX2_doPart_308 : decode cX2_doPart 308 = .ok (.ireturn, 1) := by decide +kernel
theorem dX2_settle_0 : decode cX2_settle 0 = .ok (.aload_n 0, 1) := by decide +kernel
theorem dX2_settle_1 : decode cX2_settle 1 = .ok (.getfield 22, 3) := by decide +kernel
theorem dX2_settle_4 : decode cX2_settle 4 = .ok (.aload_n 0, 1) := by decide +kernel
theorem dX2_settle_5 : decode cX2_settle 5 = .ok (.getfield 10, 3) := by decide +kernel
theorem dX2_settle_8 : decode cX2_settle 8 = .ok (.invokevirtual 167, 3) := by decide +kernel
theorem dX2_settle_11 : decode cX2_settle 11 = .ok (.aload_n 0, 1) := by decide +kernel
theorem dX2_settle_12 : decode cX2_settle 12 = .ok (.getfield 22, 3) := by decide +kernel
theorem dX2_settle_15 : decode cX2_settle 15 = .ok (.iconst 4, 1) := by decide +kernel
theorem dX2_settle_16 : decode cX2_settle 16 = .ok (.invokevirtual 124, 3) := by decide +kernel
theorem dX2_settle_19 : decode cX2_settle 19 = .ok (.ifCond .ne 11, 3) := by decide +kernel
theorem dX2_settle_22 : decode cX2_settle 22 = .ok (.aload_n 0, 1) := by decide +kernel
theorem dX2_settle_23 : decode cX2_settle 23 = .ok (.getfield 22, 3) := by decide +kernel
theorem dX2_settle_26 : decode cX2_settle 26 = .ok (.iconst 4, 1) := by decide +kernel
theorem dX2_settle_27 : decode cX2_settle 27 = .ok (.invokevirtual 142, 3) := by decide +kernel
theorem dX2_settle_30 : decode cX2_settle 30 = .ok (.iconst 0, 1) := by decide +kernel
theorem dX2_settle_31 : decode cX2_settle 31 = .ok (.istore_n 1, 1) := by decide +kernel
theorem dX2_settle_32 : decode cX2_settle 32 = .ok (.iload_n 1, 1) := by decide +kernel
theorem dX2_settle_33 : decode cX2_settle 33 = .ok (.iconst 4, 1) := by decide +kernel
theorem dX2_settle_34 : decode cX2_settle 34 = .ok (.if_icmp .ge 28, 3) := by decide +kernel
theorem dX2_settle_37 : decode cX2_settle 37 = .ok (.aload_n 0, 1) := by decide +kernel
theorem dX2_settle_38 : decode cX2_settle 38 = .ok (.getfield 22, 3) := by decide +kernel
theorem dX2_settle_41 : decode cX2_settle 41 = .ok (.iload_n 1, 1) := by decide +kernel
theorem dX2_settle_42 : decode cX2_settle 42 = .ok (.invokevirtual 124, 3) := by decide +kernel
theorem dX2_settle_45 : decode cX2_settle 45 = .ok (.ifCond .ne 11, 3) := by decide +kernel
theorem dX2_settle_48 : decode cX2_settle 48 = .ok (.aload_n 0, 1) := by decide +kernel
theorem dX2_settle_49 : decode cX2_settle 49 = .ok (.getfield 22, 3) := by decide +kernel
theorem dX2_settle_52 : decode cX2_settle 52 = .ok (.iload_n 1, 1) := by decide +kernel
theorem dX2_settle_53 : decode cX2_settle 53 = .ok (.invokevirtual 142, 3) := by decide +kernel
theorem dX2_settle_56 : decode cX2_settle 56 = .ok (.iinc 1 1, 3) := by decide +kernel
theorem dX2_settle_59 : decode cX2_settle 59 = .ok (.goto (-27), 3) := by decide +kernel
theorem dX2_settle_62 : decode cX2_settle 62 = .ok (.aload_n 0, 1) := by decide +kernel
theorem dX2_settle_63 : decode cX2_settle 63 = .ok (.getfield 22, 3) := by decide +kernel
theorem dX2_settle_66 : decode cX2_settle 66 = .ok (.ldc 113, 2) := by decide +kernel
theorem dX2_settle_68 : decode cX2_settle 68 = .ok (.invokevirtual 114, 3) := by decide +kernel
theorem dX2_settle_71 : decode cX2_settle 71 = .ok (.ireturn, 1) := by decide +kernel
theorem dX2_mixTransfer_0 : decode cX2_mixTransfer 0 = .ok (.lload_n 1, 1) := by decide +kernel
theorem dX2_mixTransfer_1 : decode cX2_mixTransfer 1 = .ok (.aload_n 0, 1) := by decide +kernel
theorem dX2_mixTransfer_2 : decode cX2_mixTransfer 2 = .ok (.iload_n 3, 1) := by decide +kernel
theorem dX2_mixTransfer_3 : decode cX2_mixTransfer 3 = .ok (.invokevirtual 339, 3) := by decide +kernel
theorem dX2_mixTransfer_6 : decode cX2_mixTransfer 6 = .ok (.i2l, 1) := by decide +kernel
theorem dX2_mixTransfer_7 : decode cX2_mixTransfer 7 = .ok (.invokestatic 257, 3) := by decide +kernel
theorem dX2_mixTransfer_10 : decode cX2_mixTransfer 10 = .ok (.lstore 4, 2) := by decide +kernel
theorem dX2_mixTransfer_12 : decode cX2_mixTransfer 12 = .ok (.lload 4, 2) := by decide +kernel
theorem dX2_mixTransfer_14 : decode cX2_mixTransfer 14 = .ok (.aload_n 0, 1) := by decide +kernel
theorem dX2_mixTransfer_15 : decode cX2_mixTransfer 15 = .ok (.iload_n 3, 1) := by decide +kernel
theorem dX2_mixTransfer_16 : decode cX2_mixTransfer 16 = .ok (.invokevirtual 342, 3) := by decide +kernel
theorem dX2_mixTransfer_19 : decode cX2_mixTransfer 19 = .ok (.i2l, 1) := by decide +kernel
theorem dX2_mixTransfer_20 : decode cX2_mixTransfer 20 = .ok (.invokestatic 257, 3) := by decide +kernel
theorem dX2_mixTransfer_23 : decode cX2_mixTransfer 23 = .ok (.lstore 4, 2) := by decide +kernel
theorem dX2_mixTransfer_25 : decode cX2_mixTransfer 25 = .ok (.lload 4, 2) := by decide +kernel
theorem dX2_mixTransfer_27 : decode cX2_mixTransfer 27 = .ok (.aload_n 0, 1) := by decide +kernel
theorem dX2_mixTransfer_28 : decode cX2_mixTransfer 28 = .ok (.iload_n 3, 1) := by decide +kernel
theorem dX2_mixTransfer_29 : decode cX2_mixTransfer 29 = .ok (.invokevirtual 345, 3) := by decide +kernel
theorem dX2_mixTransfer_32 : decode cX2_mixTransfer 32 = .ok (.i2l, 1) := by decide +kernel
theorem dX2_mixTransfer_33 : decode cX2_mixTransfer 33 = .ok (.invokestatic 257, 3) := by decide +kernel
theorem dX2_mixTransfer_36 : decode cX2_mixTransfer 36 = .ok (.lstore 4, 2) := by decide +kernel
theorem dX2_mixTransfer_38 : decode cX2_mixTransfer 38 = .ok (.lload 4, 2) := by decide +kernel
theorem dX2_mixTransfer_40 : decode cX2_mixTransfer 40 = .ok (.aload_n 0, 1) := by decide +kernel
theorem dX2_mixTransfer_41 : decode cX2_mixTransfer 41 = .ok (.iload_n 3, 1) := by decide +kernel
theorem dX2_mixTransfer_42 : decode cX2_mixTransfer 42 = .ok (.invokevirtual 348, 3) := by decide +kernel
theorem dX2_mixTransfer_45 : decode cX2_mixTransfer 45 = .ok (.ifCond .eq 7, 3) := by decide +kernel
theorem dX2_mixTransfer_48 : decode cX2_mixTransfer 48 = .ok (.lconst 1, 1) := by decide +kernel
theorem dX2_mixTransfer_49 : decode cX2_mixTransfer 49 = .ok (.goto 4, 3) := by decide +kernel
theorem dX2_mixTransfer_52 : decode cX2_mixTransfer 52 = .ok (.lconst 0, 1) := by decide +kernel
theorem dX2_mixTransfer_53 : decode cX2_mixTransfer 53 = .ok (.invokestatic 257, 3) := by decide +kernel
theorem dX2_mixTransfer_56 : decode cX2_mixTransfer 56 = .ok (.lstore 4, 2) := by decide +kernel
theorem dX2_mixTransfer_58 : decode cX2_mixTransfer 58 = .ok (.lload 4, 2) := by decide +kernel
theorem dX2_mixTransfer_60 : decode cX2_mixTransfer 60 = .ok (.aload_n 0, 1) := by decide +kernel
theorem dX2_mixTransfer_61 : decode cX2_mixTransfer 61 = .ok (.iload_n 3, 1) := by decide +kernel
theorem dX2_mixTransfer_62 : decode cX2_mixTransfer 62 = .ok (.invokevirtual 351, 3) := by decide +kernel
theorem dX2_mixTransfer_65 : decode cX2_mixTransfer 65 = .ok (.i2l, 1) := by decide +kernel
theorem dX2_mixTransfer_66 : decode cX2_mixTransfer 66 = .ok (.invokestatic 257, 3) := by decide +kernel
theorem dX2_mixTransfer_69 : decode cX2_mixTransfer 69 = .ok (.lstore 4, 2) := by decide +kernel
theorem dX2_mixTransfer_71 : decode cX2_mixTransfer 71 = .ok (.lload 4, 2) := by decide +kernel
theorem dX2_mixTransfer_73 : decode cX2_mixTransfer 73 = .ok (.aload_n 0, 1) := by decide +kernel
theorem dX2_mixTransfer_74 : decode cX2_mixTransfer 74 = .ok (.iload_n 3, 1) := by decide +kernel
theorem dX2_mixTransfer_75 : decode cX2_mixTransfer 75 = .ok (.invokevirtual 354, 3) := by decide +kernel
theorem dX2_mixTransfer_78 : decode cX2_mixTransfer 78 = .ok (.i2l, 1) := by decide +kernel
theorem dX2_mixTransfer_79 : decode cX2_mixTransfer 79 = .ok (.invokestatic 257, 3) := by decide +kernel
theorem dX2_mixTransfer_82 : decode cX2_mixTransfer 82 = .ok (.lstore 4, 2) := by decide +kernel
theorem dX2_mixTransfer_84 : decode cX2_mixTransfer 84 = .ok (.lload 4, 2) := by decide +kernel
theorem dX2_mixTransfer_86 : decode cX2_mixTransfer 86 = .ok (.aload_n 0, 1) := by decide +kernel
theorem dX2_mixTransfer_87 : decode cX2_mixTransfer 87 = .ok (.getfield 22, 3) := by decide +kernel
theorem dX2_mixTransfer_90 : decode cX2_mixTransfer 90 = .ok (.iload_n 3, 1) := by decide +kernel
theorem dX2_mixTransfer_91 : decode cX2_mixTransfer 91 = .ok (.invokevirtual 203, 3) := by decide +kernel
theorem dX2_mixTransfer_94 : decode cX2_mixTransfer 94 = .ok (.i2l, 1) := by decide +kernel
theorem dX2_mixTransfer_95 : decode cX2_mixTransfer 95 = .ok (.invokestatic 257, 3) := by decide +kernel
theorem dX2_mixTransfer_98 : decode cX2_mixTransfer 98 = .ok (.lstore 4, 2) := by decide +kernel
theorem dX2_mixTransfer_100 : decode cX2_mixTransfer 100 = .ok (.iconst 0, 1) := by decide +kernel
theorem dX2_mixTransfer_101 : decode cX2_mixTransfer 101 = .ok (.istore 6, 2) := by decide +kernel
theorem dX2_mixTransfer_103 : decode cX2_mixTransfer 103 = .ok (.iload 6, 2) := by decide +kernel
theorem dX2_mixTransfer_105 : decode cX2_mixTransfer 105 = .ok (.iconst 4, 1) := by decide +kernel
theorem dX2_mixTransfer_106 : decode cX2_mixTransfer 106 = .ok (.if_icmp .ge 54, 3) := by decide +kernel
theorem dX2_mixTransfer_109 : decode cX2_mixTransfer 109 = .ok (.lload 4, 2) := by decide +kernel
theorem dX2_mixTransfer_111 : decode cX2_mixTransfer 111 = .ok (.aload_n 0, 1) := by decide +kernel
theorem dX2_mixTransfer_112 : decode cX2_mixTransfer 112 = .ok (.iload_n 3, 1) := by decide +kernel
theorem dX2_mixTransfer_113 : decode cX2_mixTransfer 113 = .ok (.iload 6, 2) := by decide +kernel
theorem dX2_mixTransfer_115 : decode cX2_mixTransfer 115 = .ok (.invokevirtual 357, 3) := by decide +kernel
theorem dX2_mixTransfer_118 : decode cX2_mixTransfer 118 = .ok (.i2l, 1) := by decide +kernel
theorem dX2_mixTransfer_119 : decode cX2_mixTransfer 119 = .ok (.invokestatic 257, 3) := by decide +kernel
theorem dX2_mixTransfer_122 : decode cX2_mixTransfer 122 = .ok (.lstore 4, 2) := by decide +kernel
theorem dX2_mixTransfer_124 : decode cX2_mixTransfer 124 = .ok (.lload 4, 2) := by decide +kernel
theorem dX2_mixTransfer_126 : decode cX2_mixTransfer 126 = .ok (.aload_n 0, 1) := by decide +kernel
theorem dX2_mixTransfer_127 : decode cX2_mixTransfer 127 = .ok (.iload 6, 2) := by decide +kernel
theorem dX2_mixTransfer_129 : decode cX2_mixTransfer 129 = .ok (.iload_n 3, 1) := by decide +kernel
theorem dX2_mixTransfer_130 : decode cX2_mixTransfer 130 = .ok (.invokevirtual 360, 3) := by decide +kernel
theorem dX2_mixTransfer_133 : decode cX2_mixTransfer 133 = .ok (.i2l, 1) := by decide +kernel
theorem dX2_mixTransfer_134 : decode cX2_mixTransfer 134 = .ok (.invokestatic 257, 3) := by decide +kernel
theorem dX2_mixTransfer_137 : decode cX2_mixTransfer 137 = .ok (.lstore 4, 2) := by decide +kernel
theorem dX2_mixTransfer_139 : decode cX2_mixTransfer 139 = .ok (.lload 4, 2) := by decide +kernel
theorem dX2_mixTransfer_141 : decode cX2_mixTransfer 141 = .ok (.aload_n 0, 1) := by decide +kernel
theorem dX2_mixTransfer_142 : decode cX2_mixTransfer 142 = .ok (.iload 6, 2) := by decide +kernel
theorem dX2_mixTransfer_144 : decode cX2_mixTransfer 144 = .ok (.iload_n 3, 1) := by decide +kernel
theorem dX2_mixTransfer_145 : decode cX2_mixTransfer 145 = .ok (.invokevirtual 363, 3) := by decide +kernel
theorem dX2_mixTransfer_148 : decode cX2_mixTransfer 148 = .ok (.i2l, 1) := by decide +kernel
theorem dX2_mixTransfer_149 : decode cX2_mixTransfer 149 = .ok (.invokestatic 257, 3) := by decide +kernel
theorem dX2_mixTransfer_152 : decode cX2_mixTransfer 152 = .ok (.lstore 4, 2) := by decide +kernel
theorem dX2_mixTransfer_154 : decode cX2_mixTransfer 154 = .ok (.iinc 6 1, 3) := by decide +kernel
theorem dX2_mixTransfer_157 : decode cX2_mixTransfer 157 = .ok (.goto (-54), 3) := by decide +kernel
theorem dX2_mixTransfer_160 : decode cX2_mixTransfer 160 = .ok (.lload 4, 2) := by decide +kernel
theorem dX2_mixTransfer_162 : decode cX2_mixTransfer 162 = .ok (.lreturn, 1) := by decide +kernel
theorem dX2_mixSite_0 : decode cX2_mixSite 0 = .ok (.lload_n 1, 1) := by decide +kernel
theorem dX2_mixSite_1 : decode cX2_mixSite 1 = .ok (.aload_n 0, 1) := by decide +kernel
theorem dX2_mixSite_2 : decode cX2_mixSite 2 = .ok (.iload_n 3, 1) := by decide +kernel
theorem dX2_mixSite_3 : decode cX2_mixSite 3 = .ok (.invokevirtual 366, 3) := by decide +kernel
theorem dX2_mixSite_6 : decode cX2_mixSite 6 = .ok (.ifCond .eq 7, 3) := by decide +kernel
theorem dX2_mixSite_9 : decode cX2_mixSite 9 = .ok (.lconst 1, 1) := by decide +kernel
theorem dX2_mixSite_10 : decode cX2_mixSite 10 = .ok (.goto 4, 3) := by decide +kernel
theorem dX2_mixSite_13 : decode cX2_mixSite 13 = .ok (.lconst 0, 1) := by decide +kernel
theorem dX2_mixSite_14 : decode cX2_mixSite 14 = .ok (.invokestatic 257, 3) := by decide +kernel
theorem dX2_mixSite_17 : decode cX2_mixSite 17 = .ok (.lstore 4, 2) := by decide +kernel
theorem dX2_mixSite_19 : decode cX2_mixSite 19 = .ok (.lload 4, 2) := by decide +kernel
theorem dX2_mixSite_21 : decode cX2_mixSite 21 = .ok (.aload_n 0, 1) := by decide +kernel
theorem dX2_mixSite_22 : decode cX2_mixSite 22 = .ok (.iload_n 3, 1) := by decide +kernel
theorem dX2_mixSite_23 : decode cX2_mixSite 23 = .ok (.invokevirtual 369, 3) := by decide +kernel
theorem dX2_mixSite_26 : decode cX2_mixSite 26 = .ok (.i2l, 1) := by decide +kernel
theorem dX2_mixSite_27 : decode cX2_mixSite 27 = .ok (.invokestatic 257, 3) := by decide +kernel
theorem dX2_mixSite_30 : decode cX2_mixSite 30 = .ok (.lstore 4, 2) := by decide +kernel
theorem dX2_mixSite_32 : decode cX2_mixSite 32 = .ok (.iconst 0, 1) := by decide +kernel
theorem dX2_mixSite_33 : decode cX2_mixSite 33 = .ok (.istore 6, 2) := by decide +kernel
theorem dX2_mixSite_35 : decode cX2_mixSite 35 = .ok (.iload 6, 2) := by decide +kernel
theorem dX2_mixSite_37 : decode cX2_mixSite 37 = .ok (.aload_n 0, 1) := by decide +kernel
theorem dX2_mixSite_38 : decode cX2_mixSite 38 = .ok (.getfield 10, 3) := by decide +kernel
theorem dX2_mixSite_41 : decode cX2_mixSite 41 = .ok (.getfield 188, 3) := by decide +kernel
theorem dX2_mixSite_44 : decode cX2_mixSite 44 = .ok (.iload_n 3, 1) := by decide +kernel
theorem dX2_mixSite_45 : decode cX2_mixSite 45 = .ok (.iaload, 1) := by decide +kernel
theorem dX2_mixSite_46 : decode cX2_mixSite 46 = .ok (.if_icmp .ge 39, 3) := by decide +kernel
theorem dX2_mixSite_49 : decode cX2_mixSite 49 = .ok (.lload 4, 2) := by decide +kernel
theorem dX2_mixSite_51 : decode cX2_mixSite 51 = .ok (.aload_n 0, 1) := by decide +kernel
theorem dX2_mixSite_52 : decode cX2_mixSite 52 = .ok (.iload_n 3, 1) := by decide +kernel
theorem dX2_mixSite_53 : decode cX2_mixSite 53 = .ok (.iload 6, 2) := by decide +kernel
theorem dX2_mixSite_55 : decode cX2_mixSite 55 = .ok (.invokevirtual 372, 3) := by decide +kernel
theorem dX2_mixSite_58 : decode cX2_mixSite 58 = .ok (.i2l, 1) := by decide +kernel
theorem dX2_mixSite_59 : decode cX2_mixSite 59 = .ok (.invokestatic 257, 3) := by decide +kernel
theorem dX2_mixSite_62 : decode cX2_mixSite 62 = .ok (.lstore 4, 2) := by decide +kernel
theorem dX2_mixSite_64 : decode cX2_mixSite 64 = .ok (.lload 4, 2) := by decide +kernel
theorem dX2_mixSite_66 : decode cX2_mixSite 66 = .ok (.aload_n 0, 1) := by decide +kernel
theorem dX2_mixSite_67 : decode cX2_mixSite 67 = .ok (.iload_n 3, 1) := by decide +kernel
theorem dX2_mixSite_68 : decode cX2_mixSite 68 = .ok (.iload 6, 2) := by decide +kernel
theorem dX2_mixSite_70 : decode cX2_mixSite 70 = .ok (.invokevirtual 375, 3) := by decide +kernel
theorem dX2_mixSite_73 : decode cX2_mixSite 73 = .ok (.i2l, 1) := by decide +kernel
theorem dX2_mixSite_74 : decode cX2_mixSite 74 = .ok (.invokestatic 257, 3) := by decide +kernel
theorem dX2_mixSite_77 : decode cX2_mixSite 77 = .ok (.lstore 4, 2) := by decide +kernel
theorem dX2_mixSite_79 : decode cX2_mixSite 79 = .ok (.iinc 6 1, 3) := by decide +kernel
theorem dX2_mixSite_82 : decode cX2_mixSite 82 = .ok (.goto (-47), 3) := by decide +kernel
theorem dX2_mixSite_85 : decode cX2_mixSite 85 = .ok (.lload 4, 2) := by decide +kernel
theorem dX2_mixSite_87 : decode cX2_mixSite 87 = .ok (.lreturn, 1) := by decide +kernel
theorem dX2_mixMessages_0 : decode cX2_mixMessages 0 = .ok (.lload_n 1, 1) := by decide +kernel
theorem dX2_mixMessages_1 : decode cX2_mixMessages 1 = .ok (.aload_n 0, 1) := by decide +kernel
theorem dX2_mixMessages_2 : decode cX2_mixMessages 2 = .ok (.invokevirtual 378, 3) := by decide +kernel
theorem dX2_mixMessages_5 : decode cX2_mixMessages 5 = .ok (.i2l, 1) := by decide +kernel
theorem dX2_mixMessages_6 : decode cX2_mixMessages 6 = .ok (.invokestatic 257, 3) := by decide +kernel
theorem dX2_mixMessages_9 : decode cX2_mixMessages 9 = .ok (.lstore_n 3, 1) := by decide +kernel
theorem dX2_mixMessages_10 : decode cX2_mixMessages 10 = .ok (.iconst 0, 1) := by decide +kernel
theorem dX2_mixMessages_11 : decode cX2_mixMessages 11 = .ok (.istore 5, 2) := by decide +kernel
theorem dX2_mixMessages_13 : decode cX2_mixMessages 13 = .ok (.iload 5, 2) := by decide +kernel
theorem dX2_mixMessages_15 : decode cX2_mixMessages 15 = .ok (.aload_n 0, 1) := by decide +kernel
theorem dX2_mixMessages_16 : decode cX2_mixMessages 16 = .ok (.getfield 10, 3) := by decide +kernel
theorem dX2_mixMessages_19 : decode cX2_mixMessages 19 = .ok (.getfield 94, 3) := by decide +kernel
theorem dX2_mixMessages_22 : decode cX2_mixMessages 22 = .ok (.if_icmp .ge 57, 3) := by decide +kernel
theorem dX2_mixMessages_25 : decode cX2_mixMessages 25 = .ok (.lload_n 3, 1) := by decide +kernel
theorem dX2_mixMessages_26 : decode cX2_mixMessages 26 = .ok (.aload_n 0, 1) := by decide +kernel
theorem dX2_mixMessages_27 : decode cX2_mixMessages 27 = .ok (.iload 5, 2) := by decide +kernel
theorem dX2_mixMessages_29 : decode cX2_mixMessages 29 = .ok (.invokevirtual 381, 3) := by decide +kernel
theorem dX2_mixMessages_32 : decode cX2_mixMessages 32 = .ok (.i2l, 1) := by decide +kernel
theorem dX2_mixMessages_33 : decode cX2_mixMessages 33 = .ok (.invokestatic 257, 3) := by decide +kernel
theorem dX2_mixMessages_36 : decode cX2_mixMessages 36 = .ok (.lstore_n 3, 1) := by decide +kernel
theorem dX2_mixMessages_37 : decode cX2_mixMessages 37 = .ok (.lload_n 3, 1) := by decide +kernel
theorem dX2_mixMessages_38 : decode cX2_mixMessages 38 = .ok (.aload_n 0, 1) := by decide +kernel
theorem dX2_mixMessages_39 : decode cX2_mixMessages 39 = .ok (.iload 5, 2) := by decide +kernel
theorem dX2_mixMessages_41 : decode cX2_mixMessages 41 = .ok (.invokevirtual 384, 3) := by decide +kernel
theorem dX2_mixMessages_44 : decode cX2_mixMessages 44 = .ok (.i2l, 1) := by decide +kernel
theorem dX2_mixMessages_45 : decode cX2_mixMessages 45 = .ok (.invokestatic 257, 3) := by decide +kernel
theorem dX2_mixMessages_48 : decode cX2_mixMessages 48 = .ok (.lstore_n 3, 1) := by decide +kernel
theorem dX2_mixMessages_49 : decode cX2_mixMessages 49 = .ok (.lload_n 3, 1) := by decide +kernel
theorem dX2_mixMessages_50 : decode cX2_mixMessages 50 = .ok (.aload_n 0, 1) := by decide +kernel
theorem dX2_mixMessages_51 : decode cX2_mixMessages 51 = .ok (.iload 5, 2) := by decide +kernel
theorem dX2_mixMessages_53 : decode cX2_mixMessages 53 = .ok (.invokevirtual 387, 3) := by decide +kernel
theorem dX2_mixMessages_56 : decode cX2_mixMessages 56 = .ok (.i2l, 1) := by decide +kernel
theorem dX2_mixMessages_57 : decode cX2_mixMessages 57 = .ok (.invokestatic 257, 3) := by decide +kernel
theorem dX2_mixMessages_60 : decode cX2_mixMessages 60 = .ok (.lstore_n 3, 1) := by decide +kernel
theorem dX2_mixMessages_61 : decode cX2_mixMessages 61 = .ok (.lload_n 3, 1) := by decide +kernel
theorem dX2_mixMessages_62 : decode cX2_mixMessages 62 = .ok (.aload_n 0, 1) := by decide +kernel
theorem dX2_mixMessages_63 : decode cX2_mixMessages 63 = .ok (.iload 5, 2) := by decide +kernel
theorem dX2_mixMessages_65 : decode cX2_mixMessages 65 = .ok (.invokevirtual 390, 3) := by decide +kernel
theorem dX2_mixMessages_68 : decode cX2_mixMessages 68 = .ok (.i2l, 1) := by decide +kernel
theorem dX2_mixMessages_69 : decode cX2_mixMessages 69 = .ok (.invokestatic 257, 3) := by decide +kernel
theorem dX2_mixMessages_72 : decode cX2_mixMessages 72 = .ok (.lstore_n 3, 1) := by decide +kernel
theorem dX2_mixMessages_73 : decode cX2_mixMessages 73 = .ok (.iinc 5 1, 3) := by decide +kernel
theorem dX2_mixMessages_76 : decode cX2_mixMessages 76 = .ok (.goto (-63), 3) := by decide +kernel
theorem dX2_mixMessages_79 : decode cX2_mixMessages 79 = .ok (.lload_n 3, 1) := by decide +kernel
theorem dX2_mixMessages_80 : decode cX2_mixMessages 80 = .ok (.aload_n 0, 1) := by decide +kernel
theorem dX2_mixMessages_81 : decode cX2_mixMessages 81 = .ok (.invokevirtual 393, 3) := by decide +kernel
theorem dX2_mixMessages_84 : decode cX2_mixMessages 84 = .ok (.i2l, 1) := by decide +kernel
theorem dX2_mixMessages_85 : decode cX2_mixMessages 85 = .ok (.invokestatic 257, 3) := by decide +kernel
theorem dX2_mixMessages_88 : decode cX2_mixMessages 88 = .ok (.lstore_n 3, 1) := by decide +kernel
theorem dX2_mixMessages_89 : decode cX2_mixMessages 89 = .ok (.lload_n 3, 1) := by decide +kernel
theorem dX2_mixMessages_90 : decode cX2_mixMessages 90 = .ok (.aload_n 0, 1) := by decide +kernel
theorem dX2_mixMessages_91 : decode cX2_mixMessages 91 = .ok (.invokevirtual 396, 3) := by decide +kernel
theorem dX2_mixMessages_94 : decode cX2_mixMessages 94 = .ok (.i2l, 1) := by decide +kernel
theorem dX2_mixMessages_95 : decode cX2_mixMessages 95 = .ok (.invokestatic 257, 3) := by decide +kernel
theorem dX2_mixMessages_98 : decode cX2_mixMessages 98 = .ok (.lstore_n 3, 1) := by decide +kernel
theorem dX2_mixMessages_99 : decode cX2_mixMessages 99 = .ok (.lload_n 3, 1) := by decide +kernel
theorem dX2_mixMessages_100 : decode cX2_mixMessages 100 = .ok (.aload_n 0, 1) := by decide +kernel
theorem dX2_mixMessages_101 : decode cX2_mixMessages 101 = .ok (.invokevirtual 399, 3) := by decide +kernel
theorem dX2_mixMessages_104 : decode cX2_mixMessages 104 = .ok (.i2l, 1) := by decide +kernel
theorem dX2_mixMessages_105 : decode cX2_mixMessages 105 = .ok (.invokestatic 257, 3) := by decide +kernel
theorem dX2_mixMessages_108 : decode cX2_mixMessages 108 = .ok (.lreturn, 1) := by decide +kernel
theorem dX2_mix_0 : decode cX2_mix 0 = .ok (.ldc2_w 402, 3) := by decide +kernel
theorem dX2_mix_3 : decode cX2_mix 3 = .ok (.lload_n 0, 1) := by decide +kernel
theorem dX2_mix_4 : decode cX2_mix 4 = .ok (.lmul, 1) := by decide +kernel
theorem dX2_mix_5 : decode cX2_mix 5 = .ok (.lload_n 2, 1) := by decide +kernel
theorem dX2_mix_6 : decode cX2_mix 6 = .ok (.ladd, 1) := by decide +kernel
theorem dX2_mix_7 : decode cX2_mix 7 = .ok (.lreturn, 1) := by decide +kernel
theorem dX2_bitsOfShare_0 : decode cX2_bitsOfShare 0 = .ok (.dload_n 0, 1) := by decide +kernel
theorem dX2_bitsOfShare_1 : decode cX2_bitsOfShare 1 = .ok (.dconst 0, 1) := by decide +kernel
theorem dX2_bitsOfShare_2 : decode cX2_bitsOfShare 2 = .ok (.dcmp .g, 1) := by decide +kernel
theorem dX2_bitsOfShare_3 : decode cX2_bitsOfShare 3 = .ok (.ifCond .gt 5, 3) := by decide +kernel
theorem dX2_bitsOfShare_6 : decode cX2_bitsOfShare 6 = .ok (.lconst 0, 1) := by decide +kernel
theorem dX2_bitsOfShare_7 : decode cX2_bitsOfShare 7 = .ok (.lreturn, 1) := by decide +kernel
theorem dX2_bitsOfShare_8 : decode cX2_bitsOfShare 8 = .ok (.ldc2_w 404, 3) := by decide +kernel
theorem dX2_bitsOfShare_11 : decode cX2_bitsOfShare 11 = .ok (.lstore_n 2, 1) := by decide +kernel
theorem dX2_bitsOfShare_12 : decode cX2_bitsOfShare 12 = .ok (.dload_n 0, 1) := by decide +kernel
theorem dX2_bitsOfShare_13 : decode cX2_bitsOfShare 13 = .ok (.dstore 4, 2) := by decide +kernel
theorem dX2_bitsOfShare_15 : decode cX2_bitsOfShare 15 = .ok (.iconst 0, 1) := by decide +kernel
theorem dX2_bitsOfShare_16 : decode cX2_bitsOfShare 16 = .ok (.istore 6, 2) := by decide +kernel
theorem dX2_bitsOfShare_18 : decode cX2_bitsOfShare 18 = .ok (.iload 6, 2) := by decide +kernel
theorem dX2_bitsOfShare_20 : decode cX2_bitsOfShare 20 = .ok (.sipush 1022, 3) := by decide +kernel
theorem dX2_bitsOfShare_23 : decode cX2_bitsOfShare 23 = .ok (.if_icmp .ge 28, 3) := by decide +kernel
theorem dX2_bitsOfShare_26 : decode cX2_bitsOfShare 26 = .ok (.dload 4, 2) := by decide +kernel
theorem dX2_bitsOfShare_28 : decode cX2_bitsOfShare 28 = .ok (.dconst 1, 1) := by decide +kernel
theorem dX2_bitsOfShare_29 : decode cX2_bitsOfShare 29 = .ok (.dcmp .g, 1) := by decide +kernel
theorem dX2_bitsOfShare_30 : decode cX2_bitsOfShare 30 = .ok (.ifCond .ge 21, 3) := by decide +kernel
theorem dX2_bitsOfShare_33 : decode cX2_bitsOfShare 33 = .ok (.dload 4, 2) := by decide +kernel
theorem dX2_bitsOfShare_35 : decode cX2_bitsOfShare 35 = .ok (.ldc2_w 406, 3) := by decide +kernel
theorem dX2_bitsOfShare_38 : decode cX2_bitsOfShare 38 = .ok (.dmul, 1) := by decide +kernel
theorem dX2_bitsOfShare_39 : decode cX2_bitsOfShare 39 = .ok (.dstore 4, 2) := by decide +kernel
theorem dX2_bitsOfShare_41 : decode cX2_bitsOfShare 41 = .ok (.lload_n 2, 1) := by decide +kernel
theorem dX2_bitsOfShare_42 : decode cX2_bitsOfShare 42 = .ok (.lconst 1, 1) := by decide +kernel
theorem dX2_bitsOfShare_43 : decode cX2_bitsOfShare 43 = .ok (.lsub, 1) := by decide +kernel
theorem dX2_bitsOfShare_44 : decode cX2_bitsOfShare 44 = .ok (.lstore_n 2, 1) := by decide +kernel
theorem dX2_bitsOfShare_45 : decode cX2_bitsOfShare 45 = .ok (.iinc 6 1, 3) := by decide +kernel
theorem dX2_bitsOfShare_48 : decode cX2_bitsOfShare 48 = .ok (.goto (-30), 3) := by decide +kernel
theorem dX2_bitsOfShare_51 : decode cX2_bitsOfShare 51 = .ok (.lload_n 2, 1) := by decide +kernel
theorem dX2_bitsOfShare_52 : decode cX2_bitsOfShare 52 = .ok (.bipush 52, 2) := by decide +kernel
theorem dX2_bitsOfShare_54 : decode cX2_bitsOfShare 54 = .ok (.lshl, 1) := by decide +kernel
theorem dX2_bitsOfShare_55 : decode cX2_bitsOfShare 55 = .ok (.dload 4, 2) := by decide +kernel
theorem dX2_bitsOfShare_57 : decode cX2_bitsOfShare 57 = .ok (.dconst 1, 1) := by decide +kernel
theorem dX2_bitsOfShare_58 : decode cX2_bitsOfShare 58 = .ok (.dsub, 1) := by decide +kernel
theorem dX2_bitsOfShare_59 : decode cX2_bitsOfShare 59 = .ok (.ldc2_w 408, 3) := by decide +kernel
theorem dX2_bitsOfShare_62 : decode cX2_bitsOfShare 62 = .ok (.dmul, 1) := by decide +kernel
theorem dX2_bitsOfShare_63 : decode cX2_bitsOfShare 63 = .ok (.d2l, 1) := by decide +kernel
theorem dX2_bitsOfShare_64 : decode cX2_bitsOfShare 64 = .ok (.ladd, 1) := by decide +kernel
theorem dX2_bitsOfShare_65 : decode cX2_bitsOfShare 65 = .ok (.lreturn, 1) := by decide +kernel
theorem dX2_bitsOfMean_0 : decode cX2_bitsOfMean 0 = .ok (.fload_n 0, 1) := by decide +kernel
theorem dX2_bitsOfMean_1 : decode cX2_bitsOfMean 1 = .ok (.fconst 0, 1) := by decide +kernel
theorem dX2_bitsOfMean_2 : decode cX2_bitsOfMean 2 = .ok (.fcmp .g, 1) := by decide +kernel
theorem dX2_bitsOfMean_3 : decode cX2_bitsOfMean 3 = .ok (.ifCond .gt 5, 3) := by decide +kernel
theorem dX2_bitsOfMean_6 : decode cX2_bitsOfMean 6 = .ok (.iconst 0, 1) := by decide +kernel
theorem dX2_bitsOfMean_7 : decode cX2_bitsOfMean 7 = .ok (.ireturn, 1) := by decide +kernel
theorem dX2_bitsOfMean_8 : decode cX2_bitsOfMean 8 = .ok (.bipush 127, 2) := by decide +kernel
theorem dX2_bitsOfMean_10 : decode cX2_bitsOfMean 10 = .ok (.istore_n 1, 1) := by decide +kernel
theorem dX2_bitsOfMean_11 : decode cX2_bitsOfMean 11 = .ok (.fload_n 0, 1) := by decide +kernel
theorem dX2_bitsOfMean_12 : decode cX2_bitsOfMean 12 = .ok (.fstore_n 2, 1) := by decide +kernel
theorem dX2_bitsOfMean_13 : decode cX2_bitsOfMean 13 = .ok (.iconst 0, 1) := by decide +kernel
theorem dX2_bitsOfMean_14 : decode cX2_bitsOfMean 14 = .ok (.istore_n 3, 1) := by decide +kernel
theorem dX2_bitsOfMean_15 : decode cX2_bitsOfMean 15 = .ok (.iload_n 3, 1) := by decide +kernel
theorem dX2_bitsOfMean_16 : decode cX2_bitsOfMean 16 = .ok (.bipush 127, 2) := by decide +kernel
theorem dX2_bitsOfMean_18 : decode cX2_bitsOfMean 18 = .ok (.if_icmp .ge 22, 3) := by decide +kernel
theorem dX2_bitsOfMean_21 : decode cX2_bitsOfMean 21 = .ok (.fload_n 2, 1) := by decide +kernel
theorem dX2_bitsOfMean_22 : decode cX2_bitsOfMean 22 = .ok (.fconst 2, 1) := by decide +kernel
theorem dX2_bitsOfMean_23 : decode cX2_bitsOfMean 23 = .ok (.fcmp .l, 1) := by decide +kernel
theorem dX2_bitsOfMean_24 : decode cX2_bitsOfMean 24 = .ok (.ifCond .lt 16, 3) := by decide +kernel
theorem dX2_bitsOfMean_27 : decode cX2_bitsOfMean 27 = .ok (.fload_n 2, 1) := by decide +kernel
theorem dX2_bitsOfMean_28 : decode cX2_bitsOfMean 28 = .ok (.fconst 2, 1) := by decide +kernel
theorem dX2_bitsOfMean_29 : decode cX2_bitsOfMean 29 = .ok (.fdiv, 1) := by decide +kernel
theorem dX2_bitsOfMean_30 : decode cX2_bitsOfMean 30 = .ok (.fstore_n 2, 1) := by decide +kernel
theorem dX2_bitsOfMean_31 : decode cX2_bitsOfMean 31 = .ok (.iinc 1 1, 3) := by decide +kernel
theorem dX2_bitsOfMean_34 : decode cX2_bitsOfMean 34 = .ok (.iinc 3 1, 3) := by decide +kernel
theorem dX2_bitsOfMean_37 : decode cX2_bitsOfMean 37 = .ok (.goto (-22), 3) := by decide +kernel
theorem dX2_bitsOfMean_40 : decode cX2_bitsOfMean 40 = .ok (.iload_n 1, 1) := by decide +kernel
theorem dX2_bitsOfMean_41 : decode cX2_bitsOfMean 41 = .ok (.bipush 23, 2) := by decide +kernel
theorem dX2_bitsOfMean_43 : decode cX2_bitsOfMean 43 = .ok (.ishl, 1) := by decide +kernel
theorem dX2_bitsOfMean_44 : decode cX2_bitsOfMean 44 = .ok (.fload_n 2, 1) := by decide +kernel
theorem dX2_bitsOfMean_45 : decode cX2_bitsOfMean 45 = .ok (.fconst 1, 1) := by decide +kernel
theorem dX2_bitsOfMean_46 : decode cX2_bitsOfMean 46 = .ok (.fsub, 1) := by decide +kernel
theorem dX2_bitsOfMean_47 : decode cX2_bitsOfMean 47 = .ok (.ldc_w 410, 3) := by decide +kernel
theorem dX2_bitsOfMean_50 : decode cX2_bitsOfMean 50 = .ok (.fmul, 1) := by decide +kernel
theorem dX2_bitsOfMean_51 : decode cX2_bitsOfMean 51 = .ok (.f2i, 1) := by decide +kernel
theorem dX2_bitsOfMean_52 : decode cX2_bitsOfMean 52 = .ok (.iadd, 1) := by decide +kernel
theorem dX2_bitsOfMean_53 : decode cX2_bitsOfMean 53 = .ok (.ireturn, 1) := by decide +kernel
theorem dX2_stateAfterRecord_0 : decode cX2_stateAfterRecord 0 = .ok (.iload_n 0, 1) := by decide +kernel
theorem dX2_stateAfterRecord_1 : decode cX2_stateAfterRecord 1 = .ok (.tableswitch 37 1 4 #[33, 35, 37, 31], 31) := by decide +kernel
theorem dX2_stateAfterRecord_32 : decode cX2_stateAfterRecord 32 = .ok (.iconst 1, 1) := by decide +kernel
theorem dX2_stateAfterRecord_33 : decode cX2_stateAfterRecord 33 = .ok (.ireturn, 1) := by decide +kernel
theorem dX2_stateAfterRecord_34 : decode cX2_stateAfterRecord 34 = .ok (.iconst 2, 1) := by decide +kernel
theorem dX2_stateAfterRecord_35 : decode cX2_stateAfterRecord 35 = .ok (.ireturn, 1) := by decide +kernel
theorem dX2_stateAfterRecord_36 : decode cX2_stateAfterRecord 36 = .ok (.iconst 3, 1) := by decide +kernel
theorem dX2_stateAfterRecord_37 : decode cX2_stateAfterRecord 37 = .ok (.ireturn, 1) := by decide +kernel
theorem dX2_stateAfterRecord_38 : decode cX2_stateAfterRecord 38 = .ok (.iconst 0, 1) := by decide +kernel
theorem dX2_stateAfterRecord_39 : decode cX2_stateAfterRecord 39 = .ok (.ireturn, 1) := by decide +kernel
theorem dX2_shareIn_0 : decode cX2_shareIn 0 = .ok (.iload_n 3, 1) := by decide +kernel
theorem dX2_shareIn_1 : decode cX2_shareIn 1 = .ok (.iload_n 0, 1) := by decide +kernel
theorem dX2_shareIn_2 : decode cX2_shareIn 2 = .ok (.if_icmp .ne 11, 3) := by decide +kernel
theorem dX2_shareIn_5 : decode cX2_shareIn 5 = .ok (.iload_n 2, 1) := by decide +kernel
theorem dX2_shareIn_6 : decode cX2_shareIn 6 = .ok (.ineg, 1) := by decide +kernel
theorem dX2_shareIn_7 : decode cX2_shareIn 7 = .ok (.iload_n 1, 1) := by decide +kernel
theorem dX2_shareIn_8 : decode cX2_shareIn 8 = .ok (.invokestatic 135, 3) := by decide +kernel
theorem dX2_shareIn_11 : decode cX2_shareIn 11 = .ok (.imul, 1) := by decide +kernel
theorem dX2_shareIn_12 : decode cX2_shareIn 12 = .ok (.ireturn, 1) := by decide +kernel
theorem dX2_shareIn_13 : decode cX2_shareIn 13 = .ok (.iload_n 1, 1) := by decide +kernel
theorem dX2_shareIn_14 : decode cX2_shareIn 14 = .ok (.iload_n 3, 1) := by decide +kernel
theorem dX2_shareIn_15 : decode cX2_shareIn 15 = .ok (.ishr, 1) := by decide +kernel
theorem dX2_shareIn_16 : decode cX2_shareIn 16 = .ok (.iconst 1, 1) := by decide +kernel
theorem dX2_shareIn_17 : decode cX2_shareIn 17 = .ok (.iand, 1) := by decide +kernel
theorem dX2_shareIn_18 : decode cX2_shareIn 18 = .ok (.iconst 1, 1) := by decide +kernel
theorem dX2_shareIn_19 : decode cX2_shareIn 19 = .ok (.if_icmp .ne 7, 3) := by decide +kernel
theorem dX2_shareIn_22 : decode cX2_shareIn 22 = .ok (.iload_n 2, 1) := by decide +kernel
theorem dX2_shareIn_23 : decode cX2_shareIn 23 = .ok (.goto 4, 3) := by decide +kernel
theorem dX2_shareIn_26 : decode cX2_shareIn 26 = .ok (.iconst 0, 1) := by decide +kernel
theorem dX2_shareIn_27 : decode cX2_shareIn 27 = .ok (.ireturn, 1) := by decide +kernel
theorem dX2_kindIn_0 : decode cX2_kindIn 0 = .ok (.iload_n 0, 1) := by decide +kernel
theorem dX2_kindIn_1 : decode cX2_kindIn 1 = .ok (.iconst 5, 1) := by decide +kernel
theorem dX2_kindIn_2 : decode cX2_kindIn 2 = .ok (.ishr, 1) := by decide +kernel
theorem dX2_kindIn_3 : decode cX2_kindIn 3 = .ok (.ireturn, 1) := by decide +kernel
theorem dX2_transferIn_0 : decode cX2_transferIn 0 = .ok (.iload_n 0, 1) := by decide +kernel
theorem dX2_transferIn_1 : decode cX2_transferIn 1 = .ok (.iconst 2, 1) := by decide +kernel
theorem dX2_transferIn_2 : decode cX2_transferIn 2 = .ok (.ishr, 1) := by decide +kernel
theorem dX2_transferIn_3 : decode cX2_transferIn 3 = .ok (.bipush 7, 2) := by decide +kernel
theorem dX2_transferIn_5 : decode cX2_transferIn 5 = .ok (.iand, 1) := by decide +kernel
theorem dX2_transferIn_6 : decode cX2_transferIn 6 = .ok (.ireturn, 1) := by decide +kernel
theorem dX2_storeIn_0 : decode cX2_storeIn 0 = .ok (.iload_n 0, 1) := by decide +kernel
theorem dX2_storeIn_1 : decode cX2_storeIn 1 = .ok (.iconst 3, 1) := by decide +kernel
theorem dX2_storeIn_2 : decode cX2_storeIn 2 = .ok (.iand, 1) := by decide +kernel
theorem dX2_storeIn_3 : decode cX2_storeIn 3 = .ok (.ireturn, 1) := by decide +kernel
theorem dX2_goesToStore_0 : decode cX2_goesToStore 0 = .ok (.iload_n 0, 1) := by decide +kernel
theorem dX2_goesToStore_1 : decode cX2_goesToStore 1 = .ok (.ifCond .eq 13, 3) := by decide +kernel
theorem dX2_goesToStore_4 : decode cX2_goesToStore 4 = .ok (.iload_n 0, 1) := by decide +kernel
theorem dX2_goesToStore_5 : decode cX2_goesToStore 5 = .ok (.iconst 3, 1) := by decide +kernel
theorem dX2_goesToStore_6 : decode cX2_goesToStore 6 = .ok (.if_icmp .eq 8, 3) := by decide +kernel
theorem dX2_goesToStore_9 : decode cX2_goesToStore 9 = .ok (.iload_n 0, 1) := by decide +kernel
theorem dX2_goesToStore_10 : decode cX2_goesToStore 10 = .ok (.iconst 4, 1) := by decide +kernel
theorem dX2_goesToStore_11 : decode cX2_goesToStore 11 = .ok (.if_icmp .ne 7, 3) := by decide +kernel
theorem dX2_goesToStore_14 : decode cX2_goesToStore 14 = .ok (.iconst 1, 1) := by decide +kernel
theorem dX2_goesToStore_15 : decode cX2_goesToStore 15 = .ok (.goto 4, 3) := by decide +kernel
theorem dX2_goesToStore_18 : decode cX2_goesToStore 18 = .ok (.iconst 0, 1) := by decide +kernel
theorem dX2_goesToStore_19 : decode cX2_goesToStore 19 = .ok (.ireturn, 1) := by decide +kernel
theorem dX3_init_0 : decode cX3_init 0 = .ok (.aload_n 0, 1) := by decide +kernel
theorem dX3_init_1 : decode cX3_init 1 = .ok (.invokespecial 1, 3) := by decide +kernel
theorem dX3_init_4 : decode cX3_init 4 = .ok (.aload_n 0, 1) := by decide +kernel
theorem dX3_init_5 : decode cX3_init 5 = .ok (.sipush 256, 3) := by decide +kernel
theorem dX3_init_8 : decode cX3_init 8 = .ok (.newarray .int, 2) := by decide +kernel
theorem dX3_init_10 : decode cX3_init 10 = .ok (.putfield 7, 3) := by decide +kernel
theorem dX3_init_13 : decode cX3_init 13 = .ok (.aload_n 0, 1) := by decide +kernel
theorem dX3_init_14 : decode cX3_init 14 = .ok (.sipush 256, 3) := by decide +kernel
theorem dX3_init_17 : decode cX3_init 17 = .ok (.newarray .int, 2) := by decide +kernel
theorem dX3_init_19 : decode cX3_init 19 = .ok (.putfield 13, 3) := by decide +kernel
theorem dX3_init_22 : decode cX3_init 22 = .ok (.aload_n 0, 1) := by decide +kernel
theorem dX3_init_23 : decode cX3_init 23 = .ok (.sipush 1536, 3) := by decide +kernel
theorem dX3_init_26 : decode cX3_init 26 = .ok (.newarray .int, 2) := by decide +kernel
theorem dX3_init_28 : decode cX3_init 28 = .ok (.putfield 16, 3) := by decide +kernel
theorem dX3_init_31 : decode cX3_init 31 = .ok (.aload_n 0, 1) := by decide +kernel
theorem dX3_init_32 : decode cX3_init 32 = .ok (.sipush 256, 3) := by decide +kernel
theorem dX3_init_35 : decode cX3_init 35 = .ok (.newarray .int, 2) := by decide +kernel
theorem dX3_init_37 : decode cX3_init 37 = .ok (.putfield 19, 3) := by decide +kernel
theorem dX3_init_40 : decode cX3_init 40 = .ok (.aload_n 0, 1) := by decide +kernel
theorem dX3_init_41 : decode cX3_init 41 = .ok (.bipush 60, 2) := by decide +kernel
theorem dX3_init_43 : decode cX3_init 43 = .ok (.newarray .int, 2) := by decide +kernel
theorem dX3_init_45 : decode cX3_init 45 = .ok (.putfield 22, 3) := by decide +kernel
theorem dX3_init_48 : decode cX3_init 48 = .ok (.aload_n 0, 1) := by decide +kernel
theorem dX3_init_49 : decode cX3_init 49 = .ok (.bipush 124, 2) := by decide +kernel
theorem dX3_init_51 : decode cX3_init 51 = .ok (.newarray .int, 2) := by decide +kernel
theorem dX3_init_53 : decode cX3_init 53 = .ok (.putfield 25, 3) := by decide +kernel
theorem dX3_init_56 : decode cX3_init 56 = .ok (.aload_n 0, 1) := by decide +kernel
theorem dX3_init_57 : decode cX3_init 57 = .ok (.iconst 0, 1) := by decide +kernel
theorem dX3_init_58 : decode cX3_init 58 = .ok (.putfield 28, 3) := by decide +kernel
theorem dX3_init_61 : decode cX3_init 61 = .ok (.iconst 0, 1) := by decide +kernel
theorem dX3_init_62 : decode cX3_init 62 = .ok (.istore_n 1, 1) := by decide +kernel
theorem dX3_init_63 : decode cX3_init 63 = .ok (.iload_n 1, 1) := by decide +kernel
theorem dX3_init_64 : decode cX3_init 64 = .ok (.iconst 5, 1) := by decide +kernel
theorem dX3_init_65 : decode cX3_init 65 = .ok (.if_icmp .ge 18, 3) := by decide +kernel
theorem dX3_init_68 : decode cX3_init 68 = .ok (.aload_n 0, 1) := by decide +kernel
theorem dX3_init_69 : decode cX3_init 69 = .ok (.getfield 7, 3) := by decide +kernel
theorem dX3_init_72 : decode cX3_init 72 = .ok (.iconst 0, 1) := by decide +kernel
theorem dX3_init_73 : decode cX3_init 73 = .ok (.iload_n 1, 1) := by decide +kernel
theorem dX3_init_74 : decode cX3_init 74 = .ok (.iadd, 1) := by decide +kernel
theorem dX3_init_75 : decode cX3_init 75 = .ok (.iconst 1, 1) := by decide +kernel
theorem dX3_init_76 : decode cX3_init 76 = .ok (.iastore, 1) := by decide +kernel
theorem dX3_init_77 : decode cX3_init 77 = .ok (.iinc 1 1, 3) := by decide +kernel
theorem dX3_init_80 : decode cX3_init 80 = .ok (.goto (-17), 3) := by decide +kernel
theorem dX3_init_83 : decode cX3_init 83 = .ok (.iconst 0, 1) := by decide +kernel
theorem dX3_init_84 : decode cX3_init 84 = .ok (.istore_n 1, 1) := by decide +kernel
theorem dX3_init_85 : decode cX3_init 85 = .ok (.iload_n 1, 1) := by decide +kernel
theorem dX3_init_86 : decode cX3_init 86 = .ok (.iconst 4, 1) := by decide +kernel
theorem dX3_init_87 : decode cX3_init 87 = .ok (.if_icmp .ge 19, 3) := by decide +kernel
theorem dX3_init_90 : decode cX3_init 90 = .ok (.aload_n 0, 1) := by decide +kernel
theorem dX3_init_91 : decode cX3_init 91 = .ok (.getfield 7, 3) := by decide +kernel
theorem dX3_init_94 : decode cX3_init 94 = .ok (.iconst 5, 1) := by decide +kernel
theorem dX3_init_95 : decode cX3_init 95 = .ok (.iload_n 1, 1) := by decide +kernel
theorem dX3_init_96 : decode cX3_init 96 = .ok (.iadd, 1) := by decide +kernel
theorem dX3_init_97 : decode cX3_init 97 = .ok (.bipush 100, 2) := by decide +kernel
theorem dX3_init_99 : decode cX3_init 99 = .ok (.iastore, 1) := by decide +kernel
theorem dX3_init_100 : decode cX3_init 100 = .ok (.iinc 1 1, 3) := by decide +kernel
theorem dX3_init_103 : decode cX3_init 103 = .ok (.goto (-18), 3) := by decide +kernel
theorem dX3_init_106 : decode cX3_init 106 = .ok (.return_, 1) := by decide +kernel
theorem dX3_thrown_0 : decode cX3_thrown 0 = .ok (.aload_n 0, 1) := by decide +kernel
theorem dX3_thrown_1 : decode cX3_thrown 1 = .ok (.getfield 28, 3) := by decide +kernel
theorem dX3_thrown_4 : decode cX3_thrown 4 = .ok (.ireturn, 1) := by decide +kernel
theorem dX3_fails_0 : decode cX3_fails 0 = .ok (.aload_n 0, 1) := by decide +kernel
theorem dX3_fails_1 : decode cX3_fails 1 = .ok (.iload_n 1, 1) := by decide +kernel
theorem dX3_fails_2 : decode cX3_fails 2 = .ok (.putfield 28, 3) := by decide +kernel
theorem dX3_fails_5 : decode cX3_fails 5 = .ok (.iconst 0, 1) := by decide +kernel
theorem dX3_fails_6 : decode cX3_fails 6 = .ok (.ireturn, 1) := by decide +kernel
theorem dX3_in_0 : decode cX3_in 0 = .ok (.iload_n 0, 1) := by decide +kernel
theorem dX3_in_1 : decode cX3_in 1 = .ok (.iload_n 1, 1) := by decide +kernel
theorem dX3_in_2 : decode cX3_in 2 = .ok (.if_icmp .lt 12, 3) := by decide +kernel
theorem dX3_in_5 : decode cX3_in 5 = .ok (.iload_n 0, 1) := by decide +kernel
theorem dX3_in_6 : decode cX3_in 6 = .ok (.iload_n 2, 1) := by decide +kernel
theorem dX3_in_7 : decode cX3_in 7 = .ok (.if_icmp .gt 7, 3) := by decide +kernel
theorem dX3_in_10 : decode cX3_in 10 = .ok (.iconst 1, 1) := by decide +kernel
theorem dX3_in_11 : decode cX3_in 11 = .ok (.goto 4, 3) := by decide +kernel
theorem dX3_in_14 : decode cX3_in 14 = .ok (.iconst 0, 1) := by decide +kernel
theorem dX3_in_15 : decode cX3_in 15 = .ok (.ireturn, 1) := by decide +kernel
theorem dX3_isStore_0 : decode cX3_isStore 0 = .ok (.iload_n 0, 1) := by decide +kernel
theorem dX3_isStore_1 : decode cX3_isStore 1 = .ok (.iconst 0, 1) := by decide +kernel
theorem dX3_isStore_2 : decode cX3_isStore 2 = .ok (.iconst 3, 1) := by decide +kernel
theorem dX3_isStore_3 : decode cX3_isStore 3 = .ok (.invokestatic 32, 3) := by decide +kernel
theorem dX3_isStore_6 : decode cX3_isStore 6 = .ok (.ireturn, 1) := by decide +kernel
theorem dX3_isSite_0 : decode cX3_isSite 0 = .ok (.iload_n 0, 1) := by decide +kernel
theorem dX3_isSite_1 : decode cX3_isSite 1 = .ok (.iconst 0, 1) := by decide +kernel
theorem dX3_isSite_2 : decode cX3_isSite 2 = .ok (.iconst 4, 1) := by decide +kernel
theorem dX3_isSite_3 : decode cX3_isSite 3 = .ok (.invokestatic 32, 3) := by decide +kernel
theorem dX3_isSite_6 : decode cX3_isSite 6 = .ok (.ireturn, 1) := by decide +kernel
theorem dX3_isTransfer_0 : decode cX3_isTransfer 0 = .ok (.iload_n 1, 1) := by decide +kernel
theorem dX3_isTransfer_1 : decode cX3_isTransfer 1 = .ok (.iconst 0, 1) := by decide +kernel
theorem dX3_isTransfer_2 : decode cX3_isTransfer 2 = .ok (.aload_n 0, 1) := by decide +kernel
theorem dX3_isTransfer_3 : decode cX3_isTransfer 3 = .ok (.getfield 7, 3) := by decide +kernel
theorem dX3_isTransfer_6 : decode cX3_isTransfer 6 = .ok (.bipush 9, 2) := by decide +kernel
theorem dX3_isTransfer_8 : decode cX3_isTransfer 8 = .ok (.iaload, 1) := by decide +kernel
theorem dX3_isTransfer_9 : decode cX3_isTransfer 9 = .ok (.iconst 1, 1) := by decide +kernel
theorem dX3_isTransfer_10 : decode cX3_isTransfer 10 = .ok (.isub, 1) := by decide +kernel
theorem dX3_isTransfer_11 : decode cX3_isTransfer 11 = .ok (.invokestatic 32, 3) := by decide +kernel
theorem dX3_isTransfer_14 : decode cX3_isTransfer 14 = .ok (.ireturn, 1) := by decide +kernel
theorem dX3_isMessage_0 : decode cX3_isMessage 0 = .ok (.iload_n 1, 1) := by decide +kernel
theorem dX3_isMessage_1 : decode cX3_isMessage 1 = .ok (.iconst 0, 1) := by decide +kernel
theorem dX3_isMessage_2 : decode cX3_isMessage 2 = .ok (.aload_n 0, 1) := by decide +kernel
theorem dX3_isMessage_3 : decode cX3_isMessage 3 = .ok (.getfield 7, 3) := by decide +kernel
theorem dX3_isMessage_6 : decode cX3_isMessage 6 = .ok (.bipush 13, 2) := by decide +kernel
theorem dX3_isMessage_8 : decode cX3_isMessage 8 = .ok (.iaload, 1) := by decide +kernel
theorem dX3_isMessage_9 : decode cX3_isMessage 9 = .ok (.iconst 1, 1) := by decide +kernel
theorem dX3_isMessage_10 : decode cX3_isMessage 10 = .ok (.isub, 1) := by decide +kernel
theorem dX3_isMessage_11 : decode cX3_isMessage 11 = .ok (.invokestatic 32, 3) := by decide +kernel
theorem dX3_isMessage_14 : decode cX3_isMessage 14 = .ok (.ireturn, 1) := by decide +kernel
theorem dX3_of_0 : decode cX3_of 0 = .ok (.aload_n 0, 1) := by decide +kernel
theorem dX3_of_1 : decode cX3_of 1 = .ok (.getfield 7, 3) := by decide +kernel
theorem dX3_of_4 : decode cX3_of 4 = .ok (.bipush 14, 2) := by decide +kernel
theorem dX3_of_6 : decode cX3_of 6 = .ok (.bipush 7, 2) := by decide +kernel
theorem dX3_of_8 : decode cX3_of 8 = .ok (.iload_n 1, 1) := by decide +kernel
theorem dX3_of_9 : decode cX3_of 9 = .ok (.imul, 1) := by decide +kernel
theorem dX3_of_10 : decode cX3_of 10 = .ok (.iadd, 1) := by decide +kernel
theorem dX3_of_11 : decode cX3_of 11 = .ok (.iload_n 2, 1) := by decide +kernel
theorem dX3_of_12 : decode cX3_of 12 = .ok (.iadd, 1) := by decide +kernel
theorem dX3_of_13 : decode cX3_of 13 = .ok (.iaload, 1) := by decide +kernel
theorem dX3_of_14 : decode cX3_of 14 = .ok (.ireturn, 1) := by decide +kernel
theorem dX3_lay_0 : decode cX3_lay 0 = .ok (.aload_n 0, 1) := by decide +kernel
theorem dX3_lay_1 : decode cX3_lay 1 = .ok (.getfield 7, 3) := by decide +kernel
theorem dX3_lay_4 : decode cX3_lay 4 = .ok (.bipush 14, 2) := by decide +kernel
theorem dX3_lay_6 : decode cX3_lay 6 = .ok (.bipush 7, 2) := by decide +kernel
theorem dX3_lay_8 : decode cX3_lay 8 = .ok (.iload_n 1, 1) := by decide +kernel
theorem dX3_lay_9 : decode cX3_lay 9 = .ok (.imul, 1) := by decide +kernel
theorem dX3_lay_10 : decode cX3_lay 10 = .ok (.iadd, 1) := by decide +kernel
theorem dX3_lay_11 : decode cX3_lay 11 = .ok (.iload_n 2, 1) := by decide +kernel
theorem dX3_lay_12 : decode cX3_lay 12 = .ok (.iadd, 1) := by decide +kernel
theorem dX3_lay_13 : decode cX3_lay 13 = .ok (.iload_n 3, 1) := by decide +kernel
theorem dX3_lay_14 : decode cX3_lay 14 = .ok (.iastore, 1) := by decide +kernel
theorem dX3_lay_15 : decode cX3_lay 15 = .ok (.return_, 1) := by decide +kernel
theorem dX3_stateIn_0 : decode cX3_stateIn 0 = .ok (.aload_n 0, 1) := by decide +kernel
theorem dX3_stateIn_1 : decode cX3_stateIn 1 = .ok (.getfield 7, 3) := by decide +kernel
theorem dX3_stateIn_4 : decode cX3_stateIn 4 = .ok (.bipush 70, 2) := by decide +kernel
theorem dX3_stateIn_6 : decode cX3_stateIn 6 = .ok (.bipush 8, 2) := by decide +kernel
theorem dX3_stateIn_8 : decode cX3_stateIn 8 = .ok (.iload_n 1, 1) := by decide +kernel
theorem dX3_stateIn_9 : decode cX3_stateIn 9 = .ok (.imul, 1) := by decide +kernel
theorem dX3_stateIn_10 : decode cX3_stateIn 10 = .ok (.iadd, 1) := by decide +kernel
theorem dX3_stateIn_11 : decode cX3_stateIn 11 = .ok (.iload_n 2, 1) := by decide +kernel
theorem dX3_stateIn_12 : decode cX3_stateIn 12 = .ok (.iadd, 1) := by decide +kernel
theorem dX3_stateIn_13 : decode cX3_stateIn 13 = .ok (.iaload, 1) := by decide +kernel
theorem dX3_stateIn_14 : decode cX3_stateIn 14 = .ok (.ireturn, 1) := by decide +kernel
theorem dX3_recordsState_0 : decode cX3_recordsState 0 = .ok (.aload_n 0, 1) := by decide +kernel
theorem dX3_recordsState_1 : decode cX3_recordsState 1 = .ok (.getfield 36, 3) := by decide +kernel
theorem dX3_recordsState_4 : decode cX3_recordsState 4 = .ok (.bipush 6, 2) := by decide +kernel
theorem dX3_recordsState_6 : decode cX3_recordsState 6 = .ok (.if_icmp .ne 44, 3) := by decide +kernel
theorem dX3_recordsState_9 : decode cX3_recordsState 9 = .ok (.iconst 0, 1) := by decide +kernel
theorem dX3_recordsState_10 : decode cX3_recordsState 10 = .ok (.istore_n 1, 1) := by decide +kernel
theorem dX3_recordsState_11 : decode cX3_recordsState 11 = .ok (.iload_n 1, 1) := by decide +kernel
theorem dX3_recordsState_12 : decode cX3_recordsState 12 = .ok (.sipush 1280, 3) := by decide +kernel
theorem dX3_recordsState_15 : decode cX3_recordsState 15 = .ok (.if_icmp .ge 25, 3) := by decide +kernel
theorem dX3_recordsState_18 : decode cX3_recordsState 18 = .ok (.aload_n 0, 1) := by decide +kernel
theorem dX3_recordsState_19 : decode cX3_recordsState 19 = .ok (.getfield 16, 3) := by decide +kernel
theorem dX3_recordsState_22 : decode cX3_recordsState 22 = .ok (.iload_n 1, 1) := by decide +kernel
theorem dX3_recordsState_23 : decode cX3_recordsState 23 = .ok (.aload_n 0, 1) := by decide +kernel
theorem dX3_recordsState_24 : decode cX3_recordsState 24 = .ok (.getfield 16, 3) := by decide +kernel
theorem dX3_recordsState_27 : decode cX3_recordsState 27 = .ok (.iload_n 1, 1) := by decide +kernel
theorem dX3_recordsState_28 : decode cX3_recordsState 28 = .ok (.sipush 256, 3) := by decide +kernel
theorem dX3_recordsState_31 : decode cX3_recordsState 31 = .ok (.iadd, 1) := by decide +kernel
theorem dX3_recordsState_32 : decode cX3_recordsState 32 = .ok (.iaload, 1) := by decide +kernel
theorem dX3_recordsState_33 : decode cX3_recordsState 33 = .ok (.iastore, 1) := by decide +kernel
theorem dX3_recordsState_34 : decode cX3_recordsState 34 = .ok (.iinc 1 1, 3) := by decide +kernel
theorem dX3_recordsState_37 : decode cX3_recordsState 37 = .ok (.goto (-26), 3) := by decide +kernel
theorem dX3_recordsState_40 : decode cX3_recordsState 40 = .ok (.aload_n 0, 1) := by decide +kernel
theorem dX3_recordsState_41 : decode cX3_recordsState 41 = .ok (.dup, 1) := by decide +kernel
theorem dX3_recordsState_42 : decode cX3_recordsState 42 = .ok (.getfield 36, 3) := by decide +kernel
theorem dX3_recordsState_45 : decode cX3_recordsState 45 = .ok (.iconst 1, 1) := by decide +kernel
theorem dX3_recordsState_46 : decode cX3_recordsState 46 = .ok (.isub, 1) := by decide +kernel
theorem dX3_recordsState_47 : decode cX3_recordsState 47 = .ok (.putfield 36, 3) := by decide +kernel
theorem dX3_recordsState_50 : decode cX3_recordsState 50 = .ok (.iconst 0, 1) := by decide +kernel
theorem dX3_recordsState_51 : decode cX3_recordsState 51 = .ok (.istore_n 1, 1) := by decide +kernel
theorem dX3_recordsState_52 : decode cX3_recordsState 52 = .ok (.iload_n 1, 1) := by decide +kernel
theorem dX3_recordsState_53 : decode cX3_recordsState 53 = .ok (.sipush 256, 3) := by decide +kernel
theorem dX3_recordsState_56 : decode cX3_recordsState 56 = .ok (.if_icmp .ge 30, 3) := by decide +kernel
theorem dX3_recordsState_59 : decode cX3_recordsState 59 = .ok (.aload_n 0, 1) := by decide +kernel
theorem dX3_recordsState_60 : decode cX3_recordsState 60 = .ok (.getfield 16, 3) := by decide +kernel
theorem dX3_recordsState_63 : decode cX3_recordsState 63 = .ok (.sipush 256, 3) := by decide +kernel
theorem dX3_recordsState_66 : decode cX3_recordsState 66 = .ok (.aload_n 0, 1) := by decide +kernel
theorem dX3_recordsState_67 : decode cX3_recordsState 67 = .ok (.getfield 36, 3) := by decide +kernel
theorem dX3_recordsState_70 : decode cX3_recordsState 70 = .ok (.imul, 1) := by decide +kernel
theorem dX3_recordsState_71 : decode cX3_recordsState 71 = .ok (.iload_n 1, 1) := by decide +kernel
theorem dX3_recordsState_72 : decode cX3_recordsState 72 = .ok (.iadd, 1) := by decide +kernel
theorem dX3_recordsState_73 : decode cX3_recordsState 73 = .ok (.aload_n 0, 1) := by decide +kernel
theorem dX3_recordsState_74 : decode cX3_recordsState 74 = .ok (.getfield 7, 3) := by decide +kernel
theorem dX3_recordsState_77 : decode cX3_recordsState 77 = .ok (.iload_n 1, 1) := by decide +kernel
theorem dX3_recordsState_78 : decode cX3_recordsState 78 = .ok (.iaload, 1) := by decide +kernel
theorem dX3_recordsState_79 : decode cX3_recordsState 79 = .ok (.iastore, 1) := by decide +kernel
theorem dX3_recordsState_80 : decode cX3_recordsState 80 = .ok (.iinc 1 1, 3) := by decide +kernel
theorem dX3_recordsState_83 : decode cX3_recordsState 83 = .ok (.goto (-31), 3) := by decide +kernel
theorem dX3_recordsState_86 : decode cX3_recordsState 86 = .ok (.aload_n 0, 1) := by decide +kernel
theorem dX3_recordsState_87 : decode cX3_recordsState 87 = .ok (.dup, 1) := by decide +kernel
theorem dX3_recordsState_88 : decode cX3_recordsState 88 = .ok (.getfield 36, 3) := by decide +kernel
theorem dX3_recordsState_91 : decode cX3_recordsState 91 = .ok (.iconst 1, 1) := by decide +kernel
theorem dX3_recordsState_92 : decode cX3_recordsState 92 = .ok (.iadd, 1) := by decide +kernel
theorem dX3_recordsState_93 : decode cX3_recordsState 93 = .ok (.putfield 36, 3) := by decide +kernel
theorem dX3_recordsState_96 : decode cX3_recordsState 96 = .ok (.return_, 1) := by decide +kernel
theorem dX3_putAside_0 : decode cX3_putAside 0 = .ok (.iconst 0, 1) := by decide +kernel
theorem dX3_putAside_1 : decode cX3_putAside 1 = .ok (.istore_n 1, 1) := by decide +kernel
theorem dX3_putAside_2 : decode cX3_putAside 2 = .ok (.iload_n 1, 1) := by decide +kernel
theorem dX3_putAside_3 : decode cX3_putAside 3 = .ok (.sipush 256, 3) := by decide +kernel
theorem dX3_putAside_6 : decode cX3_putAside 6 = .ok (.if_icmp .ge 21, 3) := by decide +kernel
theorem dX3_putAside_9 : decode cX3_putAside 9 = .ok (.aload_n 0, 1) := by decide +kernel
theorem dX3_putAside_10 : decode cX3_putAside 10 = .ok (.getfield 13, 3) := by decide +kernel
theorem dX3_putAside_13 : decode cX3_putAside 13 = .ok (.iload_n 1, 1) := by decide +kernel
theorem dX3_putAside_14 : decode cX3_putAside 14 = .ok (.aload_n 0, 1) := by decide +kernel
theorem dX3_putAside_15 : decode cX3_putAside 15 = .ok (.getfield 7, 3) := by decide +kernel
theorem dX3_putAside_18 : decode cX3_putAside 18 = .ok (.iload_n 1, 1) := by decide +kernel
theorem dX3_putAside_19 : decode cX3_putAside 19 = .ok (.iaload, 1) := by decide +kernel
theorem dX3_putAside_20 : decode cX3_putAside 20 = .ok (.iastore, 1) := by decide +kernel
theorem dX3_putAside_21 : decode cX3_putAside 21 = .ok (.iinc 1 1, 3) := by decide +kernel
theorem dX3_putAside_24 : decode cX3_putAside 24 = .ok (.goto (-22), 3) := by decide +kernel
theorem dX3_putAside_27 : decode cX3_putAside 27 = .ok (.return_, 1) := by decide +kernel
theorem dX3_takeBack_0 : decode cX3_takeBack 0 = .ok (.iconst 0, 1) := by decide +kernel
theorem dX3_takeBack_1 : decode cX3_takeBack 1 = .ok (.istore_n 1, 1) := by decide +kernel
theorem dX3_takeBack_2 : decode cX3_takeBack 2 = .ok (.iload_n 1, 1) := by decide +kernel
theorem dX3_takeBack_3 : decode cX3_takeBack 3 = .ok (.sipush 256, 3) := by decide +kernel
theorem dX3_takeBack_6 : decode cX3_takeBack 6 = .ok (.if_icmp .ge 21, 3) := by decide +kernel
theorem dX3_takeBack_9 : decode cX3_takeBack 9 = .ok (.aload_n 0, 1) := by decide +kernel
theorem dX3_takeBack_10 : decode cX3_takeBack 10 = .ok (.getfield 7, 3) := by decide +kernel
theorem dX3_takeBack_13 : decode cX3_takeBack 13 = .ok (.iload_n 1, 1) := by decide +kernel
theorem dX3_takeBack_14 : decode cX3_takeBack 14 = .ok (.aload_n 0, 1) := by decide +kernel
theorem dX3_takeBack_15 : decode cX3_takeBack 15 = .ok (.getfield 13, 3) := by decide +kernel
theorem dX3_takeBack_18 : decode cX3_takeBack 18 = .ok (.iload_n 1, 1) := by decide +kernel
theorem dX3_takeBack_19 : decode cX3_takeBack 19 = .ok (.iaload, 1) := by decide +kernel
theorem dX3_takeBack_20 : decode cX3_takeBack 20 = .ok (.iastore, 1) := by decide +kernel
theorem dX3_takeBack_21 : decode cX3_takeBack 21 = .ok (.iinc 1 1, 3) := by decide +kernel
theorem dX3_takeBack_24 : decode cX3_takeBack 24 = .ok (.goto (-22), 3) := by decide +kernel
theorem dX3_takeBack_27 : decode cX3_takeBack 27 = .ok (.return_, 1) := by decide +kernel
theorem dX3_bits_0 : decode cX3_bits 0 = .ok (.iconst 0, 1) := by decide +kernel
theorem dX3_bits_1 : decode cX3_bits 1 = .ok (.istore_n 1, 1) := by decide +kernel
theorem dX3_bits_2 : decode cX3_bits 2 = .ok (.iconst 0, 1) := by decide +kernel
theorem dX3_bits_3 : decode cX3_bits 3 = .ok (.istore_n 2, 1) := by decide +kernel
theorem dX3_bits_4 : decode cX3_bits 4 = .ok (.iload_n 2, 1) := by decide +kernel
theorem dX3_bits_5 : decode cX3_bits 5 = .ok (.iconst 4, 1) := by decide +kernel
theorem dX3_bits_6 : decode cX3_bits 6 = .ok (.if_icmp .ge 17, 3) := by decide +kernel
theorem dX3_bits_9 : decode cX3_bits 9 = .ok (.iload_n 1, 1) := by decide +kernel
theorem dX3_bits_10 : decode cX3_bits 10 = .ok (.iload_n 0, 1) := by decide +kernel
theorem dX3_bits_11 : decode cX3_bits 11 = .ok (.iload_n 2, 1) := by decide +kernel
theorem dX3_bits_12 : decode cX3_bits 12 = .ok (.ishr, 1) := by decide +kernel
theorem dX3_bits_13 : decode cX3_bits 13 = .ok (.iconst 1, 1) := by decide +kernel
theorem dX3_bits_14 : decode cX3_bits 14 = .ok (.iand, 1) := by decide +kernel
theorem dX3_bits_15 : decode cX3_bits 15 = .ok (.iadd, 1) := by decide +kernel
theorem dX3_bits_16 : decode cX3_bits 16 = .ok (.istore_n 1, 1) := by decide +kernel
theorem dX3_bits_17 : decode cX3_bits 17 = .ok (.iinc 2 1, 3) := by decide +kernel
theorem dX3_bits_20 : decode cX3_bits 20 = .ok (.goto (-16), 3) := by decide +kernel
theorem dX3_bits_23 : decode cX3_bits 23 = .ok (.iload_n 1, 1) := by decide +kernel
theorem dX3_bits_24 : decode cX3_bits 24 = .ok (.ireturn, 1) := by decide +kernel
theorem dX3_all_0 : decode cX3_all 0 = .ok (.aload_n 0, 1) := by decide +kernel
theorem dX3_all_1 : decode cX3_all 1 = .ok (.iload_n 1, 1) := by decide +kernel
theorem dX3_all_2 : decode cX3_all 2 = .ok (.iconst 1, 1) := by decide +kernel
theorem dX3_all_3 : decode cX3_all 3 = .ok (.invokevirtual 39, 3) := by decide +kernel
theorem dX3_all_6 : decode cX3_all 6 = .ok (.iconst 1, 1) := by decide +kernel
theorem dX3_all_7 : decode cX3_all 7 = .ok (.aload_n 0, 1) := by decide +kernel
theorem dX3_all_8 : decode cX3_all 8 = .ok (.iload_n 1, 1) := by decide +kernel
theorem dX3_all_9 : decode cX3_all 9 = .ok (.iconst 0, 1) := by decide +kernel
theorem dX3_all_10 : decode cX3_all 10 = .ok (.invokevirtual 39, 3) := by decide +kernel
theorem dX3_all_13 : decode cX3_all 13 = .ok (.ishl, 1) := by decide +kernel
theorem dX3_all_14 : decode cX3_all 14 = .ok (.ior, 1) := by decide +kernel
theorem dX3_all_15 : decode cX3_all 15 = .ok (.ireturn, 1) := by decide +kernel
theorem dX3_shareOf_0 : decode cX3_shareOf 0 = .ok (.iload_n 1, 1) := by decide +kernel
theorem dX3_shareOf_1 : decode cX3_shareOf 1 = .ok (.iload_n 3, 1) := by decide +kernel
theorem dX3_shareOf_2 : decode cX3_shareOf 2 = .ok (.ishr, 1) := by decide +kernel
theorem dX3_shareOf_3 : decode cX3_shareOf 3 = .ok (.iconst 1, 1) := by decide +kernel
theorem dX3_shareOf_4 : decode cX3_shareOf 4 = .ok (.iand, 1) := by decide +kernel
theorem dX3_shareOf_5 : decode cX3_shareOf 5 = .ok (.iconst 1, 1) := by decide +kernel
theorem dX3_shareOf_6 : decode cX3_shareOf 6 = .ok (.if_icmp .ne 7, 3) := by decide +kernel
theorem dX3_shareOf_9 : decode cX3_shareOf 9 = .ok (.iload_n 2, 1) := by decide +kernel
theorem dX3_shareOf_10 : decode cX3_shareOf 10 = .ok (.goto 4, 3) := by decide +kernel
theorem dX3_shareOf_13 : decode cX3_shareOf 13 = .ok (.iconst 0, 1) := by decide +kernel
theorem dX3_shareOf_14 : decode cX3_shareOf 14 = .ok (.istore 4, 2) := by decide +kernel
theorem dX3_shareOf_16 : decode cX3_shareOf 16 = .ok (.iload_n 3, 1) := by decide +kernel
theorem dX3_shareOf_17 : decode cX3_shareOf 17 = .ok (.iload_n 0, 1) := by decide +kernel
theorem dX3_shareOf_18 : decode cX3_shareOf 18 = .ok (.if_icmp .ne 13, 3) := by decide +kernel
theorem dX3_shareOf_21 : decode cX3_shareOf 21 = .ok (.iload_n 2, 1) := by decide +kernel
theorem dX3_shareOf_22 : decode cX3_shareOf 22 = .ok (.ineg, 1) := by decide +kernel
theorem dX3_shareOf_23 : decode cX3_shareOf 23 = .ok (.iload_n 1, 1) := by decide +kernel
theorem dX3_shareOf_24 : decode cX3_shareOf 24 = .ok (.invokestatic 43, 3) := by decide +kernel
theorem dX3_shareOf_27 : decode cX3_shareOf 27 = .ok (.imul, 1) := by decide +kernel
theorem dX3_shareOf_28 : decode cX3_shareOf 28 = .ok (.goto 5, 3) := by decide +kernel
theorem dX3_shareOf_31 : decode cX3_shareOf 31 = .ok (.iload 4, 2) := by decide +kernel
theorem dX3_shareOf_33 : decode cX3_shareOf 33 = .ok (.ireturn, 1) := by decide +kernel
theorem dX3_shareIn_0 : decode cX3_shareIn 0 = .ok (.aload_n 0, 1) := by decide +kernel
theorem dX3_shareIn_1 : decode cX3_shareIn 1 = .ok (.iload_n 1, 1) := by decide +kernel
theorem dX3_shareIn_2 : decode cX3_shareIn 2 = .ok (.iconst 0, 1) := by decide +kernel
theorem dX3_shareIn_3 : decode cX3_shareIn 3 = .ok (.invokevirtual 39, 3) := by decide +kernel
theorem dX3_shareIn_6 : decode cX3_shareIn 6 = .ok (.aload_n 0, 1) := by decide +kernel
theorem dX3_shareIn_7 : decode cX3_shareIn 7 = .ok (.iload_n 1, 1) := by decide +kernel
theorem dX3_shareIn_8 : decode cX3_shareIn 8 = .ok (.iconst 1, 1) := by decide +kernel
theorem dX3_shareIn_9 : decode cX3_shareIn 9 = .ok (.invokevirtual 39, 3) := by decide +kernel
theorem dX3_shareIn_12 : decode cX3_shareIn 12 = .ok (.aload_n 0, 1) := by decide +kernel
theorem dX3_shareIn_13 : decode cX3_shareIn 13 = .ok (.iload_n 1, 1) := by decide +kernel
theorem dX3_shareIn_14 : decode cX3_shareIn 14 = .ok (.iconst 2, 1) := by decide +kernel
theorem dX3_shareIn_15 : decode cX3_shareIn 15 = .ok (.invokevirtual 39, 3) := by decide +kernel
theorem dX3_shareIn_18 : decode cX3_shareIn 18 = .ok (.iload_n 2, 1) := by decide +kernel
theorem dX3_shareIn_19 : decode cX3_shareIn 19 = .ok (.invokestatic 47, 3) := by decide +kernel
theorem dX3_shareIn_22 : decode cX3_shareIn 22 = .ok (.ireturn, 1) := by decide +kernel
theorem dX3_canTake_0 : decode cX3_canTake 0 = .ok (.aload_n 0, 1) := by decide +kernel
theorem dX3_canTake_1 : decode cX3_canTake 1 = .ok (.getfield 7, 3) := by decide +kernel
theorem dX3_canTake_4 : decode cX3_canTake 4 = .ok (.iconst 5, 1) := by decide +kernel
theorem dX3_canTake_5 : decode cX3_canTake 5 = .ok (.iload_n 1, 1) := by decide +kernel
theorem dX3_canTake_6 : decode cX3_canTake 6 = .ok (.iadd, 1) := by decide +kernel
theorem dX3_canTake_7 : decode cX3_canTake 7 = .ok (.iaload, 1) := by decide +kernel
theorem dX3_canTake_8 : decode cX3_canTake 8 = .ok (.iload_n 2, 1) := by decide +kernel
theorem dX3_canTake_9 : decode cX3_canTake 9 = .ok (.iadd, 1) := by decide +kernel
theorem dX3_canTake_10 : decode cX3_canTake 10 = .ok (.istore_n 3, 1) := by decide +kernel
theorem dX3_canTake_11 : decode cX3_canTake 11 = .ok (.iconst 0, 1) := by decide +kernel
theorem dX3_canTake_12 : decode cX3_canTake 12 = .ok (.istore 4, 2) := by decide +kernel
theorem dX3_canTake_14 : decode cX3_canTake 14 = .ok (.iload 4, 2) := by decide +kernel
theorem dX3_canTake_16 : decode cX3_canTake 16 = .ok (.aload_n 0, 1) := by decide +kernel
theorem dX3_canTake_17 : decode cX3_canTake 17 = .ok (.getfield 7, 3) := by decide +kernel
theorem dX3_canTake_20 : decode cX3_canTake 20 = .ok (.bipush 9, 2) := by decide +kernel
theorem dX3_canTake_22 : decode cX3_canTake 22 = .ok (.iaload, 1) := by decide +kernel
theorem dX3_canTake_23 : decode cX3_canTake 23 = .ok (.if_icmp .ge 60, 3) := by decide +kernel
theorem dX3_canTake_26 : decode cX3_canTake 26 = .ok (.aload_n 0, 1) := by decide +kernel
theorem dX3_canTake_27 : decode cX3_canTake 27 = .ok (.iload_n 1, 1) := by decide +kernel
theorem dX3_canTake_28 : decode cX3_canTake 28 = .ok (.iload 4, 2) := by decide +kernel
theorem dX3_canTake_30 : decode cX3_canTake 30 = .ok (.invokevirtual 51, 3) := by decide +kernel
theorem dX3_canTake_33 : decode cX3_canTake 33 = .ok (.iconst 1, 1) := by decide +kernel
theorem dX3_canTake_34 : decode cX3_canTake 34 = .ok (.if_icmp .ne 13, 3) := by decide +kernel
theorem dX3_canTake_37 : decode cX3_canTake 37 = .ok (.aload_n 0, 1) := by decide +kernel
theorem dX3_canTake_38 : decode cX3_canTake 38 = .ok (.iload 4, 2) := by decide +kernel
theorem dX3_canTake_40 : decode cX3_canTake 40 = .ok (.iload_n 1, 1) := by decide +kernel
theorem dX3_canTake_41 : decode cX3_canTake 41 = .ok (.invokevirtual 54, 3) := by decide +kernel
theorem dX3_canTake_44 : decode cX3_canTake 44 = .ok (.goto 4, 3) := by decide +kernel
theorem dX3_canTake_47 : decode cX3_canTake 47 = .ok (.iconst 0, 1) := by decide +kernel
theorem dX3_canTake_48 : decode cX3_canTake 48 = .ok (.istore 5, 2) := by decide +kernel
theorem dX3_canTake_50 : decode cX3_canTake 50 = .ok (.iload_n 3, 1) := by decide +kernel
theorem dX3_canTake_51 : decode cX3_canTake 51 = .ok (.iload_n 2, 1) := by decide +kernel
theorem dX3_canTake_52 : decode cX3_canTake 52 = .ok (.ifCond .ge 8, 3) := by decide +kernel
theorem dX3_canTake_55 : decode cX3_canTake 55 = .ok (.iload 5, 2) := by decide +kernel
theorem dX3_canTake_57 : decode cX3_canTake 57 = .ok (.ifCond .lt 12, 3) := by decide +kernel
theorem dX3_canTake_60 : decode cX3_canTake 60 = .ok (.iload_n 2, 1) := by decide +kernel
theorem dX3_canTake_61 : decode cX3_canTake 61 = .ok (.ifCond .le 13, 3) := by decide +kernel
theorem dX3_canTake_64 : decode cX3_canTake 64 = .ok (.iload 5, 2) := by decide +kernel
theorem dX3_canTake_66 : decode cX3_canTake 66 = .ok (.ifCond .le 8, 3) := by decide +kernel
theorem dX3_canTake_69 : decode cX3_canTake 69 = .ok (.iload 5, 2) := by decide +kernel
theorem dX3_canTake_71 : decode cX3_canTake 71 = .ok (.goto 4, 3) := by decide +kernel
theorem dX3_canTake_74 : decode cX3_canTake 74 = .ok (.iconst 0, 1) := by decide +kernel
theorem dX3_canTake_75 : decode cX3_canTake 75 = .ok (.iadd, 1) := by decide +kernel
theorem dX3_canTake_76 : decode cX3_canTake 76 = .ok (.istore_n 3, 1) := by decide +kernel
theorem dX3_canTake_77 : decode cX3_canTake 77 = .ok (.iinc 4 1, 3) := by decide +kernel
theorem dX3_canTake_80 : decode cX3_canTake 80 = .ok (.goto (-66), 3) := by decide +kernel
theorem dX3_canTake_83 : decode cX3_canTake 83 = .ok (.iload_n 3, 1) := by decide +kernel
theorem dX3_canTake_84 : decode cX3_canTake 84 = .ok (.iconst 0, 1) := by decide +kernel
theorem dX3_canTake_85 : decode cX3_canTake 85 = .ok (.sipush 999, 3) := by decide +kernel
theorem dX3_canTake_88 : decode cX3_canTake 88 = .ok (.invokestatic 32, 3) := by decide +kernel
theorem dX3_canTake_91 : decode cX3_canTake 91 = .ok (.ireturn, 1) := by decide +kernel
theorem dX3_writes_0 : decode cX3_writes 0 = .ok (.aload_n 0, 1) := by decide +kernel
theorem dX3_writes_1 : decode cX3_writes 1 = .ok (.getfield 7, 3) := by decide +kernel
theorem dX3_writes_4 : decode cX3_writes 4 = .ok (.bipush 107, 2) := by decide +kernel
theorem dX3_writes_6 : decode cX3_writes 6 = .ok (.bipush 16, 2) := by decide +kernel
theorem dX3_writes_8 : decode cX3_writes 8 = .ok (.iload_n 1, 1) := by decide +kernel
theorem dX3_writes_9 : decode cX3_writes 9 = .ok (.imul, 1) := by decide +kernel
theorem dX3_writes_10 : decode cX3_writes 10 = .ok (.iadd, 1) := by decide +kernel
theorem dX3_writes_11 : decode cX3_writes 11 = .ok (.aload_n 0, 1) := by decide +kernel
theorem dX3_writes_12 : decode cX3_writes 12 = .ok (.getfield 7, 3) := by decide +kernel
theorem dX3_writes_15 : decode cX3_writes 15 = .ok (.bipush 102, 2) := by decide +kernel
theorem dX3_writes_17 : decode cX3_writes 17 = .ok (.iload_n 1, 1) := by decide +kernel
theorem dX3_writes_18 : decode cX3_writes 18 = .ok (.iadd, 1) := by decide +kernel
theorem dX3_writes_19 : decode cX3_writes 19 = .ok (.iaload, 1) := by decide +kernel
theorem dX3_writes_20 : decode cX3_writes 20 = .ok (.iadd, 1) := by decide +kernel
theorem dX3_writes_21 : decode cX3_writes 21 = .ok (.bipush 8, 2) := by decide +kernel
theorem dX3_writes_23 : decode cX3_writes 23 = .ok (.iload_n 2, 1) := by decide +kernel
theorem dX3_writes_24 : decode cX3_writes 24 = .ok (.imul, 1) := by decide +kernel
theorem dX3_writes_25 : decode cX3_writes 25 = .ok (.iload_n 3, 1) := by decide +kernel
theorem dX3_writes_26 : decode cX3_writes 26 = .ok (.iadd, 1) := by decide +kernel
theorem dX3_writes_27 : decode cX3_writes 27 = .ok (.iastore, 1) := by decide +kernel
theorem dX3_writes_28 : decode cX3_writes 28 = .ok (.aload_n 0, 1) := by decide +kernel
theorem dX3_writes_29 : decode cX3_writes 29 = .ok (.getfield 7, 3) := by decide +kernel
theorem dX3_writes_32 : decode cX3_writes 32 = .ok (.bipush 102, 2) := by decide +kernel
theorem dX3_writes_34 : decode cX3_writes 34 = .ok (.iload_n 1, 1) := by decide +kernel
theorem dX3_writes_35 : decode cX3_writes 35 = .ok (.iadd, 1) := by decide +kernel
theorem dX3_writes_36 : decode cX3_writes 36 = .ok (.dup2, 1) := by decide +kernel
theorem dX3_writes_37 : decode cX3_writes 37 = .ok (.iaload, 1) := by decide +kernel
theorem dX3_writes_38 : decode cX3_writes 38 = .ok (.iconst 1, 1) := by decide +kernel
theorem dX3_writes_39 : decode cX3_writes 39 = .ok (.iadd, 1) := by decide +kernel
theorem dX3_writes_40 : decode cX3_writes 40 = .ok (.iastore, 1) := by decide +kernel
theorem dX3_writes_41 : decode cX3_writes 41 = .ok (.return_, 1) := by decide +kernel
theorem dX3_sends_0 : decode cX3_sends 0 = .ok (.aload_n 0, 1) := by decide +kernel
theorem dX3_sends_1 : decode cX3_sends 1 = .ok (.getfield 7, 3) := by decide +kernel
theorem dX3_sends_4 : decode cX3_sends 4 = .ok (.bipush 10, 2) := by decide +kernel
theorem dX3_sends_6 : decode cX3_sends 6 = .ok (.dup2, 1) := by decide +kernel
theorem dX3_sends_7 : decode cX3_sends 7 = .ok (.iaload, 1) := by decide +kernel
theorem dX3_sends_8 : decode cX3_sends 8 = .ok (.iconst 1, 1) := by decide +kernel
theorem dX3_sends_9 : decode cX3_sends 9 = .ok (.iadd, 1) := by decide +kernel
theorem dX3_sends_10 : decode cX3_sends 10 = .ok (.iastore, 1) := by decide +kernel
theorem dX3_sends_11 : decode cX3_sends 11 = .ok (.aload_n 0, 1) := by decide +kernel
theorem dX3_sends_12 : decode cX3_sends 12 = .ok (.getfield 7, 3) := by decide +kernel
theorem dX3_sends_15 : decode cX3_sends 15 = .ok (.bipush 13, 2) := by decide +kernel
theorem dX3_sends_17 : decode cX3_sends 17 = .ok (.iaload, 1) := by decide +kernel
theorem dX3_sends_18 : decode cX3_sends 18 = .ok (.bipush 60, 2) := by decide +kernel
theorem dX3_sends_20 : decode cX3_sends 20 = .ok (.if_icmp .ne 17, 3) := by decide +kernel
theorem dX3_sends_23 : decode cX3_sends 23 = .ok (.aload_n 0, 1) := by decide +kernel
theorem dX3_sends_24 : decode cX3_sends 24 = .ok (.getfield 7, 3) := by decide +kernel
theorem dX3_sends_27 : decode cX3_sends 27 = .ok (.bipush 12, 2) := by decide +kernel
theorem dX3_sends_29 : decode cX3_sends 29 = .ok (.dup2, 1) := by decide +kernel
theorem dX3_sends_30 : decode cX3_sends 30 = .ok (.iaload, 1) := by decide +kernel
theorem dX3_sends_31 : decode cX3_sends 31 = .ok (.iconst 1, 1) := by decide +kernel
theorem dX3_sends_32 : decode cX3_sends 32 = .ok (.iadd, 1) := by decide +kernel
theorem dX3_sends_33 : decode cX3_sends 33 = .ok (.iastore, 1) := by decide +kernel
theorem dX3_sends_34 : decode cX3_sends 34 = .ok (.goto 40, 3) := by decide +kernel
theorem dX3_sends_37 : decode cX3_sends 37 = .ok (.aload_n 0, 1) := by decide +kernel
theorem dX3_sends_38 : decode cX3_sends 38 = .ok (.getfield 7, 3) := by decide +kernel
theorem dX3_sends_41 : decode cX3_sends 41 = .ok (.sipush 195, 3) := by decide +kernel
theorem dX3_sends_44 : decode cX3_sends 44 = .ok (.aload_n 0, 1) := by decide +kernel
theorem dX3_sends_45 : decode cX3_sends 45 = .ok (.getfield 7, 3) := by decide +kernel
theorem dX3_sends_48 : decode cX3_sends 48 = .ok (.bipush 13, 2) := by decide +kernel
theorem dX3_sends_50 : decode cX3_sends 50 = .ok (.iaload, 1) := by decide +kernel
theorem dX3_sends_51 : decode cX3_sends 51 = .ok (.iadd, 1) := by decide +kernel
theorem dX3_sends_52 : decode cX3_sends 52 = .ok (.bipush 32, 2) := by decide +kernel
theorem dX3_sends_54 : decode cX3_sends 54 = .ok (.iload_n 1, 1) := by decide +kernel
theorem dX3_sends_55 : decode cX3_sends 55 = .ok (.imul, 1) := by decide +kernel
theorem dX3_sends_56 : decode cX3_sends 56 = .ok (.iconst 4, 1) := by decide +kernel
theorem dX3_sends_57 : decode cX3_sends 57 = .ok (.iload_n 2, 1) := by decide +kernel
theorem dX3_sends_58 : decode cX3_sends 58 = .ok (.imul, 1) := by decide +kernel
theorem dX3_sends_59 : decode cX3_sends 59 = .ok (.iadd, 1) := by decide +kernel
theorem dX3_sends_60 : decode cX3_sends 60 = .ok (.iload_n 3, 1) := by decide +kernel
theorem dX3_sends_61 : decode cX3_sends 61 = .ok (.iadd, 1) := by decide +kernel
theorem dX3_sends_62 : decode cX3_sends 62 = .ok (.iastore, 1) := by decide +kernel
theorem dX3_sends_63 : decode cX3_sends 63 = .ok (.aload_n 0, 1) := by decide +kernel
theorem dX3_sends_64 : decode cX3_sends 64 = .ok (.getfield 7, 3) := by decide +kernel
theorem dX3_sends_67 : decode cX3_sends 67 = .ok (.bipush 13, 2) := by decide +kernel
theorem dX3_sends_69 : decode cX3_sends 69 = .ok (.dup2, 1) := by decide +kernel
theorem dX3_sends_70 : decode cX3_sends 70 = .ok (.iaload, 1) := by decide +kernel
theorem dX3_sends_71 : decode cX3_sends 71 = .ok (.iconst 1, 1) := by decide +kernel
theorem dX3_sends_72 : decode cX3_sends 72 = .ok (.iadd, 1) := by decide +kernel
theorem dX3_sends_73 : decode cX3_sends 73 = .ok (.iastore, 1) := by decide +kernel
theorem dX3_sends_74 : decode cX3_sends 74 = .ok (.return_, 1) := by decide +kernel
theorem dX3_sendsAll_0 : decode cX3_sendsAll 0 = .ok (.iconst 0, 1) := by decide +kernel
theorem dX3_sendsAll_1 : decode cX3_sendsAll 1 = .ok (.istore_n 3, 1) := by decide +kernel
theorem dX3_sendsAll_2 : decode cX3_sendsAll 2 = .ok (.iload_n 3, 1) := by decide +kernel
theorem dX3_sendsAll_3 : decode cX3_sendsAll 3 = .ok (.iconst 4, 1) := by decide +kernel
theorem dX3_sendsAll_4 : decode cX3_sendsAll 4 = .ok (.if_icmp .ge 29, 3) := by decide +kernel
theorem dX3_sendsAll_7 : decode cX3_sendsAll 7 = .ok (.aload_n 0, 1) := by decide +kernel
theorem dX3_sendsAll_8 : decode cX3_sendsAll 8 = .ok (.iload_n 2, 1) := by decide +kernel
theorem dX3_sendsAll_9 : decode cX3_sendsAll 9 = .ok (.invokevirtual 57, 3) := by decide +kernel
theorem dX3_sendsAll_12 : decode cX3_sendsAll 12 = .ok (.iload_n 3, 1) := by decide +kernel
theorem dX3_sendsAll_13 : decode cX3_sendsAll 13 = .ok (.ishr, 1) := by decide +kernel
theorem dX3_sendsAll_14 : decode cX3_sendsAll 14 = .ok (.iconst 1, 1) := by decide +kernel
theorem dX3_sendsAll_15 : decode cX3_sendsAll 15 = .ok (.iand, 1) := by decide +kernel
theorem dX3_sendsAll_16 : decode cX3_sendsAll 16 = .ok (.iconst 1, 1) := by decide +kernel
theorem dX3_sendsAll_17 : decode cX3_sendsAll 17 = .ok (.if_icmp .ne 10, 3) := by decide +kernel
theorem dX3_sendsAll_20 : decode cX3_sendsAll 20 = .ok (.aload_n 0, 1) := by decide +kernel
theorem dX3_sendsAll_21 : decode cX3_sendsAll 21 = .ok (.iload_n 1, 1) := by decide +kernel
theorem dX3_sendsAll_22 : decode cX3_sendsAll 22 = .ok (.iload_n 2, 1) := by decide +kernel
theorem dX3_sendsAll_23 : decode cX3_sendsAll 23 = .ok (.iload_n 3, 1) := by decide +kernel
theorem dX3_sendsAll_24 : decode cX3_sendsAll 24 = .ok (.invokevirtual 60, 3) := by decide +kernel
theorem dX3_sendsAll_27 : decode cX3_sendsAll 27 = .ok (.iinc 3 1, 3) := by decide +kernel
theorem dX3_sendsAll_30 : decode cX3_sendsAll 30 = .ok (.goto (-28), 3) := by decide +kernel
theorem dX3_sendsAll_33 : decode cX3_sendsAll 33 = .ok (.return_, 1) := by decide +kernel
theorem dX3_decides_0 : decode cX3_decides 0 = .ok (.aload_n 0, 1) := by decide +kernel
theorem dX3_decides_1 : decode cX3_decides 1 = .ok (.iload_n 1, 1) := by decide +kernel
theorem dX3_decides_2 : decode cX3_decides 2 = .ok (.iconst 5, 1) := by decide +kernel
theorem dX3_decides_3 : decode cX3_decides 3 = .ok (.iload_n 2, 1) := by decide +kernel
theorem dX3_decides_4 : decode cX3_decides 4 = .ok (.invokevirtual 64, 3) := by decide +kernel
theorem dX3_decides_7 : decode cX3_decides 7 = .ok (.aload_n 0, 1) := by decide +kernel
theorem dX3_decides_8 : decode cX3_decides 8 = .ok (.iconst 4, 1) := by decide +kernel
theorem dX3_decides_9 : decode cX3_decides 9 = .ok (.iload_n 2, 1) := by decide +kernel
theorem dX3_decides_10 : decode cX3_decides 10 = .ok (.iload_n 1, 1) := by decide +kernel
theorem dX3_decides_11 : decode cX3_decides 11 = .ok (.invokevirtual 67, 3) := by decide +kernel
theorem dX3_decides_14 : decode cX3_decides 14 = .ok (.aload_n 0, 1) := by decide +kernel
theorem dX3_decides_15 : decode cX3_decides 15 = .ok (.iconst 2, 1) := by decide +kernel
theorem dX3_decides_16 : decode cX3_decides 16 = .ok (.iload_n 2, 1) := by decide +kernel
theorem dX3_decides_17 : decode cX3_decides 17 = .ok (.iadd, 1) := by decide +kernel
theorem dX3_decides_18 : decode cX3_decides 18 = .ok (.iload_n 1, 1) := by decide +kernel
theorem dX3_decides_19 : decode cX3_decides 19 = .ok (.invokevirtual 70, 3) := by decide +kernel
theorem dX3_decides_22 : decode cX3_decides 22 = .ok (.return_, 1) := by decide +kernel
theorem dX3_becomes_0 : decode cX3_becomes 0 = .ok (.aload_n 0, 1) := by decide +kernel
theorem dX3_becomes_1 : decode cX3_becomes 1 = .ok (.getfield 7, 3) := by decide +kernel
theorem dX3_becomes_4 : decode cX3_becomes 4 = .ok (.bipush 70, 2) := by decide +kernel
theorem dX3_becomes_6 : decode cX3_becomes 6 = .ok (.bipush 8, 2) := by decide +kernel
theorem dX3_becomes_8 : decode cX3_becomes 8 = .ok (.iload_n 1, 1) := by decide +kernel
theorem dX3_becomes_9 : decode cX3_becomes 9 = .ok (.imul, 1) := by decide +kernel
theorem dX3_becomes_10 : decode cX3_becomes 10 = .ok (.iadd, 1) := by decide +kernel
theorem dX3_becomes_11 : decode cX3_becomes 11 = .ok (.iload_n 2, 1) := by decide +kernel
theorem dX3_becomes_12 : decode cX3_becomes 12 = .ok (.iadd, 1) := by decide +kernel
theorem dX3_becomes_13 : decode cX3_becomes 13 = .ok (.iload_n 3, 1) := by decide +kernel
theorem dX3_becomes_14 : decode cX3_becomes 14 = .ok (.iastore, 1) := by decide +kernel
theorem dX3_becomes_15 : decode cX3_becomes 15 = .ok (.aload_n 0, 1) := by decide +kernel
theorem dX3_becomes_16 : decode cX3_becomes 16 = .ok (.iload_n 1, 1) := by decide +kernel
theorem dX3_becomes_17 : decode cX3_becomes 17 = .ok (.iload_n 3, 1) := by decide +kernel
theorem dX3_becomes_18 : decode cX3_becomes 18 = .ok (.iconst 1, 1) := by decide +kernel
theorem dX3_becomes_19 : decode cX3_becomes 19 = .ok (.if_icmp .ne 7, 3) := by decide +kernel
theorem dX3_becomes_22 : decode cX3_becomes 22 = .ok (.iconst 4, 1) := by decide +kernel
theorem dX3_becomes_23 : decode cX3_becomes 23 = .ok (.goto 6, 3) := by decide +kernel
theorem dX3_becomes_26 : decode cX3_becomes 26 = .ok (.iload_n 3, 1) := by decide +kernel
theorem dX3_becomes_27 : decode cX3_becomes 27 = .ok (.iconst 1, 1) := by decide +kernel
theorem dX3_becomes_28 : decode cX3_becomes 28 = .ok (.isub, 1) := by decide +kernel
theorem dX3_becomes_29 : decode cX3_becomes 29 = .ok (.iload_n 2, 1) := by decide +kernel
theorem dX3_becomes_30 : decode cX3_becomes 30 = .ok (.invokevirtual 67, 3) := by decide +kernel
theorem dX3_becomes_33 : decode cX3_becomes 33 = .ok (.aload_n 0, 1) := by decide +kernel
theorem dX3_becomes_34 : decode cX3_becomes 34 = .ok (.getfield 7, 3) := by decide +kernel
theorem dX3_becomes_37 : decode cX3_becomes 37 = .ok (.iconst 5, 1) := by decide +kernel
theorem dX3_becomes_38 : decode cX3_becomes 38 = .ok (.iload_n 1, 1) := by decide +kernel
theorem dX3_becomes_39 : decode cX3_becomes 39 = .ok (.iadd, 1) := by decide +kernel
theorem dX3_becomes_40 : decode cX3_becomes 40 = .ok (.dup2, 1) := by decide +kernel
theorem dX3_becomes_41 : decode cX3_becomes 41 = .ok (.iaload, 1) := by decide +kernel
theorem dX3_becomes_42 : decode cX3_becomes 42 = .ok (.iload_n 3, 1) := by decide +kernel
theorem dX3_becomes_43 : decode cX3_becomes 43 = .ok (.iconst 2, 1) := by decide +kernel
theorem dX3_becomes_44 : decode cX3_becomes 44 = .ok (.if_icmp .ne 12, 3) := by decide +kernel
theorem dX3_becomes_47 : decode cX3_becomes 47 = .ok (.aload_n 0, 1) := by decide +kernel
theorem dX3_becomes_48 : decode cX3_becomes 48 = .ok (.iload_n 2, 1) := by decide +kernel
theorem dX3_becomes_49 : decode cX3_becomes 49 = .ok (.iload_n 1, 1) := by decide +kernel
theorem dX3_becomes_50 : decode cX3_becomes 50 = .ok (.invokevirtual 54, 3) := by decide +kernel
theorem dX3_becomes_53 : decode cX3_becomes 53 = .ok (.goto 4, 3) := by decide +kernel
theorem dX3_becomes_56 : decode cX3_becomes 56 = .ok (.iconst 0, 1) := by decide +kernel
theorem dX3_becomes_57 : decode cX3_becomes 57 = .ok (.iadd, 1) := by decide +kernel
theorem dX3_becomes_58 : decode cX3_becomes 58 = .ok (.iastore, 1) := by decide +kernel
theorem dX3_becomes_59 : decode cX3_becomes 59 = .ok (.return_, 1) := by decide +kernel
theorem dX3_atStore_0 : decode cX3_atStore 0 = .ok (.aload_n 0, 1) := by decide +kernel
theorem dX3_atStore_1 : decode cX3_atStore 1 = .ok (.iload_n 3, 1) := by decide +kernel
theorem dX3_atStore_2 : decode cX3_atStore 2 = .ok (.iload_n 2, 1) := by decide +kernel
theorem dX3_atStore_3 : decode cX3_atStore 3 = .ok (.invokevirtual 51, 3) := by decide +kernel
theorem dX3_atStore_6 : decode cX3_atStore 6 = .ok (.istore 4, 2) := by decide +kernel
theorem dX3_atStore_8 : decode cX3_atStore 8 = .ok (.iload_n 1, 1) := by decide +kernel
theorem dX3_atStore_9 : decode cX3_atStore 9 = .ok (.ifCond .ne 57, 3) := by decide +kernel
theorem dX3_atStore_12 : decode cX3_atStore 12 = .ok (.iload 4, 2) := by decide +kernel
theorem dX3_atStore_14 : decode cX3_atStore 14 = .ok (.ifCond .ne 32, 3) := by decide +kernel
theorem dX3_atStore_17 : decode cX3_atStore 17 = .ok (.aload_n 0, 1) := by decide +kernel
theorem dX3_atStore_18 : decode cX3_atStore 18 = .ok (.iload_n 3, 1) := by decide +kernel
theorem dX3_atStore_19 : decode cX3_atStore 19 = .ok (.aload_n 0, 1) := by decide +kernel
theorem dX3_atStore_20 : decode cX3_atStore 20 = .ok (.iload_n 2, 1) := by decide +kernel
theorem dX3_atStore_21 : decode cX3_atStore 21 = .ok (.iload_n 3, 1) := by decide +kernel
theorem dX3_atStore_22 : decode cX3_atStore 22 = .ok (.invokevirtual 54, 3) := by decide +kernel
theorem dX3_atStore_25 : decode cX3_atStore 25 = .ok (.invokevirtual 74, 3) := by decide +kernel
theorem dX3_atStore_28 : decode cX3_atStore 28 = .ok (.ifCond .eq 7, 3) := by decide +kernel
theorem dX3_atStore_31 : decode cX3_atStore 31 = .ok (.iconst 1, 1) := by decide +kernel
theorem dX3_atStore_32 : decode cX3_atStore 32 = .ok (.goto 4, 3) := by decide +kernel
theorem dX3_atStore_35 : decode cX3_atStore 35 = .ok (.iconst 3, 1) := by decide +kernel
theorem dX3_atStore_36 : decode cX3_atStore 36 = .ok (.istore 4, 2) := by decide +kernel
theorem dX3_atStore_38 : decode cX3_atStore 38 = .ok (.aload_n 0, 1) := by decide +kernel
theorem dX3_atStore_39 : decode cX3_atStore 39 = .ok (.iload_n 3, 1) := by decide +kernel
theorem dX3_atStore_40 : decode cX3_atStore 40 = .ok (.iload_n 2, 1) := by decide +kernel
theorem dX3_atStore_41 : decode cX3_atStore 41 = .ok (.iload 4, 2) := by decide +kernel
theorem dX3_atStore_43 : decode cX3_atStore 43 = .ok (.invokevirtual 78, 3) := by decide +kernel
theorem dX3_atStore_46 : decode cX3_atStore 46 = .ok (.aload_n 0, 1) := by decide +kernel
theorem dX3_atStore_47 : decode cX3_atStore 47 = .ok (.iload 4, 2) := by decide +kernel
theorem dX3_atStore_49 : decode cX3_atStore 49 = .ok (.iconst 3, 1) := by decide +kernel
theorem dX3_atStore_50 : decode cX3_atStore 50 = .ok (.if_icmp .ne 7, 3) := by decide +kernel
theorem dX3_atStore_53 : decode cX3_atStore 53 = .ok (.iconst 2, 1) := by decide +kernel
theorem dX3_atStore_54 : decode cX3_atStore 54 = .ok (.goto 4, 3) := by decide +kernel
theorem dX3_atStore_57 : decode cX3_atStore 57 = .ok (.iconst 1, 1) := by decide +kernel
theorem dX3_atStore_58 : decode cX3_atStore 58 = .ok (.iload_n 2, 1) := by decide +kernel
theorem dX3_atStore_59 : decode cX3_atStore 59 = .ok (.iload_n 3, 1) := by decide +kernel
theorem dX3_atStore_60 : decode cX3_atStore 60 = .ok (.invokevirtual 60, 3) := by decide +kernel
theorem dX3_atStore_63 : decode cX3_atStore 63 = .ok (.goto 69, 3) := by decide +kernel
theorem dX3_atStore_66 : decode cX3_atStore 66 = .ok (.iload_n 1, 1) := by decide +kernel
theorem dX3_atStore_67 : decode cX3_atStore 67 = .ok (.iconst 3, 1) := by decide +kernel
theorem dX3_atStore_68 : decode cX3_atStore 68 = .ok (.if_icmp .ne 38, 3) := by decide +kernel
theorem dX3_atStore_71 : decode cX3_atStore 71 = .ok (.iload 4, 2) := by decide +kernel
theorem dX3_atStore_73 : decode cX3_atStore 73 = .ok (.iconst 1, 1) := by decide +kernel
theorem dX3_atStore_74 : decode cX3_atStore 74 = .ok (.if_icmp .ne 10, 3) := by decide +kernel
theorem dX3_atStore_77 : decode cX3_atStore 77 = .ok (.aload_n 0, 1) := by decide +kernel
theorem dX3_atStore_78 : decode cX3_atStore 78 = .ok (.iload_n 3, 1) := by decide +kernel
theorem dX3_atStore_79 : decode cX3_atStore 79 = .ok (.iload_n 2, 1) := by decide +kernel
theorem dX3_atStore_80 : decode cX3_atStore 80 = .ok (.iconst 2, 1) := by decide +kernel
theorem dX3_atStore_81 : decode cX3_atStore 81 = .ok (.invokevirtual 78, 3) := by decide +kernel
theorem dX3_atStore_84 : decode cX3_atStore 84 = .ok (.iload 4, 2) := by decide +kernel
theorem dX3_atStore_86 : decode cX3_atStore 86 = .ok (.iconst 1, 1) := by decide +kernel
theorem dX3_atStore_87 : decode cX3_atStore 87 = .ok (.if_icmp .eq 9, 3) := by decide +kernel
theorem dX3_atStore_90 : decode cX3_atStore 90 = .ok (.iload 4, 2) := by decide +kernel
theorem dX3_atStore_92 : decode cX3_atStore 92 = .ok (.iconst 2, 1) := by decide +kernel
theorem dX3_atStore_93 : decode cX3_atStore 93 = .ok (.if_icmp .ne 39, 3) := by decide +kernel
theorem dX3_atStore_96 : decode cX3_atStore 96 = .ok (.aload_n 0, 1) := by decide +kernel
theorem dX3_atStore_97 : decode cX3_atStore 97 = .ok (.iconst 5, 1) := by decide +kernel
theorem dX3_atStore_98 : decode cX3_atStore 98 = .ok (.iload_n 2, 1) := by decide +kernel
theorem dX3_atStore_99 : decode cX3_atStore 99 = .ok (.iload_n 3, 1) := by decide +kernel
theorem dX3_atStore_100 : decode cX3_atStore 100 = .ok (.invokevirtual 60, 3) := by decide +kernel
theorem dX3_atStore_103 : decode cX3_atStore 103 = .ok (.goto 29, 3) := by decide +kernel
theorem dX3_atStore_106 : decode cX3_atStore 106 = .ok (.iload 4, 2) := by decide +kernel
theorem dX3_atStore_108 : decode cX3_atStore 108 = .ok (.iconst 2, 1) := by decide +kernel
theorem dX3_atStore_109 : decode cX3_atStore 109 = .ok (.if_icmp .ge 10, 3) := by decide +kernel
theorem dX3_atStore_112 : decode cX3_atStore 112 = .ok (.aload_n 0, 1) := by decide +kernel
theorem dX3_atStore_113 : decode cX3_atStore 113 = .ok (.iload_n 3, 1) := by decide +kernel
theorem dX3_atStore_114 : decode cX3_atStore 114 = .ok (.iload_n 2, 1) := by decide +kernel
theorem dX3_atStore_115 : decode cX3_atStore 115 = .ok (.iconst 3, 1) := by decide +kernel
theorem dX3_atStore_116 : decode cX3_atStore 116 = .ok (.invokevirtual 78, 3) := by decide +kernel
theorem dX3_atStore_119 : decode cX3_atStore 119 = .ok (.iload 4, 2) := by decide +kernel
theorem dX3_atStore_121 : decode cX3_atStore 121 = .ok (.iconst 2, 1) := by decide +kernel
theorem dX3_atStore_122 : decode cX3_atStore 122 = .ok (.if_icmp .eq 10, 3) := by decide +kernel
theorem dX3_atStore_125 : decode cX3_atStore 125 = .ok (.aload_n 0, 1) := by decide +kernel
theorem dX3_atStore_126 : decode cX3_atStore 126 = .ok (.iconst 5, 1) := by decide +kernel
theorem dX3_atStore_127 : decode cX3_atStore 127 = .ok (.iload_n 2, 1) := by decide +kernel
theorem dX3_atStore_128 : decode cX3_atStore 128 = .ok (.iload_n 3, 1) := by decide +kernel
theorem dX3_atStore_129 : decode cX3_atStore 129 = .ok (.invokevirtual 60, 3) := by decide +kernel
theorem dX3_atStore_132 : decode cX3_atStore 132 = .ok (.return_, 1) := by decide +kernel
theorem dX3_atClerk_0 : decode cX3_atClerk 0 = .ok (.aload_n 0, 1) := by decide +kernel
theorem dX3_atClerk_1 : decode cX3_atClerk 1 = .ok (.iload_n 2, 1) := by decide +kernel
theorem dX3_atClerk_2 : decode cX3_atClerk 2 = .ok (.iconst 5, 1) := by decide +kernel
theorem dX3_atClerk_3 : decode cX3_atClerk 3 = .ok (.invokevirtual 39, 3) := by decide +kernel
theorem dX3_atClerk_6 : decode cX3_atClerk 6 = .ok (.ifCond .ne 7, 3) := by decide +kernel
theorem dX3_atClerk_9 : decode cX3_atClerk 9 = .ok (.iconst 1, 1) := by decide +kernel
theorem dX3_atClerk_10 : decode cX3_atClerk 10 = .ok (.goto 4, 3) := by decide +kernel
theorem dX3_atClerk_13 : decode cX3_atClerk 13 = .ok (.iconst 0, 1) := by decide +kernel
theorem dX3_atClerk_14 : decode cX3_atClerk 14 = .ok (.istore 4, 2) := by decide +kernel
theorem dX3_atClerk_16 : decode cX3_atClerk 16 = .ok (.iload_n 1, 1) := by decide +kernel
theorem dX3_atClerk_17 : decode cX3_atClerk 17 = .ok (.iconst 1, 1) := by decide +kernel
theorem dX3_atClerk_18 : decode cX3_atClerk 18 = .ok (.if_icmp .ne 47, 3) := by decide +kernel
theorem dX3_atClerk_21 : decode cX3_atClerk 21 = .ok (.iload 4, 2) := by decide +kernel
theorem dX3_atClerk_23 : decode cX3_atClerk 23 = .ok (.ifCond .eq 42, 3) := by decide +kernel
theorem dX3_atClerk_26 : decode cX3_atClerk 26 = .ok (.aload_n 0, 1) := by decide +kernel
theorem dX3_atClerk_27 : decode cX3_atClerk 27 = .ok (.iload_n 2, 1) := by decide +kernel
theorem dX3_atClerk_28 : decode cX3_atClerk 28 = .ok (.iconst 3, 1) := by decide +kernel
theorem dX3_atClerk_29 : decode cX3_atClerk 29 = .ok (.aload_n 0, 1) := by decide +kernel
theorem dX3_atClerk_30 : decode cX3_atClerk 30 = .ok (.iload_n 2, 1) := by decide +kernel
theorem dX3_atClerk_31 : decode cX3_atClerk 31 = .ok (.iconst 3, 1) := by decide +kernel
theorem dX3_atClerk_32 : decode cX3_atClerk 32 = .ok (.invokevirtual 39, 3) := by decide +kernel
theorem dX3_atClerk_35 : decode cX3_atClerk 35 = .ok (.iconst 1, 1) := by decide +kernel
theorem dX3_atClerk_36 : decode cX3_atClerk 36 = .ok (.iload_n 3, 1) := by decide +kernel
theorem dX3_atClerk_37 : decode cX3_atClerk 37 = .ok (.ishl, 1) := by decide +kernel
theorem dX3_atClerk_38 : decode cX3_atClerk 38 = .ok (.ior, 1) := by decide +kernel
theorem dX3_atClerk_39 : decode cX3_atClerk 39 = .ok (.invokevirtual 64, 3) := by decide +kernel
theorem dX3_atClerk_42 : decode cX3_atClerk 42 = .ok (.aload_n 0, 1) := by decide +kernel
theorem dX3_atClerk_43 : decode cX3_atClerk 43 = .ok (.iload_n 2, 1) := by decide +kernel
theorem dX3_atClerk_44 : decode cX3_atClerk 44 = .ok (.iconst 3, 1) := by decide +kernel
theorem dX3_atClerk_45 : decode cX3_atClerk 45 = .ok (.invokevirtual 39, 3) := by decide +kernel
theorem dX3_atClerk_48 : decode cX3_atClerk 48 = .ok (.aload_n 0, 1) := by decide +kernel
theorem dX3_atClerk_49 : decode cX3_atClerk 49 = .ok (.iload_n 2, 1) := by decide +kernel
theorem dX3_atClerk_50 : decode cX3_atClerk 50 = .ok (.invokevirtual 57, 3) := by decide +kernel
theorem dX3_atClerk_53 : decode cX3_atClerk 53 = .ok (.if_icmp .ne 119, 3) := by decide +kernel
theorem dX3_atClerk_56 : decode cX3_atClerk 56 = .ok (.aload_n 0, 1) := by decide +kernel
theorem dX3_atClerk_57 : decode cX3_atClerk 57 = .ok (.iload_n 2, 1) := by decide +kernel
theorem dX3_atClerk_58 : decode cX3_atClerk 58 = .ok (.iconst 1, 1) := by decide +kernel
theorem dX3_atClerk_59 : decode cX3_atClerk 59 = .ok (.invokevirtual 81, 3) := by decide +kernel
theorem dX3_atClerk_62 : decode cX3_atClerk 62 = .ok (.goto 110, 3) := by decide +kernel
theorem dX3_atClerk_65 : decode cX3_atClerk 65 = .ok (.iload_n 1, 1) := by decide +kernel
theorem dX3_atClerk_66 : decode cX3_atClerk 66 = .ok (.iconst 2, 1) := by decide +kernel
theorem dX3_atClerk_67 : decode cX3_atClerk 67 = .ok (.if_icmp .ne 17, 3) := by decide +kernel
theorem dX3_atClerk_70 : decode cX3_atClerk 70 = .ok (.iload 4, 2) := by decide +kernel
theorem dX3_atClerk_72 : decode cX3_atClerk 72 = .ok (.ifCond .eq 12, 3) := by decide +kernel
theorem dX3_atClerk_75 : decode cX3_atClerk 75 = .ok (.aload_n 0, 1) := by decide +kernel
theorem dX3_atClerk_76 : decode cX3_atClerk 76 = .ok (.iload_n 2, 1) := by decide +kernel
theorem dX3_atClerk_77 : decode cX3_atClerk 77 = .ok (.iconst 2, 1) := by decide +kernel
theorem dX3_atClerk_78 : decode cX3_atClerk 78 = .ok (.invokevirtual 81, 3) := by decide +kernel
theorem dX3_atClerk_81 : decode cX3_atClerk 81 = .ok (.goto 91, 3) := by decide +kernel
theorem dX3_atClerk_84 : decode cX3_atClerk 84 = .ok (.iload_n 1, 1) := by decide +kernel
theorem dX3_atClerk_85 : decode cX3_atClerk 85 = .ok (.iconst 5, 1) := by decide +kernel
theorem dX3_atClerk_86 : decode cX3_atClerk 86 = .ok (.if_icmp .ne 61, 3) := by decide +kernel
theorem dX3_atClerk_89 : decode cX3_atClerk 89 = .ok (.aload_n 0, 1) := by decide +kernel
theorem dX3_atClerk_90 : decode cX3_atClerk 90 = .ok (.iload_n 2, 1) := by decide +kernel
theorem dX3_atClerk_91 : decode cX3_atClerk 91 = .ok (.iconst 4, 1) := by decide +kernel
theorem dX3_atClerk_92 : decode cX3_atClerk 92 = .ok (.aload_n 0, 1) := by decide +kernel
theorem dX3_atClerk_93 : decode cX3_atClerk 93 = .ok (.iload_n 2, 1) := by decide +kernel
theorem dX3_atClerk_94 : decode cX3_atClerk 94 = .ok (.iconst 4, 1) := by decide +kernel
theorem dX3_atClerk_95 : decode cX3_atClerk 95 = .ok (.invokevirtual 39, 3) := by decide +kernel
theorem dX3_atClerk_98 : decode cX3_atClerk 98 = .ok (.iconst 1, 1) := by decide +kernel
theorem dX3_atClerk_99 : decode cX3_atClerk 99 = .ok (.iload_n 3, 1) := by decide +kernel
theorem dX3_atClerk_100 : decode cX3_atClerk 100 = .ok (.ishl, 1) := by decide +kernel
theorem dX3_atClerk_101 : decode cX3_atClerk 101 = .ok (.ior, 1) := by decide +kernel
theorem dX3_atClerk_102 : decode cX3_atClerk 102 = .ok (.invokevirtual 64, 3) := by decide +kernel
theorem dX3_atClerk_105 : decode cX3_atClerk 105 = .ok (.aload_n 0, 1) := by decide +kernel
theorem dX3_atClerk_106 : decode cX3_atClerk 106 = .ok (.iload_n 2, 1) := by decide +kernel
theorem dX3_atClerk_107 : decode cX3_atClerk 107 = .ok (.iconst 4, 1) := by decide +kernel
theorem dX3_atClerk_108 : decode cX3_atClerk 108 = .ok (.invokevirtual 39, 3) := by decide +kernel
theorem dX3_atClerk_111 : decode cX3_atClerk 111 = .ok (.aload_n 0, 1) := by decide +kernel
theorem dX3_atClerk_112 : decode cX3_atClerk 112 = .ok (.iload_n 2, 1) := by decide +kernel
theorem dX3_atClerk_113 : decode cX3_atClerk 113 = .ok (.invokevirtual 57, 3) := by decide +kernel
theorem dX3_atClerk_116 : decode cX3_atClerk 116 = .ok (.if_icmp .ne 56, 3) := by decide +kernel
theorem dX3_atClerk_119 : decode cX3_atClerk 119 = .ok (.aload_n 0, 1) := by decide +kernel
theorem dX3_atClerk_120 : decode cX3_atClerk 120 = .ok (.iload_n 2, 1) := by decide +kernel
theorem dX3_atClerk_121 : decode cX3_atClerk 121 = .ok (.bipush 6, 2) := by decide +kernel
theorem dX3_atClerk_123 : decode cX3_atClerk 123 = .ok (.invokevirtual 39, 3) := by decide +kernel
theorem dX3_atClerk_126 : decode cX3_atClerk 126 = .ok (.ifCond .ne 46, 3) := by decide +kernel
theorem dX3_atClerk_129 : decode cX3_atClerk 129 = .ok (.aload_n 0, 1) := by decide +kernel
theorem dX3_atClerk_130 : decode cX3_atClerk 130 = .ok (.iload_n 2, 1) := by decide +kernel
theorem dX3_atClerk_131 : decode cX3_atClerk 131 = .ok (.bipush 6, 2) := by decide +kernel
theorem dX3_atClerk_133 : decode cX3_atClerk 133 = .ok (.iconst 1, 1) := by decide +kernel
theorem dX3_atClerk_134 : decode cX3_atClerk 134 = .ok (.invokevirtual 64, 3) := by decide +kernel
theorem dX3_atClerk_137 : decode cX3_atClerk 137 = .ok (.aload_n 0, 1) := by decide +kernel
theorem dX3_atClerk_138 : decode cX3_atClerk 138 = .ok (.iconst 4, 1) := by decide +kernel
theorem dX3_atClerk_139 : decode cX3_atClerk 139 = .ok (.iconst 3, 1) := by decide +kernel
theorem dX3_atClerk_140 : decode cX3_atClerk 140 = .ok (.iload_n 2, 1) := by decide +kernel
theorem dX3_atClerk_141 : decode cX3_atClerk 141 = .ok (.invokevirtual 67, 3) := by decide +kernel
theorem dX3_atClerk_144 : decode cX3_atClerk 144 = .ok (.goto 28, 3) := by decide +kernel
theorem dX3_atClerk_147 : decode cX3_atClerk 147 = .ok (.iload_n 1, 1) := by decide +kernel
theorem dX3_atClerk_148 : decode cX3_atClerk 148 = .ok (.bipush 6, 2) := by decide +kernel
theorem dX3_atClerk_150 : decode cX3_atClerk 150 = .ok (.if_icmp .ne 22, 3) := by decide +kernel
theorem dX3_atClerk_153 : decode cX3_atClerk 153 = .ok (.iload 4, 2) := by decide +kernel
theorem dX3_atClerk_155 : decode cX3_atClerk 155 = .ok (.ifCond .ne 17, 3) := by decide +kernel
theorem dX3_atClerk_158 : decode cX3_atClerk 158 = .ok (.aload_n 0, 1) := by decide +kernel
theorem dX3_atClerk_159 : decode cX3_atClerk 159 = .ok (.iconst 2, 1) := by decide +kernel
theorem dX3_atClerk_160 : decode cX3_atClerk 160 = .ok (.aload_n 0, 1) := by decide +kernel
theorem dX3_atClerk_161 : decode cX3_atClerk 161 = .ok (.iload_n 2, 1) := by decide +kernel
theorem dX3_atClerk_162 : decode cX3_atClerk 162 = .ok (.iconst 5, 1) := by decide +kernel
theorem dX3_atClerk_163 : decode cX3_atClerk 163 = .ok (.invokevirtual 39, 3) := by decide +kernel
theorem dX3_atClerk_166 : decode cX3_atClerk 166 = .ok (.iadd, 1) := by decide +kernel
theorem dX3_atClerk_167 : decode cX3_atClerk 167 = .ok (.iload_n 2, 1) := by decide +kernel
theorem dX3_atClerk_168 : decode cX3_atClerk 168 = .ok (.iload_n 3, 1) := by decide +kernel
theorem dX3_atClerk_169 : decode cX3_atClerk 169 = .ok (.invokevirtual 60, 3) := by decide +kernel
theorem dX3_atClerk_172 : decode cX3_atClerk 172 = .ok (.return_, 1) := by decide +kernel
theorem dX3_goesToStore_0 : decode cX3_goesToStore 0 = .ok (.iload_n 0, 1) := by decide +kernel
theorem dX3_goesToStore_1 : decode cX3_goesToStore 1 = .ok (.ifCond .eq 13, 3) := by decide +kernel
theorem dX3_goesToStore_4 : decode cX3_goesToStore 4 = .ok (.iload_n 0, 1) := by decide +kernel
theorem dX3_goesToStore_5 : decode cX3_goesToStore 5 = .ok (.iconst 3, 1) := by decide +kernel
theorem dX3_goesToStore_6 : decode cX3_goesToStore 6 = .ok (.if_icmp .eq 8, 3) := by decide +kernel
theorem dX3_goesToStore_9 : decode cX3_goesToStore 9 = .ok (.iload_n 0, 1) := by decide +kernel
theorem dX3_goesToStore_10 : decode cX3_goesToStore 10 = .ok (.iconst 4, 1) := by decide +kernel
theorem dX3_goesToStore_11 : decode cX3_goesToStore 11 = .ok (.if_icmp .ne 7, 3) := by decide +kernel
theorem dX3_goesToStore_14 : decode cX3_goesToStore 14 = .ok (.iconst 1, 1) := by decide +kernel
theorem dX3_goesToStore_15 : decode cX3_goesToStore 15 = .ok (.goto 4, 3) := by decide +kernel
theorem dX3_goesToStore_18 : decode cX3_goesToStore 18 = .ok (.iconst 0, 1) := by decide +kernel
theorem dX3_goesToStore_19 : decode cX3_goesToStore 19 = .ok (.ireturn, 1) := by decide +kernel
theorem dX3_isUpFor_0 : decode cX3_isUpFor 0 = .ok (.aload_n 0, 1) := by decide +kernel
theorem dX3_isUpFor_1 : decode cX3_isUpFor 1 = .ok (.getfield 7, 3) := by decide +kernel
theorem dX3_isUpFor_4 : decode cX3_isUpFor 4 = .ok (.sipush 195, 3) := by decide +kernel
theorem dX3_isUpFor_7 : decode cX3_isUpFor 7 = .ok (.iload_n 1, 1) := by decide +kernel
theorem dX3_isUpFor_8 : decode cX3_isUpFor 8 = .ok (.iadd, 1) := by decide +kernel
theorem dX3_isUpFor_9 : decode cX3_isUpFor 9 = .ok (.iaload, 1) := by decide +kernel
theorem dX3_isUpFor_10 : decode cX3_isUpFor 10 = .ok (.istore_n 2, 1) := by decide +kernel
theorem dX3_isUpFor_11 : decode cX3_isUpFor 11 = .ok (.aload_n 0, 1) := by decide +kernel
theorem dX3_isUpFor_12 : decode cX3_isUpFor 12 = .ok (.getfield 7, 3) := by decide +kernel
theorem dX3_isUpFor_15 : decode cX3_isUpFor 15 = .ok (.iconst 0, 1) := by decide +kernel
theorem dX3_isUpFor_16 : decode cX3_isUpFor 16 = .ok (.iload_n 2, 1) := by decide +kernel
theorem dX3_isUpFor_17 : decode cX3_isUpFor 17 = .ok (.bipush 32, 2) := by decide +kernel
theorem dX3_isUpFor_19 : decode cX3_isUpFor 19 = .ok (.idiv, 1) := by decide +kernel
theorem dX3_isUpFor_20 : decode cX3_isUpFor 20 = .ok (.invokestatic 84, 3) := by decide +kernel
theorem dX3_isUpFor_23 : decode cX3_isUpFor 23 = .ok (.ifCond .eq 9, 3) := by decide +kernel
theorem dX3_isUpFor_26 : decode cX3_isUpFor 26 = .ok (.iload_n 2, 1) := by decide +kernel
theorem dX3_isUpFor_27 : decode cX3_isUpFor 27 = .ok (.iconst 4, 1) := by decide +kernel
theorem dX3_isUpFor_28 : decode cX3_isUpFor 28 = .ok (.irem, 1) := by decide +kernel
theorem dX3_isUpFor_29 : decode cX3_isUpFor 29 = .ok (.goto 4, 3) := by decide +kernel
theorem dX3_isUpFor_32 : decode cX3_isUpFor 32 = .ok (.iconst 4, 1) := by decide +kernel
theorem dX3_isUpFor_33 : decode cX3_isUpFor 33 = .ok (.iadd, 1) := by decide +kernel
theorem dX3_isUpFor_34 : decode cX3_isUpFor 34 = .ok (.iaload, 1) := by decide +kernel
theorem dX3_isUpFor_35 : decode cX3_isUpFor 35 = .ok (.iconst 1, 1) := by decide +kernel
theorem dX3_isUpFor_36 : decode cX3_isUpFor 36 = .ok (.if_icmp .ne 7, 3) := by decide +kernel
theorem dX3_isUpFor_39 : decode cX3_isUpFor 39 = .ok (.iconst 1, 1) := by decide +kernel
theorem dX3_isUpFor_40 : decode cX3_isUpFor 40 = .ok (.goto 4, 3) := by decide +kernel
theorem dX3_isUpFor_43 : decode cX3_isUpFor 43 = .ok (.iconst 0, 1) := by decide +kernel
theorem dX3_isUpFor_44 : decode cX3_isUpFor 44 = .ok (.ireturn, 1) := by decide +kernel
theorem dX3_takes_0 : decode cX3_takes 0 = .ok (.aload_n 0, 1) := by decide +kernel
theorem dX3_takes_1 : decode cX3_takes 1 = .ok (.getfield 7, 3) := by decide +kernel
theorem dX3_takes_4 : decode cX3_takes 4 = .ok (.sipush 195, 3) := by decide +kernel
theorem dX3_takes_7 : decode cX3_takes 7 = .ok (.iload_n 1, 1) := by decide +kernel
theorem dX3_takes_8 : decode cX3_takes 8 = .ok (.iadd, 1) := by decide +kernel
theorem dX3_takes_9 : decode cX3_takes 9 = .ok (.iaload, 1) := by decide +kernel
theorem dX3_takes_10 : decode cX3_takes 10 = .ok (.istore_n 2, 1) := by decide +kernel
theorem dX3_takes_11 : decode cX3_takes 11 = .ok (.aload_n 0, 1) := by decide +kernel
theorem dX3_takes_12 : decode cX3_takes 12 = .ok (.getfield 7, 3) := by decide +kernel
theorem dX3_takes_15 : decode cX3_takes 15 = .ok (.bipush 13, 2) := by decide +kernel
theorem dX3_takes_17 : decode cX3_takes 17 = .ok (.dup2, 1) := by decide +kernel
theorem dX3_takes_18 : decode cX3_takes 18 = .ok (.iaload, 1) := by decide +kernel
theorem dX3_takes_19 : decode cX3_takes 19 = .ok (.iconst 1, 1) := by decide +kernel
theorem dX3_takes_20 : decode cX3_takes 20 = .ok (.isub, 1) := by decide +kernel
theorem dX3_takes_21 : decode cX3_takes 21 = .ok (.iastore, 1) := by decide +kernel
theorem dX3_takes_22 : decode cX3_takes 22 = .ok (.iload_n 1, 1) := by decide +kernel
theorem dX3_takes_23 : decode cX3_takes 23 = .ok (.istore_n 3, 1) := by decide +kernel
theorem dX3_takes_24 : decode cX3_takes 24 = .ok (.iload_n 3, 1) := by decide +kernel
theorem dX3_takes_25 : decode cX3_takes 25 = .ok (.aload_n 0, 1) := by decide +kernel
theorem dX3_takes_26 : decode cX3_takes 26 = .ok (.getfield 7, 3) := by decide +kernel
theorem dX3_takes_29 : decode cX3_takes 29 = .ok (.bipush 13, 2) := by decide +kernel
theorem dX3_takes_31 : decode cX3_takes 31 = .ok (.iaload, 1) := by decide +kernel
theorem dX3_takes_32 : decode cX3_takes 32 = .ok (.if_icmp .ge 31, 3) := by decide +kernel
theorem dX3_takes_35 : decode cX3_takes 35 = .ok (.aload_n 0, 1) := by decide +kernel
theorem dX3_takes_36 : decode cX3_takes 36 = .ok (.getfield 7, 3) := by decide +kernel
theorem dX3_takes_39 : decode cX3_takes 39 = .ok (.sipush 195, 3) := by decide +kernel
theorem dX3_takes_42 : decode cX3_takes 42 = .ok (.iload_n 3, 1) := by decide +kernel
theorem dX3_takes_43 : decode cX3_takes 43 = .ok (.iadd, 1) := by decide +kernel
theorem dX3_takes_44 : decode cX3_takes 44 = .ok (.aload_n 0, 1) := by decide +kernel
theorem dX3_takes_45 : decode cX3_takes 45 = .ok (.getfield 7, 3) := by decide +kernel
theorem dX3_takes_48 : decode cX3_takes 48 = .ok (.sipush 195, 3) := by decide +kernel
theorem dX3_takes_51 : decode cX3_takes 51 = .ok (.iload_n 3, 1) := by decide +kernel
theorem dX3_takes_52 : decode cX3_takes 52 = .ok (.iadd, 1) := by decide +kernel
theorem dX3_takes_53 : decode cX3_takes 53 = .ok (.iconst 1, 1) := by decide +kernel
theorem dX3_takes_54 : decode cX3_takes 54 = .ok (.iadd, 1) := by decide +kernel
theorem dX3_takes_55 : decode cX3_takes 55 = .ok (.iaload, 1) := by decide +kernel
theorem dX3_takes_56 : decode cX3_takes 56 = .ok (.iastore, 1) := by decide +kernel
theorem dX3_takes_57 : decode cX3_takes 57 = .ok (.iinc 3 1, 3) := by decide +kernel
theorem dX3_takes_60 : decode cX3_takes 60 = .ok (.goto (-36), 3) := by decide +kernel
theorem dX3_takes_63 : decode cX3_takes 63 = .ok (.aload_n 0, 1) := by decide +kernel
theorem dX3_takes_64 : decode cX3_takes 64 = .ok (.getfield 7, 3) := by decide +kernel
theorem dX3_takes_67 : decode cX3_takes 67 = .ok (.sipush 195, 3) := by decide +kernel
theorem dX3_takes_70 : decode cX3_takes 70 = .ok (.aload_n 0, 1) := by decide +kernel
theorem dX3_takes_71 : decode cX3_takes 71 = .ok (.getfield 7, 3) := by decide +kernel
theorem dX3_takes_74 : decode cX3_takes 74 = .ok (.bipush 13, 2) := by decide +kernel
theorem dX3_takes_76 : decode cX3_takes 76 = .ok (.iaload, 1) := by decide +kernel
theorem dX3_takes_77 : decode cX3_takes 77 = .ok (.iadd, 1) := by decide +kernel
theorem dX3_takes_78 : decode cX3_takes 78 = .ok (.iconst 0, 1) := by decide +kernel
theorem dX3_takes_79 : decode cX3_takes 79 = .ok (.iastore, 1) := by decide +kernel
theorem dX3_takes_80 : decode cX3_takes 80 = .ok (.iload_n 2, 1) := by decide +kernel
theorem dX3_takes_81 : decode cX3_takes 81 = .ok (.ireturn, 1) := by decide +kernel
theorem dX3_delivers_0 : decode cX3_delivers 0 = .ok (.aload_n 0, 1) := by decide +kernel
theorem dX3_delivers_1 : decode cX3_delivers 1 = .ok (.iload_n 1, 1) := by decide +kernel
theorem dX3_delivers_2 : decode cX3_delivers 2 = .ok (.invokevirtual 88, 3) := by decide +kernel
theorem dX3_delivers_5 : decode cX3_delivers 5 = .ok (.istore_n 2, 1) := by decide +kernel
theorem dX3_delivers_6 : decode cX3_delivers 6 = .ok (.aload_n 0, 1) := by decide +kernel
theorem dX3_delivers_7 : decode cX3_delivers 7 = .ok (.iload_n 1, 1) := by decide +kernel
theorem dX3_delivers_8 : decode cX3_delivers 8 = .ok (.invokevirtual 91, 3) := by decide +kernel
theorem dX3_delivers_11 : decode cX3_delivers 11 = .ok (.istore_n 3, 1) := by decide +kernel
theorem dX3_delivers_12 : decode cX3_delivers 12 = .ok (.aload_n 0, 1) := by decide +kernel
theorem dX3_delivers_13 : decode cX3_delivers 13 = .ok (.getfield 7, 3) := by decide +kernel
theorem dX3_delivers_16 : decode cX3_delivers 16 = .ok (.bipush 11, 2) := by decide +kernel
theorem dX3_delivers_18 : decode cX3_delivers 18 = .ok (.dup2, 1) := by decide +kernel
theorem dX3_delivers_19 : decode cX3_delivers 19 = .ok (.iaload, 1) := by decide +kernel
theorem dX3_delivers_20 : decode cX3_delivers 20 = .ok (.iload_n 2, 1) := by decide +kernel
theorem dX3_delivers_21 : decode cX3_delivers 21 = .ok (.ifCond .eq 7, 3) := by decide +kernel
theorem dX3_delivers_24 : decode cX3_delivers 24 = .ok (.iconst 1, 1) := by decide +kernel
theorem dX3_delivers_25 : decode cX3_delivers 25 = .ok (.goto 4, 3) := by decide +kernel
theorem dX3_delivers_28 : decode cX3_delivers 28 = .ok (.iconst 0, 1) := by decide +kernel
theorem dX3_delivers_29 : decode cX3_delivers 29 = .ok (.iadd, 1) := by decide +kernel
theorem dX3_delivers_30 : decode cX3_delivers 30 = .ok (.iastore, 1) := by decide +kernel
theorem dX3_delivers_31 : decode cX3_delivers 31 = .ok (.aload_n 0, 1) := by decide +kernel
theorem dX3_delivers_32 : decode cX3_delivers 32 = .ok (.getfield 7, 3) := by decide +kernel
theorem dX3_delivers_35 : decode cX3_delivers 35 = .ok (.bipush 12, 2) := by decide +kernel
theorem dX3_delivers_37 : decode cX3_delivers 37 = .ok (.dup2, 1) := by decide +kernel
theorem dX3_delivers_38 : decode cX3_delivers 38 = .ok (.iaload, 1) := by decide +kernel
theorem dX3_delivers_39 : decode cX3_delivers 39 = .ok (.iload_n 2, 1) := by decide +kernel
theorem dX3_delivers_40 : decode cX3_delivers 40 = .ok (.ifCond .eq 7, 3) := by decide +kernel
theorem dX3_delivers_43 : decode cX3_delivers 43 = .ok (.iconst 0, 1) := by decide +kernel
theorem dX3_delivers_44 : decode cX3_delivers 44 = .ok (.goto 4, 3) := by decide +kernel
theorem dX3_delivers_47 : decode cX3_delivers 47 = .ok (.iconst 1, 1) := by decide +kernel
theorem dX3_delivers_48 : decode cX3_delivers 48 = .ok (.iadd, 1) := by decide +kernel
theorem dX3_delivers_49 : decode cX3_delivers 49 = .ok (.iastore, 1) := by decide +kernel
theorem dX3_delivers_50 : decode cX3_delivers 50 = .ok (.iload_n 2, 1) := by decide +kernel
theorem dX3_delivers_51 : decode cX3_delivers 51 = .ok (.ifCond .eq 33, 3) := by decide +kernel
theorem dX3_delivers_54 : decode cX3_delivers 54 = .ok (.iload_n 3, 1) := by decide +kernel
theorem dX3_delivers_55 : decode cX3_delivers 55 = .ok (.bipush 32, 2) := by decide +kernel
theorem dX3_delivers_57 : decode cX3_delivers 57 = .ok (.idiv, 1) := by decide +kernel
theorem dX3_delivers_58 : decode cX3_delivers 58 = .ok (.invokestatic 84, 3) := by decide +kernel
theorem dX3_delivers_61 : decode cX3_delivers 61 = .ok (.ifCond .eq 23, 3) := by decide +kernel
theorem dX3_delivers_64 : decode cX3_delivers 64 = .ok (.aload_n 0, 1) := by decide +kernel
theorem dX3_delivers_65 : decode cX3_delivers 65 = .ok (.iload_n 3, 1) := by decide +kernel
theorem dX3_delivers_66 : decode cX3_delivers 66 = .ok (.bipush 32, 2) := by decide +kernel
theorem dX3_delivers_68 : decode cX3_delivers 68 = .ok (.idiv, 1) := by decide +kernel
theorem dX3_delivers_69 : decode cX3_delivers 69 = .ok (.iload_n 3, 1) := by decide +kernel
theorem dX3_delivers_70 : decode cX3_delivers 70 = .ok (.iconst 4, 1) := by decide +kernel
theorem dX3_delivers_71 : decode cX3_delivers 71 = .ok (.idiv, 1) := by decide +kernel
theorem dX3_delivers_72 : decode cX3_delivers 72 = .ok (.bipush 8, 2) := by decide +kernel
theorem dX3_delivers_74 : decode cX3_delivers 74 = .ok (.irem, 1) := by decide +kernel
theorem dX3_delivers_75 : decode cX3_delivers 75 = .ok (.iload_n 3, 1) := by decide +kernel
theorem dX3_delivers_76 : decode cX3_delivers 76 = .ok (.iconst 4, 1) := by decide +kernel
theorem dX3_delivers_77 : decode cX3_delivers 77 = .ok (.irem, 1) := by decide +kernel
theorem dX3_delivers_78 : decode cX3_delivers 78 = .ok (.invokevirtual 94, 3) := by decide +kernel
theorem dX3_delivers_81 : decode cX3_delivers 81 = .ok (.goto 24, 3) := by decide +kernel
theorem dX3_delivers_84 : decode cX3_delivers 84 = .ok (.iload_n 2, 1) := by decide +kernel
theorem dX3_delivers_85 : decode cX3_delivers 85 = .ok (.ifCond .eq 20, 3) := by decide +kernel
theorem dX3_delivers_88 : decode cX3_delivers 88 = .ok (.aload_n 0, 1) := by decide +kernel
theorem dX3_delivers_89 : decode cX3_delivers 89 = .ok (.iload_n 3, 1) := by decide +kernel
theorem dX3_delivers_90 : decode cX3_delivers 90 = .ok (.bipush 32, 2) := by decide +kernel
theorem dX3_delivers_92 : decode cX3_delivers 92 = .ok (.idiv, 1) := by decide +kernel
theorem dX3_delivers_93 : decode cX3_delivers 93 = .ok (.iload_n 3, 1) := by decide +kernel
theorem dX3_delivers_94 : decode cX3_delivers 94 = .ok (.iconst 4, 1) := by decide +kernel
theorem dX3_delivers_95 : decode cX3_delivers 95 = .ok (.idiv, 1) := by decide +kernel
theorem dX3_delivers_96 : decode cX3_delivers 96 = .ok (.bipush 8, 2) := by decide +kernel
theorem dX3_delivers_98 : decode cX3_delivers 98 = .ok (.irem, 1) := by decide +kernel
theorem dX3_delivers_99 : decode cX3_delivers 99 = .ok (.iload_n 3, 1) := by decide +kernel
theorem dX3_delivers_100 : decode cX3_delivers 100 = .ok (.iconst 4, 1) := by decide +kernel
theorem dX3_delivers_101 : decode cX3_delivers 101 = .ok (.irem, 1) := by decide +kernel
theorem dX3_delivers_102 : decode cX3_delivers 102 = .ok (.invokevirtual 97, 3) := by decide +kernel
theorem dX3_delivers_105 : decode cX3_delivers 105 = .ok (.iload_n 2, 1) := by decide +kernel
theorem dX3_delivers_106 : decode cX3_delivers 106 = .ok (.ireturn, 1) := by decide +kernel
theorem dX3_deliversFirst_0 : decode cX3_deliversFirst 0 = .ok (.iconst 0, 1) := by decide +kernel
theorem dX3_deliversFirst_1 : decode cX3_deliversFirst 1 = .ok (.istore_n 2, 1) := by decide +kernel
theorem dX3_deliversFirst_2 : decode cX3_deliversFirst 2 = .ok (.iload_n 2, 1) := by decide +kernel
theorem dX3_deliversFirst_3 : decode cX3_deliversFirst 3 = .ok (.iload_n 1, 1) := by decide +kernel
theorem dX3_deliversFirst_4 : decode cX3_deliversFirst 4 = .ok (.if_icmp .ge 25, 3) := by decide +kernel
theorem dX3_deliversFirst_7 : decode cX3_deliversFirst 7 = .ok (.aload_n 0, 1) := by decide +kernel
theorem dX3_deliversFirst_8 : decode cX3_deliversFirst 8 = .ok (.getfield 7, 3) := by decide +kernel
theorem dX3_deliversFirst_11 : decode cX3_deliversFirst 11 = .ok (.bipush 13, 2) := by decide +kernel
theorem dX3_deliversFirst_13 : decode cX3_deliversFirst 13 = .ok (.iaload, 1) := by decide +kernel
theorem dX3_deliversFirst_14 : decode cX3_deliversFirst 14 = .ok (.ifCond .le 15, 3) := by decide +kernel
theorem dX3_deliversFirst_17 : decode cX3_deliversFirst 17 = .ok (.aload_n 0, 1) := by decide +kernel
theorem dX3_deliversFirst_18 : decode cX3_deliversFirst 18 = .ok (.iconst 0, 1) := by decide +kernel
theorem dX3_deliversFirst_19 : decode cX3_deliversFirst 19 = .ok (.invokevirtual 100, 3) := by decide +kernel
theorem dX3_deliversFirst_22 : decode cX3_deliversFirst 22 = .ok (.pop, 1) := by decide +kernel
theorem dX3_deliversFirst_23 : decode cX3_deliversFirst 23 = .ok (.iinc 2 1, 3) := by decide +kernel
theorem dX3_deliversFirst_26 : decode cX3_deliversFirst 26 = .ok (.goto (-24), 3) := by decide +kernel
theorem dX3_deliversFirst_29 : decode cX3_deliversFirst 29 = .ok (.iload_n 2, 1) := by decide +kernel
theorem dX3_deliversFirst_30 : decode cX3_deliversFirst 30 = .ok (.ireturn, 1) := by decide +kernel
theorem dX3_begins_0 : decode cX3_begins 0 = .ok (.aload_n 0, 1) := by decide +kernel
theorem dX3_begins_1 : decode cX3_begins 1 = .ok (.getfield 7, 3) := by decide +kernel
theorem dX3_begins_4 : decode cX3_begins 4 = .ok (.bipush 9, 2) := by decide +kernel
theorem dX3_begins_6 : decode cX3_begins 6 = .ok (.iaload, 1) := by decide +kernel
theorem dX3_begins_7 : decode cX3_begins 7 = .ok (.istore 4, 2) := by decide +kernel
theorem dX3_begins_9 : decode cX3_begins 9 = .ok (.aload_n 0, 1) := by decide +kernel
theorem dX3_begins_10 : decode cX3_begins 10 = .ok (.getfield 7, 3) := by decide +kernel
theorem dX3_begins_13 : decode cX3_begins 13 = .ok (.bipush 9, 2) := by decide +kernel
theorem dX3_begins_15 : decode cX3_begins 15 = .ok (.dup2, 1) := by decide +kernel
theorem dX3_begins_16 : decode cX3_begins 16 = .ok (.iaload, 1) := by decide +kernel
theorem dX3_begins_17 : decode cX3_begins 17 = .ok (.iconst 1, 1) := by decide +kernel
theorem dX3_begins_18 : decode cX3_begins 18 = .ok (.iadd, 1) := by decide +kernel
theorem dX3_begins_19 : decode cX3_begins 19 = .ok (.iastore, 1) := by decide +kernel
theorem dX3_begins_20 : decode cX3_begins 20 = .ok (.aload_n 0, 1) := by decide +kernel
theorem dX3_begins_21 : decode cX3_begins 21 = .ok (.iload 4, 2) := by decide +kernel
theorem dX3_begins_23 : decode cX3_begins 23 = .ok (.iconst 0, 1) := by decide +kernel
theorem dX3_begins_24 : decode cX3_begins 24 = .ok (.iload_n 1, 1) := by decide +kernel
theorem dX3_begins_25 : decode cX3_begins 25 = .ok (.invokevirtual 64, 3) := by decide +kernel
theorem dX3_begins_28 : decode cX3_begins 28 = .ok (.aload_n 0, 1) := by decide +kernel
theorem dX3_begins_29 : decode cX3_begins 29 = .ok (.iload 4, 2) := by decide +kernel
theorem dX3_begins_31 : decode cX3_begins 31 = .ok (.iconst 1, 1) := by decide +kernel
theorem dX3_begins_32 : decode cX3_begins 32 = .ok (.iload_n 2, 1) := by decide +kernel
theorem dX3_begins_33 : decode cX3_begins 33 = .ok (.invokevirtual 64, 3) := by decide +kernel
theorem dX3_begins_36 : decode cX3_begins 36 = .ok (.aload_n 0, 1) := by decide +kernel
theorem dX3_begins_37 : decode cX3_begins 37 = .ok (.iload 4, 2) := by decide +kernel
theorem dX3_begins_39 : decode cX3_begins 39 = .ok (.iconst 2, 1) := by decide +kernel
theorem dX3_begins_40 : decode cX3_begins 40 = .ok (.iload_n 3, 1) := by decide +kernel
theorem dX3_begins_41 : decode cX3_begins 41 = .ok (.invokevirtual 64, 3) := by decide +kernel
theorem dX3_begins_44 : decode cX3_begins 44 = .ok (.aload_n 0, 1) := by decide +kernel
theorem dX3_begins_45 : decode cX3_begins 45 = .ok (.iconst 4, 1) := by decide +kernel
theorem dX3_begins_46 : decode cX3_begins 46 = .ok (.iconst 0, 1) := by decide +kernel
theorem dX3_begins_47 : decode cX3_begins 47 = .ok (.iload 4, 2) := by decide +kernel
theorem dX3_begins_49 : decode cX3_begins 49 = .ok (.invokevirtual 67, 3) := by decide +kernel
theorem dX3_begins_52 : decode cX3_begins 52 = .ok (.aload_n 0, 1) := by decide +kernel
theorem dX3_begins_53 : decode cX3_begins 53 = .ok (.iconst 0, 1) := by decide +kernel
theorem dX3_begins_54 : decode cX3_begins 54 = .ok (.iload 4, 2) := by decide +kernel
theorem dX3_begins_56 : decode cX3_begins 56 = .ok (.invokevirtual 70, 3) := by decide +kernel
theorem dX3_begins_59 : decode cX3_begins 59 = .ok (.iload 4, 2) := by decide +kernel
theorem dX3_begins_61 : decode cX3_begins 61 = .ok (.ireturn, 1) := by decide +kernel
theorem dX3_canGiveUp_0 : decode cX3_canGiveUp 0 = .ok (.aload_n 0, 1) := by decide +kernel
theorem dX3_canGiveUp_1 : decode cX3_canGiveUp 1 = .ok (.getfield 7, 3) := by decide +kernel
theorem dX3_canGiveUp_4 : decode cX3_canGiveUp 4 = .ok (.iconst 4, 1) := by decide +kernel
theorem dX3_canGiveUp_5 : decode cX3_canGiveUp 5 = .ok (.iaload, 1) := by decide +kernel
theorem dX3_canGiveUp_6 : decode cX3_canGiveUp 6 = .ok (.iconst 1, 1) := by decide +kernel
theorem dX3_canGiveUp_7 : decode cX3_canGiveUp 7 = .ok (.if_icmp .ne 16, 3) := by decide +kernel
theorem dX3_canGiveUp_10 : decode cX3_canGiveUp 10 = .ok (.aload_n 0, 1) := by decide +kernel
theorem dX3_canGiveUp_11 : decode cX3_canGiveUp 11 = .ok (.iload_n 1, 1) := by decide +kernel
theorem dX3_canGiveUp_12 : decode cX3_canGiveUp 12 = .ok (.iconst 5, 1) := by decide +kernel
theorem dX3_canGiveUp_13 : decode cX3_canGiveUp 13 = .ok (.invokevirtual 39, 3) := by decide +kernel
theorem dX3_canGiveUp_16 : decode cX3_canGiveUp 16 = .ok (.ifCond .ne 7, 3) := by decide +kernel
theorem dX3_canGiveUp_19 : decode cX3_canGiveUp 19 = .ok (.iconst 1, 1) := by decide +kernel
theorem dX3_canGiveUp_20 : decode cX3_canGiveUp 20 = .ok (.goto 4, 3) := by decide +kernel
theorem dX3_canGiveUp_23 : decode cX3_canGiveUp 23 = .ok (.iconst 0, 1) := by decide +kernel
theorem dX3_canGiveUp_24 : decode cX3_canGiveUp 24 = .ok (.ireturn, 1) := by decide +kernel
theorem dX3_canAsk_0 : decode cX3_canAsk 0 = .ok (.aload_n 0, 1) := by decide +kernel
theorem dX3_canAsk_1 : decode cX3_canAsk 1 = .ok (.getfield 7, 3) := by decide +kernel
theorem dX3_canAsk_4 : decode cX3_canAsk 4 = .ok (.iconst 0, 1) := by decide +kernel
theorem dX3_canAsk_5 : decode cX3_canAsk 5 = .ok (.iload_n 1, 1) := by decide +kernel
theorem dX3_canAsk_6 : decode cX3_canAsk 6 = .ok (.iadd, 1) := by decide +kernel
theorem dX3_canAsk_7 : decode cX3_canAsk 7 = .ok (.iaload, 1) := by decide +kernel
theorem dX3_canAsk_8 : decode cX3_canAsk 8 = .ok (.iconst 1, 1) := by decide +kernel
theorem dX3_canAsk_9 : decode cX3_canAsk 9 = .ok (.if_icmp .ne 17, 3) := by decide +kernel
theorem dX3_canAsk_12 : decode cX3_canAsk 12 = .ok (.aload_n 0, 1) := by decide +kernel
theorem dX3_canAsk_13 : decode cX3_canAsk 13 = .ok (.iload_n 1, 1) := by decide +kernel
theorem dX3_canAsk_14 : decode cX3_canAsk 14 = .ok (.iload_n 2, 1) := by decide +kernel
theorem dX3_canAsk_15 : decode cX3_canAsk 15 = .ok (.invokevirtual 51, 3) := by decide +kernel
theorem dX3_canAsk_18 : decode cX3_canAsk 18 = .ok (.iconst 1, 1) := by decide +kernel
theorem dX3_canAsk_19 : decode cX3_canAsk 19 = .ok (.if_icmp .ne 7, 3) := by decide +kernel
theorem dX3_canAsk_22 : decode cX3_canAsk 22 = .ok (.iconst 1, 1) := by decide +kernel
theorem dX3_canAsk_23 : decode cX3_canAsk 23 = .ok (.goto 4, 3) := by decide +kernel
theorem dX3_canAsk_26 : decode cX3_canAsk 26 = .ok (.iconst 0, 1) := by decide +kernel
theorem dX3_canAsk_27 : decode cX3_canAsk 27 = .ok (.ireturn, 1) := by decide +kernel
theorem dX3_loses_0 : decode cX3_loses 0 = .ok (.aload_n 0, 1) := by decide +kernel
theorem dX3_loses_1 : decode cX3_loses 1 = .ok (.getfield 7, 3) := by decide +kernel
theorem dX3_loses_4 : decode cX3_loses 4 = .ok (.bipush 12, 2) := by decide +kernel
theorem dX3_loses_6 : decode cX3_loses 6 = .ok (.dup2, 1) := by decide +kernel
theorem dX3_loses_7 : decode cX3_loses 7 = .ok (.iaload, 1) := by decide +kernel
theorem dX3_loses_8 : decode cX3_loses 8 = .ok (.iconst 1, 1) := by decide +kernel
theorem dX3_loses_9 : decode cX3_loses 9 = .ok (.iadd, 1) := by decide +kernel
theorem dX3_loses_10 : decode cX3_loses 10 = .ok (.iastore, 1) := by decide +kernel
theorem dX3_loses_11 : decode cX3_loses 11 = .ok (.aload_n 0, 1) := by decide +kernel
theorem dX3_loses_12 : decode cX3_loses 12 = .ok (.iload_n 1, 1) := by decide +kernel
theorem dX3_loses_13 : decode cX3_loses 13 = .ok (.invokevirtual 91, 3) := by decide +kernel
theorem dX3_loses_16 : decode cX3_loses 16 = .ok (.bipush 32, 2) := by decide +kernel
theorem dX3_loses_18 : decode cX3_loses 18 = .ok (.idiv, 1) := by decide +kernel
theorem dX3_loses_19 : decode cX3_loses 19 = .ok (.ireturn, 1) := by decide +kernel
theorem dX3_crashes_0 : decode cX3_crashes 0 = .ok (.aload_n 0, 1) := by decide +kernel
theorem dX3_crashes_1 : decode cX3_crashes 1 = .ok (.getfield 7, 3) := by decide +kernel
theorem dX3_crashes_4 : decode cX3_crashes 4 = .ok (.iconst 0, 1) := by decide +kernel
theorem dX3_crashes_5 : decode cX3_crashes 5 = .ok (.iload_n 1, 1) := by decide +kernel
theorem dX3_crashes_6 : decode cX3_crashes 6 = .ok (.iadd, 1) := by decide +kernel
theorem dX3_crashes_7 : decode cX3_crashes 7 = .ok (.iconst 0, 1) := by decide +kernel
theorem dX3_crashes_8 : decode cX3_crashes 8 = .ok (.iastore, 1) := by decide +kernel
theorem dX3_crashes_9 : decode cX3_crashes 9 = .ok (.iconst 0, 1) := by decide +kernel
theorem dX3_crashes_10 : decode cX3_crashes 10 = .ok (.istore_n 2, 1) := by decide +kernel
theorem dX3_crashes_11 : decode cX3_crashes 11 = .ok (.iload_n 2, 1) := by decide +kernel
theorem dX3_crashes_12 : decode cX3_crashes 12 = .ok (.aload_n 0, 1) := by decide +kernel
theorem dX3_crashes_13 : decode cX3_crashes 13 = .ok (.getfield 7, 3) := by decide +kernel
theorem dX3_crashes_16 : decode cX3_crashes 16 = .ok (.bipush 9, 2) := by decide +kernel
theorem dX3_crashes_18 : decode cX3_crashes 18 = .ok (.iaload, 1) := by decide +kernel
theorem dX3_crashes_19 : decode cX3_crashes 19 = .ok (.if_icmp .ge 28, 3) := by decide +kernel
theorem dX3_crashes_22 : decode cX3_crashes 22 = .ok (.iload_n 1, 1) := by decide +kernel
theorem dX3_crashes_23 : decode cX3_crashes 23 = .ok (.iconst 4, 1) := by decide +kernel
theorem dX3_crashes_24 : decode cX3_crashes 24 = .ok (.if_icmp .ne 23, 3) := by decide +kernel
theorem dX3_crashes_27 : decode cX3_crashes 27 = .ok (.aload_n 0, 1) := by decide +kernel
theorem dX3_crashes_28 : decode cX3_crashes 28 = .ok (.iload_n 2, 1) := by decide +kernel
theorem dX3_crashes_29 : decode cX3_crashes 29 = .ok (.iconst 3, 1) := by decide +kernel
theorem dX3_crashes_30 : decode cX3_crashes 30 = .ok (.iconst 0, 1) := by decide +kernel
theorem dX3_crashes_31 : decode cX3_crashes 31 = .ok (.invokevirtual 64, 3) := by decide +kernel
theorem dX3_crashes_34 : decode cX3_crashes 34 = .ok (.aload_n 0, 1) := by decide +kernel
theorem dX3_crashes_35 : decode cX3_crashes 35 = .ok (.iload_n 2, 1) := by decide +kernel
theorem dX3_crashes_36 : decode cX3_crashes 36 = .ok (.iconst 4, 1) := by decide +kernel
theorem dX3_crashes_37 : decode cX3_crashes 37 = .ok (.iconst 0, 1) := by decide +kernel
theorem dX3_crashes_38 : decode cX3_crashes 38 = .ok (.invokevirtual 64, 3) := by decide +kernel
theorem dX3_crashes_41 : decode cX3_crashes 41 = .ok (.iinc 2 1, 3) := by decide +kernel
theorem dX3_crashes_44 : decode cX3_crashes 44 = .ok (.goto (-33), 3) := by decide +kernel
theorem dX3_crashes_47 : decode cX3_crashes 47 = .ok (.iconst 0, 1) := by decide +kernel
theorem dX3_crashes_48 : decode cX3_crashes 48 = .ok (.istore_n 2, 1) := by decide +kernel
theorem dX3_crashes_49 : decode cX3_crashes 49 = .ok (.iconst 0, 1) := by decide +kernel
theorem dX3_crashes_50 : decode cX3_crashes 50 = .ok (.istore_n 3, 1) := by decide +kernel
theorem dX3_crashes_51 : decode cX3_crashes 51 = .ok (.iload_n 3, 1) := by decide +kernel
theorem dX3_crashes_52 : decode cX3_crashes 52 = .ok (.iconst 5, 1) := by decide +kernel
theorem dX3_crashes_53 : decode cX3_crashes 53 = .ok (.if_icmp .ge 20, 3) := by decide +kernel
theorem dX3_crashes_56 : decode cX3_crashes 56 = .ok (.iload_n 2, 1) := by decide +kernel
theorem dX3_crashes_57 : decode cX3_crashes 57 = .ok (.aload_n 0, 1) := by decide +kernel
theorem dX3_crashes_58 : decode cX3_crashes 58 = .ok (.getfield 7, 3) := by decide +kernel
theorem dX3_crashes_61 : decode cX3_crashes 61 = .ok (.iconst 0, 1) := by decide +kernel
theorem dX3_crashes_62 : decode cX3_crashes 62 = .ok (.iload_n 3, 1) := by decide +kernel
theorem dX3_crashes_63 : decode cX3_crashes 63 = .ok (.iadd, 1) := by decide +kernel
theorem dX3_crashes_64 : decode cX3_crashes 64 = .ok (.iaload, 1) := by decide +kernel
theorem dX3_crashes_65 : decode cX3_crashes 65 = .ok (.iadd, 1) := by decide +kernel
theorem dX3_crashes_66 : decode cX3_crashes 66 = .ok (.istore_n 2, 1) := by decide +kernel
theorem dX3_crashes_67 : decode cX3_crashes 67 = .ok (.iinc 3 1, 3) := by decide +kernel
theorem dX3_crashes_70 : decode cX3_crashes 70 = .ok (.goto (-19), 3) := by decide +kernel
theorem dX3_crashes_73 : decode cX3_crashes 73 = .ok (.iload_n 2, 1) := by decide +kernel
theorem dX3_crashes_74 : decode cX3_crashes 74 = .ok (.ireturn, 1) := by decide +kernel
theorem dX3_recovers_0 : decode cX3_recovers 0 = .ok (.aload_n 0, 1) := by decide +kernel
theorem dX3_recovers_1 : decode cX3_recovers 1 = .ok (.getfield 7, 3) := by decide +kernel
theorem dX3_recovers_4 : decode cX3_recovers 4 = .ok (.iconst 0, 1) := by decide +kernel
theorem dX3_recovers_5 : decode cX3_recovers 5 = .ok (.iload_n 1, 1) := by decide +kernel
theorem dX3_recovers_6 : decode cX3_recovers 6 = .ok (.iadd, 1) := by decide +kernel
theorem dX3_recovers_7 : decode cX3_recovers 7 = .ok (.iconst 1, 1) := by decide +kernel
theorem dX3_recovers_8 : decode cX3_recovers 8 = .ok (.iastore, 1) := by decide +kernel
theorem dX3_recovers_9 : decode cX3_recovers 9 = .ok (.iconst 0, 1) := by decide +kernel
theorem dX3_recovers_10 : decode cX3_recovers 10 = .ok (.istore_n 2, 1) := by decide +kernel
theorem dX3_recovers_11 : decode cX3_recovers 11 = .ok (.iload_n 2, 1) := by decide +kernel
theorem dX3_recovers_12 : decode cX3_recovers 12 = .ok (.aload_n 0, 1) := by decide +kernel
theorem dX3_recovers_13 : decode cX3_recovers 13 = .ok (.getfield 7, 3) := by decide +kernel
theorem dX3_recovers_16 : decode cX3_recovers 16 = .ok (.bipush 9, 2) := by decide +kernel
theorem dX3_recovers_18 : decode cX3_recovers 18 = .ok (.iaload, 1) := by decide +kernel
theorem dX3_recovers_19 : decode cX3_recovers 19 = .ok (.if_icmp .ge 86, 3) := by decide +kernel
theorem dX3_recovers_22 : decode cX3_recovers 22 = .ok (.iload_n 1, 1) := by decide +kernel
theorem dX3_recovers_23 : decode cX3_recovers 23 = .ok (.iconst 4, 1) := by decide +kernel
theorem dX3_recovers_24 : decode cX3_recovers 24 = .ok (.if_icmp .ne 21, 3) := by decide +kernel
theorem dX3_recovers_27 : decode cX3_recovers 27 = .ok (.aload_n 0, 1) := by decide +kernel
theorem dX3_recovers_28 : decode cX3_recovers 28 = .ok (.iload_n 2, 1) := by decide +kernel
theorem dX3_recovers_29 : decode cX3_recovers 29 = .ok (.iconst 5, 1) := by decide +kernel
theorem dX3_recovers_30 : decode cX3_recovers 30 = .ok (.invokevirtual 39, 3) := by decide +kernel
theorem dX3_recovers_33 : decode cX3_recovers 33 = .ok (.ifCond .ne 12, 3) := by decide +kernel
theorem dX3_recovers_36 : decode cX3_recovers 36 = .ok (.aload_n 0, 1) := by decide +kernel
theorem dX3_recovers_37 : decode cX3_recovers 37 = .ok (.iload_n 2, 1) := by decide +kernel
theorem dX3_recovers_38 : decode cX3_recovers 38 = .ok (.iconst 2, 1) := by decide +kernel
theorem dX3_recovers_39 : decode cX3_recovers 39 = .ok (.invokevirtual 81, 3) := by decide +kernel
theorem dX3_recovers_42 : decode cX3_recovers 42 = .ok (.goto 57, 3) := by decide +kernel
theorem dX3_recovers_45 : decode cX3_recovers 45 = .ok (.iload_n 1, 1) := by decide +kernel
theorem dX3_recovers_46 : decode cX3_recovers 46 = .ok (.iconst 4, 1) := by decide +kernel
theorem dX3_recovers_47 : decode cX3_recovers 47 = .ok (.if_icmp .ne 29, 3) := by decide +kernel
theorem dX3_recovers_50 : decode cX3_recovers 50 = .ok (.aload_n 0, 1) := by decide +kernel
theorem dX3_recovers_51 : decode cX3_recovers 51 = .ok (.iload_n 2, 1) := by decide +kernel
theorem dX3_recovers_52 : decode cX3_recovers 52 = .ok (.bipush 6, 2) := by decide +kernel
theorem dX3_recovers_54 : decode cX3_recovers 54 = .ok (.invokevirtual 39, 3) := by decide +kernel
theorem dX3_recovers_57 : decode cX3_recovers 57 = .ok (.ifCond .ne 19, 3) := by decide +kernel
theorem dX3_recovers_60 : decode cX3_recovers 60 = .ok (.aload_n 0, 1) := by decide +kernel
theorem dX3_recovers_61 : decode cX3_recovers 61 = .ok (.iconst 2, 1) := by decide +kernel
theorem dX3_recovers_62 : decode cX3_recovers 62 = .ok (.aload_n 0, 1) := by decide +kernel
theorem dX3_recovers_63 : decode cX3_recovers 63 = .ok (.iload_n 2, 1) := by decide +kernel
theorem dX3_recovers_64 : decode cX3_recovers 64 = .ok (.iconst 5, 1) := by decide +kernel
theorem dX3_recovers_65 : decode cX3_recovers 65 = .ok (.invokevirtual 39, 3) := by decide +kernel
theorem dX3_recovers_68 : decode cX3_recovers 68 = .ok (.iadd, 1) := by decide +kernel
theorem dX3_recovers_69 : decode cX3_recovers 69 = .ok (.iload_n 2, 1) := by decide +kernel
theorem dX3_recovers_70 : decode cX3_recovers 70 = .ok (.invokevirtual 70, 3) := by decide +kernel
theorem dX3_recovers_73 : decode cX3_recovers 73 = .ok (.goto 26, 3) := by decide +kernel
theorem dX3_recovers_76 : decode cX3_recovers 76 = .ok (.iload_n 1, 1) := by decide +kernel
theorem dX3_recovers_77 : decode cX3_recovers 77 = .ok (.iconst 4, 1) := by decide +kernel
theorem dX3_recovers_78 : decode cX3_recovers 78 = .ok (.if_icmp .eq 21, 3) := by decide +kernel
theorem dX3_recovers_81 : decode cX3_recovers 81 = .ok (.aload_n 0, 1) := by decide +kernel
theorem dX3_recovers_82 : decode cX3_recovers 82 = .ok (.iload_n 1, 1) := by decide +kernel
theorem dX3_recovers_83 : decode cX3_recovers 83 = .ok (.iload_n 2, 1) := by decide +kernel
theorem dX3_recovers_84 : decode cX3_recovers 84 = .ok (.invokevirtual 51, 3) := by decide +kernel
theorem dX3_recovers_87 : decode cX3_recovers 87 = .ok (.iconst 1, 1) := by decide +kernel
theorem dX3_recovers_88 : decode cX3_recovers 88 = .ok (.if_icmp .ne 11, 3) := by decide +kernel
theorem dX3_recovers_91 : decode cX3_recovers 91 = .ok (.aload_n 0, 1) := by decide +kernel
theorem dX3_recovers_92 : decode cX3_recovers 92 = .ok (.bipush 6, 2) := by decide +kernel
theorem dX3_recovers_94 : decode cX3_recovers 94 = .ok (.iload_n 2, 1) := by decide +kernel
theorem dX3_recovers_95 : decode cX3_recovers 95 = .ok (.iload_n 1, 1) := by decide +kernel
theorem dX3_recovers_96 : decode cX3_recovers 96 = .ok (.invokevirtual 60, 3) := by decide +kernel
theorem dX3_recovers_99 : decode cX3_recovers 99 = .ok (.iinc 2 1, 3) := by decide +kernel
theorem dX3_recovers_102 : decode cX3_recovers 102 = .ok (.goto (-91), 3) := by decide +kernel
theorem dX3_recovers_105 : decode cX3_recovers 105 = .ok (.return_, 1) := by decide +kernel
theorem dX3_areStores_0 : decode cX3_areStores 0 = .ok (.iload_n 1, 1) := by decide +kernel
theorem dX3_areStores_1 : decode cX3_areStores 1 = .ok (.iconst 1, 1) := by decide +kernel
theorem dX3_areStores_2 : decode cX3_areStores 2 = .ok (.bipush 15, 2) := by decide +kernel
theorem dX3_areStores_4 : decode cX3_areStores 4 = .ok (.invokestatic 32, 3) := by decide +kernel
theorem dX3_areStores_7 : decode cX3_areStores 7 = .ok (.ifCond .eq 15, 3) := by decide +kernel
theorem dX3_areStores_10 : decode cX3_areStores 10 = .ok (.iload_n 1, 1) := by decide +kernel
theorem dX3_areStores_11 : decode cX3_areStores 11 = .ok (.iload_n 0, 1) := by decide +kernel
theorem dX3_areStores_12 : decode cX3_areStores 12 = .ok (.ishr, 1) := by decide +kernel
theorem dX3_areStores_13 : decode cX3_areStores 13 = .ok (.iconst 1, 1) := by decide +kernel
theorem dX3_areStores_14 : decode cX3_areStores 14 = .ok (.iand, 1) := by decide +kernel
theorem dX3_areStores_15 : decode cX3_areStores 15 = .ok (.ifCond .ne 7, 3) := by decide +kernel
theorem dX3_areStores_18 : decode cX3_areStores 18 = .ok (.iconst 1, 1) := by decide +kernel
theorem dX3_areStores_19 : decode cX3_areStores 19 = .ok (.goto 4, 3) := by decide +kernel
theorem dX3_areStores_22 : decode cX3_areStores 22 = .ok (.iconst 0, 1) := by decide +kernel
theorem dX3_areStores_23 : decode cX3_areStores 23 = .ok (.ireturn, 1) := by decide +kernel
theorem dX3_canBegin_0 : decode cX3_canBegin 0 = .ok (.aload_n 0, 1) := by decide +kernel
theorem dX3_canBegin_1 : decode cX3_canBegin 1 = .ok (.getfield 7, 3) := by decide +kernel
theorem dX3_canBegin_4 : decode cX3_canBegin 4 = .ok (.iconst 4, 1) := by decide +kernel
theorem dX3_canBegin_5 : decode cX3_canBegin 5 = .ok (.iaload, 1) := by decide +kernel
theorem dX3_canBegin_6 : decode cX3_canBegin 6 = .ok (.iconst 1, 1) := by decide +kernel
theorem dX3_canBegin_7 : decode cX3_canBegin 7 = .ok (.if_icmp .ne 19, 3) := by decide +kernel
theorem dX3_canBegin_10 : decode cX3_canBegin 10 = .ok (.aload_n 0, 1) := by decide +kernel
theorem dX3_canBegin_11 : decode cX3_canBegin 11 = .ok (.getfield 7, 3) := by decide +kernel
theorem dX3_canBegin_14 : decode cX3_canBegin 14 = .ok (.bipush 9, 2) := by decide +kernel
theorem dX3_canBegin_16 : decode cX3_canBegin 16 = .ok (.iaload, 1) := by decide +kernel
theorem dX3_canBegin_17 : decode cX3_canBegin 17 = .ok (.bipush 8, 2) := by decide +kernel
theorem dX3_canBegin_19 : decode cX3_canBegin 19 = .ok (.if_icmp .ge 7, 3) := by decide +kernel
theorem dX3_canBegin_22 : decode cX3_canBegin 22 = .ok (.iconst 1, 1) := by decide +kernel
theorem dX3_canBegin_23 : decode cX3_canBegin 23 = .ok (.goto 4, 3) := by decide +kernel
theorem dX3_canBegin_26 : decode cX3_canBegin 26 = .ok (.iconst 0, 1) := by decide +kernel
theorem dX3_canBegin_27 : decode cX3_canBegin 27 = .ok (.ireturn, 1) := by decide +kernel
theorem dX3_begin_0 : decode cX3_begin 0 = .ok (.aload_n 0, 1) := by decide +kernel
theorem dX3_begin_1 : decode cX3_begin 1 = .ok (.iconst 0, 1) := by decide +kernel
theorem dX3_begin_2 : decode cX3_begin 2 = .ok (.putfield 28, 3) := by decide +kernel
theorem dX3_begin_5 : decode cX3_begin 5 = .ok (.iload_n 1, 1) := by decide +kernel
theorem dX3_begin_6 : decode cX3_begin 6 = .ok (.invokestatic 103, 3) := by decide +kernel
theorem dX3_begin_9 : decode cX3_begin 9 = .ok (.ifCond .ne 9, 3) := by decide +kernel
theorem dX3_begin_12 : decode cX3_begin 12 = .ok (.aload_n 0, 1) := by decide +kernel
theorem dX3_begin_13 : decode cX3_begin 13 = .ok (.iconst 1, 1) := by decide +kernel
theorem dX3_begin_14 : decode cX3_begin 14 = .ok (.invokevirtual 106, 3) := by decide +kernel
theorem dX3_begin_17 : decode cX3_begin 17 = .ok (.ireturn, 1) := by decide +kernel
theorem dX3_begin_18 : decode cX3_begin 18 = .ok (.iload_n 1, 1) := by decide +kernel
theorem dX3_begin_19 : decode cX3_begin 19 = .ok (.iload_n 2, 1) := by decide +kernel
theorem dX3_begin_20 : decode cX3_begin 20 = .ok (.invokestatic 109, 3) := by decide +kernel
theorem dX3_begin_23 : decode cX3_begin 23 = .ok (.ifCond .eq 13, 3) := by decide +kernel
theorem dX3_begin_26 : decode cX3_begin 26 = .ok (.iload_n 3, 1) := by decide +kernel
theorem dX3_begin_27 : decode cX3_begin 27 = .ok (.iconst 1, 1) := by decide +kernel
theorem dX3_begin_28 : decode cX3_begin 28 = .ok (.bipush 50, 2) := by decide +kernel
theorem dX3_begin_30 : decode cX3_begin 30 = .ok (.invokestatic 32, 3) := by decide +kernel
theorem dX3_begin_33 : decode cX3_begin 33 = .ok (.ifCond .ne 9, 3) := by decide +kernel
theorem dX3_begin_36 : decode cX3_begin 36 = .ok (.aload_n 0, 1) := by decide +kernel
theorem dX3_begin_37 : decode cX3_begin 37 = .ok (.iconst 2, 1) := by decide +kernel
theorem dX3_begin_38 : decode cX3_begin 38 = .ok (.invokevirtual 106, 3) := by decide +kernel
theorem dX3_begin_41 : decode cX3_begin 41 = .ok (.ireturn, 1) := by decide +kernel
theorem dX3_begin_42 : decode cX3_begin 42 = .ok (.aload_n 0, 1) := by decide +kernel
theorem dX3_begin_43 : decode cX3_begin 43 = .ok (.invokevirtual 112, 3) := by decide +kernel
theorem dX3_begin_46 : decode cX3_begin 46 = .ok (.ifCond .ne 9, 3) := by decide +kernel
theorem dX3_begin_49 : decode cX3_begin 49 = .ok (.aload_n 0, 1) := by decide +kernel
theorem dX3_begin_50 : decode cX3_begin 50 = .ok (.iconst 3, 1) := by decide +kernel
theorem dX3_begin_51 : decode cX3_begin 51 = .ok (.invokevirtual 106, 3) := by decide +kernel
theorem dX3_begin_54 : decode cX3_begin 54 = .ok (.ireturn, 1) := by decide +kernel
theorem dX3_begin_55 : decode cX3_begin 55 = .ok (.aload_n 0, 1) := by decide +kernel
theorem dX3_begin_56 : decode cX3_begin 56 = .ok (.invokevirtual 116, 3) := by decide +kernel
theorem dX3_begin_59 : decode cX3_begin 59 = .ok (.aload_n 0, 1) := by decide +kernel
theorem dX3_begin_60 : decode cX3_begin 60 = .ok (.iload_n 1, 1) := by decide +kernel
theorem dX3_begin_61 : decode cX3_begin 61 = .ok (.iload_n 2, 1) := by decide +kernel
theorem dX3_begin_62 : decode cX3_begin 62 = .ok (.iload_n 3, 1) := by decide +kernel
theorem dX3_begin_63 : decode cX3_begin 63 = .ok (.invokevirtual 119, 3) := by decide +kernel
theorem dX3_begin_66 : decode cX3_begin 66 = .ok (.ireturn, 1) := by decide +kernel
theorem dX3_giveUp_0 : decode cX3_giveUp 0 = .ok (.aload_n 0, 1) := by decide +kernel
theorem dX3_giveUp_1 : decode cX3_giveUp 1 = .ok (.iconst 0, 1) := by decide +kernel
theorem dX3_giveUp_2 : decode cX3_giveUp 2 = .ok (.putfield 28, 3) := by decide +kernel
theorem dX3_giveUp_5 : decode cX3_giveUp 5 = .ok (.aload_n 0, 1) := by decide +kernel
theorem dX3_giveUp_6 : decode cX3_giveUp 6 = .ok (.iload_n 1, 1) := by decide +kernel
theorem dX3_giveUp_7 : decode cX3_giveUp 7 = .ok (.invokevirtual 123, 3) := by decide +kernel
theorem dX3_giveUp_10 : decode cX3_giveUp 10 = .ok (.ifCond .ne 9, 3) := by decide +kernel
theorem dX3_giveUp_13 : decode cX3_giveUp 13 = .ok (.aload_n 0, 1) := by decide +kernel
theorem dX3_giveUp_14 : decode cX3_giveUp 14 = .ok (.iconst 1, 1) := by decide +kernel
theorem dX3_giveUp_15 : decode cX3_giveUp 15 = .ok (.invokevirtual 106, 3) := by decide +kernel
theorem dX3_giveUp_18 : decode cX3_giveUp 18 = .ok (.ireturn, 1) := by decide +kernel
theorem dX3_giveUp_19 : decode cX3_giveUp 19 = .ok (.aload_n 0, 1) := by decide +kernel
theorem dX3_giveUp_20 : decode cX3_giveUp 20 = .ok (.iload_n 1, 1) := by decide +kernel
theorem dX3_giveUp_21 : decode cX3_giveUp 21 = .ok (.invokevirtual 126, 3) := by decide +kernel
theorem dX3_giveUp_24 : decode cX3_giveUp 24 = .ok (.ifCond .ne 9, 3) := by decide +kernel
theorem dX3_giveUp_27 : decode cX3_giveUp 27 = .ok (.aload_n 0, 1) := by decide +kernel
theorem dX3_giveUp_28 : decode cX3_giveUp 28 = .ok (.iconst 2, 1) := by decide +kernel
theorem dX3_giveUp_29 : decode cX3_giveUp 29 = .ok (.invokevirtual 106, 3) := by decide +kernel
theorem dX3_giveUp_32 : decode cX3_giveUp 32 = .ok (.ireturn, 1) := by decide +kernel
theorem dX3_giveUp_33 : decode cX3_giveUp 33 = .ok (.aload_n 0, 1) := by decide +kernel
theorem dX3_giveUp_34 : decode cX3_giveUp 34 = .ok (.invokevirtual 116, 3) := by decide +kernel
theorem dX3_giveUp_37 : decode cX3_giveUp 37 = .ok (.aload_n 0, 1) := by decide +kernel
theorem dX3_giveUp_38 : decode cX3_giveUp 38 = .ok (.iload_n 1, 1) := by decide +kernel
theorem dX3_giveUp_39 : decode cX3_giveUp 39 = .ok (.iconst 2, 1) := by decide +kernel
theorem dX3_giveUp_40 : decode cX3_giveUp 40 = .ok (.invokevirtual 81, 3) := by decide +kernel
theorem dX3_giveUp_43 : decode cX3_giveUp 43 = .ok (.aload_n 0, 1) := by decide +kernel
theorem dX3_giveUp_44 : decode cX3_giveUp 44 = .ok (.getfield 7, 3) := by decide +kernel
theorem dX3_giveUp_47 : decode cX3_giveUp 47 = .ok (.bipush 13, 2) := by decide +kernel
theorem dX3_giveUp_49 : decode cX3_giveUp 49 = .ok (.iaload, 1) := by decide +kernel
theorem dX3_giveUp_50 : decode cX3_giveUp 50 = .ok (.ireturn, 1) := by decide +kernel
theorem dX3_ask_0 : decode cX3_ask 0 = .ok (.aload_n 0, 1) := by decide +kernel
theorem dX3_ask_1 : decode cX3_ask 1 = .ok (.iconst 0, 1) := by decide +kernel
theorem dX3_ask_2 : decode cX3_ask 2 = .ok (.putfield 28, 3) := by decide +kernel
theorem dX3_ask_5 : decode cX3_ask 5 = .ok (.iload_n 1, 1) := by decide +kernel
theorem dX3_ask_6 : decode cX3_ask 6 = .ok (.invokestatic 103, 3) := by decide +kernel
theorem dX3_ask_9 : decode cX3_ask 9 = .ok (.ifCond .eq 11, 3) := by decide +kernel
theorem dX3_ask_12 : decode cX3_ask 12 = .ok (.aload_n 0, 1) := by decide +kernel
theorem dX3_ask_13 : decode cX3_ask 13 = .ok (.iload_n 2, 1) := by decide +kernel
theorem dX3_ask_14 : decode cX3_ask 14 = .ok (.invokevirtual 123, 3) := by decide +kernel
theorem dX3_ask_17 : decode cX3_ask 17 = .ok (.ifCond .ne 9, 3) := by decide +kernel
theorem dX3_ask_20 : decode cX3_ask 20 = .ok (.aload_n 0, 1) := by decide +kernel
theorem dX3_ask_21 : decode cX3_ask 21 = .ok (.iconst 1, 1) := by decide +kernel
theorem dX3_ask_22 : decode cX3_ask 22 = .ok (.invokevirtual 106, 3) := by decide +kernel
theorem dX3_ask_25 : decode cX3_ask 25 = .ok (.ireturn, 1) := by decide +kernel
theorem dX3_ask_26 : decode cX3_ask 26 = .ok (.aload_n 0, 1) := by decide +kernel
theorem dX3_ask_27 : decode cX3_ask 27 = .ok (.iload_n 1, 1) := by decide +kernel
theorem dX3_ask_28 : decode cX3_ask 28 = .ok (.iload_n 2, 1) := by decide +kernel
theorem dX3_ask_29 : decode cX3_ask 29 = .ok (.invokevirtual 129, 3) := by decide +kernel
theorem dX3_ask_32 : decode cX3_ask 32 = .ok (.ifCond .ne 9, 3) := by decide +kernel
theorem dX3_ask_35 : decode cX3_ask 35 = .ok (.aload_n 0, 1) := by decide +kernel
theorem dX3_ask_36 : decode cX3_ask 36 = .ok (.iconst 2, 1) := by decide +kernel
theorem dX3_ask_37 : decode cX3_ask 37 = .ok (.invokevirtual 106, 3) := by decide +kernel
theorem dX3_ask_40 : decode cX3_ask 40 = .ok (.ireturn, 1) := by decide +kernel
theorem dX3_ask_41 : decode cX3_ask 41 = .ok (.aload_n 0, 1) := by decide +kernel
theorem dX3_ask_42 : decode cX3_ask 42 = .ok (.invokevirtual 116, 3) := by decide +kernel
theorem dX3_ask_45 : decode cX3_ask 45 = .ok (.aload_n 0, 1) := by decide +kernel
theorem dX3_ask_46 : decode cX3_ask 46 = .ok (.bipush 6, 2) := by decide +kernel
theorem dX3_ask_48 : decode cX3_ask 48 = .ok (.iload_n 2, 1) := by decide +kernel
theorem dX3_ask_49 : decode cX3_ask 49 = .ok (.iload_n 1, 1) := by decide +kernel
theorem dX3_ask_50 : decode cX3_ask 50 = .ok (.invokevirtual 60, 3) := by decide +kernel
theorem dX3_ask_53 : decode cX3_ask 53 = .ok (.aload_n 0, 1) := by decide +kernel
theorem dX3_ask_54 : decode cX3_ask 54 = .ok (.getfield 7, 3) := by decide +kernel
theorem dX3_ask_57 : decode cX3_ask 57 = .ok (.bipush 13, 2) := by decide +kernel
theorem dX3_ask_59 : decode cX3_ask 59 = .ok (.iaload, 1) := by decide +kernel
theorem dX3_ask_60 : decode cX3_ask 60 = .ok (.ireturn, 1) := by decide +kernel
theorem dX3_deliver_0 : decode cX3_deliver 0 = .ok (.aload_n 0, 1) := by decide +kernel
theorem dX3_deliver_1 : decode cX3_deliver 1 = .ok (.iconst 0, 1) := by decide +kernel
theorem dX3_deliver_2 : decode cX3_deliver 2 = .ok (.putfield 28, 3) := by decide +kernel
theorem dX3_deliver_5 : decode cX3_deliver 5 = .ok (.aload_n 0, 1) := by decide +kernel
theorem dX3_deliver_6 : decode cX3_deliver 6 = .ok (.iload_n 1, 1) := by decide +kernel
theorem dX3_deliver_7 : decode cX3_deliver 7 = .ok (.invokevirtual 132, 3) := by decide +kernel
theorem dX3_deliver_10 : decode cX3_deliver 10 = .ok (.ifCond .ne 17, 3) := by decide +kernel
theorem dX3_deliver_13 : decode cX3_deliver 13 = .ok (.aload_n 0, 1) := by decide +kernel
theorem dX3_deliver_14 : decode cX3_deliver 14 = .ok (.iconst 1, 1) := by decide +kernel
theorem dX3_deliver_15 : decode cX3_deliver 15 = .ok (.invokevirtual 106, 3) := by decide +kernel
theorem dX3_deliver_18 : decode cX3_deliver 18 = .ok (.ifCond .le 7, 3) := by decide +kernel
theorem dX3_deliver_21 : decode cX3_deliver 21 = .ok (.iconst 1, 1) := by decide +kernel
theorem dX3_deliver_22 : decode cX3_deliver 22 = .ok (.goto 4, 3) := by decide +kernel
theorem dX3_deliver_25 : decode cX3_deliver 25 = .ok (.iconst 0, 1) := by decide +kernel
theorem dX3_deliver_26 : decode cX3_deliver 26 = .ok (.ireturn, 1) := by decide +kernel
theorem dX3_deliver_27 : decode cX3_deliver 27 = .ok (.aload_n 0, 1) := by decide +kernel
theorem dX3_deliver_28 : decode cX3_deliver 28 = .ok (.invokevirtual 116, 3) := by decide +kernel
theorem dX3_deliver_31 : decode cX3_deliver 31 = .ok (.aload_n 0, 1) := by decide +kernel
theorem dX3_deliver_32 : decode cX3_deliver 32 = .ok (.iload_n 1, 1) := by decide +kernel
theorem dX3_deliver_33 : decode cX3_deliver 33 = .ok (.invokevirtual 100, 3) := by decide +kernel
theorem dX3_deliver_36 : decode cX3_deliver 36 = .ok (.ireturn, 1) := by decide +kernel
theorem dX3_deliversAll_0 : decode cX3_deliversAll 0 = .ok (.aload_n 0, 1) := by decide +kernel
theorem dX3_deliversAll_1 : decode cX3_deliversAll 1 = .ok (.ldc 135, 2) := by decide +kernel
theorem dX3_deliversAll_3 : decode cX3_deliversAll 3 = .ok (.invokevirtual 136, 3) := by decide +kernel
theorem dX3_deliversAll_6 : decode cX3_deliversAll 6 = .ok (.ireturn, 1) := by decide +kernel
theorem dX3_deliverAll_0 : decode cX3_deliverAll 0 = .ok (.aload_n 0, 1) := by decide +kernel
theorem dX3_deliverAll_1 : decode cX3_deliverAll 1 = .ok (.iconst 0, 1) := by decide +kernel
theorem dX3_deliverAll_2 : decode cX3_deliverAll 2 = .ok (.putfield 28, 3) := by decide +kernel
theorem dX3_deliverAll_5 : decode cX3_deliverAll 5 = .ok (.aload_n 0, 1) := by decide +kernel
theorem dX3_deliverAll_6 : decode cX3_deliverAll 6 = .ok (.invokevirtual 116, 3) := by decide +kernel
theorem dX3_deliverAll_9 : decode cX3_deliverAll 9 = .ok (.aload_n 0, 1) := by decide +kernel
theorem dX3_deliverAll_10 : decode cX3_deliverAll 10 = .ok (.invokevirtual 139, 3) := by decide +kernel
theorem dX3_deliverAll_13 : decode cX3_deliverAll 13 = .ok (.ireturn, 1) := by decide +kernel
theorem dX3_lose_0 : decode cX3_lose 0 = .ok (.aload_n 0, 1) := by decide +kernel
theorem dX3_lose_1 : decode cX3_lose 1 = .ok (.iconst 0, 1) := by decide +kernel
theorem dX3_lose_2 : decode cX3_lose 2 = .ok (.putfield 28, 3) := by decide +kernel
theorem dX3_lose_5 : decode cX3_lose 5 = .ok (.aload_n 0, 1) := by decide +kernel
theorem dX3_lose_6 : decode cX3_lose 6 = .ok (.iload_n 1, 1) := by decide +kernel
theorem dX3_lose_7 : decode cX3_lose 7 = .ok (.invokevirtual 132, 3) := by decide +kernel
theorem dX3_lose_10 : decode cX3_lose 10 = .ok (.ifCond .ne 9, 3) := by decide +kernel
theorem dX3_lose_13 : decode cX3_lose 13 = .ok (.aload_n 0, 1) := by decide +kernel
theorem dX3_lose_14 : decode cX3_lose 14 = .ok (.iconst 1, 1) := by decide +kernel
theorem dX3_lose_15 : decode cX3_lose 15 = .ok (.invokevirtual 106, 3) := by decide +kernel
theorem dX3_lose_18 : decode cX3_lose 18 = .ok (.ireturn, 1) := by decide +kernel
theorem dX3_lose_19 : decode cX3_lose 19 = .ok (.aload_n 0, 1) := by decide +kernel
theorem dX3_lose_20 : decode cX3_lose 20 = .ok (.invokevirtual 116, 3) := by decide +kernel
theorem dX3_lose_23 : decode cX3_lose 23 = .ok (.aload_n 0, 1) := by decide +kernel
theorem dX3_lose_24 : decode cX3_lose 24 = .ok (.iload_n 1, 1) := by decide +kernel
theorem dX3_lose_25 : decode cX3_lose 25 = .ok (.invokevirtual 143, 3) := by decide +kernel
theorem dX3_lose_28 : decode cX3_lose 28 = .ok (.ireturn, 1) := by decide +kernel
theorem dX3_crash_0 : decode cX3_crash 0 = .ok (.aload_n 0, 1) := by decide +kernel
theorem dX3_crash_1 : decode cX3_crash 1 = .ok (.iconst 0, 1) := by decide +kernel
theorem dX3_crash_2 : decode cX3_crash 2 = .ok (.putfield 28, 3) := by decide +kernel
theorem dX3_crash_5 : decode cX3_crash 5 = .ok (.iload_n 1, 1) := by decide +kernel
theorem dX3_crash_6 : decode cX3_crash 6 = .ok (.invokestatic 146, 3) := by decide +kernel
theorem dX3_crash_9 : decode cX3_crash 9 = .ok (.ifCond .ne 9, 3) := by decide +kernel
theorem dX3_crash_12 : decode cX3_crash 12 = .ok (.aload_n 0, 1) := by decide +kernel
theorem dX3_crash_13 : decode cX3_crash 13 = .ok (.iconst 1, 1) := by decide +kernel
theorem dX3_crash_14 : decode cX3_crash 14 = .ok (.invokevirtual 106, 3) := by decide +kernel
theorem dX3_crash_17 : decode cX3_crash 17 = .ok (.ireturn, 1) := by decide +kernel
theorem dX3_crash_18 : decode cX3_crash 18 = .ok (.aload_n 0, 1) := by decide +kernel
theorem dX3_crash_19 : decode cX3_crash 19 = .ok (.getfield 7, 3) := by decide +kernel
theorem dX3_crash_22 : decode cX3_crash 22 = .ok (.iconst 0, 1) := by decide +kernel
theorem dX3_crash_23 : decode cX3_crash 23 = .ok (.iload_n 1, 1) := by decide +kernel
theorem dX3_crash_24 : decode cX3_crash 24 = .ok (.iadd, 1) := by decide +kernel
theorem dX3_crash_25 : decode cX3_crash 25 = .ok (.iaload, 1) := by decide +kernel
theorem dX3_crash_26 : decode cX3_crash 26 = .ok (.ifCond .ne 9, 3) := by decide +kernel
theorem dX3_crash_29 : decode cX3_crash 29 = .ok (.aload_n 0, 1) := by decide +kernel
theorem dX3_crash_30 : decode cX3_crash 30 = .ok (.iconst 2, 1) := by decide +kernel
theorem dX3_crash_31 : decode cX3_crash 31 = .ok (.invokevirtual 106, 3) := by decide +kernel
theorem dX3_crash_34 : decode cX3_crash 34 = .ok (.ireturn, 1) := by decide +kernel
theorem dX3_crash_35 : decode cX3_crash 35 = .ok (.aload_n 0, 1) := by decide +kernel
theorem dX3_crash_36 : decode cX3_crash 36 = .ok (.invokevirtual 116, 3) := by decide +kernel
theorem dX3_crash_39 : decode cX3_crash 39 = .ok (.aload_n 0, 1) := by decide +kernel
theorem dX3_crash_40 : decode cX3_crash 40 = .ok (.iload_n 1, 1) := by decide +kernel
theorem dX3_crash_41 : decode cX3_crash 41 = .ok (.invokevirtual 149, 3) := by decide +kernel
theorem dX3_crash_44 : decode cX3_crash 44 = .ok (.ireturn, 1) := by decide +kernel
theorem dX3_recover_0 : decode cX3_recover 0 = .ok (.aload_n 0, 1) := by decide +kernel
theorem dX3_recover_1 : decode cX3_recover 1 = .ok (.iconst 0, 1) := by decide +kernel
theorem dX3_recover_2 : decode cX3_recover 2 = .ok (.putfield 28, 3) := by decide +kernel
theorem dX3_recover_5 : decode cX3_recover 5 = .ok (.iload_n 1, 1) := by decide +kernel
theorem dX3_recover_6 : decode cX3_recover 6 = .ok (.invokestatic 146, 3) := by decide +kernel
theorem dX3_recover_9 : decode cX3_recover 9 = .ok (.ifCond .ne 9, 3) := by decide +kernel
theorem dX3_recover_12 : decode cX3_recover 12 = .ok (.aload_n 0, 1) := by decide +kernel
theorem dX3_recover_13 : decode cX3_recover 13 = .ok (.iconst 1, 1) := by decide +kernel
theorem dX3_recover_14 : decode cX3_recover 14 = .ok (.invokevirtual 106, 3) := by decide +kernel
theorem dX3_recover_17 : decode cX3_recover 17 = .ok (.ireturn, 1) := by decide +kernel
theorem dX3_recover_18 : decode cX3_recover 18 = .ok (.aload_n 0, 1) := by decide +kernel
theorem dX3_recover_19 : decode cX3_recover 19 = .ok (.getfield 7, 3) := by decide +kernel
theorem dX3_recover_22 : decode cX3_recover 22 = .ok (.iconst 0, 1) := by decide +kernel
theorem dX3_recover_23 : decode cX3_recover 23 = .ok (.iload_n 1, 1) := by decide +kernel
theorem dX3_recover_24 : decode cX3_recover 24 = .ok (.iadd, 1) := by decide +kernel
theorem dX3_recover_25 : decode cX3_recover 25 = .ok (.iaload, 1) := by decide +kernel
theorem dX3_recover_26 : decode cX3_recover 26 = .ok (.iconst 1, 1) := by decide +kernel
theorem dX3_recover_27 : decode cX3_recover 27 = .ok (.if_icmp .ne 9, 3) := by decide +kernel
theorem dX3_recover_30 : decode cX3_recover 30 = .ok (.aload_n 0, 1) := by decide +kernel
theorem dX3_recover_31 : decode cX3_recover 31 = .ok (.iconst 2, 1) := by decide +kernel
theorem dX3_recover_32 : decode cX3_recover 32 = .ok (.invokevirtual 106, 3) := by decide +kernel
theorem dX3_recover_35 : decode cX3_recover 35 = .ok (.ireturn, 1) := by decide +kernel
theorem dX3_recover_36 : decode cX3_recover 36 = .ok (.aload_n 0, 1) := by decide +kernel
theorem dX3_recover_37 : decode cX3_recover 37 = .ok (.invokevirtual 116, 3) := by decide +kernel
theorem dX3_recover_40 : decode cX3_recover 40 = .ok (.aload_n 0, 1) := by decide +kernel
theorem dX3_recover_41 : decode cX3_recover 41 = .ok (.iload_n 1, 1) := by decide +kernel
theorem dX3_recover_42 : decode cX3_recover 42 = .ok (.invokevirtual 152, 3) := by decide +kernel
theorem dX3_recover_45 : decode cX3_recover 45 = .ok (.aload_n 0, 1) := by decide +kernel
theorem dX3_recover_46 : decode cX3_recover 46 = .ok (.getfield 7, 3) := by decide +kernel
theorem dX3_recover_49 : decode cX3_recover 49 = .ok (.bipush 13, 2) := by decide +kernel
theorem dX3_recover_51 : decode cX3_recover 51 = .ok (.iaload, 1) := by decide +kernel
theorem dX3_recover_52 : decode cX3_recover 52 = .ok (.ireturn, 1) := by decide +kernel
theorem dX3_append_0 : decode cX3_append 0 = .ok (.aload_n 0, 1) := by decide +kernel
theorem dX3_append_1 : decode cX3_append 1 = .ok (.iconst 0, 1) := by decide +kernel
theorem dX3_append_2 : decode cX3_append 2 = .ok (.putfield 28, 3) := by decide +kernel
theorem dX3_append_5 : decode cX3_append 5 = .ok (.iload_n 1, 1) := by decide +kernel
theorem dX3_append_6 : decode cX3_append 6 = .ok (.bipush 33, 2) := by decide +kernel
theorem dX3_append_8 : decode cX3_append 8 = .ok (.bipush 126, 2) := by decide +kernel
theorem dX3_append_10 : decode cX3_append 10 = .ok (.invokestatic 32, 3) := by decide +kernel
theorem dX3_append_13 : decode cX3_append 13 = .ok (.ifCond .ne 9, 3) := by decide +kernel
theorem dX3_append_16 : decode cX3_append 16 = .ok (.aload_n 0, 1) := by decide +kernel
theorem dX3_append_17 : decode cX3_append 17 = .ok (.iconst 1, 1) := by decide +kernel
theorem dX3_append_18 : decode cX3_append 18 = .ok (.invokevirtual 106, 3) := by decide +kernel
theorem dX3_append_21 : decode cX3_append 21 = .ok (.ireturn, 1) := by decide +kernel
theorem dX3_append_22 : decode cX3_append 22 = .ok (.aload_n 0, 1) := by decide +kernel
theorem dX3_append_23 : decode cX3_append 23 = .ok (.getfield 156, 3) := by decide +kernel
theorem dX3_append_26 : decode cX3_append 26 = .ok (.bipush 60, 2) := by decide +kernel
theorem dX3_append_28 : decode cX3_append 28 = .ok (.if_icmp .ne 9, 3) := by decide +kernel
theorem dX3_append_31 : decode cX3_append 31 = .ok (.aload_n 0, 1) := by decide +kernel
theorem dX3_append_32 : decode cX3_append 32 = .ok (.iconst 2, 1) := by decide +kernel
theorem dX3_append_33 : decode cX3_append 33 = .ok (.invokevirtual 106, 3) := by decide +kernel
theorem dX3_append_36 : decode cX3_append 36 = .ok (.ireturn, 1) := by decide +kernel
theorem dX3_append_37 : decode cX3_append 37 = .ok (.aload_n 0, 1) := by decide +kernel
theorem dX3_append_38 : decode cX3_append 38 = .ok (.getfield 22, 3) := by decide +kernel
theorem dX3_append_41 : decode cX3_append 41 = .ok (.aload_n 0, 1) := by decide +kernel
theorem dX3_append_42 : decode cX3_append 42 = .ok (.getfield 156, 3) := by decide +kernel
theorem dX3_append_45 : decode cX3_append 45 = .ok (.iload_n 1, 1) := by decide +kernel
theorem dX3_append_46 : decode cX3_append 46 = .ok (.iastore, 1) := by decide +kernel
theorem dX3_append_47 : decode cX3_append 47 = .ok (.aload_n 0, 1) := by decide +kernel
theorem dX3_append_48 : decode cX3_append 48 = .ok (.dup, 1) := by decide +kernel
theorem dX3_append_49 : decode cX3_append 49 = .ok (.getfield 156, 3) := by decide +kernel
theorem dX3_append_52 : decode cX3_append 52 = .ok (.iconst 1, 1) := by decide +kernel
theorem dX3_append_53 : decode cX3_append 53 = .ok (.iadd, 1) := by decide +kernel
theorem dX3_append_54 : decode cX3_append 54 = .ok (.putfield 156, 3) := by decide +kernel
theorem dX3_append_57 : decode cX3_append 57 = .ok (.aload_n 0, 1) := by decide +kernel
theorem dX3_append_58 : decode cX3_append 58 = .ok (.getfield 156, 3) := by decide +kernel
theorem dX3_append_61 : decode cX3_append 61 = .ok (.ireturn, 1) := by decide +kernel
theorem dX3_clearBuffer_0 : decode cX3_clearBuffer 0 = .ok (.aload_n 0, 1) := by decide +kernel
theorem dX3_clearBuffer_1 : decode cX3_clearBuffer 1 = .ok (.iconst 0, 1) := by decide +kernel
theorem dX3_clearBuffer_2 : decode cX3_clearBuffer 2 = .ok (.putfield 28, 3) := by decide +kernel
theorem dX3_clearBuffer_5 : decode cX3_clearBuffer 5 = .ok (.aload_n 0, 1) := by decide +kernel
theorem dX3_clearBuffer_6 : decode cX3_clearBuffer 6 = .ok (.getfield 156, 3) := by decide +kernel
theorem dX3_clearBuffer_9 : decode cX3_clearBuffer 9 = .ok (.istore_n 1, 1) := by decide +kernel
theorem dX3_clearBuffer_10 : decode cX3_clearBuffer 10 = .ok (.aload_n 0, 1) := by decide +kernel
theorem dX3_clearBuffer_11 : decode cX3_clearBuffer 11 = .ok (.iconst 0, 1) := by decide +kernel
theorem dX3_clearBuffer_12 : decode cX3_clearBuffer 12 = .ok (.putfield 156, 3) := by decide +kernel
theorem dX3_clearBuffer_15 : decode cX3_clearBuffer 15 = .ok (.iload_n 1, 1) := by decide +kernel
theorem dX3_clearBuffer_16 : decode cX3_clearBuffer 16 = .ok (.ireturn, 1) := by decide +kernel
theorem dX3_sign_0 : decode cX3_sign 0 = .ok (.aload_n 0, 1) := by decide +kernel
theorem dX3_sign_1 : decode cX3_sign 1 = .ok (.getfield 159, 3) := by decide +kernel
theorem dX3_sign_4 : decode cX3_sign 4 = .ok (.aload_n 0, 1) := by decide +kernel
theorem dX3_sign_5 : decode cX3_sign 5 = .ok (.getfield 156, 3) := by decide +kernel
theorem dX3_sign_8 : decode cX3_sign 8 = .ok (.if_icmp .ge 15, 3) := by decide +kernel
theorem dX3_sign_11 : decode cX3_sign 11 = .ok (.aload_n 0, 1) := by decide +kernel
theorem dX3_sign_12 : decode cX3_sign 12 = .ok (.getfield 22, 3) := by decide +kernel
theorem dX3_sign_15 : decode cX3_sign 15 = .ok (.aload_n 0, 1) := by decide +kernel
theorem dX3_sign_16 : decode cX3_sign 16 = .ok (.getfield 159, 3) := by decide +kernel
theorem dX3_sign_19 : decode cX3_sign 19 = .ok (.iaload, 1) := by decide +kernel
theorem dX3_sign_20 : decode cX3_sign 20 = .ok (.goto 4, 3) := by decide +kernel
theorem dX3_sign_23 : decode cX3_sign 23 = .ok (.iconst 0, 1) := by decide +kernel
theorem dX3_sign_24 : decode cX3_sign 24 = .ok (.ireturn, 1) := by decide +kernel
theorem dX3_reads_0 : decode cX3_reads 0 = .ok (.aload_n 0, 1) := by decide +kernel
theorem dX3_reads_1 : decode cX3_reads 1 = .ok (.aload_n 0, 1) := by decide +kernel
theorem dX3_reads_2 : decode cX3_reads 2 = .ok (.getfield 162, 3) := by decide +kernel
theorem dX3_reads_5 : decode cX3_reads 5 = .ok (.ifCond .eq 19, 3) := by decide +kernel
theorem dX3_reads_8 : decode cX3_reads 8 = .ok (.aload_n 0, 1) := by decide +kernel
theorem dX3_reads_9 : decode cX3_reads 9 = .ok (.invokevirtual 166, 3) := by decide +kernel
theorem dX3_reads_12 : decode cX3_reads 12 = .ok (.iload_n 1, 1) := by decide +kernel
theorem dX3_reads_13 : decode cX3_reads 13 = .ok (.iload_n 2, 1) := by decide +kernel
theorem dX3_reads_14 : decode cX3_reads 14 = .ok (.invokestatic 32, 3) := by decide +kernel
theorem dX3_reads_17 : decode cX3_reads 17 = .ok (.ifCond .eq 7, 3) := by decide +kernel
theorem dX3_reads_20 : decode cX3_reads 20 = .ok (.iconst 1, 1) := by decide +kernel
theorem dX3_reads_21 : decode cX3_reads 21 = .ok (.goto 4, 3) := by decide +kernel
theorem dX3_reads_24 : decode cX3_reads 24 = .ok (.iconst 0, 1) := by decide +kernel
theorem dX3_reads_25 : decode cX3_reads 25 = .ok (.putfield 162, 3) := by decide +kernel
theorem dX3_reads_28 : decode cX3_reads 28 = .ok (.aload_n 0, 1) := by decide +kernel
theorem dX3_reads_29 : decode cX3_reads 29 = .ok (.invokevirtual 166, 3) := by decide +kernel
theorem dX3_reads_32 : decode cX3_reads 32 = .ok (.bipush 48, 2) := by decide +kernel
theorem dX3_reads_34 : decode cX3_reads 34 = .ok (.isub, 1) := by decide +kernel
theorem dX3_reads_35 : decode cX3_reads 35 = .ok (.istore_n 3, 1) := by decide +kernel
theorem dX3_reads_36 : decode cX3_reads 36 = .ok (.aload_n 0, 1) := by decide +kernel
theorem dX3_reads_37 : decode cX3_reads 37 = .ok (.dup, 1) := by decide +kernel
theorem dX3_reads_38 : decode cX3_reads 38 = .ok (.getfield 159, 3) := by decide +kernel
theorem dX3_reads_41 : decode cX3_reads 41 = .ok (.aload_n 0, 1) := by decide +kernel
theorem dX3_reads_42 : decode cX3_reads 42 = .ok (.getfield 162, 3) := by decide +kernel
theorem dX3_reads_45 : decode cX3_reads 45 = .ok (.ifCond .eq 7, 3) := by decide +kernel
theorem dX3_reads_48 : decode cX3_reads 48 = .ok (.iconst 1, 1) := by decide +kernel
theorem dX3_reads_49 : decode cX3_reads 49 = .ok (.goto 4, 3) := by decide +kernel
theorem dX3_reads_52 : decode cX3_reads 52 = .ok (.iconst 0, 1) := by decide +kernel
theorem dX3_reads_53 : decode cX3_reads 53 = .ok (.iadd, 1) := by decide +kernel
theorem dX3_reads_54 : decode cX3_reads 54 = .ok (.putfield 159, 3) := by decide +kernel
theorem dX3_reads_57 : decode cX3_reads 57 = .ok (.iload_n 3, 1) := by decide +kernel
theorem dX3_reads_58 : decode cX3_reads 58 = .ok (.ireturn, 1) := by decide +kernel
theorem dX3_readsStores_0 : decode cX3_readsStores 0 = .ok (.iconst 0, 1) := by decide +kernel
theorem dX3_readsStores_1 : decode cX3_readsStores 1 = .ok (.istore_n 2, 1) := by decide +kernel
theorem dX3_readsStores_2 : decode cX3_readsStores 2 = .ok (.bipush 48, 2) := by decide +kernel
theorem dX3_readsStores_4 : decode cX3_readsStores 4 = .ok (.istore_n 3, 1) := by decide +kernel
theorem dX3_readsStores_5 : decode cX3_readsStores 5 = .ok (.aload_n 0, 1) := by decide +kernel
theorem dX3_readsStores_6 : decode cX3_readsStores 6 = .ok (.getfield 162, 3) := by decide +kernel
theorem dX3_readsStores_9 : decode cX3_readsStores 9 = .ok (.istore 4, 2) := by decide +kernel
theorem dX3_readsStores_11 : decode cX3_readsStores 11 = .ok (.iload 4, 2) := by decide +kernel
theorem dX3_readsStores_13 : decode cX3_readsStores 13 = .ok (.ifCond .eq 69, 3) := by decide +kernel
theorem dX3_readsStores_16 : decode cX3_readsStores 16 = .ok (.aload_n 0, 1) := by decide +kernel
theorem dX3_readsStores_17 : decode cX3_readsStores 17 = .ok (.invokevirtual 166, 3) := by decide +kernel
theorem dX3_readsStores_20 : decode cX3_readsStores 20 = .ok (.istore 5, 2) := by decide +kernel
theorem dX3_readsStores_22 : decode cX3_readsStores 22 = .ok (.iload 5, 2) := by decide +kernel
theorem dX3_readsStores_24 : decode cX3_readsStores 24 = .ok (.iload_n 3, 1) := by decide +kernel
theorem dX3_readsStores_25 : decode cX3_readsStores 25 = .ok (.bipush 51, 2) := by decide +kernel
theorem dX3_readsStores_27 : decode cX3_readsStores 27 = .ok (.invokestatic 32, 3) := by decide +kernel
theorem dX3_readsStores_30 : decode cX3_readsStores 30 = .ok (.ifCond .eq 16, 3) := by decide +kernel
theorem dX3_readsStores_33 : decode cX3_readsStores 33 = .ok (.iload 5, 2) := by decide +kernel
theorem dX3_readsStores_35 : decode cX3_readsStores 35 = .ok (.bipush 48, 2) := by decide +kernel
theorem dX3_readsStores_37 : decode cX3_readsStores 37 = .ok (.isub, 1) := by decide +kernel
theorem dX3_readsStores_38 : decode cX3_readsStores 38 = .ok (.iload_n 1, 1) := by decide +kernel
theorem dX3_readsStores_39 : decode cX3_readsStores 39 = .ok (.if_icmp .eq 7, 3) := by decide +kernel
theorem dX3_readsStores_42 : decode cX3_readsStores 42 = .ok (.iconst 1, 1) := by decide +kernel
theorem dX3_readsStores_43 : decode cX3_readsStores 43 = .ok (.goto 4, 3) := by decide +kernel
theorem dX3_readsStores_46 : decode cX3_readsStores 46 = .ok (.iconst 0, 1) := by decide +kernel
theorem dX3_readsStores_47 : decode cX3_readsStores 47 = .ok (.istore 4, 2) := by decide +kernel
theorem dX3_readsStores_49 : decode cX3_readsStores 49 = .ok (.iload 4, 2) := by decide +kernel
theorem dX3_readsStores_51 : decode cX3_readsStores 51 = .ok (.ifCond .eq 28, 3) := by decide +kernel
theorem dX3_readsStores_54 : decode cX3_readsStores 54 = .ok (.iload_n 2, 1) := by decide +kernel
theorem dX3_readsStores_55 : decode cX3_readsStores 55 = .ok (.iconst 1, 1) := by decide +kernel
theorem dX3_readsStores_56 : decode cX3_readsStores 56 = .ok (.iload 5, 2) := by decide +kernel
theorem dX3_readsStores_58 : decode cX3_readsStores 58 = .ok (.bipush 48, 2) := by decide +kernel
theorem dX3_readsStores_60 : decode cX3_readsStores 60 = .ok (.isub, 1) := by decide +kernel
theorem dX3_readsStores_61 : decode cX3_readsStores 61 = .ok (.ishl, 1) := by decide +kernel
theorem dX3_readsStores_62 : decode cX3_readsStores 62 = .ok (.ior, 1) := by decide +kernel
theorem dX3_readsStores_63 : decode cX3_readsStores 63 = .ok (.istore_n 2, 1) := by decide +kernel
theorem dX3_readsStores_64 : decode cX3_readsStores 64 = .ok (.iload 5, 2) := by decide +kernel
theorem dX3_readsStores_66 : decode cX3_readsStores 66 = .ok (.iconst 1, 1) := by decide +kernel
theorem dX3_readsStores_67 : decode cX3_readsStores 67 = .ok (.iadd, 1) := by decide +kernel
theorem dX3_readsStores_68 : decode cX3_readsStores 68 = .ok (.istore_n 3, 1) := by decide +kernel
theorem dX3_readsStores_69 : decode cX3_readsStores 69 = .ok (.aload_n 0, 1) := by decide +kernel
theorem dX3_readsStores_70 : decode cX3_readsStores 70 = .ok (.dup, 1) := by decide +kernel
theorem dX3_readsStores_71 : decode cX3_readsStores 71 = .ok (.getfield 159, 3) := by decide +kernel
theorem dX3_readsStores_74 : decode cX3_readsStores 74 = .ok (.iconst 1, 1) := by decide +kernel
theorem dX3_readsStores_75 : decode cX3_readsStores 75 = .ok (.iadd, 1) := by decide +kernel
theorem dX3_readsStores_76 : decode cX3_readsStores 76 = .ok (.putfield 159, 3) := by decide +kernel
theorem dX3_readsStores_79 : decode cX3_readsStores 79 = .ok (.goto (-68), 3) := by decide +kernel
theorem dX3_readsStores_82 : decode cX3_readsStores 82 = .ok (.aload_n 0, 1) := by decide +kernel
theorem dX3_readsStores_83 : decode cX3_readsStores 83 = .ok (.aload_n 0, 1) := by decide +kernel
theorem dX3_readsStores_84 : decode cX3_readsStores 84 = .ok (.getfield 162, 3) := by decide +kernel
theorem dX3_readsStores_87 : decode cX3_readsStores 87 = .ok (.ifCond .eq 11, 3) := by decide +kernel
theorem dX3_readsStores_90 : decode cX3_readsStores 90 = .ok (.iload_n 2, 1) := by decide +kernel
theorem dX3_readsStores_91 : decode cX3_readsStores 91 = .ok (.ifCond .eq 7, 3) := by decide +kernel
theorem dX3_readsStores_94 : decode cX3_readsStores 94 = .ok (.iconst 1, 1) := by decide +kernel
theorem dX3_readsStores_95 : decode cX3_readsStores 95 = .ok (.goto 4, 3) := by decide +kernel
theorem dX3_readsStores_98 : decode cX3_readsStores 98 = .ok (.iconst 0, 1) := by decide +kernel
theorem dX3_readsStores_99 : decode cX3_readsStores 99 = .ok (.putfield 162, 3) := by decide +kernel
theorem dX3_readsStores_102 : decode cX3_readsStores 102 = .ok (.iload_n 2, 1) := by decide +kernel
theorem dX3_readsStores_103 : decode cX3_readsStores 103 = .ok (.ireturn, 1) := by decide +kernel
theorem dX3_readsSize_0 : decode cX3_readsSize 0 = .ok (.aload_n 0, 1) := by decide +kernel
theorem dX3_readsSize_1 : decode cX3_readsSize 1 = .ok (.bipush 49, 2) := by decide +kernel
theorem dX3_readsSize_3 : decode cX3_readsSize 3 = .ok (.bipush 57, 2) := by decide +kernel
theorem dX3_readsSize_5 : decode cX3_readsSize 5 = .ok (.invokevirtual 169, 3) := by decide +kernel
theorem dX3_readsSize_8 : decode cX3_readsSize 8 = .ok (.istore_n 1, 1) := by decide +kernel
theorem dX3_readsSize_9 : decode cX3_readsSize 9 = .ok (.aload_n 0, 1) := by decide +kernel
theorem dX3_readsSize_10 : decode cX3_readsSize 10 = .ok (.getfield 162, 3) := by decide +kernel
theorem dX3_readsSize_13 : decode cX3_readsSize 13 = .ok (.ifCond .eq 57, 3) := by decide +kernel
theorem dX3_readsSize_16 : decode cX3_readsSize 16 = .ok (.aload_n 0, 1) := by decide +kernel
theorem dX3_readsSize_17 : decode cX3_readsSize 17 = .ok (.invokevirtual 166, 3) := by decide +kernel
theorem dX3_readsSize_20 : decode cX3_readsSize 20 = .ok (.bipush 48, 2) := by decide +kernel
theorem dX3_readsSize_22 : decode cX3_readsSize 22 = .ok (.bipush 57, 2) := by decide +kernel
theorem dX3_readsSize_24 : decode cX3_readsSize 24 = .ok (.invokestatic 32, 3) := by decide +kernel
theorem dX3_readsSize_27 : decode cX3_readsSize 27 = .ok (.ifCond .eq 43, 3) := by decide +kernel
theorem dX3_readsSize_30 : decode cX3_readsSize 30 = .ok (.bipush 10, 2) := by decide +kernel
theorem dX3_readsSize_32 : decode cX3_readsSize 32 = .ok (.iload_n 1, 1) := by decide +kernel
theorem dX3_readsSize_33 : decode cX3_readsSize 33 = .ok (.imul, 1) := by decide +kernel
theorem dX3_readsSize_34 : decode cX3_readsSize 34 = .ok (.aload_n 0, 1) := by decide +kernel
theorem dX3_readsSize_35 : decode cX3_readsSize 35 = .ok (.invokevirtual 166, 3) := by decide +kernel
theorem dX3_readsSize_38 : decode cX3_readsSize 38 = .ok (.iadd, 1) := by decide +kernel
theorem dX3_readsSize_39 : decode cX3_readsSize 39 = .ok (.bipush 48, 2) := by decide +kernel
theorem dX3_readsSize_41 : decode cX3_readsSize 41 = .ok (.isub, 1) := by decide +kernel
theorem dX3_readsSize_42 : decode cX3_readsSize 42 = .ok (.bipush 50, 2) := by decide +kernel
theorem dX3_readsSize_44 : decode cX3_readsSize 44 = .ok (.if_icmp .gt 26, 3) := by decide +kernel
theorem dX3_readsSize_47 : decode cX3_readsSize 47 = .ok (.bipush 10, 2) := by decide +kernel
theorem dX3_readsSize_49 : decode cX3_readsSize 49 = .ok (.iload_n 1, 1) := by decide +kernel
theorem dX3_readsSize_50 : decode cX3_readsSize 50 = .ok (.imul, 1) := by decide +kernel
theorem dX3_readsSize_51 : decode cX3_readsSize 51 = .ok (.aload_n 0, 1) := by decide +kernel
theorem dX3_readsSize_52 : decode cX3_readsSize 52 = .ok (.invokevirtual 166, 3) := by decide +kernel
theorem dX3_readsSize_55 : decode cX3_readsSize 55 = .ok (.iadd, 1) := by decide +kernel
theorem dX3_readsSize_56 : decode cX3_readsSize 56 = .ok (.bipush 48, 2) := by decide +kernel
theorem dX3_readsSize_58 : decode cX3_readsSize 58 = .ok (.isub, 1) := by decide +kernel
theorem dX3_readsSize_59 : decode cX3_readsSize 59 = .ok (.istore_n 1, 1) := by decide +kernel
theorem dX3_readsSize_60 : decode cX3_readsSize 60 = .ok (.aload_n 0, 1) := by decide +kernel
theorem dX3_readsSize_61 : decode cX3_readsSize 61 = .ok (.dup, 1) := by decide +kernel
theorem dX3_readsSize_62 : decode cX3_readsSize 62 = .ok (.getfield 159, 3) := by decide +kernel
theorem dX3_readsSize_65 : decode cX3_readsSize 65 = .ok (.iconst 1, 1) := by decide +kernel
theorem dX3_readsSize_66 : decode cX3_readsSize 66 = .ok (.iadd, 1) := by decide +kernel
theorem dX3_readsSize_67 : decode cX3_readsSize 67 = .ok (.putfield 159, 3) := by decide +kernel
theorem dX3_readsSize_70 : decode cX3_readsSize 70 = .ok (.iload_n 1, 1) := by decide +kernel
theorem dX3_readsSize_71 : decode cX3_readsSize 71 = .ok (.ireturn, 1) := by decide +kernel
theorem dX3_readsPart_0 : decode cX3_readsPart 0 = .ok (.iconst 4, 1) := by decide +kernel
theorem dX3_readsPart_1 : decode cX3_readsPart 1 = .ok (.aload_n 0, 1) := by decide +kernel
theorem dX3_readsPart_2 : decode cX3_readsPart 2 = .ok (.getfield 172, 3) := by decide +kernel
theorem dX3_readsPart_5 : decode cX3_readsPart 5 = .ok (.imul, 1) := by decide +kernel
theorem dX3_readsPart_6 : decode cX3_readsPart 6 = .ok (.istore_n 1, 1) := by decide +kernel
theorem dX3_readsPart_7 : decode cX3_readsPart 7 = .ok (.aload_n 0, 1) := by decide +kernel
theorem dX3_readsPart_8 : decode cX3_readsPart 8 = .ok (.invokevirtual 166, 3) := by decide +kernel
theorem dX3_readsPart_11 : decode cX3_readsPart 11 = .ok (.istore_n 2, 1) := by decide +kernel
theorem dX3_readsPart_12 : decode cX3_readsPart 12 = .ok (.aload_n 0, 1) := by decide +kernel
theorem dX3_readsPart_13 : decode cX3_readsPart 13 = .ok (.iconst 1, 1) := by decide +kernel
theorem dX3_readsPart_14 : decode cX3_readsPart 14 = .ok (.putfield 162, 3) := by decide +kernel
theorem dX3_readsPart_17 : decode cX3_readsPart 17 = .ok (.aload_n 0, 1) := by decide +kernel
theorem dX3_readsPart_18 : decode cX3_readsPart 18 = .ok (.getfield 25, 3) := by decide +kernel
theorem dX3_readsPart_21 : decode cX3_readsPart 21 = .ok (.iload_n 1, 1) := by decide +kernel
theorem dX3_readsPart_22 : decode cX3_readsPart 22 = .ok (.iload_n 2, 1) := by decide +kernel
theorem dX3_readsPart_23 : decode cX3_readsPart 23 = .ok (.iastore, 1) := by decide +kernel
theorem dX3_readsPart_24 : decode cX3_readsPart 24 = .ok (.aload_n 0, 1) := by decide +kernel
theorem dX3_readsPart_25 : decode cX3_readsPart 25 = .ok (.getfield 25, 3) := by decide +kernel
theorem dX3_readsPart_28 : decode cX3_readsPart 28 = .ok (.iload_n 1, 1) := by decide +kernel
theorem dX3_readsPart_29 : decode cX3_readsPart 29 = .ok (.iconst 2, 1) := by decide +kernel
theorem dX3_readsPart_30 : decode cX3_readsPart 30 = .ok (.iadd, 1) := by decide +kernel
theorem dX3_readsPart_31 : decode cX3_readsPart 31 = .ok (.iconst 0, 1) := by decide +kernel
theorem dX3_readsPart_32 : decode cX3_readsPart 32 = .ok (.iastore, 1) := by decide +kernel
theorem dX3_readsPart_33 : decode cX3_readsPart 33 = .ok (.aload_n 0, 1) := by decide +kernel
theorem dX3_readsPart_34 : decode cX3_readsPart 34 = .ok (.dup, 1) := by decide +kernel
theorem dX3_readsPart_35 : decode cX3_readsPart 35 = .ok (.getfield 159, 3) := by decide +kernel
theorem dX3_readsPart_38 : decode cX3_readsPart 38 = .ok (.iconst 1, 1) := by decide +kernel
theorem dX3_readsPart_39 : decode cX3_readsPart 39 = .ok (.iadd, 1) := by decide +kernel
theorem dX3_readsPart_40 : decode cX3_readsPart 40 = .ok (.putfield 159, 3) := by decide +kernel
theorem dX3_readsPart_43 : decode cX3_readsPart 43 = .ok (.iload_n 2, 1) := by decide +kernel
theorem dX3_readsPart_44 : decode cX3_readsPart 44 = .ok (.tableswitch 264 98 114 #[84, 191, 153, 264, 264, 210, 264, 264, 264, 264, 172, 264, 264, 264, 264, 229, 191], 84) := by decide +kernel
theorem dX3_readsPart_128 : decode cX3_readsPart 128 = .ok (.aload_n 0, 1) := by decide +kernel
theorem dX3_readsPart_129 : decode cX3_readsPart 129 = .ok (.getfield 25, 3) := by decide +kernel
theorem dX3_readsPart_132 : decode cX3_readsPart 132 = .ok (.iload_n 1, 1) := by decide +kernel
theorem dX3_readsPart_133 : decode cX3_readsPart 133 = .ok (.iconst 1, 1) := by decide +kernel
theorem dX3_readsPart_134 : decode cX3_readsPart 134 = .ok (.iadd, 1) := by decide +kernel
theorem dX3_readsPart_135 : decode cX3_readsPart 135 = .ok (.aload_n 0, 1) := by decide +kernel
theorem dX3_readsPart_136 : decode cX3_readsPart 136 = .ok (.bipush 48, 2) := by decide +kernel
theorem dX3_readsPart_138 : decode cX3_readsPart 138 = .ok (.bipush 51, 2) := by decide +kernel
theorem dX3_readsPart_140 : decode cX3_readsPart 140 = .ok (.invokevirtual 169, 3) := by decide +kernel
theorem dX3_readsPart_143 : decode cX3_readsPart 143 = .ok (.iastore, 1) := by decide +kernel
theorem dX3_readsPart_144 : decode cX3_readsPart 144 = .ok (.aload_n 0, 1) := by decide +kernel
theorem dX3_readsPart_145 : decode cX3_readsPart 145 = .ok (.bipush 62, 2) := by decide +kernel
theorem dX3_readsPart_147 : decode cX3_readsPart 147 = .ok (.bipush 62, 2) := by decide +kernel
theorem dX3_readsPart_149 : decode cX3_readsPart 149 = .ok (.invokevirtual 169, 3) := by decide +kernel
theorem dX3_readsPart_152 : decode cX3_readsPart 152 = .ok (.pop, 1) := by decide +kernel
theorem dX3_readsPart_153 : decode cX3_readsPart 153 = .ok (.aload_n 0, 1) := by decide +kernel
theorem dX3_readsPart_154 : decode cX3_readsPart 154 = .ok (.getfield 25, 3) := by decide +kernel
theorem dX3_readsPart_157 : decode cX3_readsPart 157 = .ok (.iload_n 1, 1) := by decide +kernel
theorem dX3_readsPart_158 : decode cX3_readsPart 158 = .ok (.iconst 2, 1) := by decide +kernel
theorem dX3_readsPart_159 : decode cX3_readsPart 159 = .ok (.iadd, 1) := by decide +kernel
theorem dX3_readsPart_160 : decode cX3_readsPart 160 = .ok (.aload_n 0, 1) := by decide +kernel
theorem dX3_readsPart_161 : decode cX3_readsPart 161 = .ok (.aload_n 0, 1) := by decide +kernel
theorem dX3_readsPart_162 : decode cX3_readsPart 162 = .ok (.getfield 25, 3) := by decide +kernel
theorem dX3_readsPart_165 : decode cX3_readsPart 165 = .ok (.iload_n 1, 1) := by decide +kernel
theorem dX3_readsPart_166 : decode cX3_readsPart 166 = .ok (.iconst 1, 1) := by decide +kernel
theorem dX3_readsPart_167 : decode cX3_readsPart 167 = .ok (.iadd, 1) := by decide +kernel
theorem dX3_readsPart_168 : decode cX3_readsPart 168 = .ok (.iaload, 1) := by decide +kernel
theorem dX3_readsPart_169 : decode cX3_readsPart 169 = .ok (.invokevirtual 175, 3) := by decide +kernel
theorem dX3_readsPart_172 : decode cX3_readsPart 172 = .ok (.iastore, 1) := by decide +kernel
theorem dX3_readsPart_173 : decode cX3_readsPart 173 = .ok (.aload_n 0, 1) := by decide +kernel
theorem dX3_readsPart_174 : decode cX3_readsPart 174 = .ok (.bipush 58, 2) := by decide +kernel
theorem dX3_readsPart_176 : decode cX3_readsPart 176 = .ok (.bipush 58, 2) := by decide +kernel
theorem dX3_readsPart_178 : decode cX3_readsPart 178 = .ok (.invokevirtual 169, 3) := by decide +kernel
theorem dX3_readsPart_181 : decode cX3_readsPart 181 = .ok (.pop, 1) := by decide +kernel
theorem dX3_readsPart_182 : decode cX3_readsPart 182 = .ok (.aload_n 0, 1) := by decide +kernel
theorem dX3_readsPart_183 : decode cX3_readsPart 183 = .ok (.getfield 25, 3) := by decide +kernel
theorem dX3_readsPart_186 : decode cX3_readsPart 186 = .ok (.iload_n 1, 1) := by decide +kernel
theorem dX3_readsPart_187 : decode cX3_readsPart 187 = .ok (.iconst 3, 1) := by decide +kernel
theorem dX3_readsPart_188 : decode cX3_readsPart 188 = .ok (.iadd, 1) := by decide +kernel
theorem dX3_readsPart_189 : decode cX3_readsPart 189 = .ok (.aload_n 0, 1) := by decide +kernel
theorem dX3_readsPart_190 : decode cX3_readsPart 190 = .ok (.invokevirtual 178, 3) := by decide +kernel
theorem dX3_readsPart_193 : decode cX3_readsPart 193 = .ok (.iastore, 1) := by decide +kernel
theorem dX3_readsPart_194 : decode cX3_readsPart 194 = .ok (.goto 129, 3) := by decide +kernel
theorem dX3_readsPart_197 : decode cX3_readsPart 197 = .ok (.aload_n 0, 1) := by decide +kernel
theorem dX3_readsPart_198 : decode cX3_readsPart 198 = .ok (.getfield 25, 3) := by decide +kernel
theorem dX3_readsPart_201 : decode cX3_readsPart 201 = .ok (.iload_n 1, 1) := by decide +kernel
theorem dX3_readsPart_202 : decode cX3_readsPart 202 = .ok (.iconst 1, 1) := by decide +kernel
theorem dX3_readsPart_203 : decode cX3_readsPart 203 = .ok (.iadd, 1) := by decide +kernel
theorem dX3_readsPart_204 : decode cX3_readsPart 204 = .ok (.aload_n 0, 1) := by decide +kernel
theorem dX3_readsPart_205 : decode cX3_readsPart 205 = .ok (.bipush 49, 2) := by decide +kernel
theorem dX3_readsPart_207 : decode cX3_readsPart 207 = .ok (.bipush 57, 2) := by decide +kernel
theorem dX3_readsPart_209 : decode cX3_readsPart 209 = .ok (.invokevirtual 169, 3) := by decide +kernel
theorem dX3_readsPart_212 : decode cX3_readsPart 212 = .ok (.iastore, 1) := by decide +kernel
theorem dX3_readsPart_213 : decode cX3_readsPart 213 = .ok (.goto 110, 3) := by decide +kernel
theorem dX3_readsPart_216 : decode cX3_readsPart 216 = .ok (.aload_n 0, 1) := by decide +kernel
theorem dX3_readsPart_217 : decode cX3_readsPart 217 = .ok (.getfield 25, 3) := by decide +kernel
theorem dX3_readsPart_220 : decode cX3_readsPart 220 = .ok (.iload_n 1, 1) := by decide +kernel
theorem dX3_readsPart_221 : decode cX3_readsPart 221 = .ok (.iconst 1, 1) := by decide +kernel
theorem dX3_readsPart_222 : decode cX3_readsPart 222 = .ok (.iadd, 1) := by decide +kernel
theorem dX3_readsPart_223 : decode cX3_readsPart 223 = .ok (.aload_n 0, 1) := by decide +kernel
theorem dX3_readsPart_224 : decode cX3_readsPart 224 = .ok (.bipush 48, 2) := by decide +kernel
theorem dX3_readsPart_226 : decode cX3_readsPart 226 = .ok (.bipush 57, 2) := by decide +kernel
theorem dX3_readsPart_228 : decode cX3_readsPart 228 = .ok (.invokevirtual 169, 3) := by decide +kernel
theorem dX3_readsPart_231 : decode cX3_readsPart 231 = .ok (.iastore, 1) := by decide +kernel
theorem dX3_readsPart_232 : decode cX3_readsPart 232 = .ok (.goto 91, 3) := by decide +kernel
theorem dX3_readsPart_235 : decode cX3_readsPart 235 = .ok (.aload_n 0, 1) := by decide +kernel
theorem dX3_readsPart_236 : decode cX3_readsPart 236 = .ok (.getfield 25, 3) := by decide +kernel
theorem dX3_readsPart_239 : decode cX3_readsPart 239 = .ok (.iload_n 1, 1) := by decide +kernel
theorem dX3_readsPart_240 : decode cX3_readsPart 240 = .ok (.iconst 1, 1) := by decide +kernel
theorem dX3_readsPart_241 : decode cX3_readsPart 241 = .ok (.iadd, 1) := by decide +kernel
theorem dX3_readsPart_242 : decode cX3_readsPart 242 = .ok (.aload_n 0, 1) := by decide +kernel
theorem dX3_readsPart_243 : decode cX3_readsPart 243 = .ok (.bipush 48, 2) := by decide +kernel
theorem dX3_readsPart_245 : decode cX3_readsPart 245 = .ok (.bipush 52, 2) := by decide +kernel
theorem dX3_readsPart_247 : decode cX3_readsPart 247 = .ok (.invokevirtual 169, 3) := by decide +kernel
theorem dX3_readsPart_250 : decode cX3_readsPart 250 = .ok (.iastore, 1) := by decide +kernel
theorem dX3_readsPart_251 : decode cX3_readsPart 251 = .ok (.goto 72, 3) := by decide +kernel
theorem dX3_readsPart_254 : decode cX3_readsPart 254 = .ok (.aload_n 0, 1) := by decide +kernel
theorem dX3_readsPart_255 : decode cX3_readsPart 255 = .ok (.getfield 25, 3) := by decide +kernel
theorem dX3_readsPart_258 : decode cX3_readsPart 258 = .ok (.iload_n 1, 1) := by decide +kernel
theorem dX3_readsPart_259 : decode cX3_readsPart 259 = .ok (.iconst 1, 1) := by decide +kernel
theorem dX3_readsPart_260 : decode cX3_readsPart 260 = .ok (.iadd, 1) := by decide +kernel
theorem dX3_readsPart_261 : decode cX3_readsPart 261 = .ok (.aload_n 0, 1) := by decide +kernel
theorem dX3_readsPart_262 : decode cX3_readsPart 262 = .ok (.bipush 48, 2) := by decide +kernel
theorem dX3_readsPart_264 : decode cX3_readsPart 264 = .ok (.bipush 55, 2) := by decide +kernel
theorem dX3_readsPart_266 : decode cX3_readsPart 266 = .ok (.invokevirtual 169, 3) := by decide +kernel
theorem dX3_readsPart_269 : decode cX3_readsPart 269 = .ok (.iastore, 1) := by decide +kernel
theorem dX3_readsPart_270 : decode cX3_readsPart 270 = .ok (.goto 53, 3) := by decide +kernel
theorem dX3_readsPart_273 : decode cX3_readsPart 273 = .ok (.aload_n 0, 1) := by decide +kernel
theorem dX3_readsPart_274 : decode cX3_readsPart 274 = .ok (.getfield 25, 3) := by decide +kernel
theorem dX3_readsPart_277 : decode cX3_readsPart 277 = .ok (.iload_n 1, 1) := by decide +kernel
theorem dX3_readsPart_278 : decode cX3_readsPart 278 = .ok (.iconst 1, 1) := by decide +kernel
theorem dX3_readsPart_279 : decode cX3_readsPart 279 = .ok (.iadd, 1) := by decide +kernel
theorem dX3_readsPart_280 : decode cX3_readsPart 280 = .ok (.aload_n 0, 1) := by decide +kernel
theorem dX3_readsPart_281 : decode cX3_readsPart 281 = .ok (.bipush 48, 2) := by decide +kernel
theorem dX3_readsPart_283 : decode cX3_readsPart 283 = .ok (.bipush 51, 2) := by decide +kernel
theorem dX3_readsPart_285 : decode cX3_readsPart 285 = .ok (.invokevirtual 169, 3) := by decide +kernel
theorem dX3_readsPart_288 : decode cX3_readsPart 288 = .ok (.iastore, 1) := by decide +kernel
theorem dX3_readsPart_289 : decode cX3_readsPart 289 = .ok (.aload_n 0, 1) := by decide +kernel
theorem dX3_readsPart_290 : decode cX3_readsPart 290 = .ok (.getfield 25, 3) := by decide +kernel
theorem dX3_readsPart_293 : decode cX3_readsPart 293 = .ok (.iload_n 1, 1) := by decide +kernel
theorem dX3_readsPart_294 : decode cX3_readsPart 294 = .ok (.iconst 2, 1) := by decide +kernel
theorem dX3_readsPart_295 : decode cX3_readsPart 295 = .ok (.iadd, 1) := by decide +kernel
theorem dX3_readsPart_296 : decode cX3_readsPart 296 = .ok (.aload_n 0, 1) := by decide +kernel
theorem dX3_readsPart_297 : decode cX3_readsPart 297 = .ok (.bipush 48, 2) := by decide +kernel
theorem dX3_readsPart_299 : decode cX3_readsPart 299 = .ok (.bipush 55, 2) := by decide +kernel
theorem dX3_readsPart_301 : decode cX3_readsPart 301 = .ok (.invokevirtual 169, 3) := by decide +kernel
theorem dX3_readsPart_304 : decode cX3_readsPart 304 = .ok (.iastore, 1) := by decide +kernel
theorem dX3_readsPart_305 : decode cX3_readsPart 305 = .ok (.goto 18, 3) := by decide +kernel
theorem dX3_readsPart_308 : decode cX3_readsPart 308 = .ok (.aload_n 0, 1) := by decide +kernel
theorem dX3_readsPart_309 : decode cX3_readsPart 309 = .ok (.dup, 1) := by decide +kernel
theorem dX3_readsPart_310 : decode cX3_readsPart 310 = .ok (.getfield 159, 3) := by decide +kernel
theorem dX3_readsPart_313 : decode cX3_readsPart 313 = .ok (.iconst 1, 1) := by decide +kernel
theorem dX3_readsPart_314 : decode cX3_readsPart 314 = .ok (.isub, 1) := by decide +kernel
theorem dX3_readsPart_315 : decode cX3_readsPart 315 = .ok (.putfield 159, 3) := by decide +kernel
theorem dX3_readsPart_318 : decode cX3_readsPart 318 = .ok (.aload_n 0, 1) := by decide +kernel
theorem dX3_readsPart_319 : decode cX3_readsPart 319 = .ok (.iconst 0, 1) := by decide +kernel
theorem dX3_readsPart_320 : decode cX3_readsPart 320 = .ok (.putfield 162, 3) := by decide +kernel
theorem dX3_readsPart_323 : decode cX3_readsPart 323 = .ok (.aload_n 0, 1) := by decide +kernel
theorem dX3_readsPart_324 : decode cX3_readsPart 324 = .ok (.dup, 1) := by decide +kernel
theorem dX3_readsPart_325 : decode cX3_readsPart 325 = .ok (.getfield 172, 3) := by decide +kernel
theorem dX3_readsPart_328 : decode cX3_readsPart 328 = .ok (.aload_n 0, 1) := by decide +kernel
theorem dX3_readsPart_329 : decode cX3_readsPart 329 = .ok (.getfield 162, 3) := by decide +kernel
theorem dX3_readsPart_332 : decode cX3_readsPart 332 = .ok (.ifCond .eq 7, 3) := by decide +kernel
theorem dX3_readsPart_335 : decode cX3_readsPart 335 = .ok (.iconst 1, 1) := by decide +kernel
theorem dX3_readsPart_336 : decode cX3_readsPart 336 = .ok (.goto 4, 3) := by decide +kernel
theorem dX3_readsPart_339 : decode cX3_readsPart 339 = .ok (.iconst 0, 1) := by decide +kernel
theorem dX3_readsPart_340 : decode cX3_readsPart 340 = .ok (.iadd, 1) := by decide +kernel
theorem dX3_readsPart_341 : decode cX3_readsPart 341 = .ok (.putfield 172, 3) := by decide +kernel
theorem dX3_readsPart_344 : decode cX3_readsPart 344 = .ok (.return_, 1) := by decide +kernel
theorem dX3_readsCourse_0 : decode cX3_readsCourse 0 = .ok (.aload_n 0, 1) := by decide +kernel
theorem dX3_readsCourse_1 : decode cX3_readsCourse 1 = .ok (.iconst 0, 1) := by decide +kernel
theorem dX3_readsCourse_2 : decode cX3_readsCourse 2 = .ok (.putfield 159, 3) := by decide +kernel
theorem dX3_readsCourse_5 : decode cX3_readsCourse 5 = .ok (.aload_n 0, 1) := by decide +kernel
theorem dX3_readsCourse_6 : decode cX3_readsCourse 6 = .ok (.iconst 0, 1) := by decide +kernel
theorem dX3_readsCourse_7 : decode cX3_readsCourse 7 = .ok (.putfield 172, 3) := by decide +kernel
theorem dX3_readsCourse_10 : decode cX3_readsCourse 10 = .ok (.aload_n 0, 1) := by decide +kernel
theorem dX3_readsCourse_11 : decode cX3_readsCourse 11 = .ok (.invokevirtual 181, 3) := by decide +kernel
theorem dX3_readsCourse_14 : decode cX3_readsCourse 14 = .ok (.aload_n 0, 1) := by decide +kernel
theorem dX3_readsCourse_15 : decode cX3_readsCourse 15 = .ok (.getfield 162, 3) := by decide +kernel
theorem dX3_readsCourse_18 : decode cX3_readsCourse 18 = .ok (.ifCond .eq 37, 3) := by decide +kernel
theorem dX3_readsCourse_21 : decode cX3_readsCourse 21 = .ok (.aload_n 0, 1) := by decide +kernel
theorem dX3_readsCourse_22 : decode cX3_readsCourse 22 = .ok (.getfield 159, 3) := by decide +kernel
theorem dX3_readsCourse_25 : decode cX3_readsCourse 25 = .ok (.aload_n 0, 1) := by decide +kernel
theorem dX3_readsCourse_26 : decode cX3_readsCourse 26 = .ok (.getfield 156, 3) := by decide +kernel
theorem dX3_readsCourse_29 : decode cX3_readsCourse 29 = .ok (.if_icmp .ge 26, 3) := by decide +kernel
theorem dX3_readsCourse_32 : decode cX3_readsCourse 32 = .ok (.aload_n 0, 1) := by decide +kernel
theorem dX3_readsCourse_33 : decode cX3_readsCourse 33 = .ok (.bipush 59, 2) := by decide +kernel
theorem dX3_readsCourse_35 : decode cX3_readsCourse 35 = .ok (.bipush 59, 2) := by decide +kernel
theorem dX3_readsCourse_37 : decode cX3_readsCourse 37 = .ok (.invokevirtual 169, 3) := by decide +kernel
theorem dX3_readsCourse_40 : decode cX3_readsCourse 40 = .ok (.pop, 1) := by decide +kernel
theorem dX3_readsCourse_41 : decode cX3_readsCourse 41 = .ok (.aload_n 0, 1) := by decide +kernel
theorem dX3_readsCourse_42 : decode cX3_readsCourse 42 = .ok (.getfield 162, 3) := by decide +kernel
theorem dX3_readsCourse_45 : decode cX3_readsCourse 45 = .ok (.ifCond .eq (-31), 3) := by decide +kernel
theorem dX3_readsCourse_48 : decode cX3_readsCourse 48 = .ok (.aload_n 0, 1) := by decide +kernel
theorem dX3_readsCourse_49 : decode cX3_readsCourse 49 = .ok (.invokevirtual 181, 3) := by decide +kernel
theorem dX3_readsCourse_52 : decode cX3_readsCourse 52 = .ok (.goto (-38), 3) := by decide +kernel
theorem dX3_readsCourse_55 : decode cX3_readsCourse 55 = .ok (.aload_n 0, 1) := by decide +kernel
theorem dX3_readsCourse_56 : decode cX3_readsCourse 56 = .ok (.getfield 162, 3) := by decide +kernel
theorem dX3_readsCourse_59 : decode cX3_readsCourse 59 = .ok (.ireturn, 1) := by decide +kernel
theorem dX3_firstError_0 : decode cX3_firstError 0 = .ok (.aload_n 0, 1) := by decide +kernel
theorem dX3_firstError_1 : decode cX3_firstError 1 = .ok (.iconst 0, 1) := by decide +kernel
theorem dX3_firstError_2 : decode cX3_firstError 2 = .ok (.putfield 28, 3) := by decide +kernel
theorem dX3_firstError_5 : decode cX3_firstError 5 = .ok (.aload_n 0, 1) := by decide +kernel
theorem dX3_firstError_6 : decode cX3_firstError 6 = .ok (.invokevirtual 184, 3) := by decide +kernel
theorem dX3_firstError_9 : decode cX3_firstError 9 = .ok (.ifCond .eq 10, 3) := by decide +kernel
theorem dX3_firstError_12 : decode cX3_firstError 12 = .ok (.aload_n 0, 1) := by decide +kernel
theorem dX3_firstError_13 : decode cX3_firstError 13 = .ok (.getfield 156, 3) := by decide +kernel
theorem dX3_firstError_16 : decode cX3_firstError 16 = .ok (.goto 7, 3) := by decide +kernel
theorem dX3_firstError_19 : decode cX3_firstError 19 = .ok (.aload_n 0, 1) := by decide +kernel
theorem dX3_firstError_20 : decode cX3_firstError 20 = .ok (.getfield 159, 3) := by decide +kernel
theorem dX3_firstError_23 : decode cX3_firstError 23 = .ok (.ireturn, 1) := by decide +kernel
theorem dX3_does_0 : decode cX3_does 0 = .ok (.aload_n 0, 1) := by decide +kernel
theorem dX3_does_1 : decode cX3_does 1 = .ok (.getfield 25, 3) := by decide +kernel
theorem dX3_does_4 : decode cX3_does 4 = .ok (.iload_n 1, 1) := by decide +kernel
theorem dX3_does_5 : decode cX3_does 5 = .ok (.iconst 1, 1) := by decide +kernel
theorem dX3_does_6 : decode cX3_does 6 = .ok (.iadd, 1) := by decide +kernel
theorem dX3_does_7 : decode cX3_does 7 = .ok (.iaload, 1) := by decide +kernel
theorem dX3_does_8 : decode cX3_does 8 = .ok (.istore_n 2, 1) := by decide +kernel
theorem dX3_does_9 : decode cX3_does 9 = .ok (.aload_n 0, 1) := by decide +kernel
theorem dX3_does_10 : decode cX3_does 10 = .ok (.getfield 25, 3) := by decide +kernel
theorem dX3_does_13 : decode cX3_does 13 = .ok (.iload_n 1, 1) := by decide +kernel
theorem dX3_does_14 : decode cX3_does 14 = .ok (.iconst 2, 1) := by decide +kernel
theorem dX3_does_15 : decode cX3_does 15 = .ok (.iadd, 1) := by decide +kernel
theorem dX3_does_16 : decode cX3_does 16 = .ok (.iaload, 1) := by decide +kernel
theorem dX3_does_17 : decode cX3_does 17 = .ok (.istore_n 3, 1) := by decide +kernel
theorem dX3_does_18 : decode cX3_does 18 = .ok (.aload_n 0, 1) := by decide +kernel
theorem dX3_does_19 : decode cX3_does 19 = .ok (.getfield 25, 3) := by decide +kernel
theorem dX3_does_22 : decode cX3_does 22 = .ok (.iload_n 1, 1) := by decide +kernel
theorem dX3_does_23 : decode cX3_does 23 = .ok (.iaload, 1) := by decide +kernel
theorem dX3_does_24 : decode cX3_does 24 = .ok (.tableswitch 275 98 114 #[84, 134, 275, 275, 275, 198, 275, 275, 275, 275, 113, 275, 275, 275, 275, 235, 167], 84) := by decide +kernel
theorem dX3_does_108 : decode cX3_does 108 = .ok (.aload_n 0, 1) := by decide +kernel
theorem dX3_does_109 : decode cX3_does 109 = .ok (.invokevirtual 112, 3) := by decide +kernel
theorem dX3_does_112 : decode cX3_does 112 = .ok (.istore 4, 2) := by decide +kernel
theorem dX3_does_114 : decode cX3_does 114 = .ok (.iload 4, 2) := by decide +kernel
theorem dX3_does_116 : decode cX3_does 116 = .ok (.ifCond .eq 18, 3) := by decide +kernel
theorem dX3_does_119 : decode cX3_does 119 = .ok (.aload_n 0, 1) := by decide +kernel
theorem dX3_does_120 : decode cX3_does 120 = .ok (.iload_n 2, 1) := by decide +kernel
theorem dX3_does_121 : decode cX3_does 121 = .ok (.iload_n 3, 1) := by decide +kernel
theorem dX3_does_122 : decode cX3_does 122 = .ok (.aload_n 0, 1) := by decide +kernel
theorem dX3_does_123 : decode cX3_does 123 = .ok (.getfield 25, 3) := by decide +kernel
theorem dX3_does_126 : decode cX3_does 126 = .ok (.iload_n 1, 1) := by decide +kernel
theorem dX3_does_127 : decode cX3_does 127 = .ok (.iconst 3, 1) := by decide +kernel
theorem dX3_does_128 : decode cX3_does 128 = .ok (.iadd, 1) := by decide +kernel
theorem dX3_does_129 : decode cX3_does 129 = .ok (.iaload, 1) := by decide +kernel
theorem dX3_does_130 : decode cX3_does 130 = .ok (.invokevirtual 119, 3) := by decide +kernel
theorem dX3_does_133 : decode cX3_does 133 = .ok (.pop, 1) := by decide +kernel
theorem dX3_does_134 : decode cX3_does 134 = .ok (.iload 4, 2) := by decide +kernel
theorem dX3_does_136 : decode cX3_does 136 = .ok (.ireturn, 1) := by decide +kernel
theorem dX3_does_137 : decode cX3_does 137 = .ok (.aload_n 0, 1) := by decide +kernel
theorem dX3_does_138 : decode cX3_does 138 = .ok (.iload_n 2, 1) := by decide +kernel
theorem dX3_does_139 : decode cX3_does 139 = .ok (.invokevirtual 132, 3) := by decide +kernel
theorem dX3_does_142 : decode cX3_does 142 = .ok (.istore 4, 2) := by decide +kernel
theorem dX3_does_144 : decode cX3_does 144 = .ok (.iload 4, 2) := by decide +kernel
theorem dX3_does_146 : decode cX3_does 146 = .ok (.ifCond .eq 9, 3) := by decide +kernel
theorem dX3_does_149 : decode cX3_does 149 = .ok (.aload_n 0, 1) := by decide +kernel
theorem dX3_does_150 : decode cX3_does 150 = .ok (.iload_n 2, 1) := by decide +kernel
theorem dX3_does_151 : decode cX3_does 151 = .ok (.invokevirtual 143, 3) := by decide +kernel
theorem dX3_does_154 : decode cX3_does 154 = .ok (.pop, 1) := by decide +kernel
theorem dX3_does_155 : decode cX3_does 155 = .ok (.iload 4, 2) := by decide +kernel
theorem dX3_does_157 : decode cX3_does 157 = .ok (.ireturn, 1) := by decide +kernel
theorem dX3_does_158 : decode cX3_does 158 = .ok (.aload_n 0, 1) := by decide +kernel
theorem dX3_does_159 : decode cX3_does 159 = .ok (.getfield 7, 3) := by decide +kernel
theorem dX3_does_162 : decode cX3_does 162 = .ok (.iconst 0, 1) := by decide +kernel
theorem dX3_does_163 : decode cX3_does 163 = .ok (.iload_n 2, 1) := by decide +kernel
theorem dX3_does_164 : decode cX3_does 164 = .ok (.iadd, 1) := by decide +kernel
theorem dX3_does_165 : decode cX3_does 165 = .ok (.iaload, 1) := by decide +kernel
theorem dX3_does_166 : decode cX3_does 166 = .ok (.iconst 1, 1) := by decide +kernel
theorem dX3_does_167 : decode cX3_does 167 = .ok (.if_icmp .ne 7, 3) := by decide +kernel
theorem dX3_does_170 : decode cX3_does 170 = .ok (.iconst 1, 1) := by decide +kernel
theorem dX3_does_171 : decode cX3_does 171 = .ok (.goto 4, 3) := by decide +kernel
theorem dX3_does_174 : decode cX3_does 174 = .ok (.iconst 0, 1) := by decide +kernel
theorem dX3_does_175 : decode cX3_does 175 = .ok (.istore 4, 2) := by decide +kernel
theorem dX3_does_177 : decode cX3_does 177 = .ok (.iload 4, 2) := by decide +kernel
theorem dX3_does_179 : decode cX3_does 179 = .ok (.ifCond .eq 9, 3) := by decide +kernel
theorem dX3_does_182 : decode cX3_does 182 = .ok (.aload_n 0, 1) := by decide +kernel
theorem dX3_does_183 : decode cX3_does 183 = .ok (.iload_n 2, 1) := by decide +kernel
theorem dX3_does_184 : decode cX3_does 184 = .ok (.invokevirtual 149, 3) := by decide +kernel
theorem dX3_does_187 : decode cX3_does 187 = .ok (.pop, 1) := by decide +kernel
theorem dX3_does_188 : decode cX3_does 188 = .ok (.iload 4, 2) := by decide +kernel
theorem dX3_does_190 : decode cX3_does 190 = .ok (.ireturn, 1) := by decide +kernel
theorem dX3_does_191 : decode cX3_does 191 = .ok (.aload_n 0, 1) := by decide +kernel
theorem dX3_does_192 : decode cX3_does 192 = .ok (.getfield 7, 3) := by decide +kernel
theorem dX3_does_195 : decode cX3_does 195 = .ok (.iconst 0, 1) := by decide +kernel
theorem dX3_does_196 : decode cX3_does 196 = .ok (.iload_n 2, 1) := by decide +kernel
theorem dX3_does_197 : decode cX3_does 197 = .ok (.iadd, 1) := by decide +kernel
theorem dX3_does_198 : decode cX3_does 198 = .ok (.iaload, 1) := by decide +kernel
theorem dX3_does_199 : decode cX3_does 199 = .ok (.ifCond .ne 7, 3) := by decide +kernel
theorem dX3_does_202 : decode cX3_does 202 = .ok (.iconst 1, 1) := by decide +kernel
theorem dX3_does_203 : decode cX3_does 203 = .ok (.goto 4, 3) := by decide +kernel
theorem dX3_does_206 : decode cX3_does 206 = .ok (.iconst 0, 1) := by decide +kernel
theorem dX3_does_207 : decode cX3_does 207 = .ok (.istore 4, 2) := by decide +kernel
theorem dX3_does_209 : decode cX3_does 209 = .ok (.iload 4, 2) := by decide +kernel
theorem dX3_does_211 : decode cX3_does 211 = .ok (.ifCond .eq 8, 3) := by decide +kernel
theorem dX3_does_214 : decode cX3_does 214 = .ok (.aload_n 0, 1) := by decide +kernel
theorem dX3_does_215 : decode cX3_does 215 = .ok (.iload_n 2, 1) := by decide +kernel
theorem dX3_does_216 : decode cX3_does 216 = .ok (.invokevirtual 152, 3) := by decide +kernel
theorem dX3_does_219 : decode cX3_does 219 = .ok (.iload 4, 2) := by decide +kernel
theorem dX3_does_221 : decode cX3_does 221 = .ok (.ireturn, 1) := by decide +kernel
theorem dX3_does_222 : decode cX3_does 222 = .ok (.aload_n 0, 1) := by decide +kernel
theorem dX3_does_223 : decode cX3_does 223 = .ok (.iload_n 2, 1) := by decide +kernel
theorem dX3_does_224 : decode cX3_does 224 = .ok (.invokevirtual 123, 3) := by decide +kernel
theorem dX3_does_227 : decode cX3_does 227 = .ok (.ifCond .eq 15, 3) := by decide +kernel
theorem dX3_does_230 : decode cX3_does 230 = .ok (.aload_n 0, 1) := by decide +kernel
theorem dX3_does_231 : decode cX3_does 231 = .ok (.iload_n 2, 1) := by decide +kernel
theorem dX3_does_232 : decode cX3_does 232 = .ok (.invokevirtual 126, 3) := by decide +kernel
theorem dX3_does_235 : decode cX3_does 235 = .ok (.ifCond .eq 7, 3) := by decide +kernel
theorem dX3_does_238 : decode cX3_does 238 = .ok (.iconst 1, 1) := by decide +kernel
theorem dX3_does_239 : decode cX3_does 239 = .ok (.goto 4, 3) := by decide +kernel
theorem dX3_does_242 : decode cX3_does 242 = .ok (.iconst 0, 1) := by decide +kernel
theorem dX3_does_243 : decode cX3_does 243 = .ok (.istore 4, 2) := by decide +kernel
theorem dX3_does_245 : decode cX3_does 245 = .ok (.iload 4, 2) := by decide +kernel
theorem dX3_does_247 : decode cX3_does 247 = .ok (.ifCond .eq 9, 3) := by decide +kernel
theorem dX3_does_250 : decode cX3_does 250 = .ok (.aload_n 0, 1) := by decide +kernel
theorem dX3_does_251 : decode cX3_does 251 = .ok (.iload_n 2, 1) := by decide +kernel
theorem dX3_does_252 : decode cX3_does 252 = .ok (.iconst 2, 1) := by decide +kernel
theorem dX3_does_253 : decode cX3_does 253 = .ok (.invokevirtual 81, 3) := by decide +kernel
theorem dX3_does_256 : decode cX3_does 256 = .ok (.iload 4, 2) := by decide +kernel
theorem dX3_does_258 : decode cX3_does 258 = .ok (.ireturn, 1) := by decide +kernel
theorem dX3_does_259 : decode cX3_does 259 = .ok (.aload_n 0, 1) := by decide +kernel
theorem dX3_does_260 : decode cX3_does 260 = .ok (.iload_n 3, 1) := by decide +kernel
theorem dX3_does_261 : decode cX3_does 261 = .ok (.invokevirtual 123, 3) := by decide +kernel
theorem dX3_does_264 : decode cX3_does 264 = .ok (.ifCond .eq 16, 3) := by decide +kernel
theorem dX3_does_267 : decode cX3_does 267 = .ok (.aload_n 0, 1) := by decide +kernel
theorem dX3_does_268 : decode cX3_does 268 = .ok (.iload_n 2, 1) := by decide +kernel
theorem dX3_does_269 : decode cX3_does 269 = .ok (.iload_n 3, 1) := by decide +kernel
theorem dX3_does_270 : decode cX3_does 270 = .ok (.invokevirtual 129, 3) := by decide +kernel
theorem dX3_does_273 : decode cX3_does 273 = .ok (.ifCond .eq 7, 3) := by decide +kernel
theorem dX3_does_276 : decode cX3_does 276 = .ok (.iconst 1, 1) := by decide +kernel
theorem dX3_does_277 : decode cX3_does 277 = .ok (.goto 4, 3) := by decide +kernel
theorem dX3_does_280 : decode cX3_does 280 = .ok (.iconst 0, 1) := by decide +kernel
theorem dX3_does_281 : decode cX3_does 281 = .ok (.istore 4, 2) := by decide +kernel
theorem dX3_does_283 : decode cX3_does 283 = .ok (.iload 4, 2) := by decide +kernel
theorem dX3_does_285 : decode cX3_does 285 = .ok (.ifCond .eq 11, 3) := by decide +kernel
theorem dX3_does_288 : decode cX3_does 288 = .ok (.aload_n 0, 1) := by decide +kernel
theorem dX3_does_289 : decode cX3_does 289 = .ok (.bipush 6, 2) := by decide +kernel
theorem dX3_does_291 : decode cX3_does 291 = .ok (.iload_n 3, 1) := by decide +kernel
theorem dX3_does_292 : decode cX3_does 292 = .ok (.iload_n 2, 1) := by decide +kernel
theorem dX3_does_293 : decode cX3_does 293 = .ok (.invokevirtual 60, 3) := by decide +kernel
theorem dX3_does_296 : decode cX3_does 296 = .ok (.iload 4, 2) := by decide +kernel
theorem dX3_does_298 : decode cX3_does 298 = .ok (.ireturn, 1) := by decide +kernel
theorem dX3_does_299 : decode cX3_does 299 = .ok (.aload_n 0, 1) := by decide +kernel
theorem dX3_does_300 : decode cX3_does 300 = .ok (.iload_n 2, 1) := by decide +kernel
theorem dX3_does_301 : decode cX3_does 301 = .ok (.invokevirtual 136, 3) := by decide +kernel
theorem dX3_does_304 : decode cX3_does 304 = .ok (.pop, 1) := by decide +kernel
theorem dX3_does_305 : decode cX3_does 305 = .ok (.iconst 1, 1) := by decide +kernel
theorem dX3_does_306 : decode cX3_does 306 = .ok (.ireturn, 1) := by decide +kernel
theorem dX3_runCourse_0 : decode cX3_runCourse 0 = .ok (.aload_n 0, 1) := by decide +kernel
theorem dX3_runCourse_1 : decode cX3_runCourse 1 = .ok (.iconst 0, 1) := by decide +kernel
theorem dX3_runCourse_2 : decode cX3_runCourse 2 = .ok (.putfield 28, 3) := by decide +kernel
theorem dX3_runCourse_5 : decode cX3_runCourse 5 = .ok (.aload_n 0, 1) := by decide +kernel
theorem dX3_runCourse_6 : decode cX3_runCourse 6 = .ok (.invokevirtual 184, 3) := by decide +kernel
theorem dX3_runCourse_9 : decode cX3_runCourse 9 = .ok (.ifCond .ne 9, 3) := by decide +kernel
theorem dX3_runCourse_12 : decode cX3_runCourse 12 = .ok (.aload_n 0, 1) := by decide +kernel
theorem dX3_runCourse_13 : decode cX3_runCourse 13 = .ok (.iconst 1, 1) := by decide +kernel
theorem dX3_runCourse_14 : decode cX3_runCourse 14 = .ok (.invokevirtual 106, 3) := by decide +kernel
theorem dX3_runCourse_17 : decode cX3_runCourse 17 = .ok (.ireturn, 1) := by decide +kernel
theorem dX3_runCourse_18 : decode cX3_runCourse 18 = .ok (.aload_n 0, 1) := by decide +kernel
theorem dX3_runCourse_19 : decode cX3_runCourse 19 = .ok (.invokevirtual 116, 3) := by decide +kernel
theorem dX3_runCourse_22 : decode cX3_runCourse 22 = .ok (.aload_n 0, 1) := by decide +kernel
theorem dX3_runCourse_23 : decode cX3_runCourse 23 = .ok (.iconst 0, 1) := by decide +kernel
theorem dX3_runCourse_24 : decode cX3_runCourse 24 = .ok (.putfield 156, 3) := by decide +kernel
theorem dX3_runCourse_27 : decode cX3_runCourse 27 = .ok (.iconst 0, 1) := by decide +kernel
theorem dX3_runCourse_28 : decode cX3_runCourse 28 = .ok (.istore_n 1, 1) := by decide +kernel
theorem dX3_runCourse_29 : decode cX3_runCourse 29 = .ok (.iload_n 1, 1) := by decide +kernel
theorem dX3_runCourse_30 : decode cX3_runCourse 30 = .ok (.aload_n 0, 1) := by decide +kernel
theorem dX3_runCourse_31 : decode cX3_runCourse 31 = .ok (.getfield 172, 3) := by decide +kernel
theorem dX3_runCourse_34 : decode cX3_runCourse 34 = .ok (.if_icmp .ge 19, 3) := by decide +kernel
theorem dX3_runCourse_37 : decode cX3_runCourse 37 = .ok (.aload_n 0, 1) := by decide +kernel
theorem dX3_runCourse_38 : decode cX3_runCourse 38 = .ok (.iconst 4, 1) := by decide +kernel
theorem dX3_runCourse_39 : decode cX3_runCourse 39 = .ok (.iload_n 1, 1) := by decide +kernel
theorem dX3_runCourse_40 : decode cX3_runCourse 40 = .ok (.imul, 1) := by decide +kernel
theorem dX3_runCourse_41 : decode cX3_runCourse 41 = .ok (.invokevirtual 187, 3) := by decide +kernel
theorem dX3_runCourse_44 : decode cX3_runCourse 44 = .ok (.ifCond .eq 9, 3) := by decide +kernel
theorem dX3_runCourse_47 : decode cX3_runCourse 47 = .ok (.iinc 1 1, 3) := by decide +kernel
theorem dX3_runCourse_50 : decode cX3_runCourse 50 = .ok (.goto (-21), 3) := by decide +kernel
theorem dX3_runCourse_53 : decode cX3_runCourse 53 = .ok (.iload_n 1, 1) := by decide +kernel
theorem dX3_runCourse_54 : decode cX3_runCourse 54 = .ok (.ireturn, 1) := by decide +kernel
theorem dX3_keep_0 : decode cX3_keep 0 = .ok (.aload_n 0, 1) := by decide +kernel
theorem dX3_keep_1 : decode cX3_keep 1 = .ok (.iconst 0, 1) := by decide +kernel
theorem dX3_keep_2 : decode cX3_keep 2 = .ok (.putfield 28, 3) := by decide +kernel
theorem dX3_keep_5 : decode cX3_keep 5 = .ok (.iconst 0, 1) := by decide +kernel
theorem dX3_keep_6 : decode cX3_keep 6 = .ok (.istore_n 1, 1) := by decide +kernel
theorem dX3_keep_7 : decode cX3_keep 7 = .ok (.iload_n 1, 1) := by decide +kernel
theorem dX3_keep_8 : decode cX3_keep 8 = .ok (.sipush 256, 3) := by decide +kernel
theorem dX3_keep_11 : decode cX3_keep 11 = .ok (.if_icmp .ge 21, 3) := by decide +kernel
theorem dX3_keep_14 : decode cX3_keep 14 = .ok (.aload_n 0, 1) := by decide +kernel
theorem dX3_keep_15 : decode cX3_keep 15 = .ok (.getfield 19, 3) := by decide +kernel
theorem dX3_keep_18 : decode cX3_keep 18 = .ok (.iload_n 1, 1) := by decide +kernel
theorem dX3_keep_19 : decode cX3_keep 19 = .ok (.aload_n 0, 1) := by decide +kernel
theorem dX3_keep_20 : decode cX3_keep 20 = .ok (.getfield 7, 3) := by decide +kernel
theorem dX3_keep_23 : decode cX3_keep 23 = .ok (.iload_n 1, 1) := by decide +kernel
theorem dX3_keep_24 : decode cX3_keep 24 = .ok (.iaload, 1) := by decide +kernel
theorem dX3_keep_25 : decode cX3_keep 25 = .ok (.iastore, 1) := by decide +kernel
theorem dX3_keep_26 : decode cX3_keep 26 = .ok (.iinc 1 1, 3) := by decide +kernel
theorem dX3_keep_29 : decode cX3_keep 29 = .ok (.goto (-22), 3) := by decide +kernel
theorem dX3_keep_32 : decode cX3_keep 32 = .ok (.aload_n 0, 1) := by decide +kernel
theorem dX3_keep_33 : decode cX3_keep 33 = .ok (.iconst 1, 1) := by decide +kernel
theorem dX3_keep_34 : decode cX3_keep 34 = .ok (.putfield 190, 3) := by decide +kernel
theorem dX3_keep_37 : decode cX3_keep 37 = .ok (.aload_n 0, 1) := by decide +kernel
theorem dX3_keep_38 : decode cX3_keep 38 = .ok (.getfield 7, 3) := by decide +kernel
theorem dX3_keep_41 : decode cX3_keep 41 = .ok (.bipush 13, 2) := by decide +kernel
theorem dX3_keep_43 : decode cX3_keep 43 = .ok (.iaload, 1) := by decide +kernel
theorem dX3_keep_44 : decode cX3_keep 44 = .ok (.ireturn, 1) := by decide +kernel
theorem dX3_goBack_0 : decode cX3_goBack 0 = .ok (.aload_n 0, 1) := by decide +kernel
theorem dX3_goBack_1 : decode cX3_goBack 1 = .ok (.iconst 0, 1) := by decide +kernel
theorem dX3_goBack_2 : decode cX3_goBack 2 = .ok (.putfield 28, 3) := by decide +kernel
theorem dX3_goBack_5 : decode cX3_goBack 5 = .ok (.aload_n 0, 1) := by decide +kernel
theorem dX3_goBack_6 : decode cX3_goBack 6 = .ok (.getfield 190, 3) := by decide +kernel
theorem dX3_goBack_9 : decode cX3_goBack 9 = .ok (.ifCond .ne 9, 3) := by decide +kernel
theorem dX3_goBack_12 : decode cX3_goBack 12 = .ok (.aload_n 0, 1) := by decide +kernel
theorem dX3_goBack_13 : decode cX3_goBack 13 = .ok (.iconst 1, 1) := by decide +kernel
theorem dX3_goBack_14 : decode cX3_goBack 14 = .ok (.invokevirtual 106, 3) := by decide +kernel
theorem dX3_goBack_17 : decode cX3_goBack 17 = .ok (.ireturn, 1) := by decide +kernel
theorem dX3_goBack_18 : decode cX3_goBack 18 = .ok (.aload_n 0, 1) := by decide +kernel
theorem dX3_goBack_19 : decode cX3_goBack 19 = .ok (.invokevirtual 116, 3) := by decide +kernel
theorem dX3_goBack_22 : decode cX3_goBack 22 = .ok (.iconst 0, 1) := by decide +kernel
theorem dX3_goBack_23 : decode cX3_goBack 23 = .ok (.istore_n 1, 1) := by decide +kernel
theorem dX3_goBack_24 : decode cX3_goBack 24 = .ok (.iload_n 1, 1) := by decide +kernel
theorem dX3_goBack_25 : decode cX3_goBack 25 = .ok (.sipush 256, 3) := by decide +kernel
theorem dX3_goBack_28 : decode cX3_goBack 28 = .ok (.if_icmp .ge 21, 3) := by decide +kernel
theorem dX3_goBack_31 : decode cX3_goBack 31 = .ok (.aload_n 0, 1) := by decide +kernel
theorem dX3_goBack_32 : decode cX3_goBack 32 = .ok (.getfield 7, 3) := by decide +kernel
theorem dX3_goBack_35 : decode cX3_goBack 35 = .ok (.iload_n 1, 1) := by decide +kernel
theorem dX3_goBack_36 : decode cX3_goBack 36 = .ok (.aload_n 0, 1) := by decide +kernel
theorem dX3_goBack_37 : decode cX3_goBack 37 = .ok (.getfield 19, 3) := by decide +kernel
theorem dX3_goBack_40 : decode cX3_goBack 40 = .ok (.iload_n 1, 1) := by decide +kernel
theorem dX3_goBack_41 : decode cX3_goBack 41 = .ok (.iaload, 1) := by decide +kernel
theorem dX3_goBack_42 : decode cX3_goBack 42 = .ok (.iastore, 1) := by decide +kernel
theorem dX3_goBack_43 : decode cX3_goBack 43 = .ok (.iinc 1 1, 3) := by decide +kernel
theorem dX3_goBack_46 : decode cX3_goBack 46 = .ok (.goto (-22), 3) := by decide +kernel
theorem dX3_goBack_49 : decode cX3_goBack 49 = .ok (.aload_n 0, 1) := by decide +kernel
theorem dX3_goBack_50 : decode cX3_goBack 50 = .ok (.getfield 7, 3) := by decide +kernel
theorem dX3_goBack_53 : decode cX3_goBack 53 = .ok (.bipush 13, 2) := by decide +kernel
theorem dX3_goBack_55 : decode cX3_goBack 55 = .ok (.iaload, 1) := by decide +kernel
theorem dX3_goBack_56 : decode cX3_goBack 56 = .ok (.ireturn, 1) := by decide +kernel
theorem dX3_undo_0 : decode cX3_undo 0 = .ok (.aload_n 0, 1) := by decide +kernel
theorem dX3_undo_1 : decode cX3_undo 1 = .ok (.iconst 0, 1) := by decide +kernel
theorem dX3_undo_2 : decode cX3_undo 2 = .ok (.putfield 28, 3) := by decide +kernel
theorem dX3_undo_5 : decode cX3_undo 5 = .ok (.aload_n 0, 1) := by decide +kernel
theorem dX3_undo_6 : decode cX3_undo 6 = .ok (.getfield 36, 3) := by decide +kernel
theorem dX3_undo_9 : decode cX3_undo 9 = .ok (.ifCond .ne 9, 3) := by decide +kernel
theorem dX3_undo_12 : decode cX3_undo 12 = .ok (.aload_n 0, 1) := by decide +kernel
theorem dX3_undo_13 : decode cX3_undo 13 = .ok (.iconst 1, 1) := by decide +kernel
theorem dX3_undo_14 : decode cX3_undo 14 = .ok (.invokevirtual 106, 3) := by decide +kernel
theorem dX3_undo_17 : decode cX3_undo 17 = .ok (.ireturn, 1) := by decide +kernel
theorem dX3_undo_18 : decode cX3_undo 18 = .ok (.aload_n 0, 1) := by decide +kernel
theorem dX3_undo_19 : decode cX3_undo 19 = .ok (.dup, 1) := by decide +kernel
theorem dX3_undo_20 : decode cX3_undo 20 = .ok (.getfield 36, 3) := by decide +kernel
theorem dX3_undo_23 : decode cX3_undo 23 = .ok (.iconst 1, 1) := by decide +kernel
theorem dX3_undo_24 : decode cX3_undo 24 = .ok (.isub, 1) := by decide +kernel
theorem dX3_undo_25 : decode cX3_undo 25 = .ok (.putfield 36, 3) := by decide +kernel
theorem dX3_undo_28 : decode cX3_undo 28 = .ok (.iconst 0, 1) := by decide +kernel
theorem dX3_undo_29 : decode cX3_undo 29 = .ok (.istore_n 1, 1) := by decide +kernel
theorem dX3_undo_30 : decode cX3_undo 30 = .ok (.iload_n 1, 1) := by decide +kernel
theorem dX3_undo_31 : decode cX3_undo 31 = .ok (.sipush 256, 3) := by decide +kernel
theorem dX3_undo_34 : decode cX3_undo 34 = .ok (.if_icmp .ge 30, 3) := by decide +kernel
theorem dX3_undo_37 : decode cX3_undo 37 = .ok (.aload_n 0, 1) := by decide +kernel
theorem dX3_undo_38 : decode cX3_undo 38 = .ok (.getfield 7, 3) := by decide +kernel
theorem dX3_undo_41 : decode cX3_undo 41 = .ok (.iload_n 1, 1) := by decide +kernel
theorem dX3_undo_42 : decode cX3_undo 42 = .ok (.aload_n 0, 1) := by decide +kernel
theorem dX3_undo_43 : decode cX3_undo 43 = .ok (.getfield 16, 3) := by decide +kernel
theorem dX3_undo_46 : decode cX3_undo 46 = .ok (.sipush 256, 3) := by decide +kernel
theorem dX3_undo_49 : decode cX3_undo 49 = .ok (.aload_n 0, 1) := by decide +kernel
theorem dX3_undo_50 : decode cX3_undo 50 = .ok (.getfield 36, 3) := by decide +kernel
theorem dX3_undo_53 : decode cX3_undo 53 = .ok (.imul, 1) := by decide +kernel
theorem dX3_undo_54 : decode cX3_undo 54 = .ok (.iload_n 1, 1) := by decide +kernel
theorem dX3_undo_55 : decode cX3_undo 55 = .ok (.iadd, 1) := by decide +kernel
theorem dX3_undo_56 : decode cX3_undo 56 = .ok (.iaload, 1) := by decide +kernel
theorem dX3_undo_57 : decode cX3_undo 57 = .ok (.iastore, 1) := by decide +kernel
theorem dX3_undo_58 : decode cX3_undo 58 = .ok (.iinc 1 1, 3) := by decide +kernel
theorem dX3_undo_61 : decode cX3_undo 61 = .ok (.goto (-31), 3) := by decide +kernel
theorem dX3_undo_64 : decode cX3_undo 64 = .ok (.aload_n 0, 1) := by decide +kernel
theorem dX3_undo_65 : decode cX3_undo 65 = .ok (.getfield 36, 3) := by decide +kernel
theorem dX3_undo_68 : decode cX3_undo 68 = .ok (.ireturn, 1) := by decide +kernel
theorem dX3_transfers_0 : decode cX3_transfers 0 = .ok (.aload_n 0, 1) := by decide +kernel
theorem dX3_transfers_1 : decode cX3_transfers 1 = .ok (.iconst 0, 1) := by decide +kernel
theorem dX3_transfers_2 : decode cX3_transfers 2 = .ok (.putfield 28, 3) := by decide +kernel
theorem dX3_transfers_5 : decode cX3_transfers 5 = .ok (.aload_n 0, 1) := by decide +kernel
theorem dX3_transfers_6 : decode cX3_transfers 6 = .ok (.getfield 7, 3) := by decide +kernel
theorem dX3_transfers_9 : decode cX3_transfers 9 = .ok (.bipush 9, 2) := by decide +kernel
theorem dX3_transfers_11 : decode cX3_transfers 11 = .ok (.iaload, 1) := by decide +kernel
theorem dX3_transfers_12 : decode cX3_transfers 12 = .ok (.ireturn, 1) := by decide +kernel
theorem dX3_partners_0 : decode cX3_partners 0 = .ok (.aload_n 0, 1) := by decide +kernel
theorem dX3_partners_1 : decode cX3_partners 1 = .ok (.iconst 0, 1) := by decide +kernel
theorem dX3_partners_2 : decode cX3_partners 2 = .ok (.putfield 28, 3) := by decide +kernel
theorem dX3_partners_5 : decode cX3_partners 5 = .ok (.aload_n 0, 1) := by decide +kernel
theorem dX3_partners_6 : decode cX3_partners 6 = .ok (.iload_n 1, 1) := by decide +kernel
theorem dX3_partners_7 : decode cX3_partners 7 = .ok (.invokevirtual 123, 3) := by decide +kernel
theorem dX3_partners_10 : decode cX3_partners 10 = .ok (.ifCond .eq 11, 3) := by decide +kernel
theorem dX3_partners_13 : decode cX3_partners 13 = .ok (.aload_n 0, 1) := by decide +kernel
theorem dX3_partners_14 : decode cX3_partners 14 = .ok (.iload_n 1, 1) := by decide +kernel
theorem dX3_partners_15 : decode cX3_partners 15 = .ok (.invokevirtual 57, 3) := by decide +kernel
theorem dX3_partners_18 : decode cX3_partners 18 = .ok (.goto 8, 3) := by decide +kernel
theorem dX3_partners_21 : decode cX3_partners 21 = .ok (.aload_n 0, 1) := by decide +kernel
theorem dX3_partners_22 : decode cX3_partners 22 = .ok (.iconst 1, 1) := by decide +kernel
theorem dX3_partners_23 : decode cX3_partners 23 = .ok (.invokevirtual 106, 3) := by decide +kernel
theorem dX3_partners_26 : decode cX3_partners 26 = .ok (.ireturn, 1) := by decide +kernel
theorem dX3_share_0 : decode cX3_share 0 = .ok (.aload_n 0, 1) := by decide +kernel
theorem dX3_share_1 : decode cX3_share 1 = .ok (.iconst 0, 1) := by decide +kernel
theorem dX3_share_2 : decode cX3_share 2 = .ok (.putfield 28, 3) := by decide +kernel
theorem dX3_share_5 : decode cX3_share 5 = .ok (.aload_n 0, 1) := by decide +kernel
theorem dX3_share_6 : decode cX3_share 6 = .ok (.iload_n 1, 1) := by decide +kernel
theorem dX3_share_7 : decode cX3_share 7 = .ok (.invokevirtual 123, 3) := by decide +kernel
theorem dX3_share_10 : decode cX3_share 10 = .ok (.ifCond .eq 19, 3) := by decide +kernel
theorem dX3_share_13 : decode cX3_share 13 = .ok (.iload_n 2, 1) := by decide +kernel
theorem dX3_share_14 : decode cX3_share 14 = .ok (.invokestatic 103, 3) := by decide +kernel
theorem dX3_share_17 : decode cX3_share 17 = .ok (.ifCond .eq 12, 3) := by decide +kernel
theorem dX3_share_20 : decode cX3_share 20 = .ok (.aload_n 0, 1) := by decide +kernel
theorem dX3_share_21 : decode cX3_share 21 = .ok (.iload_n 1, 1) := by decide +kernel
theorem dX3_share_22 : decode cX3_share 22 = .ok (.iload_n 2, 1) := by decide +kernel
theorem dX3_share_23 : decode cX3_share 23 = .ok (.invokevirtual 54, 3) := by decide +kernel
theorem dX3_share_26 : decode cX3_share 26 = .ok (.goto 8, 3) := by decide +kernel
theorem dX3_share_29 : decode cX3_share 29 = .ok (.aload_n 0, 1) := by decide +kernel
theorem dX3_share_30 : decode cX3_share 30 = .ok (.iconst 1, 1) := by decide +kernel
theorem dX3_share_31 : decode cX3_share 31 = .ok (.invokevirtual 106, 3) := by decide +kernel
theorem dX3_share_34 : decode cX3_share 34 = .ok (.ireturn, 1) := by decide +kernel
theorem dX3_isUp_0 : decode cX3_isUp 0 = .ok (.aload_n 0, 1) := by decide +kernel
theorem dX3_isUp_1 : decode cX3_isUp 1 = .ok (.iconst 0, 1) := by decide +kernel
theorem dX3_isUp_2 : decode cX3_isUp 2 = .ok (.putfield 28, 3) := by decide +kernel
theorem dX3_isUp_5 : decode cX3_isUp 5 = .ok (.iload_n 1, 1) := by decide +kernel
theorem dX3_isUp_6 : decode cX3_isUp 6 = .ok (.invokestatic 146, 3) := by decide +kernel
theorem dX3_isUp_9 : decode cX3_isUp 9 = .ok (.ifCond .eq 23, 3) := by decide +kernel
theorem dX3_isUp_12 : decode cX3_isUp 12 = .ok (.aload_n 0, 1) := by decide +kernel
theorem dX3_isUp_13 : decode cX3_isUp 13 = .ok (.getfield 7, 3) := by decide +kernel
theorem dX3_isUp_16 : decode cX3_isUp 16 = .ok (.iconst 0, 1) := by decide +kernel
theorem dX3_isUp_17 : decode cX3_isUp 17 = .ok (.iload_n 1, 1) := by decide +kernel
theorem dX3_isUp_18 : decode cX3_isUp 18 = .ok (.iadd, 1) := by decide +kernel
theorem dX3_isUp_19 : decode cX3_isUp 19 = .ok (.iaload, 1) := by decide +kernel
theorem dX3_isUp_20 : decode cX3_isUp 20 = .ok (.iconst 1, 1) := by decide +kernel
theorem dX3_isUp_21 : decode cX3_isUp 21 = .ok (.if_icmp .ne 7, 3) := by decide +kernel
theorem dX3_isUp_24 : decode cX3_isUp 24 = .ok (.iconst 1, 1) := by decide +kernel
theorem dX3_isUp_25 : decode cX3_isUp 25 = .ok (.goto 20, 3) := by decide +kernel
theorem dX3_isUp_28 : decode cX3_isUp 28 = .ok (.iconst 0, 1) := by decide +kernel
theorem dX3_isUp_29 : decode cX3_isUp 29 = .ok (.goto 16, 3) := by decide +kernel
theorem dX3_isUp_32 : decode cX3_isUp 32 = .ok (.aload_n 0, 1) := by decide +kernel
theorem dX3_isUp_33 : decode cX3_isUp 33 = .ok (.iconst 1, 1) := by decide +kernel
theorem dX3_isUp_34 : decode cX3_isUp 34 = .ok (.invokevirtual 106, 3) := by decide +kernel
theorem dX3_isUp_37 : decode cX3_isUp 37 = .ok (.ifCond .le 7, 3) := by decide +kernel
theorem dX3_isUp_40 : decode cX3_isUp 40 = .ok (.iconst 1, 1) := by decide +kernel
theorem dX3_isUp_41 : decode cX3_isUp 41 = .ok (.goto 4, 3) := by decide +kernel
theorem dX3_isUp_44 : decode cX3_isUp 44 = .ok (.iconst 0, 1) := by decide +kernel
theorem dX3_isUp_45 : decode cX3_isUp 45 = .ok (.ireturn, 1) := by decide +kernel
theorem dX3_amount_0 : decode cX3_amount 0 = .ok (.aload_n 0, 1) := by decide +kernel
theorem dX3_amount_1 : decode cX3_amount 1 = .ok (.iconst 0, 1) := by decide +kernel
theorem dX3_amount_2 : decode cX3_amount 2 = .ok (.putfield 28, 3) := by decide +kernel
theorem dX3_amount_5 : decode cX3_amount 5 = .ok (.iload_n 1, 1) := by decide +kernel
theorem dX3_amount_6 : decode cX3_amount 6 = .ok (.invokestatic 103, 3) := by decide +kernel
theorem dX3_amount_9 : decode cX3_amount 9 = .ok (.ifCond .eq 14, 3) := by decide +kernel
theorem dX3_amount_12 : decode cX3_amount 12 = .ok (.aload_n 0, 1) := by decide +kernel
theorem dX3_amount_13 : decode cX3_amount 13 = .ok (.getfield 7, 3) := by decide +kernel
theorem dX3_amount_16 : decode cX3_amount 16 = .ok (.iconst 5, 1) := by decide +kernel
theorem dX3_amount_17 : decode cX3_amount 17 = .ok (.iload_n 1, 1) := by decide +kernel
theorem dX3_amount_18 : decode cX3_amount 18 = .ok (.iadd, 1) := by decide +kernel
theorem dX3_amount_19 : decode cX3_amount 19 = .ok (.iaload, 1) := by decide +kernel
theorem dX3_amount_20 : decode cX3_amount 20 = .ok (.goto 8, 3) := by decide +kernel
theorem dX3_amount_23 : decode cX3_amount 23 = .ok (.aload_n 0, 1) := by decide +kernel
theorem dX3_amount_24 : decode cX3_amount 24 = .ok (.iconst 1, 1) := by decide +kernel
theorem dX3_amount_25 : decode cX3_amount 25 = .ok (.invokevirtual 106, 3) := by decide +kernel
theorem dX3_amount_28 : decode cX3_amount 28 = .ok (.ireturn, 1) := by decide +kernel
theorem dX3_amountLogged_0 : decode cX3_amountLogged 0 = .ok (.bipush 100, 2) := by decide +kernel
theorem dX3_amountLogged_2 : decode cX3_amountLogged 2 = .ok (.istore_n 2, 1) := by decide +kernel
theorem dX3_amountLogged_3 : decode cX3_amountLogged 3 = .ok (.iconst 0, 1) := by decide +kernel
theorem dX3_amountLogged_4 : decode cX3_amountLogged 4 = .ok (.istore_n 3, 1) := by decide +kernel
theorem dX3_amountLogged_5 : decode cX3_amountLogged 5 = .ok (.iload_n 3, 1) := by decide +kernel
theorem dX3_amountLogged_6 : decode cX3_amountLogged 6 = .ok (.aload_n 0, 1) := by decide +kernel
theorem dX3_amountLogged_7 : decode cX3_amountLogged 7 = .ok (.getfield 7, 3) := by decide +kernel
theorem dX3_amountLogged_10 : decode cX3_amountLogged 10 = .ok (.bipush 102, 2) := by decide +kernel
theorem dX3_amountLogged_12 : decode cX3_amountLogged 12 = .ok (.iload_n 1, 1) := by decide +kernel
theorem dX3_amountLogged_13 : decode cX3_amountLogged 13 = .ok (.iadd, 1) := by decide +kernel
theorem dX3_amountLogged_14 : decode cX3_amountLogged 14 = .ok (.iaload, 1) := by decide +kernel
theorem dX3_amountLogged_15 : decode cX3_amountLogged 15 = .ok (.if_icmp .ge 51, 3) := by decide +kernel
theorem dX3_amountLogged_18 : decode cX3_amountLogged 18 = .ok (.aload_n 0, 1) := by decide +kernel
theorem dX3_amountLogged_19 : decode cX3_amountLogged 19 = .ok (.getfield 7, 3) := by decide +kernel
theorem dX3_amountLogged_22 : decode cX3_amountLogged 22 = .ok (.bipush 107, 2) := by decide +kernel
theorem dX3_amountLogged_24 : decode cX3_amountLogged 24 = .ok (.bipush 16, 2) := by decide +kernel
theorem dX3_amountLogged_26 : decode cX3_amountLogged 26 = .ok (.iload_n 1, 1) := by decide +kernel
theorem dX3_amountLogged_27 : decode cX3_amountLogged 27 = .ok (.imul, 1) := by decide +kernel
theorem dX3_amountLogged_28 : decode cX3_amountLogged 28 = .ok (.iadd, 1) := by decide +kernel
theorem dX3_amountLogged_29 : decode cX3_amountLogged 29 = .ok (.iload_n 3, 1) := by decide +kernel
theorem dX3_amountLogged_30 : decode cX3_amountLogged 30 = .ok (.iadd, 1) := by decide +kernel
theorem dX3_amountLogged_31 : decode cX3_amountLogged 31 = .ok (.iaload, 1) := by decide +kernel
theorem dX3_amountLogged_32 : decode cX3_amountLogged 32 = .ok (.istore 4, 2) := by decide +kernel
theorem dX3_amountLogged_34 : decode cX3_amountLogged 34 = .ok (.iload_n 2, 1) := by decide +kernel
theorem dX3_amountLogged_35 : decode cX3_amountLogged 35 = .ok (.iload 4, 2) := by decide +kernel
theorem dX3_amountLogged_37 : decode cX3_amountLogged 37 = .ok (.bipush 8, 2) := by decide +kernel
theorem dX3_amountLogged_39 : decode cX3_amountLogged 39 = .ok (.idiv, 1) := by decide +kernel
theorem dX3_amountLogged_40 : decode cX3_amountLogged 40 = .ok (.iconst 1, 1) := by decide +kernel
theorem dX3_amountLogged_41 : decode cX3_amountLogged 41 = .ok (.if_icmp .ne 16, 3) := by decide +kernel
theorem dX3_amountLogged_44 : decode cX3_amountLogged 44 = .ok (.aload_n 0, 1) := by decide +kernel
theorem dX3_amountLogged_45 : decode cX3_amountLogged 45 = .ok (.iload 4, 2) := by decide +kernel
theorem dX3_amountLogged_47 : decode cX3_amountLogged 47 = .ok (.bipush 8, 2) := by decide +kernel
theorem dX3_amountLogged_49 : decode cX3_amountLogged 49 = .ok (.irem, 1) := by decide +kernel
theorem dX3_amountLogged_50 : decode cX3_amountLogged 50 = .ok (.iload_n 1, 1) := by decide +kernel
theorem dX3_amountLogged_51 : decode cX3_amountLogged 51 = .ok (.invokevirtual 54, 3) := by decide +kernel
theorem dX3_amountLogged_54 : decode cX3_amountLogged 54 = .ok (.goto 4, 3) := by decide +kernel
theorem dX3_amountLogged_57 : decode cX3_amountLogged 57 = .ok (.iconst 0, 1) := by decide +kernel
theorem dX3_amountLogged_58 : decode cX3_amountLogged 58 = .ok (.iadd, 1) := by decide +kernel
theorem dX3_amountLogged_59 : decode cX3_amountLogged 59 = .ok (.istore_n 2, 1) := by decide +kernel
theorem dX3_amountLogged_60 : decode cX3_amountLogged 60 = .ok (.iinc 3 1, 3) := by decide +kernel
theorem dX3_amountLogged_63 : decode cX3_amountLogged 63 = .ok (.goto (-58), 3) := by decide +kernel
theorem dX3_amountLogged_66 : decode cX3_amountLogged 66 = .ok (.iload_n 2, 1) := by decide +kernel
theorem dX3_amountLogged_67 : decode cX3_amountLogged 67 = .ok (.ireturn, 1) := by decide +kernel
theorem dX3_amountByLog_0 : decode cX3_amountByLog 0 = .ok (.aload_n 0, 1) := by decide +kernel
theorem dX3_amountByLog_1 : decode cX3_amountByLog 1 = .ok (.iconst 0, 1) := by decide +kernel
theorem dX3_amountByLog_2 : decode cX3_amountByLog 2 = .ok (.putfield 28, 3) := by decide +kernel
theorem dX3_amountByLog_5 : decode cX3_amountByLog 5 = .ok (.iload_n 1, 1) := by decide +kernel
theorem dX3_amountByLog_6 : decode cX3_amountByLog 6 = .ok (.invokestatic 103, 3) := by decide +kernel
theorem dX3_amountByLog_9 : decode cX3_amountByLog 9 = .ok (.ifCond .eq 11, 3) := by decide +kernel
theorem dX3_amountByLog_12 : decode cX3_amountByLog 12 = .ok (.aload_n 0, 1) := by decide +kernel
theorem dX3_amountByLog_13 : decode cX3_amountByLog 13 = .ok (.iload_n 1, 1) := by decide +kernel
theorem dX3_amountByLog_14 : decode cX3_amountByLog 14 = .ok (.invokevirtual 193, 3) := by decide +kernel
theorem dX3_amountByLog_17 : decode cX3_amountByLog 17 = .ok (.goto 8, 3) := by decide +kernel
theorem dX3_amountByLog_20 : decode cX3_amountByLog 20 = .ok (.aload_n 0, 1) := by decide +kernel
theorem dX3_amountByLog_21 : decode cX3_amountByLog 21 = .ok (.iconst 1, 1) := by decide +kernel
theorem dX3_amountByLog_22 : decode cX3_amountByLog 22 = .ok (.invokevirtual 106, 3) := by decide +kernel
theorem dX3_amountByLog_25 : decode cX3_amountByLog 25 = .ok (.ireturn, 1) := by decide +kernel
theorem dX3_state_0 : decode cX3_state 0 = .ok (.aload_n 0, 1) := by decide +kernel
theorem dX3_state_1 : decode cX3_state 1 = .ok (.iconst 0, 1) := by decide +kernel
theorem dX3_state_2 : decode cX3_state 2 = .ok (.putfield 28, 3) := by decide +kernel
theorem dX3_state_5 : decode cX3_state 5 = .ok (.iload_n 1, 1) := by decide +kernel
theorem dX3_state_6 : decode cX3_state 6 = .ok (.invokestatic 103, 3) := by decide +kernel
theorem dX3_state_9 : decode cX3_state 9 = .ok (.ifCond .eq 20, 3) := by decide +kernel
theorem dX3_state_12 : decode cX3_state 12 = .ok (.aload_n 0, 1) := by decide +kernel
theorem dX3_state_13 : decode cX3_state 13 = .ok (.iload_n 2, 1) := by decide +kernel
theorem dX3_state_14 : decode cX3_state 14 = .ok (.invokevirtual 123, 3) := by decide +kernel
theorem dX3_state_17 : decode cX3_state 17 = .ok (.ifCond .eq 12, 3) := by decide +kernel
theorem dX3_state_20 : decode cX3_state 20 = .ok (.aload_n 0, 1) := by decide +kernel
theorem dX3_state_21 : decode cX3_state 21 = .ok (.iload_n 1, 1) := by decide +kernel
theorem dX3_state_22 : decode cX3_state 22 = .ok (.iload_n 2, 1) := by decide +kernel
theorem dX3_state_23 : decode cX3_state 23 = .ok (.invokevirtual 51, 3) := by decide +kernel
theorem dX3_state_26 : decode cX3_state 26 = .ok (.goto 8, 3) := by decide +kernel
theorem dX3_state_29 : decode cX3_state 29 = .ok (.aload_n 0, 1) := by decide +kernel
theorem dX3_state_30 : decode cX3_state 30 = .ok (.iconst 1, 1) := by decide +kernel
theorem dX3_state_31 : decode cX3_state 31 = .ok (.invokevirtual 106, 3) := by decide +kernel
theorem dX3_state_34 : decode cX3_state 34 = .ok (.ireturn, 1) := by decide +kernel
theorem dX3_stateLogged_0 : decode cX3_stateLogged 0 = .ok (.iconst 0, 1) := by decide +kernel
theorem dX3_stateLogged_1 : decode cX3_stateLogged 1 = .ok (.istore_n 3, 1) := by decide +kernel
theorem dX3_stateLogged_2 : decode cX3_stateLogged 2 = .ok (.iconst 0, 1) := by decide +kernel
theorem dX3_stateLogged_3 : decode cX3_stateLogged 3 = .ok (.istore 4, 2) := by decide +kernel
theorem dX3_stateLogged_5 : decode cX3_stateLogged 5 = .ok (.iload 4, 2) := by decide +kernel
theorem dX3_stateLogged_7 : decode cX3_stateLogged 7 = .ok (.aload_n 0, 1) := by decide +kernel
theorem dX3_stateLogged_8 : decode cX3_stateLogged 8 = .ok (.getfield 7, 3) := by decide +kernel
theorem dX3_stateLogged_11 : decode cX3_stateLogged 11 = .ok (.bipush 102, 2) := by decide +kernel
theorem dX3_stateLogged_13 : decode cX3_stateLogged 13 = .ok (.iload_n 1, 1) := by decide +kernel
theorem dX3_stateLogged_14 : decode cX3_stateLogged 14 = .ok (.iadd, 1) := by decide +kernel
theorem dX3_stateLogged_15 : decode cX3_stateLogged 15 = .ok (.iaload, 1) := by decide +kernel
theorem dX3_stateLogged_16 : decode cX3_stateLogged 16 = .ok (.if_icmp .ge 60, 3) := by decide +kernel
theorem dX3_stateLogged_19 : decode cX3_stateLogged 19 = .ok (.aload_n 0, 1) := by decide +kernel
theorem dX3_stateLogged_20 : decode cX3_stateLogged 20 = .ok (.getfield 7, 3) := by decide +kernel
theorem dX3_stateLogged_23 : decode cX3_stateLogged 23 = .ok (.bipush 107, 2) := by decide +kernel
theorem dX3_stateLogged_25 : decode cX3_stateLogged 25 = .ok (.bipush 16, 2) := by decide +kernel
theorem dX3_stateLogged_27 : decode cX3_stateLogged 27 = .ok (.iload_n 1, 1) := by decide +kernel
theorem dX3_stateLogged_28 : decode cX3_stateLogged 28 = .ok (.imul, 1) := by decide +kernel
theorem dX3_stateLogged_29 : decode cX3_stateLogged 29 = .ok (.iadd, 1) := by decide +kernel
theorem dX3_stateLogged_30 : decode cX3_stateLogged 30 = .ok (.iload 4, 2) := by decide +kernel
theorem dX3_stateLogged_32 : decode cX3_stateLogged 32 = .ok (.iadd, 1) := by decide +kernel
theorem dX3_stateLogged_33 : decode cX3_stateLogged 33 = .ok (.iaload, 1) := by decide +kernel
theorem dX3_stateLogged_34 : decode cX3_stateLogged 34 = .ok (.istore 5, 2) := by decide +kernel
theorem dX3_stateLogged_36 : decode cX3_stateLogged 36 = .ok (.iload 5, 2) := by decide +kernel
theorem dX3_stateLogged_38 : decode cX3_stateLogged 38 = .ok (.bipush 8, 2) := by decide +kernel
theorem dX3_stateLogged_40 : decode cX3_stateLogged 40 = .ok (.irem, 1) := by decide +kernel
theorem dX3_stateLogged_41 : decode cX3_stateLogged 41 = .ok (.iload_n 2, 1) := by decide +kernel
theorem dX3_stateLogged_42 : decode cX3_stateLogged 42 = .ok (.if_icmp .eq 7, 3) := by decide +kernel
theorem dX3_stateLogged_45 : decode cX3_stateLogged 45 = .ok (.iload_n 3, 1) := by decide +kernel
theorem dX3_stateLogged_46 : decode cX3_stateLogged 46 = .ok (.goto 23, 3) := by decide +kernel
theorem dX3_stateLogged_49 : decode cX3_stateLogged 49 = .ok (.iload 5, 2) := by decide +kernel
theorem dX3_stateLogged_51 : decode cX3_stateLogged 51 = .ok (.bipush 8, 2) := by decide +kernel
theorem dX3_stateLogged_53 : decode cX3_stateLogged 53 = .ok (.idiv, 1) := by decide +kernel
theorem dX3_stateLogged_54 : decode cX3_stateLogged 54 = .ok (.iconst 4, 1) := by decide +kernel
theorem dX3_stateLogged_55 : decode cX3_stateLogged 55 = .ok (.if_icmp .ne 7, 3) := by decide +kernel
theorem dX3_stateLogged_58 : decode cX3_stateLogged 58 = .ok (.iconst 1, 1) := by decide +kernel
theorem dX3_stateLogged_59 : decode cX3_stateLogged 59 = .ok (.goto 10, 3) := by decide +kernel
theorem dX3_stateLogged_62 : decode cX3_stateLogged 62 = .ok (.iload 5, 2) := by decide +kernel
theorem dX3_stateLogged_64 : decode cX3_stateLogged 64 = .ok (.bipush 8, 2) := by decide +kernel
theorem dX3_stateLogged_66 : decode cX3_stateLogged 66 = .ok (.idiv, 1) := by decide +kernel
theorem dX3_stateLogged_67 : decode cX3_stateLogged 67 = .ok (.iconst 1, 1) := by decide +kernel
theorem dX3_stateLogged_68 : decode cX3_stateLogged 68 = .ok (.iadd, 1) := by decide +kernel
theorem dX3_stateLogged_69 : decode cX3_stateLogged 69 = .ok (.istore_n 3, 1) := by decide +kernel
theorem dX3_stateLogged_70 : decode cX3_stateLogged 70 = .ok (.iinc 4 1, 3) := by decide +kernel
theorem dX3_stateLogged_73 : decode cX3_stateLogged 73 = .ok (.goto (-68), 3) := by decide +kernel
theorem dX3_stateLogged_76 : decode cX3_stateLogged 76 = .ok (.iload_n 3, 1) := by decide +kernel
theorem dX3_stateLogged_77 : decode cX3_stateLogged 77 = .ok (.ireturn, 1) := by decide +kernel
theorem dX3_stateByLog_0 : decode cX3_stateByLog 0 = .ok (.aload_n 0, 1) := by decide +kernel
theorem dX3_stateByLog_1 : decode cX3_stateByLog 1 = .ok (.iconst 0, 1) := by decide +kernel
theorem dX3_stateByLog_2 : decode cX3_stateByLog 2 = .ok (.putfield 28, 3) := by decide +kernel
theorem dX3_stateByLog_5 : decode cX3_stateByLog 5 = .ok (.iload_n 1, 1) := by decide +kernel
theorem dX3_stateByLog_6 : decode cX3_stateByLog 6 = .ok (.invokestatic 103, 3) := by decide +kernel
theorem dX3_stateByLog_9 : decode cX3_stateByLog 9 = .ok (.ifCond .eq 20, 3) := by decide +kernel
theorem dX3_stateByLog_12 : decode cX3_stateByLog 12 = .ok (.aload_n 0, 1) := by decide +kernel
theorem dX3_stateByLog_13 : decode cX3_stateByLog 13 = .ok (.iload_n 2, 1) := by decide +kernel
theorem dX3_stateByLog_14 : decode cX3_stateByLog 14 = .ok (.invokevirtual 123, 3) := by decide +kernel
theorem dX3_stateByLog_17 : decode cX3_stateByLog 17 = .ok (.ifCond .eq 12, 3) := by decide +kernel
theorem dX3_stateByLog_20 : decode cX3_stateByLog 20 = .ok (.aload_n 0, 1) := by decide +kernel
theorem dX3_stateByLog_21 : decode cX3_stateByLog 21 = .ok (.iload_n 1, 1) := by decide +kernel
theorem dX3_stateByLog_22 : decode cX3_stateByLog 22 = .ok (.iload_n 2, 1) := by decide +kernel
theorem dX3_stateByLog_23 : decode cX3_stateByLog 23 = .ok (.invokevirtual 196, 3) := by decide +kernel
theorem dX3_stateByLog_26 : decode cX3_stateByLog 26 = .ok (.goto 8, 3) := by decide +kernel
theorem dX3_stateByLog_29 : decode cX3_stateByLog 29 = .ok (.aload_n 0, 1) := by decide +kernel
theorem dX3_stateByLog_30 : decode cX3_stateByLog 30 = .ok (.iconst 1, 1) := by decide +kernel
theorem dX3_stateByLog_31 : decode cX3_stateByLog 31 = .ok (.invokevirtual 106, 3) := by decide +kernel
theorem dX3_stateByLog_34 : decode cX3_stateByLog 34 = .ok (.ireturn, 1) := by decide +kernel
theorem dX3_doubts_0 : decode cX3_doubts 0 = .ok (.iconst 0, 1) := by decide +kernel
theorem dX3_doubts_1 : decode cX3_doubts 1 = .ok (.istore_n 2, 1) := by decide +kernel
theorem dX3_doubts_2 : decode cX3_doubts 2 = .ok (.iconst 0, 1) := by decide +kernel
theorem dX3_doubts_3 : decode cX3_doubts 3 = .ok (.istore_n 3, 1) := by decide +kernel
theorem dX3_doubts_4 : decode cX3_doubts 4 = .ok (.iload_n 3, 1) := by decide +kernel
theorem dX3_doubts_5 : decode cX3_doubts 5 = .ok (.aload_n 0, 1) := by decide +kernel
theorem dX3_doubts_6 : decode cX3_doubts 6 = .ok (.getfield 7, 3) := by decide +kernel
theorem dX3_doubts_9 : decode cX3_doubts 9 = .ok (.bipush 9, 2) := by decide +kernel
theorem dX3_doubts_11 : decode cX3_doubts 11 = .ok (.iaload, 1) := by decide +kernel
theorem dX3_doubts_12 : decode cX3_doubts 12 = .ok (.if_icmp .ge 27, 3) := by decide +kernel
theorem dX3_doubts_15 : decode cX3_doubts 15 = .ok (.iload_n 2, 1) := by decide +kernel
theorem dX3_doubts_16 : decode cX3_doubts 16 = .ok (.aload_n 0, 1) := by decide +kernel
theorem dX3_doubts_17 : decode cX3_doubts 17 = .ok (.iload_n 1, 1) := by decide +kernel
theorem dX3_doubts_18 : decode cX3_doubts 18 = .ok (.iload_n 3, 1) := by decide +kernel
theorem dX3_doubts_19 : decode cX3_doubts 19 = .ok (.invokevirtual 51, 3) := by decide +kernel
theorem dX3_doubts_22 : decode cX3_doubts 22 = .ok (.iconst 1, 1) := by decide +kernel
theorem dX3_doubts_23 : decode cX3_doubts 23 = .ok (.if_icmp .ne 7, 3) := by decide +kernel
theorem dX3_doubts_26 : decode cX3_doubts 26 = .ok (.iconst 1, 1) := by decide +kernel
theorem dX3_doubts_27 : decode cX3_doubts 27 = .ok (.goto 4, 3) := by decide +kernel
theorem dX3_doubts_30 : decode cX3_doubts 30 = .ok (.iconst 0, 1) := by decide +kernel
theorem dX3_doubts_31 : decode cX3_doubts 31 = .ok (.iadd, 1) := by decide +kernel
theorem dX3_doubts_32 : decode cX3_doubts 32 = .ok (.istore_n 2, 1) := by decide +kernel
theorem dX3_doubts_33 : decode cX3_doubts 33 = .ok (.iinc 3 1, 3) := by decide +kernel
theorem dX3_doubts_36 : decode cX3_doubts 36 = .ok (.goto (-32), 3) := by decide +kernel
theorem dX3_doubts_39 : decode cX3_doubts 39 = .ok (.iload_n 2, 1) := by decide +kernel
theorem dX3_doubts_40 : decode cX3_doubts 40 = .ok (.ireturn, 1) := by decide +kernel
theorem dX3_inDoubt_0 : decode cX3_inDoubt 0 = .ok (.aload_n 0, 1) := by decide +kernel
theorem dX3_inDoubt_1 : decode cX3_inDoubt 1 = .ok (.iconst 0, 1) := by decide +kernel
theorem dX3_inDoubt_2 : decode cX3_inDoubt 2 = .ok (.putfield 28, 3) := by decide +kernel
theorem dX3_inDoubt_5 : decode cX3_inDoubt 5 = .ok (.iload_n 1, 1) := by decide +kernel
theorem dX3_inDoubt_6 : decode cX3_inDoubt 6 = .ok (.invokestatic 103, 3) := by decide +kernel
theorem dX3_inDoubt_9 : decode cX3_inDoubt 9 = .ok (.ifCond .eq 11, 3) := by decide +kernel
theorem dX3_inDoubt_12 : decode cX3_inDoubt 12 = .ok (.aload_n 0, 1) := by decide +kernel
theorem dX3_inDoubt_13 : decode cX3_inDoubt 13 = .ok (.iload_n 1, 1) := by decide +kernel
theorem dX3_inDoubt_14 : decode cX3_inDoubt 14 = .ok (.invokevirtual 199, 3) := by decide +kernel
theorem dX3_inDoubt_17 : decode cX3_inDoubt 17 = .ok (.goto 8, 3) := by decide +kernel
theorem dX3_inDoubt_20 : decode cX3_inDoubt 20 = .ok (.aload_n 0, 1) := by decide +kernel
theorem dX3_inDoubt_21 : decode cX3_inDoubt 21 = .ok (.iconst 1, 1) := by decide +kernel
theorem dX3_inDoubt_22 : decode cX3_inDoubt 22 = .ok (.invokevirtual 106, 3) := by decide +kernel
theorem dX3_inDoubt_25 : decode cX3_inDoubt 25 = .ok (.ireturn, 1) := by decide +kernel
theorem dX3_outcome_0 : decode cX3_outcome 0 = .ok (.aload_n 0, 1) := by decide +kernel
theorem dX3_outcome_1 : decode cX3_outcome 1 = .ok (.iconst 0, 1) := by decide +kernel
theorem dX3_outcome_2 : decode cX3_outcome 2 = .ok (.putfield 28, 3) := by decide +kernel
theorem dX3_outcome_5 : decode cX3_outcome 5 = .ok (.aload_n 0, 1) := by decide +kernel
theorem dX3_outcome_6 : decode cX3_outcome 6 = .ok (.iload_n 1, 1) := by decide +kernel
theorem dX3_outcome_7 : decode cX3_outcome 7 = .ok (.invokevirtual 123, 3) := by decide +kernel
theorem dX3_outcome_10 : decode cX3_outcome 10 = .ok (.ifCond .eq 12, 3) := by decide +kernel
theorem dX3_outcome_13 : decode cX3_outcome 13 = .ok (.aload_n 0, 1) := by decide +kernel
theorem dX3_outcome_14 : decode cX3_outcome 14 = .ok (.iload_n 1, 1) := by decide +kernel
theorem dX3_outcome_15 : decode cX3_outcome 15 = .ok (.iconst 5, 1) := by decide +kernel
theorem dX3_outcome_16 : decode cX3_outcome 16 = .ok (.invokevirtual 39, 3) := by decide +kernel
theorem dX3_outcome_19 : decode cX3_outcome 19 = .ok (.goto 8, 3) := by decide +kernel
theorem dX3_outcome_22 : decode cX3_outcome 22 = .ok (.aload_n 0, 1) := by decide +kernel
theorem dX3_outcome_23 : decode cX3_outcome 23 = .ok (.iconst 1, 1) := by decide +kernel
theorem dX3_outcome_24 : decode cX3_outcome 24 = .ok (.invokevirtual 106, 3) := by decide +kernel
theorem dX3_outcome_27 : decode cX3_outcome 27 = .ok (.ireturn, 1) := by decide +kernel
theorem dX3_outcomeOf_0 : decode cX3_outcomeOf 0 = .ok (.iconst 0, 1) := by decide +kernel
theorem dX3_outcomeOf_1 : decode cX3_outcomeOf 1 = .ok (.istore_n 2, 1) := by decide +kernel
theorem dX3_outcomeOf_2 : decode cX3_outcomeOf 2 = .ok (.iconst 0, 1) := by decide +kernel
theorem dX3_outcomeOf_3 : decode cX3_outcomeOf 3 = .ok (.istore_n 3, 1) := by decide +kernel
theorem dX3_outcomeOf_4 : decode cX3_outcomeOf 4 = .ok (.iload_n 3, 1) := by decide +kernel
theorem dX3_outcomeOf_5 : decode cX3_outcomeOf 5 = .ok (.iconst 4, 1) := by decide +kernel
theorem dX3_outcomeOf_6 : decode cX3_outcomeOf 6 = .ok (.if_icmp .ge 41, 3) := by decide +kernel
theorem dX3_outcomeOf_9 : decode cX3_outcomeOf 9 = .ok (.iload_n 2, 1) := by decide +kernel
theorem dX3_outcomeOf_10 : decode cX3_outcomeOf 10 = .ok (.aload_n 0, 1) := by decide +kernel
theorem dX3_outcomeOf_11 : decode cX3_outcomeOf 11 = .ok (.iload_n 3, 1) := by decide +kernel
theorem dX3_outcomeOf_12 : decode cX3_outcomeOf 12 = .ok (.iload_n 1, 1) := by decide +kernel
theorem dX3_outcomeOf_13 : decode cX3_outcomeOf 13 = .ok (.invokevirtual 51, 3) := by decide +kernel
theorem dX3_outcomeOf_16 : decode cX3_outcomeOf 16 = .ok (.iconst 2, 1) := by decide +kernel
theorem dX3_outcomeOf_17 : decode cX3_outcomeOf 17 = .ok (.if_icmp .ne 7, 3) := by decide +kernel
theorem dX3_outcomeOf_20 : decode cX3_outcomeOf 20 = .ok (.iconst 1, 1) := by decide +kernel
theorem dX3_outcomeOf_21 : decode cX3_outcomeOf 21 = .ok (.goto 18, 3) := by decide +kernel
theorem dX3_outcomeOf_24 : decode cX3_outcomeOf 24 = .ok (.aload_n 0, 1) := by decide +kernel
theorem dX3_outcomeOf_25 : decode cX3_outcomeOf 25 = .ok (.iload_n 3, 1) := by decide +kernel
theorem dX3_outcomeOf_26 : decode cX3_outcomeOf 26 = .ok (.iload_n 1, 1) := by decide +kernel
theorem dX3_outcomeOf_27 : decode cX3_outcomeOf 27 = .ok (.invokevirtual 51, 3) := by decide +kernel
theorem dX3_outcomeOf_30 : decode cX3_outcomeOf 30 = .ok (.iconst 3, 1) := by decide +kernel
theorem dX3_outcomeOf_31 : decode cX3_outcomeOf 31 = .ok (.if_icmp .ne 7, 3) := by decide +kernel
theorem dX3_outcomeOf_34 : decode cX3_outcomeOf 34 = .ok (.iconst 2, 1) := by decide +kernel
theorem dX3_outcomeOf_35 : decode cX3_outcomeOf 35 = .ok (.goto 4, 3) := by decide +kernel
theorem dX3_outcomeOf_38 : decode cX3_outcomeOf 38 = .ok (.iconst 0, 1) := by decide +kernel
theorem dX3_outcomeOf_39 : decode cX3_outcomeOf 39 = .ok (.ior, 1) := by decide +kernel
theorem dX3_outcomeOf_40 : decode cX3_outcomeOf 40 = .ok (.istore_n 2, 1) := by decide +kernel
theorem dX3_outcomeOf_41 : decode cX3_outcomeOf 41 = .ok (.iinc 3 1, 3) := by decide +kernel
theorem dX3_outcomeOf_44 : decode cX3_outcomeOf 44 = .ok (.goto (-40), 3) := by decide +kernel
theorem dX3_outcomeOf_47 : decode cX3_outcomeOf 47 = .ok (.iload_n 2, 1) := by decide +kernel
theorem dX3_outcomeOf_48 : decode cX3_outcomeOf 48 = .ok (.ireturn, 1) := by decide +kernel
theorem dX3_outcomeByStores_0 : decode cX3_outcomeByStores 0 = .ok (.aload_n 0, 1) := by decide +kernel
theorem dX3_outcomeByStores_1 : decode cX3_outcomeByStores 1 = .ok (.iconst 0, 1) := by decide +kernel
theorem dX3_outcomeByStores_2 : decode cX3_outcomeByStores 2 = .ok (.putfield 28, 3) := by decide +kernel
theorem dX3_outcomeByStores_5 : decode cX3_outcomeByStores 5 = .ok (.aload_n 0, 1) := by decide +kernel
theorem dX3_outcomeByStores_6 : decode cX3_outcomeByStores 6 = .ok (.iload_n 1, 1) := by decide +kernel
theorem dX3_outcomeByStores_7 : decode cX3_outcomeByStores 7 = .ok (.invokevirtual 123, 3) := by decide +kernel
theorem dX3_outcomeByStores_10 : decode cX3_outcomeByStores 10 = .ok (.ifCond .eq 11, 3) := by decide +kernel
theorem dX3_outcomeByStores_13 : decode cX3_outcomeByStores 13 = .ok (.aload_n 0, 1) := by decide +kernel
theorem dX3_outcomeByStores_14 : decode cX3_outcomeByStores 14 = .ok (.iload_n 1, 1) := by decide +kernel
theorem dX3_outcomeByStores_15 : decode cX3_outcomeByStores 15 = .ok (.invokevirtual 202, 3) := by decide +kernel
theorem dX3_outcomeByStores_18 : decode cX3_outcomeByStores 18 = .ok (.goto 8, 3) := by decide +kernel
theorem dX3_outcomeByStores_21 : decode cX3_outcomeByStores 21 = .ok (.aload_n 0, 1) := by decide +kernel
theorem dX3_outcomeByStores_22 : decode cX3_outcomeByStores 22 = .ok (.iconst 1, 1) := by decide +kernel
theorem dX3_outcomeByStores_23 : decode cX3_outcomeByStores 23 = .ok (.invokevirtual 106, 3) := by decide +kernel
theorem dX3_outcomeByStores_26 : decode cX3_outcomeByStores 26 = .ok (.ireturn, 1) := by decide +kernel
theorem dX3_hasEnded_0 : decode cX3_hasEnded 0 = .ok (.aload_n 0, 1) := by decide +kernel
theorem dX3_hasEnded_1 : decode cX3_hasEnded 1 = .ok (.iconst 0, 1) := by decide +kernel
theorem dX3_hasEnded_2 : decode cX3_hasEnded 2 = .ok (.putfield 28, 3) := by decide +kernel
theorem dX3_hasEnded_5 : decode cX3_hasEnded 5 = .ok (.aload_n 0, 1) := by decide +kernel
theorem dX3_hasEnded_6 : decode cX3_hasEnded 6 = .ok (.iload_n 1, 1) := by decide +kernel
theorem dX3_hasEnded_7 : decode cX3_hasEnded 7 = .ok (.invokevirtual 123, 3) := by decide +kernel
theorem dX3_hasEnded_10 : decode cX3_hasEnded 10 = .ok (.ifCond .eq 22, 3) := by decide +kernel
theorem dX3_hasEnded_13 : decode cX3_hasEnded 13 = .ok (.aload_n 0, 1) := by decide +kernel
theorem dX3_hasEnded_14 : decode cX3_hasEnded 14 = .ok (.iload_n 1, 1) := by decide +kernel
theorem dX3_hasEnded_15 : decode cX3_hasEnded 15 = .ok (.bipush 6, 2) := by decide +kernel
theorem dX3_hasEnded_17 : decode cX3_hasEnded 17 = .ok (.invokevirtual 39, 3) := by decide +kernel
theorem dX3_hasEnded_20 : decode cX3_hasEnded 20 = .ok (.iconst 1, 1) := by decide +kernel
theorem dX3_hasEnded_21 : decode cX3_hasEnded 21 = .ok (.if_icmp .ne 7, 3) := by decide +kernel
theorem dX3_hasEnded_24 : decode cX3_hasEnded 24 = .ok (.iconst 1, 1) := by decide +kernel
theorem dX3_hasEnded_25 : decode cX3_hasEnded 25 = .ok (.goto 20, 3) := by decide +kernel
theorem dX3_hasEnded_28 : decode cX3_hasEnded 28 = .ok (.iconst 0, 1) := by decide +kernel
theorem dX3_hasEnded_29 : decode cX3_hasEnded 29 = .ok (.goto 16, 3) := by decide +kernel
theorem dX3_hasEnded_32 : decode cX3_hasEnded 32 = .ok (.aload_n 0, 1) := by decide +kernel
theorem dX3_hasEnded_33 : decode cX3_hasEnded 33 = .ok (.iconst 1, 1) := by decide +kernel
theorem dX3_hasEnded_34 : decode cX3_hasEnded 34 = .ok (.invokevirtual 106, 3) := by decide +kernel
theorem dX3_hasEnded_37 : decode cX3_hasEnded 37 = .ok (.ifCond .le 7, 3) := by decide +kernel
theorem dX3_hasEnded_40 : decode cX3_hasEnded 40 = .ok (.iconst 1, 1) := by decide +kernel
theorem dX3_hasEnded_41 : decode cX3_hasEnded 41 = .ok (.goto 4, 3) := by decide +kernel
theorem dX3_hasEnded_44 : decode cX3_hasEnded 44 = .ok (.iconst 0, 1) := by decide +kernel
theorem dX3_hasEnded_45 : decode cX3_hasEnded 45 = .ok (.ireturn, 1) := by decide +kernel
theorem dX3_saidYes_0 : decode cX3_saidYes 0 = .ok (.aload_n 0, 1) := by decide +kernel
theorem dX3_saidYes_1 : decode cX3_saidYes 1 = .ok (.iconst 0, 1) := by decide +kernel
theorem dX3_saidYes_2 : decode cX3_saidYes 2 = .ok (.putfield 28, 3) := by decide +kernel
theorem dX3_saidYes_5 : decode cX3_saidYes 5 = .ok (.aload_n 0, 1) := by decide +kernel
theorem dX3_saidYes_6 : decode cX3_saidYes 6 = .ok (.iload_n 1, 1) := by decide +kernel
theorem dX3_saidYes_7 : decode cX3_saidYes 7 = .ok (.invokevirtual 123, 3) := by decide +kernel
theorem dX3_saidYes_10 : decode cX3_saidYes 10 = .ok (.ifCond .eq 12, 3) := by decide +kernel
theorem dX3_saidYes_13 : decode cX3_saidYes 13 = .ok (.aload_n 0, 1) := by decide +kernel
theorem dX3_saidYes_14 : decode cX3_saidYes 14 = .ok (.iload_n 1, 1) := by decide +kernel
theorem dX3_saidYes_15 : decode cX3_saidYes 15 = .ok (.iconst 3, 1) := by decide +kernel
theorem dX3_saidYes_16 : decode cX3_saidYes 16 = .ok (.invokevirtual 39, 3) := by decide +kernel
theorem dX3_saidYes_19 : decode cX3_saidYes 19 = .ok (.goto 8, 3) := by decide +kernel
theorem dX3_saidYes_22 : decode cX3_saidYes 22 = .ok (.aload_n 0, 1) := by decide +kernel
theorem dX3_saidYes_23 : decode cX3_saidYes 23 = .ok (.iconst 1, 1) := by decide +kernel
theorem dX3_saidYes_24 : decode cX3_saidYes 24 = .ok (.invokevirtual 106, 3) := by decide +kernel
theorem dX3_saidYes_27 : decode cX3_saidYes 27 = .ok (.ireturn, 1) := by decide +kernel
theorem dX3_saidDone_0 : decode cX3_saidDone 0 = .ok (.aload_n 0, 1) := by decide +kernel
theorem dX3_saidDone_1 : decode cX3_saidDone 1 = .ok (.iconst 0, 1) := by decide +kernel
theorem dX3_saidDone_2 : decode cX3_saidDone 2 = .ok (.putfield 28, 3) := by decide +kernel
theorem dX3_saidDone_5 : decode cX3_saidDone 5 = .ok (.aload_n 0, 1) := by decide +kernel
theorem dX3_saidDone_6 : decode cX3_saidDone 6 = .ok (.iload_n 1, 1) := by decide +kernel
theorem dX3_saidDone_7 : decode cX3_saidDone 7 = .ok (.invokevirtual 123, 3) := by decide +kernel
theorem dX3_saidDone_10 : decode cX3_saidDone 10 = .ok (.ifCond .eq 12, 3) := by decide +kernel
theorem dX3_saidDone_13 : decode cX3_saidDone 13 = .ok (.aload_n 0, 1) := by decide +kernel
theorem dX3_saidDone_14 : decode cX3_saidDone 14 = .ok (.iload_n 1, 1) := by decide +kernel
theorem dX3_saidDone_15 : decode cX3_saidDone 15 = .ok (.iconst 4, 1) := by decide +kernel
theorem dX3_saidDone_16 : decode cX3_saidDone 16 = .ok (.invokevirtual 39, 3) := by decide +kernel
theorem dX3_saidDone_19 : decode cX3_saidDone 19 = .ok (.goto 8, 3) := by decide +kernel
theorem dX3_saidDone_22 : decode cX3_saidDone 22 = .ok (.aload_n 0, 1) := by decide +kernel
theorem dX3_saidDone_23 : decode cX3_saidDone 23 = .ok (.iconst 1, 1) := by decide +kernel
theorem dX3_saidDone_24 : decode cX3_saidDone 24 = .ok (.invokevirtual 106, 3) := by decide +kernel
theorem dX3_saidDone_27 : decode cX3_saidDone 27 = .ok (.ireturn, 1) := by decide +kernel
theorem dX3_totalOf_0 : decode cX3_totalOf 0 = .ok (.aload_n 0, 1) := by decide +kernel
theorem dX3_totalOf_1 : decode cX3_totalOf 1 = .ok (.getfield 7, 3) := by decide +kernel
theorem dX3_totalOf_4 : decode cX3_totalOf 4 = .ok (.iconst 5, 1) := by decide +kernel
theorem dX3_totalOf_5 : decode cX3_totalOf 5 = .ok (.iaload, 1) := by decide +kernel
theorem dX3_totalOf_6 : decode cX3_totalOf 6 = .ok (.aload_n 0, 1) := by decide +kernel
theorem dX3_totalOf_7 : decode cX3_totalOf 7 = .ok (.getfield 7, 3) := by decide +kernel
theorem dX3_totalOf_10 : decode cX3_totalOf 10 = .ok (.bipush 6, 2) := by decide +kernel
theorem dX3_totalOf_12 : decode cX3_totalOf 12 = .ok (.iaload, 1) := by decide +kernel
theorem dX3_totalOf_13 : decode cX3_totalOf 13 = .ok (.iadd, 1) := by decide +kernel
theorem dX3_totalOf_14 : decode cX3_totalOf 14 = .ok (.aload_n 0, 1) := by decide +kernel
theorem dX3_totalOf_15 : decode cX3_totalOf 15 = .ok (.getfield 7, 3) := by decide +kernel
theorem dX3_totalOf_18 : decode cX3_totalOf 18 = .ok (.bipush 7, 2) := by decide +kernel
theorem dX3_totalOf_20 : decode cX3_totalOf 20 = .ok (.iaload, 1) := by decide +kernel
theorem dX3_totalOf_21 : decode cX3_totalOf 21 = .ok (.iadd, 1) := by decide +kernel
theorem dX3_totalOf_22 : decode cX3_totalOf 22 = .ok (.aload_n 0, 1) := by decide +kernel
theorem dX3_totalOf_23 : decode cX3_totalOf 23 = .ok (.getfield 7, 3) := by decide +kernel
theorem dX3_totalOf_26 : decode cX3_totalOf 26 = .ok (.bipush 8, 2) := by decide +kernel
theorem dX3_totalOf_28 : decode cX3_totalOf 28 = .ok (.iaload, 1) := by decide +kernel
theorem dX3_totalOf_29 : decode cX3_totalOf 29 = .ok (.iadd, 1) := by decide +kernel
theorem dX3_totalOf_30 : decode cX3_totalOf 30 = .ok (.ireturn, 1) := by decide +kernel
theorem dX3_total_0 : decode cX3_total 0 = .ok (.aload_n 0, 1) := by decide +kernel
theorem dX3_total_1 : decode cX3_total 1 = .ok (.iconst 0, 1) := by decide +kernel
theorem dX3_total_2 : decode cX3_total 2 = .ok (.putfield 28, 3) := by decide +kernel
theorem dX3_total_5 : decode cX3_total 5 = .ok (.aload_n 0, 1) := by decide +kernel
theorem dX3_total_6 : decode cX3_total 6 = .ok (.invokevirtual 205, 3) := by decide +kernel
theorem dX3_total_9 : decode cX3_total 9 = .ok (.ireturn, 1) := by decide +kernel
theorem dX3_away_0 : decode cX3_away 0 = .ok (.iconst 0, 1) := by decide +kernel
theorem dX3_away_1 : decode cX3_away 1 = .ok (.istore_n 1, 1) := by decide +kernel
theorem dX3_away_2 : decode cX3_away 2 = .ok (.iconst 0, 1) := by decide +kernel
theorem dX3_away_3 : decode cX3_away 3 = .ok (.istore_n 2, 1) := by decide +kernel
theorem dX3_away_4 : decode cX3_away 4 = .ok (.iload_n 2, 1) := by decide +kernel
theorem dX3_away_5 : decode cX3_away 5 = .ok (.aload_n 0, 1) := by decide +kernel
theorem dX3_away_6 : decode cX3_away 6 = .ok (.getfield 7, 3) := by decide +kernel
theorem dX3_away_9 : decode cX3_away 9 = .ok (.bipush 9, 2) := by decide +kernel
theorem dX3_away_11 : decode cX3_away 11 = .ok (.iaload, 1) := by decide +kernel
theorem dX3_away_12 : decode cX3_away 12 = .ok (.if_icmp .ge 55, 3) := by decide +kernel
theorem dX3_away_15 : decode cX3_away 15 = .ok (.iconst 0, 1) := by decide +kernel
theorem dX3_away_16 : decode cX3_away 16 = .ok (.istore_n 3, 1) := by decide +kernel
theorem dX3_away_17 : decode cX3_away 17 = .ok (.iload_n 3, 1) := by decide +kernel
theorem dX3_away_18 : decode cX3_away 18 = .ok (.iconst 4, 1) := by decide +kernel
theorem dX3_away_19 : decode cX3_away 19 = .ok (.if_icmp .ge 42, 3) := by decide +kernel
theorem dX3_away_22 : decode cX3_away 22 = .ok (.iload_n 1, 1) := by decide +kernel
theorem dX3_away_23 : decode cX3_away 23 = .ok (.aload_n 0, 1) := by decide +kernel
theorem dX3_away_24 : decode cX3_away 24 = .ok (.iload_n 2, 1) := by decide +kernel
theorem dX3_away_25 : decode cX3_away 25 = .ok (.iconst 5, 1) := by decide +kernel
theorem dX3_away_26 : decode cX3_away 26 = .ok (.invokevirtual 39, 3) := by decide +kernel
theorem dX3_away_29 : decode cX3_away 29 = .ok (.iconst 1, 1) := by decide +kernel
theorem dX3_away_30 : decode cX3_away 30 = .ok (.if_icmp .ne 22, 3) := by decide +kernel
theorem dX3_away_33 : decode cX3_away 33 = .ok (.aload_n 0, 1) := by decide +kernel
theorem dX3_away_34 : decode cX3_away 34 = .ok (.iload_n 3, 1) := by decide +kernel
theorem dX3_away_35 : decode cX3_away 35 = .ok (.iload_n 2, 1) := by decide +kernel
theorem dX3_away_36 : decode cX3_away 36 = .ok (.invokevirtual 51, 3) := by decide +kernel
theorem dX3_away_39 : decode cX3_away 39 = .ok (.iconst 2, 1) := by decide +kernel
theorem dX3_away_40 : decode cX3_away 40 = .ok (.if_icmp .eq 12, 3) := by decide +kernel
theorem dX3_away_43 : decode cX3_away 43 = .ok (.aload_n 0, 1) := by decide +kernel
theorem dX3_away_44 : decode cX3_away 44 = .ok (.iload_n 2, 1) := by decide +kernel
theorem dX3_away_45 : decode cX3_away 45 = .ok (.iload_n 3, 1) := by decide +kernel
theorem dX3_away_46 : decode cX3_away 46 = .ok (.invokevirtual 54, 3) := by decide +kernel
theorem dX3_away_49 : decode cX3_away 49 = .ok (.goto 4, 3) := by decide +kernel
theorem dX3_away_52 : decode cX3_away 52 = .ok (.iconst 0, 1) := by decide +kernel
theorem dX3_away_53 : decode cX3_away 53 = .ok (.iadd, 1) := by decide +kernel
theorem dX3_away_54 : decode cX3_away 54 = .ok (.istore_n 1, 1) := by decide +kernel
theorem dX3_away_55 : decode cX3_away 55 = .ok (.iinc 3 1, 3) := by decide +kernel
theorem dX3_away_58 : decode cX3_away 58 = .ok (.goto (-41), 3) := by decide +kernel
theorem dX3_away_61 : decode cX3_away 61 = .ok (.iinc 2 1, 3) := by decide +kernel
theorem dX3_away_64 : decode cX3_away 64 = .ok (.goto (-60), 3) := by decide +kernel
theorem dX3_away_67 : decode cX3_away 67 = .ok (.iload_n 1, 1) := by decide +kernel
theorem dX3_away_68 : decode cX3_away 68 = .ok (.ireturn, 1) := by decide +kernel
theorem dX3_onTheWay_0 : decode cX3_onTheWay 0 = .ok (.aload_n 0, 1) := by decide +kernel
theorem dX3_onTheWay_1 : decode cX3_onTheWay 1 = .ok (.iconst 0, 1) := by decide +kernel
theorem dX3_onTheWay_2 : decode cX3_onTheWay 2 = .ok (.putfield 28, 3) := by decide +kernel
theorem dX3_onTheWay_5 : decode cX3_onTheWay 5 = .ok (.aload_n 0, 1) := by decide +kernel
theorem dX3_onTheWay_6 : decode cX3_onTheWay 6 = .ok (.invokevirtual 208, 3) := by decide +kernel
theorem dX3_onTheWay_9 : decode cX3_onTheWay 9 = .ok (.ireturn, 1) := by decide +kernel
theorem dX3_records_0 : decode cX3_records 0 = .ok (.aload_n 0, 1) := by decide +kernel
theorem dX3_records_1 : decode cX3_records 1 = .ok (.iconst 0, 1) := by decide +kernel
theorem dX3_records_2 : decode cX3_records 2 = .ok (.putfield 28, 3) := by decide +kernel
theorem dX3_records_5 : decode cX3_records 5 = .ok (.iload_n 1, 1) := by decide +kernel
theorem dX3_records_6 : decode cX3_records 6 = .ok (.invokestatic 146, 3) := by decide +kernel
theorem dX3_records_9 : decode cX3_records 9 = .ok (.ifCond .eq 15, 3) := by decide +kernel
theorem dX3_records_12 : decode cX3_records 12 = .ok (.aload_n 0, 1) := by decide +kernel
theorem dX3_records_13 : decode cX3_records 13 = .ok (.getfield 7, 3) := by decide +kernel
theorem dX3_records_16 : decode cX3_records 16 = .ok (.bipush 102, 2) := by decide +kernel
theorem dX3_records_18 : decode cX3_records 18 = .ok (.iload_n 1, 1) := by decide +kernel
theorem dX3_records_19 : decode cX3_records 19 = .ok (.iadd, 1) := by decide +kernel
theorem dX3_records_20 : decode cX3_records 20 = .ok (.iaload, 1) := by decide +kernel
theorem dX3_records_21 : decode cX3_records 21 = .ok (.goto 8, 3) := by decide +kernel
theorem dX3_records_24 : decode cX3_records 24 = .ok (.aload_n 0, 1) := by decide +kernel
theorem dX3_records_25 : decode cX3_records 25 = .ok (.iconst 1, 1) := by decide +kernel
theorem dX3_records_26 : decode cX3_records 26 = .ok (.invokevirtual 106, 3) := by decide +kernel
theorem dX3_records_29 : decode cX3_records 29 = .ok (.ireturn, 1) := by decide +kernel
theorem dX3_record_0 : decode cX3_record 0 = .ok (.iload_n 2, 1) := by decide +kernel
theorem dX3_record_1 : decode cX3_record 1 = .ok (.aload_n 0, 1) := by decide +kernel
theorem dX3_record_2 : decode cX3_record 2 = .ok (.getfield 7, 3) := by decide +kernel
theorem dX3_record_5 : decode cX3_record 5 = .ok (.bipush 102, 2) := by decide +kernel
theorem dX3_record_7 : decode cX3_record 7 = .ok (.iload_n 1, 1) := by decide +kernel
theorem dX3_record_8 : decode cX3_record 8 = .ok (.iadd, 1) := by decide +kernel
theorem dX3_record_9 : decode cX3_record 9 = .ok (.iaload, 1) := by decide +kernel
theorem dX3_record_10 : decode cX3_record 10 = .ok (.if_icmp .ge 20, 3) := by decide +kernel
theorem dX3_record_13 : decode cX3_record 13 = .ok (.aload_n 0, 1) := by decide +kernel
theorem dX3_record_14 : decode cX3_record 14 = .ok (.getfield 7, 3) := by decide +kernel
theorem dX3_record_17 : decode cX3_record 17 = .ok (.bipush 107, 2) := by decide +kernel
theorem dX3_record_19 : decode cX3_record 19 = .ok (.bipush 16, 2) := by decide +kernel
theorem dX3_record_21 : decode cX3_record 21 = .ok (.iload_n 1, 1) := by decide +kernel
theorem dX3_record_22 : decode cX3_record 22 = .ok (.imul, 1) := by decide +kernel
theorem dX3_record_23 : decode cX3_record 23 = .ok (.iadd, 1) := by decide +kernel
theorem dX3_record_24 : decode cX3_record 24 = .ok (.iload_n 2, 1) := by decide +kernel
theorem dX3_record_25 : decode cX3_record 25 = .ok (.iadd, 1) := by decide +kernel
theorem dX3_record_26 : decode cX3_record 26 = .ok (.iaload, 1) := by decide +kernel
theorem dX3_record_27 : decode cX3_record 27 = .ok (.goto 4, 3) := by decide +kernel
theorem dX3_record_30 : decode cX3_record 30 = .ok (.iconst (-1), 1) := by decide +kernel
theorem dX3_record_31 : decode cX3_record 31 = .ok (.ireturn, 1) := by decide +kernel
theorem dX3_recordKind_0 : decode cX3_recordKind 0 = .ok (.aload_n 0, 1) := by decide +kernel
theorem dX3_recordKind_1 : decode cX3_recordKind 1 = .ok (.iconst 0, 1) := by decide +kernel
theorem dX3_recordKind_2 : decode cX3_recordKind 2 = .ok (.putfield 28, 3) := by decide +kernel
theorem dX3_recordKind_5 : decode cX3_recordKind 5 = .ok (.iload_n 1, 1) := by decide +kernel
theorem dX3_recordKind_6 : decode cX3_recordKind 6 = .ok (.invokestatic 146, 3) := by decide +kernel
theorem dX3_recordKind_9 : decode cX3_recordKind 9 = .ok (.ifCond .eq 7, 3) := by decide +kernel
theorem dX3_recordKind_12 : decode cX3_recordKind 12 = .ok (.iload_n 2, 1) := by decide +kernel
theorem dX3_recordKind_13 : decode cX3_recordKind 13 = .ok (.ifCond .ge 9, 3) := by decide +kernel
theorem dX3_recordKind_16 : decode cX3_recordKind 16 = .ok (.aload_n 0, 1) := by decide +kernel
theorem dX3_recordKind_17 : decode cX3_recordKind 17 = .ok (.iconst 1, 1) := by decide +kernel
theorem dX3_recordKind_18 : decode cX3_recordKind 18 = .ok (.invokevirtual 106, 3) := by decide +kernel
theorem dX3_recordKind_21 : decode cX3_recordKind 21 = .ok (.ireturn, 1) := by decide +kernel
theorem dX3_recordKind_22 : decode cX3_recordKind 22 = .ok (.aload_n 0, 1) := by decide +kernel
theorem dX3_recordKind_23 : decode cX3_recordKind 23 = .ok (.iload_n 1, 1) := by decide +kernel
theorem dX3_recordKind_24 : decode cX3_recordKind 24 = .ok (.iload_n 2, 1) := by decide +kernel
theorem dX3_recordKind_25 : decode cX3_recordKind 25 = .ok (.invokevirtual 211, 3) := by decide +kernel
theorem dX3_recordKind_28 : decode cX3_recordKind 28 = .ok (.iconst (-1), 1) := by decide +kernel
theorem dX3_recordKind_29 : decode cX3_recordKind 29 = .ok (.if_icmp .ne 7, 3) := by decide +kernel
theorem dX3_recordKind_32 : decode cX3_recordKind 32 = .ok (.iconst (-1), 1) := by decide +kernel
theorem dX3_recordKind_33 : decode cX3_recordKind 33 = .ok (.goto 12, 3) := by decide +kernel
theorem dX3_recordKind_36 : decode cX3_recordKind 36 = .ok (.aload_n 0, 1) := by decide +kernel
theorem dX3_recordKind_37 : decode cX3_recordKind 37 = .ok (.iload_n 1, 1) := by decide +kernel
theorem dX3_recordKind_38 : decode cX3_recordKind 38 = .ok (.iload_n 2, 1) := by decide +kernel
theorem dX3_recordKind_39 : decode cX3_recordKind 39 = .ok (.invokevirtual 211, 3) := by decide +kernel
theorem dX3_recordKind_42 : decode cX3_recordKind 42 = .ok (.bipush 8, 2) := by decide +kernel
theorem dX3_recordKind_44 : decode cX3_recordKind 44 = .ok (.idiv, 1) := by decide +kernel
theorem dX3_recordKind_45 : decode cX3_recordKind 45 = .ok (.ireturn, 1) := by decide +kernel
theorem dX3_recordTransfer_0 : decode cX3_recordTransfer 0 = .ok (.aload_n 0, 1) := by decide +kernel
theorem dX3_recordTransfer_1 : decode cX3_recordTransfer 1 = .ok (.iconst 0, 1) := by decide +kernel
theorem dX3_recordTransfer_2 : decode cX3_recordTransfer 2 = .ok (.putfield 28, 3) := by decide +kernel
theorem dX3_recordTransfer_5 : decode cX3_recordTransfer 5 = .ok (.iload_n 1, 1) := by decide +kernel
theorem dX3_recordTransfer_6 : decode cX3_recordTransfer 6 = .ok (.invokestatic 146, 3) := by decide +kernel
theorem dX3_recordTransfer_9 : decode cX3_recordTransfer 9 = .ok (.ifCond .eq 7, 3) := by decide +kernel
theorem dX3_recordTransfer_12 : decode cX3_recordTransfer 12 = .ok (.iload_n 2, 1) := by decide +kernel
theorem dX3_recordTransfer_13 : decode cX3_recordTransfer 13 = .ok (.ifCond .ge 9, 3) := by decide +kernel
theorem dX3_recordTransfer_16 : decode cX3_recordTransfer 16 = .ok (.aload_n 0, 1) := by decide +kernel
theorem dX3_recordTransfer_17 : decode cX3_recordTransfer 17 = .ok (.iconst 1, 1) := by decide +kernel
theorem dX3_recordTransfer_18 : decode cX3_recordTransfer 18 = .ok (.invokevirtual 106, 3) := by decide +kernel
theorem dX3_recordTransfer_21 : decode cX3_recordTransfer 21 = .ok (.ireturn, 1) := by decide +kernel
theorem dX3_recordTransfer_22 : decode cX3_recordTransfer 22 = .ok (.aload_n 0, 1) := by decide +kernel
theorem dX3_recordTransfer_23 : decode cX3_recordTransfer 23 = .ok (.iload_n 1, 1) := by decide +kernel
theorem dX3_recordTransfer_24 : decode cX3_recordTransfer 24 = .ok (.iload_n 2, 1) := by decide +kernel
theorem dX3_recordTransfer_25 : decode cX3_recordTransfer 25 = .ok (.invokevirtual 211, 3) := by decide +kernel
theorem dX3_recordTransfer_28 : decode cX3_recordTransfer 28 = .ok (.iconst (-1), 1) := by decide +kernel
theorem dX3_recordTransfer_29 : decode cX3_recordTransfer 29 = .ok (.if_icmp .ne 7, 3) := by decide +kernel
theorem dX3_recordTransfer_32 : decode cX3_recordTransfer 32 = .ok (.iconst (-1), 1) := by decide +kernel
theorem dX3_recordTransfer_33 : decode cX3_recordTransfer 33 = .ok (.goto 12, 3) := by decide +kernel
theorem dX3_recordTransfer_36 : decode cX3_recordTransfer 36 = .ok (.aload_n 0, 1) := by decide +kernel
theorem dX3_recordTransfer_37 : decode cX3_recordTransfer 37 = .ok (.iload_n 1, 1) := by decide +kernel
theorem dX3_recordTransfer_38 : decode cX3_recordTransfer 38 = .ok (.iload_n 2, 1) := by decide +kernel
theorem dX3_recordTransfer_39 : decode cX3_recordTransfer 39 = .ok (.invokevirtual 211, 3) := by decide +kernel
theorem dX3_recordTransfer_42 : decode cX3_recordTransfer 42 = .ok (.bipush 8, 2) := by decide +kernel
theorem dX3_recordTransfer_44 : decode cX3_recordTransfer 44 = .ok (.irem, 1) := by decide +kernel
theorem dX3_recordTransfer_45 : decode cX3_recordTransfer 45 = .ok (.ireturn, 1) := by decide +kernel
theorem dX3_waiting_0 : decode cX3_waiting 0 = .ok (.aload_n 0, 1) := by decide +kernel
theorem dX3_waiting_1 : decode cX3_waiting 1 = .ok (.iconst 0, 1) := by decide +kernel
theorem dX3_waiting_2 : decode cX3_waiting 2 = .ok (.putfield 28, 3) := by decide +kernel
theorem dX3_waiting_5 : decode cX3_waiting 5 = .ok (.aload_n 0, 1) := by decide +kernel
theorem dX3_waiting_6 : decode cX3_waiting 6 = .ok (.getfield 7, 3) := by decide +kernel
theorem dX3_waiting_9 : decode cX3_waiting 9 = .ok (.bipush 13, 2) := by decide +kernel
theorem dX3_waiting_11 : decode cX3_waiting 11 = .ok (.iaload, 1) := by decide +kernel
theorem dX3_waiting_12 : decode cX3_waiting 12 = .ok (.ireturn, 1) := by decide +kernel
theorem dX3_kindOf_0 : decode cX3_kindOf 0 = .ok (.aload_n 0, 1) := by decide +kernel
theorem dX3_kindOf_1 : decode cX3_kindOf 1 = .ok (.iconst 0, 1) := by decide +kernel
theorem dX3_kindOf_2 : decode cX3_kindOf 2 = .ok (.putfield 28, 3) := by decide +kernel
theorem dX3_kindOf_5 : decode cX3_kindOf 5 = .ok (.iload_n 1, 1) := by decide +kernel
theorem dX3_kindOf_6 : decode cX3_kindOf 6 = .ok (.ifCond .ge 9, 3) := by decide +kernel
theorem dX3_kindOf_9 : decode cX3_kindOf 9 = .ok (.aload_n 0, 1) := by decide +kernel
theorem dX3_kindOf_10 : decode cX3_kindOf 10 = .ok (.iconst 1, 1) := by decide +kernel
theorem dX3_kindOf_11 : decode cX3_kindOf 11 = .ok (.invokevirtual 106, 3) := by decide +kernel
theorem dX3_kindOf_14 : decode cX3_kindOf 14 = .ok (.ireturn, 1) := by decide +kernel
theorem dX3_kindOf_15 : decode cX3_kindOf 15 = .ok (.aload_n 0, 1) := by decide +kernel
theorem dX3_kindOf_16 : decode cX3_kindOf 16 = .ok (.iload_n 1, 1) := by decide +kernel
theorem dX3_kindOf_17 : decode cX3_kindOf 17 = .ok (.invokevirtual 132, 3) := by decide +kernel
theorem dX3_kindOf_20 : decode cX3_kindOf 20 = .ok (.ifCond .eq 19, 3) := by decide +kernel
theorem dX3_kindOf_23 : decode cX3_kindOf 23 = .ok (.aload_n 0, 1) := by decide +kernel
theorem dX3_kindOf_24 : decode cX3_kindOf 24 = .ok (.getfield 7, 3) := by decide +kernel
theorem dX3_kindOf_27 : decode cX3_kindOf 27 = .ok (.sipush 195, 3) := by decide +kernel
theorem dX3_kindOf_30 : decode cX3_kindOf 30 = .ok (.iload_n 1, 1) := by decide +kernel
theorem dX3_kindOf_31 : decode cX3_kindOf 31 = .ok (.iadd, 1) := by decide +kernel
theorem dX3_kindOf_32 : decode cX3_kindOf 32 = .ok (.iaload, 1) := by decide +kernel
theorem dX3_kindOf_33 : decode cX3_kindOf 33 = .ok (.bipush 32, 2) := by decide +kernel
theorem dX3_kindOf_35 : decode cX3_kindOf 35 = .ok (.idiv, 1) := by decide +kernel
theorem dX3_kindOf_36 : decode cX3_kindOf 36 = .ok (.goto 4, 3) := by decide +kernel
theorem dX3_kindOf_39 : decode cX3_kindOf 39 = .ok (.iconst (-1), 1) := by decide +kernel
theorem dX3_kindOf_40 : decode cX3_kindOf 40 = .ok (.ireturn, 1) := by decide +kernel
theorem dX3_transferOf_0 : decode cX3_transferOf 0 = .ok (.aload_n 0, 1) := by decide +kernel
theorem dX3_transferOf_1 : decode cX3_transferOf 1 = .ok (.iconst 0, 1) := by decide +kernel
theorem dX3_transferOf_2 : decode cX3_transferOf 2 = .ok (.putfield 28, 3) := by decide +kernel
theorem dX3_transferOf_5 : decode cX3_transferOf 5 = .ok (.iload_n 1, 1) := by decide +kernel
theorem dX3_transferOf_6 : decode cX3_transferOf 6 = .ok (.ifCond .ge 9, 3) := by decide +kernel
theorem dX3_transferOf_9 : decode cX3_transferOf 9 = .ok (.aload_n 0, 1) := by decide +kernel
theorem dX3_transferOf_10 : decode cX3_transferOf 10 = .ok (.iconst 1, 1) := by decide +kernel
theorem dX3_transferOf_11 : decode cX3_transferOf 11 = .ok (.invokevirtual 106, 3) := by decide +kernel
theorem dX3_transferOf_14 : decode cX3_transferOf 14 = .ok (.ireturn, 1) := by decide +kernel
theorem dX3_transferOf_15 : decode cX3_transferOf 15 = .ok (.aload_n 0, 1) := by decide +kernel
theorem dX3_transferOf_16 : decode cX3_transferOf 16 = .ok (.iload_n 1, 1) := by decide +kernel
theorem dX3_transferOf_17 : decode cX3_transferOf 17 = .ok (.invokevirtual 132, 3) := by decide +kernel
theorem dX3_transferOf_20 : decode cX3_transferOf 20 = .ok (.ifCond .eq 21, 3) := by decide +kernel
theorem dX3_transferOf_23 : decode cX3_transferOf 23 = .ok (.aload_n 0, 1) := by decide +kernel
theorem dX3_transferOf_24 : decode cX3_transferOf 24 = .ok (.getfield 7, 3) := by decide +kernel
theorem dX3_transferOf_27 : decode cX3_transferOf 27 = .ok (.sipush 195, 3) := by decide +kernel
theorem dX3_transferOf_30 : decode cX3_transferOf 30 = .ok (.iload_n 1, 1) := by decide +kernel
theorem dX3_transferOf_31 : decode cX3_transferOf 31 = .ok (.iadd, 1) := by decide +kernel
theorem dX3_transferOf_32 : decode cX3_transferOf 32 = .ok (.iaload, 1) := by decide +kernel
theorem dX3_transferOf_33 : decode cX3_transferOf 33 = .ok (.iconst 4, 1) := by decide +kernel
theorem dX3_transferOf_34 : decode cX3_transferOf 34 = .ok (.idiv, 1) := by decide +kernel
theorem dX3_transferOf_35 : decode cX3_transferOf 35 = .ok (.bipush 8, 2) := by decide +kernel
theorem dX3_transferOf_37 : decode cX3_transferOf 37 = .ok (.irem, 1) := by decide +kernel
theorem dX3_transferOf_38 : decode cX3_transferOf 38 = .ok (.goto 4, 3) := by decide +kernel
theorem dX3_transferOf_41 : decode cX3_transferOf 41 = .ok (.iconst (-1), 1) := by decide +kernel
theorem dX3_transferOf_42 : decode cX3_transferOf 42 = .ok (.ireturn, 1) := by decide +kernel
theorem dX3_storeOf_0 : decode cX3_storeOf 0 = .ok (.aload_n 0, 1) := by decide +kernel
theorem dX3_storeOf_1 : decode cX3_storeOf 1 = .ok (.iconst 0, 1) := by decide +kernel
theorem dX3_storeOf_2 : decode cX3_storeOf 2 = .ok (.putfield 28, 3) := by decide +kernel
theorem dX3_storeOf_5 : decode cX3_storeOf 5 = .ok (.iload_n 1, 1) := by decide +kernel
theorem dX3_storeOf_6 : decode cX3_storeOf 6 = .ok (.ifCond .ge 9, 3) := by decide +kernel
theorem dX3_storeOf_9 : decode cX3_storeOf 9 = .ok (.aload_n 0, 1) := by decide +kernel
theorem dX3_storeOf_10 : decode cX3_storeOf 10 = .ok (.iconst 1, 1) := by decide +kernel
theorem dX3_storeOf_11 : decode cX3_storeOf 11 = .ok (.invokevirtual 106, 3) := by decide +kernel
theorem dX3_storeOf_14 : decode cX3_storeOf 14 = .ok (.ireturn, 1) := by decide +kernel
theorem dX3_storeOf_15 : decode cX3_storeOf 15 = .ok (.aload_n 0, 1) := by decide +kernel
theorem dX3_storeOf_16 : decode cX3_storeOf 16 = .ok (.iload_n 1, 1) := by decide +kernel
theorem dX3_storeOf_17 : decode cX3_storeOf 17 = .ok (.invokevirtual 132, 3) := by decide +kernel
theorem dX3_storeOf_20 : decode cX3_storeOf 20 = .ok (.ifCond .eq 18, 3) := by decide +kernel
theorem dX3_storeOf_23 : decode cX3_storeOf 23 = .ok (.aload_n 0, 1) := by decide +kernel
theorem dX3_storeOf_24 : decode cX3_storeOf 24 = .ok (.getfield 7, 3) := by decide +kernel
theorem dX3_storeOf_27 : decode cX3_storeOf 27 = .ok (.sipush 195, 3) := by decide +kernel
theorem dX3_storeOf_30 : decode cX3_storeOf 30 = .ok (.iload_n 1, 1) := by decide +kernel
theorem dX3_storeOf_31 : decode cX3_storeOf 31 = .ok (.iadd, 1) := by decide +kernel
theorem dX3_storeOf_32 : decode cX3_storeOf 32 = .ok (.iaload, 1) := by decide +kernel
theorem dX3_storeOf_33 : decode cX3_storeOf 33 = .ok (.iconst 4, 1) := by decide +kernel
theorem dX3_storeOf_34 : decode cX3_storeOf 34 = .ok (.irem, 1) := by decide +kernel
theorem dX3_storeOf_35 : decode cX3_storeOf 35 = .ok (.goto 4, 3) := by decide +kernel
theorem dX3_storeOf_38 : decode cX3_storeOf 38 = .ok (.iconst (-1), 1) := by decide +kernel
theorem dX3_storeOf_39 : decode cX3_storeOf 39 = .ok (.ireturn, 1) := by decide +kernel
theorem dX3_sent_0 : decode cX3_sent 0 = .ok (.aload_n 0, 1) := by decide +kernel
theorem dX3_sent_1 : decode cX3_sent 1 = .ok (.iconst 0, 1) := by decide +kernel
theorem dX3_sent_2 : decode cX3_sent 2 = .ok (.putfield 28, 3) := by decide +kernel
theorem dX3_sent_5 : decode cX3_sent 5 = .ok (.aload_n 0, 1) := by decide +kernel
theorem dX3_sent_6 : decode cX3_sent 6 = .ok (.getfield 7, 3) := by decide +kernel
theorem dX3_sent_9 : decode cX3_sent 9 = .ok (.bipush 10, 2) := by decide +kernel
theorem dX3_sent_11 : decode cX3_sent 11 = .ok (.iaload, 1) := by decide +kernel
theorem dX3_sent_12 : decode cX3_sent 12 = .ok (.ireturn, 1) := by decide +kernel
theorem dX3_sentOf_0 : decode cX3_sentOf 0 = .ok (.aload_n 0, 1) := by decide +kernel
theorem dX3_sentOf_1 : decode cX3_sentOf 1 = .ok (.getfield 7, 3) := by decide +kernel
theorem dX3_sentOf_4 : decode cX3_sentOf 4 = .ok (.bipush 11, 2) := by decide +kernel
theorem dX3_sentOf_6 : decode cX3_sentOf 6 = .ok (.iaload, 1) := by decide +kernel
theorem dX3_sentOf_7 : decode cX3_sentOf 7 = .ok (.aload_n 0, 1) := by decide +kernel
theorem dX3_sentOf_8 : decode cX3_sentOf 8 = .ok (.getfield 7, 3) := by decide +kernel
theorem dX3_sentOf_11 : decode cX3_sentOf 11 = .ok (.bipush 12, 2) := by decide +kernel
theorem dX3_sentOf_13 : decode cX3_sentOf 13 = .ok (.iaload, 1) := by decide +kernel
theorem dX3_sentOf_14 : decode cX3_sentOf 14 = .ok (.iadd, 1) := by decide +kernel
theorem dX3_sentOf_15 : decode cX3_sentOf 15 = .ok (.aload_n 0, 1) := by decide +kernel
theorem dX3_sentOf_16 : decode cX3_sentOf 16 = .ok (.getfield 7, 3) := by decide +kernel
theorem dX3_sentOf_19 : decode cX3_sentOf 19 = .ok (.bipush 13, 2) := by decide +kernel
theorem dX3_sentOf_21 : decode cX3_sentOf 21 = .ok (.iaload, 1) := by decide +kernel
theorem dX3_sentOf_22 : decode cX3_sentOf 22 = .ok (.iadd, 1) := by decide +kernel
theorem dX3_sentOf_23 : decode cX3_sentOf 23 = .ok (.ireturn, 1) := by decide +kernel
theorem dX3_sentByAccount_0 : decode cX3_sentByAccount 0 = .ok (.aload_n 0, 1) := by decide +kernel
theorem dX3_sentByAccount_1 : decode cX3_sentByAccount 1 = .ok (.iconst 0, 1) := by decide +kernel
theorem dX3_sentByAccount_2 : decode cX3_sentByAccount 2 = .ok (.putfield 28, 3) := by decide +kernel
theorem dX3_sentByAccount_5 : decode cX3_sentByAccount 5 = .ok (.aload_n 0, 1) := by decide +kernel
theorem dX3_sentByAccount_6 : decode cX3_sentByAccount 6 = .ok (.invokevirtual 214, 3) := by decide +kernel
theorem dX3_sentByAccount_9 : decode cX3_sentByAccount 9 = .ok (.ireturn, 1) := by decide +kernel
theorem dX3_lost_0 : decode cX3_lost 0 = .ok (.aload_n 0, 1) := by decide +kernel
theorem dX3_lost_1 : decode cX3_lost 1 = .ok (.iconst 0, 1) := by decide +kernel
theorem dX3_lost_2 : decode cX3_lost 2 = .ok (.putfield 28, 3) := by decide +kernel
theorem dX3_lost_5 : decode cX3_lost 5 = .ok (.aload_n 0, 1) := by decide +kernel
theorem dX3_lost_6 : decode cX3_lost 6 = .ok (.getfield 7, 3) := by decide +kernel
theorem dX3_lost_9 : decode cX3_lost 9 = .ok (.bipush 12, 2) := by decide +kernel
theorem dX3_lost_11 : decode cX3_lost 11 = .ok (.iaload, 1) := by decide +kernel
theorem dX3_lost_12 : decode cX3_lost 12 = .ok (.ireturn, 1) := by decide +kernel
theorem dX3_sendsBy_0 : decode cX3_sendsBy 0 = .ok (.aload_n 0, 1) := by decide +kernel
theorem dX3_sendsBy_1 : decode cX3_sendsBy 1 = .ok (.iload_n 1, 1) := by decide +kernel
theorem dX3_sendsBy_2 : decode cX3_sendsBy 2 = .ok (.invokevirtual 88, 3) := by decide +kernel
theorem dX3_sendsBy_5 : decode cX3_sendsBy 5 = .ok (.ifCond .ne 5, 3) := by decide +kernel
theorem dX3_sendsBy_8 : decode cX3_sendsBy 8 = .ok (.iconst (-1), 1) := by decide +kernel
theorem dX3_sendsBy_9 : decode cX3_sendsBy 9 = .ok (.ireturn, 1) := by decide +kernel
theorem dX3_sendsBy_10 : decode cX3_sendsBy 10 = .ok (.aload_n 0, 1) := by decide +kernel
theorem dX3_sendsBy_11 : decode cX3_sendsBy 11 = .ok (.invokevirtual 217, 3) := by decide +kernel
theorem dX3_sendsBy_14 : decode cX3_sendsBy 14 = .ok (.aload_n 0, 1) := by decide +kernel
theorem dX3_sendsBy_15 : decode cX3_sendsBy 15 = .ok (.getfield 7, 3) := by decide +kernel
theorem dX3_sendsBy_18 : decode cX3_sendsBy 18 = .ok (.bipush 10, 2) := by decide +kernel
theorem dX3_sendsBy_20 : decode cX3_sendsBy 20 = .ok (.iaload, 1) := by decide +kernel
theorem dX3_sendsBy_21 : decode cX3_sendsBy 21 = .ok (.istore_n 2, 1) := by decide +kernel
theorem dX3_sendsBy_22 : decode cX3_sendsBy 22 = .ok (.aload_n 0, 1) := by decide +kernel
theorem dX3_sendsBy_23 : decode cX3_sendsBy 23 = .ok (.iload_n 1, 1) := by decide +kernel
theorem dX3_sendsBy_24 : decode cX3_sendsBy 24 = .ok (.invokevirtual 100, 3) := by decide +kernel
theorem dX3_sendsBy_27 : decode cX3_sendsBy 27 = .ok (.pop, 1) := by decide +kernel
theorem dX3_sendsBy_28 : decode cX3_sendsBy 28 = .ok (.aload_n 0, 1) := by decide +kernel
theorem dX3_sendsBy_29 : decode cX3_sendsBy 29 = .ok (.getfield 7, 3) := by decide +kernel
theorem dX3_sendsBy_32 : decode cX3_sendsBy 32 = .ok (.bipush 10, 2) := by decide +kernel
theorem dX3_sendsBy_34 : decode cX3_sendsBy 34 = .ok (.iaload, 1) := by decide +kernel
theorem dX3_sendsBy_35 : decode cX3_sendsBy 35 = .ok (.iload_n 2, 1) := by decide +kernel
theorem dX3_sendsBy_36 : decode cX3_sendsBy 36 = .ok (.isub, 1) := by decide +kernel
theorem dX3_sendsBy_37 : decode cX3_sendsBy 37 = .ok (.istore_n 3, 1) := by decide +kernel
theorem dX3_sendsBy_38 : decode cX3_sendsBy 38 = .ok (.aload_n 0, 1) := by decide +kernel
theorem dX3_sendsBy_39 : decode cX3_sendsBy 39 = .ok (.invokevirtual 220, 3) := by decide +kernel
theorem dX3_sendsBy_42 : decode cX3_sendsBy 42 = .ok (.iload_n 3, 1) := by decide +kernel
theorem dX3_sendsBy_43 : decode cX3_sendsBy 43 = .ok (.ireturn, 1) := by decide +kernel
theorem dX3_wouldSend_0 : decode cX3_wouldSend 0 = .ok (.aload_n 0, 1) := by decide +kernel
theorem dX3_wouldSend_1 : decode cX3_wouldSend 1 = .ok (.iconst 0, 1) := by decide +kernel
theorem dX3_wouldSend_2 : decode cX3_wouldSend 2 = .ok (.putfield 28, 3) := by decide +kernel
theorem dX3_wouldSend_5 : decode cX3_wouldSend 5 = .ok (.aload_n 0, 1) := by decide +kernel
theorem dX3_wouldSend_6 : decode cX3_wouldSend 6 = .ok (.iload_n 1, 1) := by decide +kernel
theorem dX3_wouldSend_7 : decode cX3_wouldSend 7 = .ok (.invokevirtual 132, 3) := by decide +kernel
theorem dX3_wouldSend_10 : decode cX3_wouldSend 10 = .ok (.ifCond .eq 11, 3) := by decide +kernel
theorem dX3_wouldSend_13 : decode cX3_wouldSend 13 = .ok (.aload_n 0, 1) := by decide +kernel
theorem dX3_wouldSend_14 : decode cX3_wouldSend 14 = .ok (.iload_n 1, 1) := by decide +kernel
theorem dX3_wouldSend_15 : decode cX3_wouldSend 15 = .ok (.invokevirtual 223, 3) := by decide +kernel
theorem dX3_wouldSend_18 : decode cX3_wouldSend 18 = .ok (.goto 8, 3) := by decide +kernel
theorem dX3_wouldSend_21 : decode cX3_wouldSend 21 = .ok (.aload_n 0, 1) := by decide +kernel
theorem dX3_wouldSend_22 : decode cX3_wouldSend 22 = .ok (.iconst 1, 1) := by decide +kernel
theorem dX3_wouldSend_23 : decode cX3_wouldSend 23 = .ok (.invokevirtual 106, 3) := by decide +kernel
theorem dX3_wouldSend_26 : decode cX3_wouldSend 26 = .ok (.ireturn, 1) := by decide +kernel
theorem dX3_settles_0 : decode cX3_settles 0 = .ok (.aload_n 0, 1) := by decide +kernel
theorem dX3_settles_1 : decode cX3_settles 1 = .ok (.invokevirtual 217, 3) := by decide +kernel
theorem dX3_settles_4 : decode cX3_settles 4 = .ok (.aload_n 0, 1) := by decide +kernel
theorem dX3_settles_5 : decode cX3_settles 5 = .ok (.getfield 7, 3) := by decide +kernel
theorem dX3_settles_8 : decode cX3_settles 8 = .ok (.iconst 4, 1) := by decide +kernel
theorem dX3_settles_9 : decode cX3_settles 9 = .ok (.iaload, 1) := by decide +kernel
theorem dX3_settles_10 : decode cX3_settles 10 = .ok (.ifCond .ne 8, 3) := by decide +kernel
theorem dX3_settles_13 : decode cX3_settles 13 = .ok (.aload_n 0, 1) := by decide +kernel
theorem dX3_settles_14 : decode cX3_settles 14 = .ok (.iconst 4, 1) := by decide +kernel
theorem dX3_settles_15 : decode cX3_settles 15 = .ok (.invokevirtual 152, 3) := by decide +kernel
theorem dX3_settles_18 : decode cX3_settles 18 = .ok (.iconst 0, 1) := by decide +kernel
theorem dX3_settles_19 : decode cX3_settles 19 = .ok (.istore_n 1, 1) := by decide +kernel
theorem dX3_settles_20 : decode cX3_settles 20 = .ok (.iload_n 1, 1) := by decide +kernel
theorem dX3_settles_21 : decode cX3_settles 21 = .ok (.iconst 4, 1) := by decide +kernel
theorem dX3_settles_22 : decode cX3_settles 22 = .ok (.if_icmp .ge 25, 3) := by decide +kernel
theorem dX3_settles_25 : decode cX3_settles 25 = .ok (.aload_n 0, 1) := by decide +kernel
theorem dX3_settles_26 : decode cX3_settles 26 = .ok (.getfield 7, 3) := by decide +kernel
theorem dX3_settles_29 : decode cX3_settles 29 = .ok (.iconst 0, 1) := by decide +kernel
theorem dX3_settles_30 : decode cX3_settles 30 = .ok (.iload_n 1, 1) := by decide +kernel
theorem dX3_settles_31 : decode cX3_settles 31 = .ok (.iadd, 1) := by decide +kernel
theorem dX3_settles_32 : decode cX3_settles 32 = .ok (.iaload, 1) := by decide +kernel
theorem dX3_settles_33 : decode cX3_settles 33 = .ok (.ifCond .ne 8, 3) := by decide +kernel
theorem dX3_settles_36 : decode cX3_settles 36 = .ok (.aload_n 0, 1) := by decide +kernel
theorem dX3_settles_37 : decode cX3_settles 37 = .ok (.iload_n 1, 1) := by decide +kernel
theorem dX3_settles_38 : decode cX3_settles 38 = .ok (.invokevirtual 152, 3) := by decide +kernel
theorem dX3_settles_41 : decode cX3_settles 41 = .ok (.iinc 1 1, 3) := by decide +kernel
theorem dX3_settles_44 : decode cX3_settles 44 = .ok (.goto (-24), 3) := by decide +kernel
theorem dX3_settles_47 : decode cX3_settles 47 = .ok (.aload_n 0, 1) := by decide +kernel
theorem dX3_settles_48 : decode cX3_settles 48 = .ok (.invokevirtual 139, 3) := by decide +kernel
theorem dX3_settles_51 : decode cX3_settles 51 = .ok (.ireturn, 1) := by decide +kernel
theorem dX3_settledMany_0 : decode cX3_settledMany 0 = .ok (.aload_n 0, 1) := by decide +kernel
theorem dX3_settledMany_1 : decode cX3_settledMany 1 = .ok (.invokevirtual 226, 3) := by decide +kernel
theorem dX3_settledMany_4 : decode cX3_settledMany 4 = .ok (.istore_n 1, 1) := by decide +kernel
theorem dX3_settledMany_5 : decode cX3_settledMany 5 = .ok (.aload_n 0, 1) := by decide +kernel
theorem dX3_settledMany_6 : decode cX3_settledMany 6 = .ok (.invokevirtual 220, 3) := by decide +kernel
theorem dX3_settledMany_9 : decode cX3_settledMany 9 = .ok (.iload_n 1, 1) := by decide +kernel
theorem dX3_settledMany_10 : decode cX3_settledMany 10 = .ok (.ireturn, 1) := by decide +kernel
theorem dX3_messagesToSettle_0 : decode cX3_messagesToSettle 0 = .ok (.aload_n 0, 1) := by decide +kernel
theorem dX3_messagesToSettle_1 : decode cX3_messagesToSettle 1 = .ok (.iconst 0, 1) := by decide +kernel
theorem dX3_messagesToSettle_2 : decode cX3_messagesToSettle 2 = .ok (.putfield 28, 3) := by decide +kernel
theorem dX3_messagesToSettle_5 : decode cX3_messagesToSettle 5 = .ok (.aload_n 0, 1) := by decide +kernel
theorem dX3_messagesToSettle_6 : decode cX3_messagesToSettle 6 = .ok (.invokevirtual 229, 3) := by decide +kernel
theorem dX3_messagesToSettle_9 : decode cX3_messagesToSettle 9 = .ok (.ireturn, 1) := by decide +kernel
theorem dX3_settledOutcome_0 : decode cX3_settledOutcome 0 = .ok (.aload_n 0, 1) := by decide +kernel
theorem dX3_settledOutcome_1 : decode cX3_settledOutcome 1 = .ok (.invokevirtual 226, 3) := by decide +kernel
theorem dX3_settledOutcome_4 : decode cX3_settledOutcome 4 = .ok (.pop, 1) := by decide +kernel
theorem dX3_settledOutcome_5 : decode cX3_settledOutcome 5 = .ok (.aload_n 0, 1) := by decide +kernel
theorem dX3_settledOutcome_6 : decode cX3_settledOutcome 6 = .ok (.iload_n 1, 1) := by decide +kernel
theorem dX3_settledOutcome_7 : decode cX3_settledOutcome 7 = .ok (.iconst 5, 1) := by decide +kernel
theorem dX3_settledOutcome_8 : decode cX3_settledOutcome 8 = .ok (.invokevirtual 39, 3) := by decide +kernel
theorem dX3_settledOutcome_11 : decode cX3_settledOutcome 11 = .ok (.istore_n 2, 1) := by decide +kernel
theorem dX3_settledOutcome_12 : decode cX3_settledOutcome 12 = .ok (.aload_n 0, 1) := by decide +kernel
theorem dX3_settledOutcome_13 : decode cX3_settledOutcome 13 = .ok (.invokevirtual 220, 3) := by decide +kernel
theorem dX3_settledOutcome_16 : decode cX3_settledOutcome 16 = .ok (.iload_n 2, 1) := by decide +kernel
theorem dX3_settledOutcome_17 : decode cX3_settledOutcome 17 = .ok (.ireturn, 1) := by decide +kernel
theorem dX3_outcomeIfSettled_0 : decode cX3_outcomeIfSettled 0 = .ok (.aload_n 0, 1) := by decide +kernel
theorem dX3_outcomeIfSettled_1 : decode cX3_outcomeIfSettled 1 = .ok (.iconst 0, 1) := by decide +kernel
theorem dX3_outcomeIfSettled_2 : decode cX3_outcomeIfSettled 2 = .ok (.putfield 28, 3) := by decide +kernel
theorem dX3_outcomeIfSettled_5 : decode cX3_outcomeIfSettled 5 = .ok (.aload_n 0, 1) := by decide +kernel
theorem dX3_outcomeIfSettled_6 : decode cX3_outcomeIfSettled 6 = .ok (.iload_n 1, 1) := by decide +kernel
theorem dX3_outcomeIfSettled_7 : decode cX3_outcomeIfSettled 7 = .ok (.invokevirtual 123, 3) := by decide +kernel
theorem dX3_outcomeIfSettled_10 : decode cX3_outcomeIfSettled 10 = .ok (.ifCond .eq 11, 3) := by decide +kernel
theorem dX3_outcomeIfSettled_13 : decode cX3_outcomeIfSettled 13 = .ok (.aload_n 0, 1) := by decide +kernel
theorem dX3_outcomeIfSettled_14 : decode cX3_outcomeIfSettled 14 = .ok (.iload_n 1, 1) := by decide +kernel
theorem dX3_outcomeIfSettled_15 : decode cX3_outcomeIfSettled 15 = .ok (.invokevirtual 232, 3) := by decide +kernel
theorem dX3_outcomeIfSettled_18 : decode cX3_outcomeIfSettled 18 = .ok (.goto 8, 3) := by decide +kernel
theorem dX3_outcomeIfSettled_21 : decode cX3_outcomeIfSettled 21 = .ok (.aload_n 0, 1) := by decide +kernel
theorem dX3_outcomeIfSettled_22 : decode cX3_outcomeIfSettled 22 = .ok (.iconst 1, 1) := by decide +kernel
theorem dX3_outcomeIfSettled_23 : decode cX3_outcomeIfSettled 23 = .ok (.invokevirtual 106, 3) := by decide +kernel
theorem dX3_outcomeIfSettled_26 : decode cX3_outcomeIfSettled 26 = .ok (.ireturn, 1) := by decide +kernel
theorem dX3_settledAmount_0 : decode cX3_settledAmount 0 = .ok (.aload_n 0, 1) := by decide +kernel
theorem dX3_settledAmount_1 : decode cX3_settledAmount 1 = .ok (.invokevirtual 226, 3) := by decide +kernel
theorem dX3_settledAmount_4 : decode cX3_settledAmount 4 = .ok (.pop, 1) := by decide +kernel
theorem dX3_settledAmount_5 : decode cX3_settledAmount 5 = .ok (.aload_n 0, 1) := by decide +kernel
theorem dX3_settledAmount_6 : decode cX3_settledAmount 6 = .ok (.getfield 7, 3) := by decide +kernel
theorem dX3_settledAmount_9 : decode cX3_settledAmount 9 = .ok (.iconst 5, 1) := by decide +kernel
theorem dX3_settledAmount_10 : decode cX3_settledAmount 10 = .ok (.iload_n 1, 1) := by decide +kernel
theorem dX3_settledAmount_11 : decode cX3_settledAmount 11 = .ok (.iadd, 1) := by decide +kernel
theorem dX3_settledAmount_12 : decode cX3_settledAmount 12 = .ok (.iaload, 1) := by decide +kernel
theorem dX3_settledAmount_13 : decode cX3_settledAmount 13 = .ok (.istore_n 2, 1) := by decide +kernel
theorem dX3_settledAmount_14 : decode cX3_settledAmount 14 = .ok (.aload_n 0, 1) := by decide +kernel
theorem dX3_settledAmount_15 : decode cX3_settledAmount 15 = .ok (.invokevirtual 220, 3) := by decide +kernel
theorem dX3_settledAmount_18 : decode cX3_settledAmount 18 = .ok (.iload_n 2, 1) := by decide +kernel
theorem dX3_settledAmount_19 : decode cX3_settledAmount 19 = .ok (.ireturn, 1) := by decide +kernel
theorem dX3_amountIfSettled_0 : decode cX3_amountIfSettled 0 = .ok (.aload_n 0, 1) := by decide +kernel
theorem dX3_amountIfSettled_1 : decode cX3_amountIfSettled 1 = .ok (.iconst 0, 1) := by decide +kernel
theorem dX3_amountIfSettled_2 : decode cX3_amountIfSettled 2 = .ok (.putfield 28, 3) := by decide +kernel
theorem dX3_amountIfSettled_5 : decode cX3_amountIfSettled 5 = .ok (.iload_n 1, 1) := by decide +kernel
theorem dX3_amountIfSettled_6 : decode cX3_amountIfSettled 6 = .ok (.invokestatic 103, 3) := by decide +kernel
theorem dX3_amountIfSettled_9 : decode cX3_amountIfSettled 9 = .ok (.ifCond .eq 11, 3) := by decide +kernel
theorem dX3_amountIfSettled_12 : decode cX3_amountIfSettled 12 = .ok (.aload_n 0, 1) := by decide +kernel
theorem dX3_amountIfSettled_13 : decode cX3_amountIfSettled 13 = .ok (.iload_n 1, 1) := by decide +kernel
theorem dX3_amountIfSettled_14 : decode cX3_amountIfSettled 14 = .ok (.invokevirtual 235, 3) := by decide +kernel
theorem dX3_amountIfSettled_17 : decode cX3_amountIfSettled 17 = .ok (.goto 8, 3) := by decide +kernel
theorem dX3_amountIfSettled_20 : decode cX3_amountIfSettled 20 = .ok (.aload_n 0, 1) := by decide +kernel
theorem dX3_amountIfSettled_21 : decode cX3_amountIfSettled 21 = .ok (.iconst 1, 1) := by decide +kernel
theorem dX3_amountIfSettled_22 : decode cX3_amountIfSettled 22 = .ok (.invokevirtual 106, 3) := by decide +kernel
theorem dX3_amountIfSettled_25 : decode cX3_amountIfSettled 25 = .ok (.ireturn, 1) := by decide +kernel
theorem dX3_greatest_0 : decode cX3_greatest 0 = .ok (.iconst 0, 1) := by decide +kernel
theorem dX3_greatest_1 : decode cX3_greatest 1 = .ok (.istore_n 3, 1) := by decide +kernel
theorem dX3_greatest_2 : decode cX3_greatest 2 = .ok (.iconst 1, 1) := by decide +kernel
theorem dX3_greatest_3 : decode cX3_greatest 3 = .ok (.istore 4, 2) := by decide +kernel
theorem dX3_greatest_5 : decode cX3_greatest 5 = .ok (.iload 4, 2) := by decide +kernel
theorem dX3_greatest_7 : decode cX3_greatest 7 = .ok (.bipush 51, 2) := by decide +kernel
theorem dX3_greatest_9 : decode cX3_greatest 9 = .ok (.if_icmp .ge 78, 3) := by decide +kernel
theorem dX3_greatest_12 : decode cX3_greatest 12 = .ok (.iconst 1, 1) := by decide +kernel
theorem dX3_greatest_13 : decode cX3_greatest 13 = .ok (.istore 5, 2) := by decide +kernel
theorem dX3_greatest_15 : decode cX3_greatest 15 = .ok (.iconst 0, 1) := by decide +kernel
theorem dX3_greatest_16 : decode cX3_greatest 16 = .ok (.istore 6, 2) := by decide +kernel
theorem dX3_greatest_18 : decode cX3_greatest 18 = .ok (.iload 6, 2) := by decide +kernel
theorem dX3_greatest_20 : decode cX3_greatest 20 = .ok (.iconst 4, 1) := by decide +kernel
theorem dX3_greatest_21 : decode cX3_greatest 21 = .ok (.if_icmp .ge 48, 3) := by decide +kernel
theorem dX3_greatest_24 : decode cX3_greatest 24 = .ok (.iload_n 1, 1) := by decide +kernel
theorem dX3_greatest_25 : decode cX3_greatest 25 = .ok (.iload_n 2, 1) := by decide +kernel
theorem dX3_greatest_26 : decode cX3_greatest 26 = .ok (.iload 4, 2) := by decide +kernel
theorem dX3_greatest_28 : decode cX3_greatest 28 = .ok (.iload 6, 2) := by decide +kernel
theorem dX3_greatest_30 : decode cX3_greatest 30 = .ok (.invokestatic 47, 3) := by decide +kernel
theorem dX3_greatest_33 : decode cX3_greatest 33 = .ok (.istore 7, 2) := by decide +kernel
theorem dX3_greatest_35 : decode cX3_greatest 35 = .ok (.iload 5, 2) := by decide +kernel
theorem dX3_greatest_37 : decode cX3_greatest 37 = .ok (.ifCond .eq 23, 3) := by decide +kernel
theorem dX3_greatest_40 : decode cX3_greatest 40 = .ok (.iload 7, 2) := by decide +kernel
theorem dX3_greatest_42 : decode cX3_greatest 42 = .ok (.ifCond .eq 14, 3) := by decide +kernel
theorem dX3_greatest_45 : decode cX3_greatest 45 = .ok (.aload_n 0, 1) := by decide +kernel
theorem dX3_greatest_46 : decode cX3_greatest 46 = .ok (.iload 6, 2) := by decide +kernel
theorem dX3_greatest_48 : decode cX3_greatest 48 = .ok (.iload 7, 2) := by decide +kernel
theorem dX3_greatest_50 : decode cX3_greatest 50 = .ok (.invokevirtual 74, 3) := by decide +kernel
theorem dX3_greatest_53 : decode cX3_greatest 53 = .ok (.ifCond .eq 7, 3) := by decide +kernel
theorem dX3_greatest_56 : decode cX3_greatest 56 = .ok (.iconst 1, 1) := by decide +kernel
theorem dX3_greatest_57 : decode cX3_greatest 57 = .ok (.goto 4, 3) := by decide +kernel
theorem dX3_greatest_60 : decode cX3_greatest 60 = .ok (.iconst 0, 1) := by decide +kernel
theorem dX3_greatest_61 : decode cX3_greatest 61 = .ok (.istore 5, 2) := by decide +kernel
theorem dX3_greatest_63 : decode cX3_greatest 63 = .ok (.iinc 6 1, 3) := by decide +kernel
theorem dX3_greatest_66 : decode cX3_greatest 66 = .ok (.goto (-48), 3) := by decide +kernel
theorem dX3_greatest_69 : decode cX3_greatest 69 = .ok (.iload 5, 2) := by decide +kernel
theorem dX3_greatest_71 : decode cX3_greatest 71 = .ok (.ifCond .eq 8, 3) := by decide +kernel
theorem dX3_greatest_74 : decode cX3_greatest 74 = .ok (.iload 4, 2) := by decide +kernel
theorem dX3_greatest_76 : decode cX3_greatest 76 = .ok (.goto 4, 3) := by decide +kernel
theorem dX3_greatest_79 : decode cX3_greatest 79 = .ok (.iload_n 3, 1) := by decide +kernel
theorem dX3_greatest_80 : decode cX3_greatest 80 = .ok (.istore_n 3, 1) := by decide +kernel
theorem dX3_greatest_81 : decode cX3_greatest 81 = .ok (.iinc 4 1, 3) := by decide +kernel
theorem dX3_greatest_84 : decode cX3_greatest 84 = .ok (.goto (-79), 3) := by decide +kernel
theorem dX3_greatest_87 : decode cX3_greatest 87 = .ok (.iload_n 3, 1) := by decide +kernel
theorem dX3_greatest_88 : decode cX3_greatest 88 = .ok (.ireturn, 1) := by decide +kernel
theorem dX3_greatestSize_0 : decode cX3_greatestSize 0 = .ok (.aload_n 0, 1) := by decide +kernel
theorem dX3_greatestSize_1 : decode cX3_greatestSize 1 = .ok (.iconst 0, 1) := by decide +kernel
theorem dX3_greatestSize_2 : decode cX3_greatestSize 2 = .ok (.putfield 28, 3) := by decide +kernel
theorem dX3_greatestSize_5 : decode cX3_greatestSize 5 = .ok (.iload_n 1, 1) := by decide +kernel
theorem dX3_greatestSize_6 : decode cX3_greatestSize 6 = .ok (.invokestatic 103, 3) := by decide +kernel
theorem dX3_greatestSize_9 : decode cX3_greatestSize 9 = .ok (.ifCond .ne 9, 3) := by decide +kernel
theorem dX3_greatestSize_12 : decode cX3_greatestSize 12 = .ok (.aload_n 0, 1) := by decide +kernel
theorem dX3_greatestSize_13 : decode cX3_greatestSize 13 = .ok (.iconst 1, 1) := by decide +kernel
theorem dX3_greatestSize_14 : decode cX3_greatestSize 14 = .ok (.invokevirtual 106, 3) := by decide +kernel
theorem dX3_greatestSize_17 : decode cX3_greatestSize 17 = .ok (.ireturn, 1) := by decide +kernel
theorem dX3_greatestSize_18 : decode cX3_greatestSize 18 = .ok (.iload_n 1, 1) := by decide +kernel
theorem dX3_greatestSize_19 : decode cX3_greatestSize 19 = .ok (.iload_n 2, 1) := by decide +kernel
theorem dX3_greatestSize_20 : decode cX3_greatestSize 20 = .ok (.invokestatic 109, 3) := by decide +kernel
theorem dX3_greatestSize_23 : decode cX3_greatestSize 23 = .ok (.ifCond .eq 12, 3) := by decide +kernel
theorem dX3_greatestSize_26 : decode cX3_greatestSize 26 = .ok (.aload_n 0, 1) := by decide +kernel
theorem dX3_greatestSize_27 : decode cX3_greatestSize 27 = .ok (.iload_n 1, 1) := by decide +kernel
theorem dX3_greatestSize_28 : decode cX3_greatestSize 28 = .ok (.iload_n 2, 1) := by decide +kernel
theorem dX3_greatestSize_29 : decode cX3_greatestSize 29 = .ok (.invokevirtual 238, 3) := by decide +kernel
theorem dX3_greatestSize_32 : decode cX3_greatestSize 32 = .ok (.goto 8, 3) := by decide +kernel
theorem dX3_greatestSize_35 : decode cX3_greatestSize 35 = .ok (.aload_n 0, 1) := by decide +kernel
theorem dX3_greatestSize_36 : decode cX3_greatestSize 36 = .ok (.iconst 2, 1) := by decide +kernel
theorem dX3_greatestSize_37 : decode cX3_greatestSize 37 = .ok (.invokevirtual 106, 3) := by decide +kernel
theorem dX3_greatestSize_40 : decode cX3_greatestSize 40 = .ok (.ireturn, 1) := by decide +kernel
theorem dX3_shareLost_0 : decode cX3_shareLost 0 = .ok (.aload_n 0, 1) := by decide +kernel
theorem dX3_shareLost_1 : decode cX3_shareLost 1 = .ok (.getfield 7, 3) := by decide +kernel
theorem dX3_shareLost_4 : decode cX3_shareLost 4 = .ok (.bipush 10, 2) := by decide +kernel
theorem dX3_shareLost_6 : decode cX3_shareLost 6 = .ok (.iaload, 1) := by decide +kernel
theorem dX3_shareLost_7 : decode cX3_shareLost 7 = .ok (.ifCond .ne 7, 3) := by decide +kernel
theorem dX3_shareLost_10 : decode cX3_shareLost 10 = .ok (.dconst 0, 1) := by decide +kernel
theorem dX3_shareLost_11 : decode cX3_shareLost 11 = .ok (.goto 20, 3) := by decide +kernel
theorem dX3_shareLost_14 : decode cX3_shareLost 14 = .ok (.aload_n 0, 1) := by decide +kernel
theorem dX3_shareLost_15 : decode cX3_shareLost 15 = .ok (.getfield 7, 3) := by decide +kernel
theorem dX3_shareLost_18 : decode cX3_shareLost 18 = .ok (.bipush 12, 2) := by decide +kernel
theorem dX3_shareLost_20 : decode cX3_shareLost 20 = .ok (.iaload, 1) := by decide +kernel
theorem dX3_shareLost_21 : decode cX3_shareLost 21 = .ok (.i2d, 1) := by decide +kernel
theorem dX3_shareLost_22 : decode cX3_shareLost 22 = .ok (.aload_n 0, 1) := by decide +kernel
theorem dX3_shareLost_23 : decode cX3_shareLost 23 = .ok (.getfield 7, 3) := by decide +kernel
theorem dX3_shareLost_26 : decode cX3_shareLost 26 = .ok (.bipush 10, 2) := by decide +kernel
theorem dX3_shareLost_28 : decode cX3_shareLost 28 = .ok (.iaload, 1) := by decide +kernel
theorem dX3_shareLost_29 : decode cX3_shareLost 29 = .ok (.i2d, 1) := by decide +kernel
theorem dX3_shareLost_30 : decode cX3_shareLost 30 = .ok (.ddiv, 1) := by decide +kernel
theorem dX3_shareLost_31 : decode cX3_shareLost 31 = .ok (.dreturn, 1) := by decide +kernel
theorem dX3_lostShare_0 : decode cX3_lostShare 0 = .ok (.aload_n 0, 1) := by decide +kernel
theorem dX3_lostShare_1 : decode cX3_lostShare 1 = .ok (.iconst 0, 1) := by decide +kernel
theorem dX3_lostShare_2 : decode cX3_lostShare 2 = .ok (.putfield 28, 3) := by decide +kernel
theorem dX3_lostShare_5 : decode cX3_lostShare 5 = .ok (.aload_n 0, 1) := by decide +kernel
theorem dX3_lostShare_6 : decode cX3_lostShare 6 = .ok (.invokevirtual 241, 3) := by decide +kernel
theorem dX3_lostShare_9 : decode cX3_lostShare 9 = .ok (.dreturn, 1) := by decide +kernel
theorem dX3_mean_0 : decode cX3_mean 0 = .ok (.iconst 0, 1) := by decide +kernel
theorem dX3_mean_1 : decode cX3_mean 1 = .ok (.istore_n 1, 1) := by decide +kernel
theorem dX3_mean_2 : decode cX3_mean 2 = .ok (.iconst 0, 1) := by decide +kernel
theorem dX3_mean_3 : decode cX3_mean 3 = .ok (.istore_n 2, 1) := by decide +kernel
theorem dX3_mean_4 : decode cX3_mean 4 = .ok (.iload_n 2, 1) := by decide +kernel
theorem dX3_mean_5 : decode cX3_mean 5 = .ok (.aload_n 0, 1) := by decide +kernel
theorem dX3_mean_6 : decode cX3_mean 6 = .ok (.getfield 7, 3) := by decide +kernel
theorem dX3_mean_9 : decode cX3_mean 9 = .ok (.bipush 9, 2) := by decide +kernel
theorem dX3_mean_11 : decode cX3_mean 11 = .ok (.iaload, 1) := by decide +kernel
theorem dX3_mean_12 : decode cX3_mean 12 = .ok (.if_icmp .ge 18, 3) := by decide +kernel
theorem dX3_mean_15 : decode cX3_mean 15 = .ok (.iload_n 1, 1) := by decide +kernel
theorem dX3_mean_16 : decode cX3_mean 16 = .ok (.aload_n 0, 1) := by decide +kernel
theorem dX3_mean_17 : decode cX3_mean 17 = .ok (.iload_n 2, 1) := by decide +kernel
theorem dX3_mean_18 : decode cX3_mean 18 = .ok (.iconst 2, 1) := by decide +kernel
theorem dX3_mean_19 : decode cX3_mean 19 = .ok (.invokevirtual 39, 3) := by decide +kernel
theorem dX3_mean_22 : decode cX3_mean 22 = .ok (.iadd, 1) := by decide +kernel
theorem dX3_mean_23 : decode cX3_mean 23 = .ok (.istore_n 1, 1) := by decide +kernel
theorem dX3_mean_24 : decode cX3_mean 24 = .ok (.iinc 2 1, 3) := by decide +kernel
theorem dX3_mean_27 : decode cX3_mean 27 = .ok (.goto (-23), 3) := by decide +kernel
theorem dX3_mean_30 : decode cX3_mean 30 = .ok (.aload_n 0, 1) := by decide +kernel
theorem dX3_mean_31 : decode cX3_mean 31 = .ok (.getfield 7, 3) := by decide +kernel
theorem dX3_mean_34 : decode cX3_mean 34 = .ok (.bipush 9, 2) := by decide +kernel
theorem dX3_mean_36 : decode cX3_mean 36 = .ok (.iaload, 1) := by decide +kernel
theorem dX3_mean_37 : decode cX3_mean 37 = .ok (.ifCond .ne 7, 3) := by decide +kernel
theorem dX3_mean_40 : decode cX3_mean 40 = .ok (.fconst 0, 1) := by decide +kernel
theorem dX3_mean_41 : decode cX3_mean 41 = .ok (.goto 14, 3) := by decide +kernel
theorem dX3_mean_44 : decode cX3_mean 44 = .ok (.iload_n 1, 1) := by decide +kernel
theorem dX3_mean_45 : decode cX3_mean 45 = .ok (.i2f, 1) := by decide +kernel
theorem dX3_mean_46 : decode cX3_mean 46 = .ok (.aload_n 0, 1) := by decide +kernel
theorem dX3_mean_47 : decode cX3_mean 47 = .ok (.getfield 7, 3) := by decide +kernel
theorem dX3_mean_50 : decode cX3_mean 50 = .ok (.bipush 9, 2) := by decide +kernel
theorem dX3_mean_52 : decode cX3_mean 52 = .ok (.iaload, 1) := by decide +kernel
theorem dX3_mean_53 : decode cX3_mean 53 = .ok (.i2f, 1) := by decide +kernel
theorem dX3_mean_54 : decode cX3_mean 54 = .ok (.fdiv, 1) := by decide +kernel
theorem dX3_mean_55 : decode cX3_mean 55 = .ok (.freturn, 1) := by decide +kernel
theorem dX3_meanSize_0 : decode cX3_meanSize 0 = .ok (.aload_n 0, 1) := by decide +kernel
theorem dX3_meanSize_1 : decode cX3_meanSize 1 = .ok (.iconst 0, 1) := by decide +kernel
theorem dX3_meanSize_2 : decode cX3_meanSize 2 = .ok (.putfield 28, 3) := by decide +kernel
theorem dX3_meanSize_5 : decode cX3_meanSize 5 = .ok (.aload_n 0, 1) := by decide +kernel
theorem dX3_meanSize_6 : decode cX3_meanSize 6 = .ok (.invokevirtual 245, 3) := by decide +kernel
theorem dX3_meanSize_9 : decode cX3_meanSize 9 = .ok (.freturn, 1) := by decide +kernel
theorem dX3_digestTransfer_0 : decode cX3_digestTransfer 0 = .ok (.ldc2_w 249, 3) := by decide +kernel
theorem dX3_digestTransfer_3 : decode cX3_digestTransfer 3 = .ok (.ldc2_w 249, 3) := by decide +kernel
theorem dX3_digestTransfer_6 : decode cX3_digestTransfer 6 = .ok (.ldc2_w 249, 3) := by decide +kernel
theorem dX3_digestTransfer_9 : decode cX3_digestTransfer 9 = .ok (.lload_n 1, 1) := by decide +kernel
theorem dX3_digestTransfer_10 : decode cX3_digestTransfer 10 = .ok (.lmul, 1) := by decide +kernel
theorem dX3_digestTransfer_11 : decode cX3_digestTransfer 11 = .ok (.aload_n 0, 1) := by decide +kernel
theorem dX3_digestTransfer_12 : decode cX3_digestTransfer 12 = .ok (.iload_n 3, 1) := by decide +kernel
theorem dX3_digestTransfer_13 : decode cX3_digestTransfer 13 = .ok (.invokevirtual 57, 3) := by decide +kernel
theorem dX3_digestTransfer_16 : decode cX3_digestTransfer 16 = .ok (.i2l, 1) := by decide +kernel
theorem dX3_digestTransfer_17 : decode cX3_digestTransfer 17 = .ok (.ladd, 1) := by decide +kernel
theorem dX3_digestTransfer_18 : decode cX3_digestTransfer 18 = .ok (.lmul, 1) := by decide +kernel
theorem dX3_digestTransfer_19 : decode cX3_digestTransfer 19 = .ok (.aload_n 0, 1) := by decide +kernel
theorem dX3_digestTransfer_20 : decode cX3_digestTransfer 20 = .ok (.iload_n 3, 1) := by decide +kernel
theorem dX3_digestTransfer_21 : decode cX3_digestTransfer 21 = .ok (.iconst 5, 1) := by decide +kernel
theorem dX3_digestTransfer_22 : decode cX3_digestTransfer 22 = .ok (.invokevirtual 39, 3) := by decide +kernel
theorem dX3_digestTransfer_25 : decode cX3_digestTransfer 25 = .ok (.i2l, 1) := by decide +kernel
theorem dX3_digestTransfer_26 : decode cX3_digestTransfer 26 = .ok (.ladd, 1) := by decide +kernel
theorem dX3_digestTransfer_27 : decode cX3_digestTransfer 27 = .ok (.lmul, 1) := by decide +kernel
theorem dX3_digestTransfer_28 : decode cX3_digestTransfer 28 = .ok (.aload_n 0, 1) := by decide +kernel
theorem dX3_digestTransfer_29 : decode cX3_digestTransfer 29 = .ok (.iload_n 3, 1) := by decide +kernel
theorem dX3_digestTransfer_30 : decode cX3_digestTransfer 30 = .ok (.invokevirtual 202, 3) := by decide +kernel
theorem dX3_digestTransfer_33 : decode cX3_digestTransfer 33 = .ok (.i2l, 1) := by decide +kernel
theorem dX3_digestTransfer_34 : decode cX3_digestTransfer 34 = .ok (.ladd, 1) := by decide +kernel
theorem dX3_digestTransfer_35 : decode cX3_digestTransfer 35 = .ok (.lstore 4, 2) := by decide +kernel
theorem dX3_digestTransfer_37 : decode cX3_digestTransfer 37 = .ok (.ldc2_w 249, 3) := by decide +kernel
theorem dX3_digestTransfer_40 : decode cX3_digestTransfer 40 = .ok (.ldc2_w 249, 3) := by decide +kernel
theorem dX3_digestTransfer_43 : decode cX3_digestTransfer 43 = .ok (.ldc2_w 249, 3) := by decide +kernel
theorem dX3_digestTransfer_46 : decode cX3_digestTransfer 46 = .ok (.lload 4, 2) := by decide +kernel
theorem dX3_digestTransfer_48 : decode cX3_digestTransfer 48 = .ok (.lmul, 1) := by decide +kernel
theorem dX3_digestTransfer_49 : decode cX3_digestTransfer 49 = .ok (.aload_n 0, 1) := by decide +kernel
theorem dX3_digestTransfer_50 : decode cX3_digestTransfer 50 = .ok (.iload_n 3, 1) := by decide +kernel
theorem dX3_digestTransfer_51 : decode cX3_digestTransfer 51 = .ok (.bipush 6, 2) := by decide +kernel
theorem dX3_digestTransfer_53 : decode cX3_digestTransfer 53 = .ok (.invokevirtual 39, 3) := by decide +kernel
theorem dX3_digestTransfer_56 : decode cX3_digestTransfer 56 = .ok (.i2l, 1) := by decide +kernel
theorem dX3_digestTransfer_57 : decode cX3_digestTransfer 57 = .ok (.ladd, 1) := by decide +kernel
theorem dX3_digestTransfer_58 : decode cX3_digestTransfer 58 = .ok (.lmul, 1) := by decide +kernel
theorem dX3_digestTransfer_59 : decode cX3_digestTransfer 59 = .ok (.aload_n 0, 1) := by decide +kernel
theorem dX3_digestTransfer_60 : decode cX3_digestTransfer 60 = .ok (.iload_n 3, 1) := by decide +kernel
theorem dX3_digestTransfer_61 : decode cX3_digestTransfer 61 = .ok (.iconst 3, 1) := by decide +kernel
theorem dX3_digestTransfer_62 : decode cX3_digestTransfer 62 = .ok (.invokevirtual 39, 3) := by decide +kernel
theorem dX3_digestTransfer_65 : decode cX3_digestTransfer 65 = .ok (.i2l, 1) := by decide +kernel
theorem dX3_digestTransfer_66 : decode cX3_digestTransfer 66 = .ok (.ladd, 1) := by decide +kernel
theorem dX3_digestTransfer_67 : decode cX3_digestTransfer 67 = .ok (.lmul, 1) := by decide +kernel
theorem dX3_digestTransfer_68 : decode cX3_digestTransfer 68 = .ok (.aload_n 0, 1) := by decide +kernel
theorem dX3_digestTransfer_69 : decode cX3_digestTransfer 69 = .ok (.iload_n 3, 1) := by decide +kernel
theorem dX3_digestTransfer_70 : decode cX3_digestTransfer 70 = .ok (.iconst 4, 1) := by decide +kernel
theorem dX3_digestTransfer_71 : decode cX3_digestTransfer 71 = .ok (.invokevirtual 39, 3) := by decide +kernel
theorem dX3_digestTransfer_74 : decode cX3_digestTransfer 74 = .ok (.i2l, 1) := by decide +kernel
theorem dX3_digestTransfer_75 : decode cX3_digestTransfer 75 = .ok (.ladd, 1) := by decide +kernel
theorem dX3_digestTransfer_76 : decode cX3_digestTransfer 76 = .ok (.lstore 4, 2) := by decide +kernel
theorem dX3_digestTransfer_78 : decode cX3_digestTransfer 78 = .ok (.ldc2_w 249, 3) := by decide +kernel
theorem dX3_digestTransfer_81 : decode cX3_digestTransfer 81 = .ok (.lload 4, 2) := by decide +kernel
theorem dX3_digestTransfer_83 : decode cX3_digestTransfer 83 = .ok (.lmul, 1) := by decide +kernel
theorem dX3_digestTransfer_84 : decode cX3_digestTransfer 84 = .ok (.aload_n 0, 1) := by decide +kernel
theorem dX3_digestTransfer_85 : decode cX3_digestTransfer 85 = .ok (.iload_n 3, 1) := by decide +kernel
theorem dX3_digestTransfer_86 : decode cX3_digestTransfer 86 = .ok (.invokevirtual 232, 3) := by decide +kernel
theorem dX3_digestTransfer_89 : decode cX3_digestTransfer 89 = .ok (.i2l, 1) := by decide +kernel
theorem dX3_digestTransfer_90 : decode cX3_digestTransfer 90 = .ok (.ladd, 1) := by decide +kernel
theorem dX3_digestTransfer_91 : decode cX3_digestTransfer 91 = .ok (.lstore 4, 2) := by decide +kernel
theorem dX3_digestTransfer_93 : decode cX3_digestTransfer 93 = .ok (.iconst 0, 1) := by decide +kernel
theorem dX3_digestTransfer_94 : decode cX3_digestTransfer 94 = .ok (.istore 6, 2) := by decide +kernel
theorem dX3_digestTransfer_96 : decode cX3_digestTransfer 96 = .ok (.iload 6, 2) := by decide +kernel
theorem dX3_digestTransfer_98 : decode cX3_digestTransfer 98 = .ok (.iconst 4, 1) := by decide +kernel
theorem dX3_digestTransfer_99 : decode cX3_digestTransfer 99 = .ok (.if_icmp .ge 52, 3) := by decide +kernel
theorem dX3_digestTransfer_102 : decode cX3_digestTransfer 102 = .ok (.ldc2_w 249, 3) := by decide +kernel
theorem dX3_digestTransfer_105 : decode cX3_digestTransfer 105 = .ok (.ldc2_w 249, 3) := by decide +kernel
theorem dX3_digestTransfer_108 : decode cX3_digestTransfer 108 = .ok (.ldc2_w 249, 3) := by decide +kernel
theorem dX3_digestTransfer_111 : decode cX3_digestTransfer 111 = .ok (.lload 4, 2) := by decide +kernel
theorem dX3_digestTransfer_113 : decode cX3_digestTransfer 113 = .ok (.lmul, 1) := by decide +kernel
theorem dX3_digestTransfer_114 : decode cX3_digestTransfer 114 = .ok (.aload_n 0, 1) := by decide +kernel
theorem dX3_digestTransfer_115 : decode cX3_digestTransfer 115 = .ok (.iload_n 3, 1) := by decide +kernel
theorem dX3_digestTransfer_116 : decode cX3_digestTransfer 116 = .ok (.iload 6, 2) := by decide +kernel
theorem dX3_digestTransfer_118 : decode cX3_digestTransfer 118 = .ok (.invokevirtual 54, 3) := by decide +kernel
theorem dX3_digestTransfer_121 : decode cX3_digestTransfer 121 = .ok (.i2l, 1) := by decide +kernel
theorem dX3_digestTransfer_122 : decode cX3_digestTransfer 122 = .ok (.ladd, 1) := by decide +kernel
theorem dX3_digestTransfer_123 : decode cX3_digestTransfer 123 = .ok (.lmul, 1) := by decide +kernel
theorem dX3_digestTransfer_124 : decode cX3_digestTransfer 124 = .ok (.aload_n 0, 1) := by decide +kernel
theorem dX3_digestTransfer_125 : decode cX3_digestTransfer 125 = .ok (.iload 6, 2) := by decide +kernel
theorem dX3_digestTransfer_127 : decode cX3_digestTransfer 127 = .ok (.iload_n 3, 1) := by decide +kernel
theorem dX3_digestTransfer_128 : decode cX3_digestTransfer 128 = .ok (.invokevirtual 51, 3) := by decide +kernel
theorem dX3_digestTransfer_131 : decode cX3_digestTransfer 131 = .ok (.i2l, 1) := by decide +kernel
theorem dX3_digestTransfer_132 : decode cX3_digestTransfer 132 = .ok (.ladd, 1) := by decide +kernel
theorem dX3_digestTransfer_133 : decode cX3_digestTransfer 133 = .ok (.lmul, 1) := by decide +kernel
theorem dX3_digestTransfer_134 : decode cX3_digestTransfer 134 = .ok (.aload_n 0, 1) := by decide +kernel
theorem dX3_digestTransfer_135 : decode cX3_digestTransfer 135 = .ok (.iload 6, 2) := by decide +kernel
theorem dX3_digestTransfer_137 : decode cX3_digestTransfer 137 = .ok (.iload_n 3, 1) := by decide +kernel
theorem dX3_digestTransfer_138 : decode cX3_digestTransfer 138 = .ok (.invokevirtual 196, 3) := by decide +kernel
theorem dX3_digestTransfer_141 : decode cX3_digestTransfer 141 = .ok (.i2l, 1) := by decide +kernel
theorem dX3_digestTransfer_142 : decode cX3_digestTransfer 142 = .ok (.ladd, 1) := by decide +kernel
theorem dX3_digestTransfer_143 : decode cX3_digestTransfer 143 = .ok (.lstore 4, 2) := by decide +kernel
theorem dX3_digestTransfer_145 : decode cX3_digestTransfer 145 = .ok (.iinc 6 1, 3) := by decide +kernel
theorem dX3_digestTransfer_148 : decode cX3_digestTransfer 148 = .ok (.goto (-52), 3) := by decide +kernel
theorem dX3_digestTransfer_151 : decode cX3_digestTransfer 151 = .ok (.lload 4, 2) := by decide +kernel
theorem dX3_digestTransfer_153 : decode cX3_digestTransfer 153 = .ok (.lreturn, 1) := by decide +kernel
theorem dX3_digestSite_0 : decode cX3_digestSite 0 = .ok (.ldc2_w 249, 3) := by decide +kernel
theorem dX3_digestSite_3 : decode cX3_digestSite 3 = .ok (.ldc2_w 249, 3) := by decide +kernel
theorem dX3_digestSite_6 : decode cX3_digestSite 6 = .ok (.lload_n 1, 1) := by decide +kernel
theorem dX3_digestSite_7 : decode cX3_digestSite 7 = .ok (.lmul, 1) := by decide +kernel
theorem dX3_digestSite_8 : decode cX3_digestSite 8 = .ok (.aload_n 0, 1) := by decide +kernel
theorem dX3_digestSite_9 : decode cX3_digestSite 9 = .ok (.getfield 7, 3) := by decide +kernel
theorem dX3_digestSite_12 : decode cX3_digestSite 12 = .ok (.iconst 0, 1) := by decide +kernel
theorem dX3_digestSite_13 : decode cX3_digestSite 13 = .ok (.iload_n 3, 1) := by decide +kernel
theorem dX3_digestSite_14 : decode cX3_digestSite 14 = .ok (.iadd, 1) := by decide +kernel
theorem dX3_digestSite_15 : decode cX3_digestSite 15 = .ok (.iaload, 1) := by decide +kernel
theorem dX3_digestSite_16 : decode cX3_digestSite 16 = .ok (.i2l, 1) := by decide +kernel
theorem dX3_digestSite_17 : decode cX3_digestSite 17 = .ok (.ladd, 1) := by decide +kernel
theorem dX3_digestSite_18 : decode cX3_digestSite 18 = .ok (.lmul, 1) := by decide +kernel
theorem dX3_digestSite_19 : decode cX3_digestSite 19 = .ok (.aload_n 0, 1) := by decide +kernel
theorem dX3_digestSite_20 : decode cX3_digestSite 20 = .ok (.getfield 7, 3) := by decide +kernel
theorem dX3_digestSite_23 : decode cX3_digestSite 23 = .ok (.bipush 102, 2) := by decide +kernel
theorem dX3_digestSite_25 : decode cX3_digestSite 25 = .ok (.iload_n 3, 1) := by decide +kernel
theorem dX3_digestSite_26 : decode cX3_digestSite 26 = .ok (.iadd, 1) := by decide +kernel
theorem dX3_digestSite_27 : decode cX3_digestSite 27 = .ok (.iaload, 1) := by decide +kernel
theorem dX3_digestSite_28 : decode cX3_digestSite 28 = .ok (.i2l, 1) := by decide +kernel
theorem dX3_digestSite_29 : decode cX3_digestSite 29 = .ok (.ladd, 1) := by decide +kernel
theorem dX3_digestSite_30 : decode cX3_digestSite 30 = .ok (.lstore 4, 2) := by decide +kernel
theorem dX3_digestSite_32 : decode cX3_digestSite 32 = .ok (.iconst 0, 1) := by decide +kernel
theorem dX3_digestSite_33 : decode cX3_digestSite 33 = .ok (.istore 6, 2) := by decide +kernel
theorem dX3_digestSite_35 : decode cX3_digestSite 35 = .ok (.iload 6, 2) := by decide +kernel
theorem dX3_digestSite_37 : decode cX3_digestSite 37 = .ok (.aload_n 0, 1) := by decide +kernel
theorem dX3_digestSite_38 : decode cX3_digestSite 38 = .ok (.getfield 7, 3) := by decide +kernel
theorem dX3_digestSite_41 : decode cX3_digestSite 41 = .ok (.bipush 102, 2) := by decide +kernel
theorem dX3_digestSite_43 : decode cX3_digestSite 43 = .ok (.iload_n 3, 1) := by decide +kernel
theorem dX3_digestSite_44 : decode cX3_digestSite 44 = .ok (.iadd, 1) := by decide +kernel
theorem dX3_digestSite_45 : decode cX3_digestSite 45 = .ok (.iaload, 1) := by decide +kernel
theorem dX3_digestSite_46 : decode cX3_digestSite 46 = .ok (.if_icmp .ge 45, 3) := by decide +kernel
theorem dX3_digestSite_49 : decode cX3_digestSite 49 = .ok (.ldc2_w 249, 3) := by decide +kernel
theorem dX3_digestSite_52 : decode cX3_digestSite 52 = .ok (.ldc2_w 249, 3) := by decide +kernel
theorem dX3_digestSite_55 : decode cX3_digestSite 55 = .ok (.lload 4, 2) := by decide +kernel
theorem dX3_digestSite_57 : decode cX3_digestSite 57 = .ok (.lmul, 1) := by decide +kernel
theorem dX3_digestSite_58 : decode cX3_digestSite 58 = .ok (.aload_n 0, 1) := by decide +kernel
theorem dX3_digestSite_59 : decode cX3_digestSite 59 = .ok (.iload_n 3, 1) := by decide +kernel
theorem dX3_digestSite_60 : decode cX3_digestSite 60 = .ok (.iload 6, 2) := by decide +kernel
theorem dX3_digestSite_62 : decode cX3_digestSite 62 = .ok (.invokevirtual 211, 3) := by decide +kernel
theorem dX3_digestSite_65 : decode cX3_digestSite 65 = .ok (.bipush 8, 2) := by decide +kernel
theorem dX3_digestSite_67 : decode cX3_digestSite 67 = .ok (.idiv, 1) := by decide +kernel
theorem dX3_digestSite_68 : decode cX3_digestSite 68 = .ok (.i2l, 1) := by decide +kernel
theorem dX3_digestSite_69 : decode cX3_digestSite 69 = .ok (.ladd, 1) := by decide +kernel
theorem dX3_digestSite_70 : decode cX3_digestSite 70 = .ok (.lmul, 1) := by decide +kernel
theorem dX3_digestSite_71 : decode cX3_digestSite 71 = .ok (.aload_n 0, 1) := by decide +kernel
theorem dX3_digestSite_72 : decode cX3_digestSite 72 = .ok (.iload_n 3, 1) := by decide +kernel
theorem dX3_digestSite_73 : decode cX3_digestSite 73 = .ok (.iload 6, 2) := by decide +kernel
theorem dX3_digestSite_75 : decode cX3_digestSite 75 = .ok (.invokevirtual 211, 3) := by decide +kernel
theorem dX3_digestSite_78 : decode cX3_digestSite 78 = .ok (.bipush 8, 2) := by decide +kernel
theorem dX3_digestSite_80 : decode cX3_digestSite 80 = .ok (.irem, 1) := by decide +kernel
theorem dX3_digestSite_81 : decode cX3_digestSite 81 = .ok (.i2l, 1) := by decide +kernel
theorem dX3_digestSite_82 : decode cX3_digestSite 82 = .ok (.ladd, 1) := by decide +kernel
theorem dX3_digestSite_83 : decode cX3_digestSite 83 = .ok (.lstore 4, 2) := by decide +kernel
theorem dX3_digestSite_85 : decode cX3_digestSite 85 = .ok (.iinc 6 1, 3) := by decide +kernel
theorem dX3_digestSite_88 : decode cX3_digestSite 88 = .ok (.goto (-53), 3) := by decide +kernel
theorem dX3_digestSite_91 : decode cX3_digestSite 91 = .ok (.lload 4, 2) := by decide +kernel
theorem dX3_digestSite_93 : decode cX3_digestSite 93 = .ok (.lreturn, 1) := by decide +kernel
theorem dX3_digest_0 : decode cX3_digest 0 = .ok (.aload_n 0, 1) := by decide +kernel
theorem dX3_digest_1 : decode cX3_digest 1 = .ok (.iconst 0, 1) := by decide +kernel
theorem dX3_digest_2 : decode cX3_digest 2 = .ok (.putfield 28, 3) := by decide +kernel
theorem dX3_digest_5 : decode cX3_digest 5 = .ok (.ldc2_w 251, 3) := by decide +kernel
theorem dX3_digest_8 : decode cX3_digest 8 = .ok (.lstore_n 1, 1) := by decide +kernel
theorem dX3_digest_9 : decode cX3_digest 9 = .ok (.ldc2_w 249, 3) := by decide +kernel
theorem dX3_digest_12 : decode cX3_digest 12 = .ok (.lload_n 1, 1) := by decide +kernel
theorem dX3_digest_13 : decode cX3_digest 13 = .ok (.lmul, 1) := by decide +kernel
theorem dX3_digest_14 : decode cX3_digest 14 = .ok (.aload_n 0, 1) := by decide +kernel
theorem dX3_digest_15 : decode cX3_digest 15 = .ok (.getfield 7, 3) := by decide +kernel
theorem dX3_digest_18 : decode cX3_digest 18 = .ok (.bipush 9, 2) := by decide +kernel
theorem dX3_digest_20 : decode cX3_digest 20 = .ok (.iaload, 1) := by decide +kernel
theorem dX3_digest_21 : decode cX3_digest 21 = .ok (.i2l, 1) := by decide +kernel
theorem dX3_digest_22 : decode cX3_digest 22 = .ok (.ladd, 1) := by decide +kernel
theorem dX3_digest_23 : decode cX3_digest 23 = .ok (.lstore_n 1, 1) := by decide +kernel
theorem dX3_digest_24 : decode cX3_digest 24 = .ok (.iconst 0, 1) := by decide +kernel
theorem dX3_digest_25 : decode cX3_digest 25 = .ok (.istore_n 3, 1) := by decide +kernel
theorem dX3_digest_26 : decode cX3_digest 26 = .ok (.iload_n 3, 1) := by decide +kernel
theorem dX3_digest_27 : decode cX3_digest 27 = .ok (.aload_n 0, 1) := by decide +kernel
theorem dX3_digest_28 : decode cX3_digest 28 = .ok (.getfield 7, 3) := by decide +kernel
theorem dX3_digest_31 : decode cX3_digest 31 = .ok (.bipush 9, 2) := by decide +kernel
theorem dX3_digest_33 : decode cX3_digest 33 = .ok (.iaload, 1) := by decide +kernel
theorem dX3_digest_34 : decode cX3_digest 34 = .ok (.if_icmp .ge 16, 3) := by decide +kernel
theorem dX3_digest_37 : decode cX3_digest 37 = .ok (.aload_n 0, 1) := by decide +kernel
theorem dX3_digest_38 : decode cX3_digest 38 = .ok (.lload_n 1, 1) := by decide +kernel
theorem dX3_digest_39 : decode cX3_digest 39 = .ok (.iload_n 3, 1) := by decide +kernel
theorem dX3_digest_40 : decode cX3_digest 40 = .ok (.invokevirtual 253, 3) := by decide +kernel
theorem dX3_digest_43 : decode cX3_digest 43 = .ok (.lstore_n 1, 1) := by decide +kernel
theorem dX3_digest_44 : decode cX3_digest 44 = .ok (.iinc 3 1, 3) := by decide +kernel
theorem dX3_digest_47 : decode cX3_digest 47 = .ok (.goto (-21), 3) := by decide +kernel
theorem dX3_digest_50 : decode cX3_digest 50 = .ok (.iconst 0, 1) := by decide +kernel
theorem dX3_digest_51 : decode cX3_digest 51 = .ok (.istore_n 3, 1) := by decide +kernel
theorem dX3_digest_52 : decode cX3_digest 52 = .ok (.iload_n 3, 1) := by decide +kernel
theorem dX3_digest_53 : decode cX3_digest 53 = .ok (.iconst 4, 1) := by decide +kernel
theorem dX3_digest_54 : decode cX3_digest 54 = .ok (.if_icmp .ge 60, 3) := by decide +kernel
theorem dX3_digest_57 : decode cX3_digest 57 = .ok (.ldc2_w 249, 3) := by decide +kernel
theorem dX3_digest_60 : decode cX3_digest 60 = .ok (.ldc2_w 249, 3) := by decide +kernel
theorem dX3_digest_63 : decode cX3_digest 63 = .ok (.lload_n 1, 1) := by decide +kernel
theorem dX3_digest_64 : decode cX3_digest 64 = .ok (.lmul, 1) := by decide +kernel
theorem dX3_digest_65 : decode cX3_digest 65 = .ok (.aload_n 0, 1) := by decide +kernel
theorem dX3_digest_66 : decode cX3_digest 66 = .ok (.getfield 7, 3) := by decide +kernel
theorem dX3_digest_69 : decode cX3_digest 69 = .ok (.iconst 5, 1) := by decide +kernel
theorem dX3_digest_70 : decode cX3_digest 70 = .ok (.iload_n 3, 1) := by decide +kernel
theorem dX3_digest_71 : decode cX3_digest 71 = .ok (.iadd, 1) := by decide +kernel
theorem dX3_digest_72 : decode cX3_digest 72 = .ok (.iaload, 1) := by decide +kernel
theorem dX3_digest_73 : decode cX3_digest 73 = .ok (.i2l, 1) := by decide +kernel
theorem dX3_digest_74 : decode cX3_digest 74 = .ok (.ladd, 1) := by decide +kernel
theorem dX3_digest_75 : decode cX3_digest 75 = .ok (.lmul, 1) := by decide +kernel
theorem dX3_digest_76 : decode cX3_digest 76 = .ok (.aload_n 0, 1) := by decide +kernel
theorem dX3_digest_77 : decode cX3_digest 77 = .ok (.iload_n 3, 1) := by decide +kernel
theorem dX3_digest_78 : decode cX3_digest 78 = .ok (.invokevirtual 193, 3) := by decide +kernel
theorem dX3_digest_81 : decode cX3_digest 81 = .ok (.i2l, 1) := by decide +kernel
theorem dX3_digest_82 : decode cX3_digest 82 = .ok (.ladd, 1) := by decide +kernel
theorem dX3_digest_83 : decode cX3_digest 83 = .ok (.lstore_n 1, 1) := by decide +kernel
theorem dX3_digest_84 : decode cX3_digest 84 = .ok (.ldc2_w 249, 3) := by decide +kernel
theorem dX3_digest_87 : decode cX3_digest 87 = .ok (.ldc2_w 249, 3) := by decide +kernel
theorem dX3_digest_90 : decode cX3_digest 90 = .ok (.lload_n 1, 1) := by decide +kernel
theorem dX3_digest_91 : decode cX3_digest 91 = .ok (.lmul, 1) := by decide +kernel
theorem dX3_digest_92 : decode cX3_digest 92 = .ok (.aload_n 0, 1) := by decide +kernel
theorem dX3_digest_93 : decode cX3_digest 93 = .ok (.iload_n 3, 1) := by decide +kernel
theorem dX3_digest_94 : decode cX3_digest 94 = .ok (.invokevirtual 199, 3) := by decide +kernel
theorem dX3_digest_97 : decode cX3_digest 97 = .ok (.i2l, 1) := by decide +kernel
theorem dX3_digest_98 : decode cX3_digest 98 = .ok (.ladd, 1) := by decide +kernel
theorem dX3_digest_99 : decode cX3_digest 99 = .ok (.lmul, 1) := by decide +kernel
theorem dX3_digest_100 : decode cX3_digest 100 = .ok (.aload_n 0, 1) := by decide +kernel
theorem dX3_digest_101 : decode cX3_digest 101 = .ok (.iload_n 3, 1) := by decide +kernel
theorem dX3_digest_102 : decode cX3_digest 102 = .ok (.invokevirtual 235, 3) := by decide +kernel
theorem dX3_digest_105 : decode cX3_digest 105 = .ok (.i2l, 1) := by decide +kernel
theorem dX3_digest_106 : decode cX3_digest 106 = .ok (.ladd, 1) := by decide +kernel
theorem dX3_digest_107 : decode cX3_digest 107 = .ok (.lstore_n 1, 1) := by decide +kernel
theorem dX3_digest_108 : decode cX3_digest 108 = .ok (.iinc 3 1, 3) := by decide +kernel
theorem dX3_digest_111 : decode cX3_digest 111 = .ok (.goto (-59), 3) := by decide +kernel
theorem dX3_digest_114 : decode cX3_digest 114 = .ok (.iconst 0, 1) := by decide +kernel
theorem dX3_digest_115 : decode cX3_digest 115 = .ok (.istore_n 3, 1) := by decide +kernel
theorem dX3_digest_116 : decode cX3_digest 116 = .ok (.iload_n 3, 1) := by decide +kernel
theorem dX3_digest_117 : decode cX3_digest 117 = .ok (.iconst 5, 1) := by decide +kernel
theorem dX3_digest_118 : decode cX3_digest 118 = .ok (.if_icmp .ge 16, 3) := by decide +kernel
theorem dX3_digest_121 : decode cX3_digest 121 = .ok (.aload_n 0, 1) := by decide +kernel
theorem dX3_digest_122 : decode cX3_digest 122 = .ok (.lload_n 1, 1) := by decide +kernel
theorem dX3_digest_123 : decode cX3_digest 123 = .ok (.iload_n 3, 1) := by decide +kernel
theorem dX3_digest_124 : decode cX3_digest 124 = .ok (.invokevirtual 257, 3) := by decide +kernel
theorem dX3_digest_127 : decode cX3_digest 127 = .ok (.lstore_n 1, 1) := by decide +kernel
theorem dX3_digest_128 : decode cX3_digest 128 = .ok (.iinc 3 1, 3) := by decide +kernel
theorem dX3_digest_131 : decode cX3_digest 131 = .ok (.goto (-15), 3) := by decide +kernel
theorem dX3_digest_134 : decode cX3_digest 134 = .ok (.ldc2_w 249, 3) := by decide +kernel
theorem dX3_digest_137 : decode cX3_digest 137 = .ok (.ldc2_w 249, 3) := by decide +kernel
theorem dX3_digest_140 : decode cX3_digest 140 = .ok (.ldc2_w 249, 3) := by decide +kernel
theorem dX3_digest_143 : decode cX3_digest 143 = .ok (.lload_n 1, 1) := by decide +kernel
theorem dX3_digest_144 : decode cX3_digest 144 = .ok (.lmul, 1) := by decide +kernel
theorem dX3_digest_145 : decode cX3_digest 145 = .ok (.aload_n 0, 1) := by decide +kernel
theorem dX3_digest_146 : decode cX3_digest 146 = .ok (.invokevirtual 205, 3) := by decide +kernel
theorem dX3_digest_149 : decode cX3_digest 149 = .ok (.i2l, 1) := by decide +kernel
theorem dX3_digest_150 : decode cX3_digest 150 = .ok (.ladd, 1) := by decide +kernel
theorem dX3_digest_151 : decode cX3_digest 151 = .ok (.lmul, 1) := by decide +kernel
theorem dX3_digest_152 : decode cX3_digest 152 = .ok (.aload_n 0, 1) := by decide +kernel
theorem dX3_digest_153 : decode cX3_digest 153 = .ok (.invokevirtual 208, 3) := by decide +kernel
theorem dX3_digest_156 : decode cX3_digest 156 = .ok (.i2l, 1) := by decide +kernel
theorem dX3_digest_157 : decode cX3_digest 157 = .ok (.ladd, 1) := by decide +kernel
theorem dX3_digest_158 : decode cX3_digest 158 = .ok (.lmul, 1) := by decide +kernel
theorem dX3_digest_159 : decode cX3_digest 159 = .ok (.aload_n 0, 1) := by decide +kernel
theorem dX3_digest_160 : decode cX3_digest 160 = .ok (.getfield 7, 3) := by decide +kernel
theorem dX3_digest_163 : decode cX3_digest 163 = .ok (.bipush 13, 2) := by decide +kernel
theorem dX3_digest_165 : decode cX3_digest 165 = .ok (.iaload, 1) := by decide +kernel
theorem dX3_digest_166 : decode cX3_digest 166 = .ok (.i2l, 1) := by decide +kernel
theorem dX3_digest_167 : decode cX3_digest 167 = .ok (.ladd, 1) := by decide +kernel
theorem dX3_digest_168 : decode cX3_digest 168 = .ok (.lstore_n 1, 1) := by decide +kernel
theorem dX3_digest_169 : decode cX3_digest 169 = .ok (.iconst 0, 1) := by decide +kernel
theorem dX3_digest_170 : decode cX3_digest 170 = .ok (.istore_n 3, 1) := by decide +kernel
theorem dX3_digest_171 : decode cX3_digest 171 = .ok (.iload_n 3, 1) := by decide +kernel
theorem dX3_digest_172 : decode cX3_digest 172 = .ok (.aload_n 0, 1) := by decide +kernel
theorem dX3_digest_173 : decode cX3_digest 173 = .ok (.getfield 7, 3) := by decide +kernel
theorem dX3_digest_176 : decode cX3_digest 176 = .ok (.bipush 13, 2) := by decide +kernel
theorem dX3_digest_178 : decode cX3_digest 178 = .ok (.iaload, 1) := by decide +kernel
theorem dX3_digest_179 : decode cX3_digest 179 = .ok (.if_icmp .ge 68, 3) := by decide +kernel
theorem dX3_digest_182 : decode cX3_digest 182 = .ok (.aload_n 0, 1) := by decide +kernel
theorem dX3_digest_183 : decode cX3_digest 183 = .ok (.getfield 7, 3) := by decide +kernel
theorem dX3_digest_186 : decode cX3_digest 186 = .ok (.sipush 195, 3) := by decide +kernel
theorem dX3_digest_189 : decode cX3_digest 189 = .ok (.iload_n 3, 1) := by decide +kernel
theorem dX3_digest_190 : decode cX3_digest 190 = .ok (.iadd, 1) := by decide +kernel
theorem dX3_digest_191 : decode cX3_digest 191 = .ok (.iaload, 1) := by decide +kernel
theorem dX3_digest_192 : decode cX3_digest 192 = .ok (.istore 4, 2) := by decide +kernel
theorem dX3_digest_194 : decode cX3_digest 194 = .ok (.ldc2_w 249, 3) := by decide +kernel
theorem dX3_digest_197 : decode cX3_digest 197 = .ok (.ldc2_w 249, 3) := by decide +kernel
theorem dX3_digest_200 : decode cX3_digest 200 = .ok (.ldc2_w 249, 3) := by decide +kernel
theorem dX3_digest_203 : decode cX3_digest 203 = .ok (.ldc2_w 249, 3) := by decide +kernel
theorem dX3_digest_206 : decode cX3_digest 206 = .ok (.lload_n 1, 1) := by decide +kernel
theorem dX3_digest_207 : decode cX3_digest 207 = .ok (.lmul, 1) := by decide +kernel
theorem dX3_digest_208 : decode cX3_digest 208 = .ok (.iload 4, 2) := by decide +kernel
theorem dX3_digest_210 : decode cX3_digest 210 = .ok (.bipush 32, 2) := by decide +kernel
theorem dX3_digest_212 : decode cX3_digest 212 = .ok (.idiv, 1) := by decide +kernel
theorem dX3_digest_213 : decode cX3_digest 213 = .ok (.i2l, 1) := by decide +kernel
theorem dX3_digest_214 : decode cX3_digest 214 = .ok (.ladd, 1) := by decide +kernel
theorem dX3_digest_215 : decode cX3_digest 215 = .ok (.lmul, 1) := by decide +kernel
theorem dX3_digest_216 : decode cX3_digest 216 = .ok (.iload 4, 2) := by decide +kernel
theorem dX3_digest_218 : decode cX3_digest 218 = .ok (.iconst 4, 1) := by decide +kernel
theorem dX3_digest_219 : decode cX3_digest 219 = .ok (.idiv, 1) := by decide +kernel
theorem dX3_digest_220 : decode cX3_digest 220 = .ok (.bipush 8, 2) := by decide +kernel
theorem dX3_digest_222 : decode cX3_digest 222 = .ok (.irem, 1) := by decide +kernel
theorem dX3_digest_223 : decode cX3_digest 223 = .ok (.i2l, 1) := by decide +kernel
theorem dX3_digest_224 : decode cX3_digest 224 = .ok (.ladd, 1) := by decide +kernel
theorem dX3_digest_225 : decode cX3_digest 225 = .ok (.lmul, 1) := by decide +kernel
theorem dX3_digest_226 : decode cX3_digest 226 = .ok (.iload 4, 2) := by decide +kernel
theorem dX3_digest_228 : decode cX3_digest 228 = .ok (.iconst 4, 1) := by decide +kernel
theorem dX3_digest_229 : decode cX3_digest 229 = .ok (.irem, 1) := by decide +kernel
theorem dX3_digest_230 : decode cX3_digest 230 = .ok (.i2l, 1) := by decide +kernel
theorem dX3_digest_231 : decode cX3_digest 231 = .ok (.ladd, 1) := by decide +kernel
theorem dX3_digest_232 : decode cX3_digest 232 = .ok (.lmul, 1) := by decide +kernel
theorem dX3_digest_233 : decode cX3_digest 233 = .ok (.aload_n 0, 1) := by decide +kernel
theorem dX3_digest_234 : decode cX3_digest 234 = .ok (.iload_n 3, 1) := by decide +kernel
theorem dX3_digest_235 : decode cX3_digest 235 = .ok (.invokevirtual 223, 3) := by decide +kernel
theorem dX3_digest_238 : decode cX3_digest 238 = .ok (.i2l, 1) := by decide +kernel
theorem dX3_digest_239 : decode cX3_digest 239 = .ok (.ladd, 1) := by decide +kernel
theorem dX3_digest_240 : decode cX3_digest 240 = .ok (.lstore_n 1, 1) := by decide +kernel
theorem dX3_digest_241 : decode cX3_digest 241 = .ok (.iinc 3 1, 3) := by decide +kernel
theorem dX3_digest_244 : decode cX3_digest 244 = .ok (.goto (-73), 3) := by decide +kernel
theorem dX3_digest_247 : decode cX3_digest 247 = .ok (.ldc2_w 249, 3) := by decide +kernel
theorem dX3_digest_250 : decode cX3_digest 250 = .ok (.ldc2_w 249, 3) := by decide +kernel
theorem dX3_digest_253 : decode cX3_digest 253 = .ok (.ldc2_w 249, 3) := by decide +kernel
theorem dX3_digest_256 : decode cX3_digest 256 = .ok (.lload_n 1, 1) := by decide +kernel
theorem dX3_digest_257 : decode cX3_digest 257 = .ok (.lmul, 1) := by decide +kernel
theorem dX3_digest_258 : decode cX3_digest 258 = .ok (.aload_n 0, 1) := by decide +kernel
theorem dX3_digest_259 : decode cX3_digest 259 = .ok (.getfield 7, 3) := by decide +kernel
theorem dX3_digest_262 : decode cX3_digest 262 = .ok (.bipush 10, 2) := by decide +kernel
theorem dX3_digest_264 : decode cX3_digest 264 = .ok (.iaload, 1) := by decide +kernel
theorem dX3_digest_265 : decode cX3_digest 265 = .ok (.i2l, 1) := by decide +kernel
theorem dX3_digest_266 : decode cX3_digest 266 = .ok (.ladd, 1) := by decide +kernel
theorem dX3_digest_267 : decode cX3_digest 267 = .ok (.lmul, 1) := by decide +kernel
theorem dX3_digest_268 : decode cX3_digest 268 = .ok (.aload_n 0, 1) := by decide +kernel
theorem dX3_digest_269 : decode cX3_digest 269 = .ok (.invokevirtual 214, 3) := by decide +kernel
theorem dX3_digest_272 : decode cX3_digest 272 = .ok (.i2l, 1) := by decide +kernel
theorem dX3_digest_273 : decode cX3_digest 273 = .ok (.ladd, 1) := by decide +kernel
theorem dX3_digest_274 : decode cX3_digest 274 = .ok (.lmul, 1) := by decide +kernel
theorem dX3_digest_275 : decode cX3_digest 275 = .ok (.aload_n 0, 1) := by decide +kernel
theorem dX3_digest_276 : decode cX3_digest 276 = .ok (.getfield 7, 3) := by decide +kernel
theorem dX3_digest_279 : decode cX3_digest 279 = .ok (.bipush 12, 2) := by decide +kernel
theorem dX3_digest_281 : decode cX3_digest 281 = .ok (.iaload, 1) := by decide +kernel
theorem dX3_digest_282 : decode cX3_digest 282 = .ok (.i2l, 1) := by decide +kernel
theorem dX3_digest_283 : decode cX3_digest 283 = .ok (.ladd, 1) := by decide +kernel
theorem dX3_digest_284 : decode cX3_digest 284 = .ok (.lstore_n 1, 1) := by decide +kernel
theorem dX3_digest_285 : decode cX3_digest 285 = .ok (.ldc2_w 249, 3) := by decide +kernel
theorem dX3_digest_288 : decode cX3_digest 288 = .ok (.ldc2_w 249, 3) := by decide +kernel
theorem dX3_digest_291 : decode cX3_digest 291 = .ok (.ldc2_w 249, 3) := by decide +kernel
theorem dX3_digest_294 : decode cX3_digest 294 = .ok (.lload_n 1, 1) := by decide +kernel
theorem dX3_digest_295 : decode cX3_digest 295 = .ok (.lmul, 1) := by decide +kernel
theorem dX3_digest_296 : decode cX3_digest 296 = .ok (.aload_n 0, 1) := by decide +kernel
theorem dX3_digest_297 : decode cX3_digest 297 = .ok (.invokevirtual 229, 3) := by decide +kernel
theorem dX3_digest_300 : decode cX3_digest 300 = .ok (.i2l, 1) := by decide +kernel
theorem dX3_digest_301 : decode cX3_digest 301 = .ok (.ladd, 1) := by decide +kernel
theorem dX3_digest_302 : decode cX3_digest 302 = .ok (.lmul, 1) := by decide +kernel
theorem dX3_digest_303 : decode cX3_digest 303 = .ok (.aload_n 0, 1) := by decide +kernel
theorem dX3_digest_304 : decode cX3_digest 304 = .ok (.iconst 0, 1) := by decide +kernel
theorem dX3_digest_305 : decode cX3_digest 305 = .ok (.bipush 14, 2) := by decide +kernel
theorem dX3_digest_307 : decode cX3_digest 307 = .ok (.invokevirtual 238, 3) := by decide +kernel
theorem dX3_digest_310 : decode cX3_digest 310 = .ok (.i2l, 1) := by decide +kernel
theorem dX3_digest_311 : decode cX3_digest 311 = .ok (.ladd, 1) := by decide +kernel
theorem dX3_digest_312 : decode cX3_digest 312 = .ok (.lmul, 1) := by decide +kernel
theorem dX3_digest_313 : decode cX3_digest 313 = .ok (.aload_n 0, 1) := by decide +kernel
theorem dX3_digest_314 : decode cX3_digest 314 = .ok (.getfield 36, 3) := by decide +kernel
theorem dX3_digest_317 : decode cX3_digest 317 = .ok (.i2l, 1) := by decide +kernel
theorem dX3_digest_318 : decode cX3_digest 318 = .ok (.ladd, 1) := by decide +kernel
theorem dX3_digest_319 : decode cX3_digest 319 = .ok (.lstore_n 1, 1) := by decide +kernel
theorem dX3_digest_320 : decode cX3_digest 320 = .ok (.ldc2_w 249, 3) := by decide +kernel
theorem dX3_digest_323 : decode cX3_digest 323 = .ok (.lload_n 1, 1) := by decide +kernel
theorem dX3_digest_324 : decode cX3_digest 324 = .ok (.lmul, 1) := by decide +kernel
theorem dX3_digest_325 : decode cX3_digest 325 = .ok (.aload_n 0, 1) := by decide +kernel
theorem dX3_digest_326 : decode cX3_digest 326 = .ok (.invokevirtual 241, 3) := by decide +kernel
theorem dX3_digest_329 : decode cX3_digest 329 = .ok (.invokestatic 260, 3) := by decide +kernel
theorem dX3_digest_332 : decode cX3_digest 332 = .ok (.ladd, 1) := by decide +kernel
theorem dX3_digest_333 : decode cX3_digest 333 = .ok (.lstore_n 1, 1) := by decide +kernel
theorem dX3_digest_334 : decode cX3_digest 334 = .ok (.ldc2_w 249, 3) := by decide +kernel
theorem dX3_digest_337 : decode cX3_digest 337 = .ok (.lload_n 1, 1) := by decide +kernel
theorem dX3_digest_338 : decode cX3_digest 338 = .ok (.lmul, 1) := by decide +kernel
theorem dX3_digest_339 : decode cX3_digest 339 = .ok (.aload_n 0, 1) := by decide +kernel
theorem dX3_digest_340 : decode cX3_digest 340 = .ok (.invokevirtual 245, 3) := by decide +kernel
theorem dX3_digest_343 : decode cX3_digest 343 = .ok (.invokestatic 266, 3) := by decide +kernel
theorem dX3_digest_346 : decode cX3_digest 346 = .ok (.i2l, 1) := by decide +kernel
theorem dX3_digest_347 : decode cX3_digest 347 = .ok (.ladd, 1) := by decide +kernel
theorem dX3_digest_348 : decode cX3_digest 348 = .ok (.lstore_n 1, 1) := by decide +kernel
theorem dX3_digest_349 : decode cX3_digest 349 = .ok (.ldc2_w 249, 3) := by decide +kernel
theorem dX3_digest_352 : decode cX3_digest 352 = .ok (.ldc2_w 249, 3) := by decide +kernel
theorem dX3_digest_355 : decode cX3_digest 355 = .ok (.lload_n 1, 1) := by decide +kernel
theorem dX3_digest_356 : decode cX3_digest 356 = .ok (.lmul, 1) := by decide +kernel
theorem dX3_digest_357 : decode cX3_digest 357 = .ok (.aload_n 0, 1) := by decide +kernel
theorem dX3_digest_358 : decode cX3_digest 358 = .ok (.getfield 190, 3) := by decide +kernel
theorem dX3_digest_361 : decode cX3_digest 361 = .ok (.ifCond .eq 7, 3) := by decide +kernel
theorem dX3_digest_364 : decode cX3_digest 364 = .ok (.iconst 1, 1) := by decide +kernel
theorem dX3_digest_365 : decode cX3_digest 365 = .ok (.goto 4, 3) := by decide +kernel
theorem dX3_digest_368 : decode cX3_digest 368 = .ok (.iconst 0, 1) := by decide +kernel
theorem dX3_digest_369 : decode cX3_digest 369 = .ok (.i2l, 1) := by decide +kernel
theorem dX3_digest_370 : decode cX3_digest 370 = .ok (.ladd, 1) := by decide +kernel
theorem dX3_digest_371 : decode cX3_digest 371 = .ok (.lmul, 1) := by decide +kernel
theorem dX3_digest_372 : decode cX3_digest 372 = .ok (.aload_n 0, 1) := by decide +kernel
theorem dX3_digest_373 : decode cX3_digest 373 = .ok (.getfield 156, 3) := by decide +kernel
theorem dX3_digest_376 : decode cX3_digest 376 = .ok (.i2l, 1) := by decide +kernel
theorem dX3_digest_377 : decode cX3_digest 377 = .ok (.ladd, 1) := by decide +kernel
theorem dX3_digest_378 : decode cX3_digest 378 = .ok (.lstore_n 1, 1) := by decide +kernel
theorem dX3_digest_379 : decode cX3_digest 379 = .ok (.iconst 0, 1) := by decide +kernel
theorem dX3_digest_380 : decode cX3_digest 380 = .ok (.istore_n 3, 1) := by decide +kernel
theorem dX3_digest_381 : decode cX3_digest 381 = .ok (.iload_n 3, 1) := by decide +kernel
theorem dX3_digest_382 : decode cX3_digest 382 = .ok (.aload_n 0, 1) := by decide +kernel
theorem dX3_digest_383 : decode cX3_digest 383 = .ok (.getfield 156, 3) := by decide +kernel
theorem dX3_digest_386 : decode cX3_digest 386 = .ok (.if_icmp .ge 23, 3) := by decide +kernel
theorem dX3_digest_389 : decode cX3_digest 389 = .ok (.ldc2_w 249, 3) := by decide +kernel
theorem dX3_digest_392 : decode cX3_digest 392 = .ok (.lload_n 1, 1) := by decide +kernel
theorem dX3_digest_393 : decode cX3_digest 393 = .ok (.lmul, 1) := by decide +kernel
theorem dX3_digest_394 : decode cX3_digest 394 = .ok (.aload_n 0, 1) := by decide +kernel
theorem dX3_digest_395 : decode cX3_digest 395 = .ok (.getfield 22, 3) := by decide +kernel
theorem dX3_digest_398 : decode cX3_digest 398 = .ok (.iload_n 3, 1) := by decide +kernel
theorem dX3_digest_399 : decode cX3_digest 399 = .ok (.iaload, 1) := by decide +kernel
theorem dX3_digest_400 : decode cX3_digest 400 = .ok (.i2l, 1) := by decide +kernel
theorem dX3_digest_401 : decode cX3_digest 401 = .ok (.ladd, 1) := by decide +kernel
theorem dX3_digest_402 : decode cX3_digest 402 = .ok (.lstore_n 1, 1) := by decide +kernel
theorem dX3_digest_403 : decode cX3_digest 403 = .ok (.iinc 3 1, 3) := by decide +kernel
theorem dX3_digest_406 : decode cX3_digest 406 = .ok (.goto (-25), 3) := by decide +kernel
theorem dX3_digest_409 : decode cX3_digest 409 = .ok (.lload_n 1, 1) := by decide +kernel
theorem dX3_digest_410 : decode cX3_digest 410 = .ok (.lreturn, 1) := by decide +kernel
theorem dJxe99ae_isNaN_b9ae7_0 : decode cJxe99ae_isNaN_b9ae7 0 = .ok (.dload_n 0, 1) := by decide +kernel
theorem dJxe99ae_isNaN_b9ae7_1 : decode cJxe99ae_isNaN_b9ae7 1 = .ok (.dload_n 0, 1) := by decide +kernel
theorem dJxe99ae_isNaN_b9ae7_2 : decode cJxe99ae_isNaN_b9ae7 2 = .ok (.dcmp .l, 1) := by decide +kernel
theorem dJxe99ae_isNaN_b9ae7_3 : decode cJxe99ae_isNaN_b9ae7 3 = .ok (.ifCond .eq 7, 3) := by decide +kernel
theorem dJxe99ae_isNaN_b9ae7_6 : decode cJxe99ae_isNaN_b9ae7 6 = .ok (.iconst 1, 1) := by decide +kernel
theorem dJxe99ae_isNaN_b9ae7_7 : decode cJxe99ae_isNaN_b9ae7 7 = .ok (.goto 4, 3) := by decide +kernel
theorem dJxe99ae_isNaN_b9ae7_10 : decode cJxe99ae_isNaN_b9ae7 10 = .ok (.iconst 0, 1) := by decide +kernel
theorem dJxe99ae_isNaN_b9ae7_11 : decode cJxe99ae_isNaN_b9ae7 11 = .ok (.ireturn, 1) := by decide +kernel
theorem dJxe99ae_doubleToLongBits_ccdee_0 : decode cJxe99ae_doubleToLongBits_ccdee 0 = .ok (.dload_n 0, 1) := by decide +kernel
theorem dJxe99ae_doubleToLongBits_ccdee_1 : decode cJxe99ae_doubleToLongBits_ccdee 1 = .ok (.invokestatic 122, 3) := by decide +kernel
theorem dJxe99ae_doubleToLongBits_ccdee_4 : decode cJxe99ae_doubleToLongBits_ccdee 4 = .ok (.ifCond .ne 8, 3) := by decide +kernel
theorem dJxe99ae_doubleToLongBits_ccdee_7 : decode cJxe99ae_doubleToLongBits_ccdee 7 = .ok (.dload_n 0, 1) := by decide +kernel
theorem dJxe99ae_doubleToLongBits_ccdee_8 : decode cJxe99ae_doubleToLongBits_ccdee 8 = .ok (.invokestatic 134, 3) := by decide +kernel
theorem dJxe99ae_doubleToLongBits_ccdee_11 : decode cJxe99ae_doubleToLongBits_ccdee 11 = .ok (.lreturn, 1) := by decide +kernel
theorem dJxe99ae_doubleToLongBits_ccdee_12 : decode cJxe99ae_doubleToLongBits_ccdee 12 = .ok (.ldc2_w 137, 3) := by decide +kernel
theorem dJxe99ae_doubleToLongBits_ccdee_15 : decode cJxe99ae_doubleToLongBits_ccdee 15 = .ok (.lreturn, 1) := by decide +kernel
theorem dJxf58ca_isNaN_12338_0 : decode cJxf58ca_isNaN_12338 0 = .ok (.fload_n 0, 1) := by decide +kernel
theorem dJxf58ca_isNaN_12338_1 : decode cJxf58ca_isNaN_12338 1 = .ok (.fload_n 0, 1) := by decide +kernel
theorem dJxf58ca_isNaN_12338_2 : decode cJxf58ca_isNaN_12338 2 = .ok (.fcmp .l, 1) := by decide +kernel
theorem dJxf58ca_isNaN_12338_3 : decode cJxf58ca_isNaN_12338 3 = .ok (.ifCond .eq 7, 3) := by decide +kernel
theorem dJxf58ca_isNaN_12338_6 : decode cJxf58ca_isNaN_12338 6 = .ok (.iconst 1, 1) := by decide +kernel
theorem dJxf58ca_isNaN_12338_7 : decode cJxf58ca_isNaN_12338 7 = .ok (.goto 4, 3) := by decide +kernel
theorem dJxf58ca_isNaN_12338_10 : decode cJxf58ca_isNaN_12338 10 = .ok (.iconst 0, 1) := by decide +kernel
theorem dJxf58ca_isNaN_12338_11 : decode cJxf58ca_isNaN_12338 11 = .ok (.ireturn, 1) := by decide +kernel
theorem dJxf58ca_floatToIntBits_5c35a_0 : decode cJxf58ca_floatToIntBits_5c35a 0 = .ok (.fload_n 0, 1) := by decide +kernel
theorem dJxf58ca_floatToIntBits_5c35a_1 : decode cJxf58ca_floatToIntBits_5c35a 1 = .ok (.invokestatic 59, 3) := by decide +kernel
theorem dJxf58ca_floatToIntBits_5c35a_4 : decode cJxf58ca_floatToIntBits_5c35a 4 = .ok (.ifCond .ne 8, 3) := by decide +kernel
theorem dJxf58ca_floatToIntBits_5c35a_7 : decode cJxf58ca_floatToIntBits_5c35a 7 = .ok (.fload_n 0, 1) := by decide +kernel
theorem dJxf58ca_floatToIntBits_5c35a_8 : decode cJxf58ca_floatToIntBits_5c35a 8 = .ok (.invokestatic 74, 3) := by decide +kernel
theorem dJxf58ca_floatToIntBits_5c35a_11 : decode cJxf58ca_floatToIntBits_5c35a 11 = .ok (.ireturn, 1) := by decide +kernel
theorem dJxf58ca_floatToIntBits_5c35a_12 : decode cJxf58ca_floatToIntBits_5c35a 12 = .ok (.ldc 77, 2) := by decide +kernel
theorem dJxf58ca_floatToIntBits_5c35a_14 : decode cJxf58ca_floatToIntBits_5c35a 14 = .ok (.ireturn, 1) := by decide +kernel
theorem dJ6_bitCount_0f7a4_0 : decode cJ6_bitCount_0f7a4 0 = .ok (.iload_n 0, 1) := by decide +kernel
theorem dJ6_bitCount_0f7a4_1 : decode cJ6_bitCount_0f7a4 1 = .ok (.iload_n 0, 1) := by decide +kernel
theorem dJ6_bitCount_0f7a4_2 : decode cJ6_bitCount_0f7a4 2 = .ok (.iconst 1, 1) := by decide +kernel
theorem dJ6_bitCount_0f7a4_3 : decode cJ6_bitCount_0f7a4 3 = .ok (.iushr, 1) := by decide +kernel
theorem dJ6_bitCount_0f7a4_4 : decode cJ6_bitCount_0f7a4 4 = .ok (.ldc_w 265, 3) := by decide +kernel
theorem dJ6_bitCount_0f7a4_7 : decode cJ6_bitCount_0f7a4 7 = .ok (.iand, 1) := by decide +kernel
theorem dJ6_bitCount_0f7a4_8 : decode cJ6_bitCount_0f7a4 8 = .ok (.isub, 1) := by decide +kernel
theorem dJ6_bitCount_0f7a4_9 : decode cJ6_bitCount_0f7a4 9 = .ok (.istore_n 0, 1) := by decide +kernel
theorem dJ6_bitCount_0f7a4_10 : decode cJ6_bitCount_0f7a4 10 = .ok (.iload_n 0, 1) := by decide +kernel
theorem dJ6_bitCount_0f7a4_11 : decode cJ6_bitCount_0f7a4 11 = .ok (.ldc_w 266, 3) := by decide +kernel
theorem dJ6_bitCount_0f7a4_14 : decode cJ6_bitCount_0f7a4 14 = .ok (.iand, 1) := by decide +kernel
theorem dJ6_bitCount_0f7a4_15 : decode cJ6_bitCount_0f7a4 15 = .ok (.iload_n 0, 1) := by decide +kernel
theorem dJ6_bitCount_0f7a4_16 : decode cJ6_bitCount_0f7a4 16 = .ok (.iconst 2, 1) := by decide +kernel
theorem dJ6_bitCount_0f7a4_17 : decode cJ6_bitCount_0f7a4 17 = .ok (.iushr, 1) := by decide +kernel
theorem dJ6_bitCount_0f7a4_18 : decode cJ6_bitCount_0f7a4 18 = .ok (.ldc_w 266, 3) := by decide +kernel
theorem dJ6_bitCount_0f7a4_21 : decode cJ6_bitCount_0f7a4 21 = .ok (.iand, 1) := by decide +kernel
theorem dJ6_bitCount_0f7a4_22 : decode cJ6_bitCount_0f7a4 22 = .ok (.iadd, 1) := by decide +kernel
theorem dJ6_bitCount_0f7a4_23 : decode cJ6_bitCount_0f7a4 23 = .ok (.istore_n 0, 1) := by decide +kernel
theorem dJ6_bitCount_0f7a4_24 : decode cJ6_bitCount_0f7a4 24 = .ok (.iload_n 0, 1) := by decide +kernel
theorem dJ6_bitCount_0f7a4_25 : decode cJ6_bitCount_0f7a4 25 = .ok (.iload_n 0, 1) := by decide +kernel
theorem dJ6_bitCount_0f7a4_26 : decode cJ6_bitCount_0f7a4 26 = .ok (.iconst 4, 1) := by decide +kernel
theorem dJ6_bitCount_0f7a4_27 : decode cJ6_bitCount_0f7a4 27 = .ok (.iushr, 1) := by decide +kernel
theorem dJ6_bitCount_0f7a4_28 : decode cJ6_bitCount_0f7a4 28 = .ok (.iadd, 1) := by decide +kernel
theorem dJ6_bitCount_0f7a4_29 : decode cJ6_bitCount_0f7a4 29 = .ok (.ldc_w 267, 3) := by decide +kernel
theorem dJ6_bitCount_0f7a4_32 : decode cJ6_bitCount_0f7a4 32 = .ok (.iand, 1) := by decide +kernel
theorem dJ6_bitCount_0f7a4_33 : decode cJ6_bitCount_0f7a4 33 = .ok (.istore_n 0, 1) := by decide +kernel
theorem dJ6_bitCount_0f7a4_34 : decode cJ6_bitCount_0f7a4 34 = .ok (.iload_n 0, 1) := by decide +kernel
theorem dJ6_bitCount_0f7a4_35 : decode cJ6_bitCount_0f7a4 35 = .ok (.iload_n 0, 1) := by decide +kernel
theorem dJ6_bitCount_0f7a4_36 : decode cJ6_bitCount_0f7a4 36 = .ok (.bipush 8, 2) := by decide +kernel
theorem dJ6_bitCount_0f7a4_38 : decode cJ6_bitCount_0f7a4 38 = .ok (.iushr, 1) := by decide +kernel
theorem dJ6_bitCount_0f7a4_39 : decode cJ6_bitCount_0f7a4 39 = .ok (.iadd, 1) := by decide +kernel
theorem dJ6_bitCount_0f7a4_40 : decode cJ6_bitCount_0f7a4 40 = .ok (.istore_n 0, 1) := by decide +kernel
theorem dJ6_bitCount_0f7a4_41 : decode cJ6_bitCount_0f7a4 41 = .ok (.iload_n 0, 1) := by decide +kernel
theorem dJ6_bitCount_0f7a4_42 : decode cJ6_bitCount_0f7a4 42 = .ok (.iload_n 0, 1) := by decide +kernel
theorem dJ6_bitCount_0f7a4_43 : decode cJ6_bitCount_0f7a4 43 = .ok (.bipush 16, 2) := by decide +kernel
theorem dJ6_bitCount_0f7a4_45 : decode cJ6_bitCount_0f7a4 45 = .ok (.iushr, 1) := by decide +kernel
theorem dJ6_bitCount_0f7a4_46 : decode cJ6_bitCount_0f7a4 46 = .ok (.iadd, 1) := by decide +kernel
theorem dJ6_bitCount_0f7a4_47 : decode cJ6_bitCount_0f7a4 47 = .ok (.istore_n 0, 1) := by decide +kernel
theorem dJ6_bitCount_0f7a4_48 : decode cJ6_bitCount_0f7a4 48 = .ok (.iload_n 0, 1) := by decide +kernel
theorem dJ6_bitCount_0f7a4_49 : decode cJ6_bitCount_0f7a4 49 = .ok (.bipush 63, 2) := by decide +kernel
theorem dJ6_bitCount_0f7a4_51 : decode cJ6_bitCount_0f7a4 51 = .ok (.iand, 1) := by decide +kernel
theorem dJ6_bitCount_0f7a4_52 : decode cJ6_bitCount_0f7a4 52 = .ok (.ireturn, 1) := by decide +kernel
theorem dL_begin_0 : decode cL_begin 0 = .ok (.aload 4, 2) := by decide +kernel
theorem dL_begin_2 : decode cL_begin 2 = .ok (.iconst 0, 1) := by decide +kernel
theorem dL_begin_3 : decode cL_begin 3 = .ok (.aload_n 0, 1) := by decide +kernel
theorem dL_begin_4 : decode cL_begin 4 = .ok (.iload_n 1, 1) := by decide +kernel
theorem dL_begin_5 : decode cL_begin 5 = .ok (.iload_n 2, 1) := by decide +kernel
theorem dL_begin_6 : decode cL_begin 6 = .ok (.iload_n 3, 1) := by decide +kernel
theorem dL_begin_7 : decode cL_begin 7 = .ok (.invokevirtual 7, 3) := by decide +kernel
theorem dL_begin_10 : decode cL_begin 10 = .ok (.i2l, 1) := by decide +kernel
theorem dL_begin_11 : decode cL_begin 11 = .ok (.lastore, 1) := by decide +kernel
theorem dL_begin_12 : decode cL_begin 12 = .ok (.goto 15, 3) := by decide +kernel
theorem dL_begin_15 : decode cL_begin 15 = .ok (.astore 5, 2) := by decide +kernel
theorem dL_begin_17 : decode cL_begin 17 = .ok (.iconst 1, 1) := by decide +kernel
theorem dL_begin_18 : decode cL_begin 18 = .ok (.ireturn, 1) := by decide +kernel
theorem dL_begin_19 : decode cL_begin 19 = .ok (.astore 5, 2) := by decide +kernel
theorem dL_begin_21 : decode cL_begin 21 = .ok (.iconst 2, 1) := by decide +kernel
theorem dL_begin_22 : decode cL_begin 22 = .ok (.ireturn, 1) := by decide +kernel
theorem dL_begin_23 : decode cL_begin 23 = .ok (.astore 5, 2) := by decide +kernel
theorem dL_begin_25 : decode cL_begin 25 = .ok (.iconst 3, 1) := by decide +kernel
theorem dL_begin_26 : decode cL_begin 26 = .ok (.ireturn, 1) := by decide +kernel
theorem dL_begin_27 : decode cL_begin 27 = .ok (.iconst 0, 1) := by decide +kernel
theorem dL_begin_28 : decode cL_begin 28 = .ok (.ireturn, 1) := by decide +kernel
theorem dL_giveUp_0 : decode cL_giveUp 0 = .ok (.aload_n 2, 1) := by decide +kernel
theorem dL_giveUp_1 : decode cL_giveUp 1 = .ok (.iconst 0, 1) := by decide +kernel
theorem dL_giveUp_2 : decode cL_giveUp 2 = .ok (.aload_n 0, 1) := by decide +kernel
theorem dL_giveUp_3 : decode cL_giveUp 3 = .ok (.iload_n 1, 1) := by decide +kernel
theorem dL_giveUp_4 : decode cL_giveUp 4 = .ok (.invokevirtual 19, 3) := by decide +kernel
theorem dL_giveUp_7 : decode cL_giveUp 7 = .ok (.i2l, 1) := by decide +kernel
theorem dL_giveUp_8 : decode cL_giveUp 8 = .ok (.lastore, 1) := by decide +kernel
theorem dL_giveUp_9 : decode cL_giveUp 9 = .ok (.goto 9, 3) := by decide +kernel
theorem dL_giveUp_12 : decode cL_giveUp 12 = .ok (.astore_n 3, 1) := by decide +kernel
theorem dL_giveUp_13 : decode cL_giveUp 13 = .ok (.iconst 1, 1) := by decide +kernel
theorem dL_giveUp_14 : decode cL_giveUp 14 = .ok (.ireturn, 1) := by decide +kernel
theorem dL_giveUp_15 : decode cL_giveUp 15 = .ok (.astore_n 3, 1) := by decide +kernel
theorem dL_giveUp_16 : decode cL_giveUp 16 = .ok (.iconst 2, 1) := by decide +kernel
theorem dL_giveUp_17 : decode cL_giveUp 17 = .ok (.ireturn, 1) := by decide +kernel
theorem dL_giveUp_18 : decode cL_giveUp 18 = .ok (.iconst 0, 1) := by decide +kernel
theorem dL_giveUp_19 : decode cL_giveUp 19 = .ok (.ireturn, 1) := by decide +kernel
theorem dL_ask_0 : decode cL_ask 0 = .ok (.aload_n 3, 1) := by decide +kernel
theorem dL_ask_1 : decode cL_ask 1 = .ok (.iconst 0, 1) := by decide +kernel
theorem dL_ask_2 : decode cL_ask 2 = .ok (.aload_n 0, 1) := by decide +kernel
theorem dL_ask_3 : decode cL_ask 3 = .ok (.iload_n 1, 1) := by decide +kernel
theorem dL_ask_4 : decode cL_ask 4 = .ok (.iload_n 2, 1) := by decide +kernel
theorem dL_ask_5 : decode cL_ask 5 = .ok (.invokevirtual 23, 3) := by decide +kernel
theorem dL_ask_8 : decode cL_ask 8 = .ok (.i2l, 1) := by decide +kernel
theorem dL_ask_9 : decode cL_ask 9 = .ok (.lastore, 1) := by decide +kernel
theorem dL_ask_10 : decode cL_ask 10 = .ok (.goto 11, 3) := by decide +kernel
theorem dL_ask_13 : decode cL_ask 13 = .ok (.astore 4, 2) := by decide +kernel
theorem dL_ask_15 : decode cL_ask 15 = .ok (.iconst 1, 1) := by decide +kernel
theorem dL_ask_16 : decode cL_ask 16 = .ok (.ireturn, 1) := by decide +kernel
theorem dL_ask_17 : decode cL_ask 17 = .ok (.astore 4, 2) := by decide +kernel
theorem dL_ask_19 : decode cL_ask 19 = .ok (.iconst 2, 1) := by decide +kernel
theorem dL_ask_20 : decode cL_ask 20 = .ok (.ireturn, 1) := by decide +kernel
theorem dL_ask_21 : decode cL_ask 21 = .ok (.iconst 0, 1) := by decide +kernel
theorem dL_ask_22 : decode cL_ask 22 = .ok (.ireturn, 1) := by decide +kernel
theorem dL_deliver_0 : decode cL_deliver 0 = .ok (.aload_n 2, 1) := by decide +kernel
theorem dL_deliver_1 : decode cL_deliver 1 = .ok (.iconst 0, 1) := by decide +kernel
theorem dL_deliver_2 : decode cL_deliver 2 = .ok (.aload_n 0, 1) := by decide +kernel
theorem dL_deliver_3 : decode cL_deliver 3 = .ok (.iload_n 1, 1) := by decide +kernel
theorem dL_deliver_4 : decode cL_deliver 4 = .ok (.invokevirtual 27, 3) := by decide +kernel
theorem dL_deliver_7 : decode cL_deliver 7 = .ok (.ifCond .eq 7, 3) := by decide +kernel
theorem dL_deliver_10 : decode cL_deliver 10 = .ok (.lconst 1, 1) := by decide +kernel
theorem dL_deliver_11 : decode cL_deliver 11 = .ok (.goto 4, 3) := by decide +kernel
theorem dL_deliver_14 : decode cL_deliver 14 = .ok (.lconst 0, 1) := by decide +kernel
theorem dL_deliver_15 : decode cL_deliver 15 = .ok (.lastore, 1) := by decide +kernel
theorem dL_deliver_16 : decode cL_deliver 16 = .ok (.goto 6, 3) := by decide +kernel
theorem dL_deliver_19 : decode cL_deliver 19 = .ok (.astore_n 3, 1) := by decide +kernel
theorem dL_deliver_20 : decode cL_deliver 20 = .ok (.iconst 1, 1) := by decide +kernel
theorem dL_deliver_21 : decode cL_deliver 21 = .ok (.ireturn, 1) := by decide +kernel
theorem dL_deliver_22 : decode cL_deliver 22 = .ok (.iconst 0, 1) := by decide +kernel
theorem dL_deliver_23 : decode cL_deliver 23 = .ok (.ireturn, 1) := by decide +kernel
theorem dL_lose_0 : decode cL_lose 0 = .ok (.aload_n 2, 1) := by decide +kernel
theorem dL_lose_1 : decode cL_lose 1 = .ok (.iconst 0, 1) := by decide +kernel
theorem dL_lose_2 : decode cL_lose 2 = .ok (.aload_n 0, 1) := by decide +kernel
theorem dL_lose_3 : decode cL_lose 3 = .ok (.iload_n 1, 1) := by decide +kernel
theorem dL_lose_4 : decode cL_lose 4 = .ok (.invokevirtual 31, 3) := by decide +kernel
theorem dL_lose_7 : decode cL_lose 7 = .ok (.i2l, 1) := by decide +kernel
theorem dL_lose_8 : decode cL_lose 8 = .ok (.lastore, 1) := by decide +kernel
theorem dL_lose_9 : decode cL_lose 9 = .ok (.goto 6, 3) := by decide +kernel
theorem dL_lose_12 : decode cL_lose 12 = .ok (.astore_n 3, 1) := by decide +kernel
theorem dL_lose_13 : decode cL_lose 13 = .ok (.iconst 1, 1) := by decide +kernel
theorem dL_lose_14 : decode cL_lose 14 = .ok (.ireturn, 1) := by decide +kernel
theorem dL_lose_15 : decode cL_lose 15 = .ok (.iconst 0, 1) := by decide +kernel
theorem dL_lose_16 : decode cL_lose 16 = .ok (.ireturn, 1) := by decide +kernel
theorem dL_crash_0 : decode cL_crash 0 = .ok (.aload_n 2, 1) := by decide +kernel
theorem dL_crash_1 : decode cL_crash 1 = .ok (.iconst 0, 1) := by decide +kernel
theorem dL_crash_2 : decode cL_crash 2 = .ok (.aload_n 0, 1) := by decide +kernel
theorem dL_crash_3 : decode cL_crash 3 = .ok (.iload_n 1, 1) := by decide +kernel
theorem dL_crash_4 : decode cL_crash 4 = .ok (.invokevirtual 34, 3) := by decide +kernel
theorem dL_crash_7 : decode cL_crash 7 = .ok (.i2l, 1) := by decide +kernel
theorem dL_crash_8 : decode cL_crash 8 = .ok (.lastore, 1) := by decide +kernel
theorem dL_crash_9 : decode cL_crash 9 = .ok (.goto 9, 3) := by decide +kernel
theorem dL_crash_12 : decode cL_crash 12 = .ok (.astore_n 3, 1) := by decide +kernel
theorem dL_crash_13 : decode cL_crash 13 = .ok (.iconst 1, 1) := by decide +kernel
theorem dL_crash_14 : decode cL_crash 14 = .ok (.ireturn, 1) := by decide +kernel
theorem dL_crash_15 : decode cL_crash 15 = .ok (.astore_n 3, 1) := by decide +kernel
theorem dL_crash_16 : decode cL_crash 16 = .ok (.iconst 2, 1) := by decide +kernel
theorem dL_crash_17 : decode cL_crash 17 = .ok (.ireturn, 1) := by decide +kernel
theorem dL_crash_18 : decode cL_crash 18 = .ok (.iconst 0, 1) := by decide +kernel
theorem dL_crash_19 : decode cL_crash 19 = .ok (.ireturn, 1) := by decide +kernel
theorem dL_recover_0 : decode cL_recover 0 = .ok (.aload_n 2, 1) := by decide +kernel
theorem dL_recover_1 : decode cL_recover 1 = .ok (.iconst 0, 1) := by decide +kernel
theorem dL_recover_2 : decode cL_recover 2 = .ok (.aload_n 0, 1) := by decide +kernel
theorem dL_recover_3 : decode cL_recover 3 = .ok (.iload_n 1, 1) := by decide +kernel
theorem dL_recover_4 : decode cL_recover 4 = .ok (.invokevirtual 37, 3) := by decide +kernel
theorem dL_recover_7 : decode cL_recover 7 = .ok (.i2l, 1) := by decide +kernel
theorem dL_recover_8 : decode cL_recover 8 = .ok (.lastore, 1) := by decide +kernel
theorem dL_recover_9 : decode cL_recover 9 = .ok (.goto 9, 3) := by decide +kernel
theorem dL_recover_12 : decode cL_recover 12 = .ok (.astore_n 3, 1) := by decide +kernel
theorem dL_recover_13 : decode cL_recover 13 = .ok (.iconst 1, 1) := by decide +kernel
theorem dL_recover_14 : decode cL_recover 14 = .ok (.ireturn, 1) := by decide +kernel
theorem dL_recover_15 : decode cL_recover 15 = .ok (.astore_n 3, 1) := by decide +kernel
theorem dL_recover_16 : decode cL_recover 16 = .ok (.iconst 2, 1) := by decide +kernel
theorem dL_recover_17 : decode cL_recover 17 = .ok (.ireturn, 1) := by decide +kernel
theorem dL_recover_18 : decode cL_recover 18 = .ok (.iconst 0, 1) := by decide +kernel
theorem dL_recover_19 : decode cL_recover 19 = .ok (.ireturn, 1) := by decide +kernel
theorem dL_append_0 : decode cL_append 0 = .ok (.aload_n 2, 1) := by decide +kernel
theorem dL_append_1 : decode cL_append 1 = .ok (.iconst 0, 1) := by decide +kernel
theorem dL_append_2 : decode cL_append 2 = .ok (.aload_n 0, 1) := by decide +kernel
theorem dL_append_3 : decode cL_append 3 = .ok (.iload_n 1, 1) := by decide +kernel
theorem dL_append_4 : decode cL_append 4 = .ok (.invokevirtual 40, 3) := by decide +kernel
theorem dL_append_7 : decode cL_append 7 = .ok (.i2l, 1) := by decide +kernel
theorem dL_append_8 : decode cL_append 8 = .ok (.lastore, 1) := by decide +kernel
theorem dL_append_9 : decode cL_append 9 = .ok (.goto 9, 3) := by decide +kernel
theorem dL_append_12 : decode cL_append 12 = .ok (.astore_n 3, 1) := by decide +kernel
theorem dL_append_13 : decode cL_append 13 = .ok (.iconst 1, 1) := by decide +kernel
theorem dL_append_14 : decode cL_append 14 = .ok (.ireturn, 1) := by decide +kernel
theorem dL_append_15 : decode cL_append 15 = .ok (.astore_n 3, 1) := by decide +kernel
theorem dL_append_16 : decode cL_append 16 = .ok (.iconst 2, 1) := by decide +kernel
theorem dL_append_17 : decode cL_append 17 = .ok (.ireturn, 1) := by decide +kernel
theorem dL_append_18 : decode cL_append 18 = .ok (.iconst 0, 1) := by decide +kernel
theorem dL_append_19 : decode cL_append 19 = .ok (.ireturn, 1) := by decide +kernel
theorem dL_runCourse_0 : decode cL_runCourse 0 = .ok (.aload_n 1, 1) := by decide +kernel
theorem dL_runCourse_1 : decode cL_runCourse 1 = .ok (.iconst 0, 1) := by decide +kernel
theorem dL_runCourse_2 : decode cL_runCourse 2 = .ok (.aload_n 0, 1) := by decide +kernel
theorem dL_runCourse_3 : decode cL_runCourse 3 = .ok (.invokevirtual 43, 3) := by decide +kernel
theorem dL_runCourse_6 : decode cL_runCourse 6 = .ok (.i2l, 1) := by decide +kernel
theorem dL_runCourse_7 : decode cL_runCourse 7 = .ok (.lastore, 1) := by decide +kernel
theorem dL_runCourse_8 : decode cL_runCourse 8 = .ok (.goto 6, 3) := by decide +kernel
theorem dL_runCourse_11 : decode cL_runCourse 11 = .ok (.astore_n 2, 1) := by decide +kernel
theorem dL_runCourse_12 : decode cL_runCourse 12 = .ok (.iconst 1, 1) := by decide +kernel
theorem dL_runCourse_13 : decode cL_runCourse 13 = .ok (.ireturn, 1) := by decide +kernel
theorem dL_runCourse_14 : decode cL_runCourse 14 = .ok (.iconst 0, 1) := by decide +kernel
theorem dL_runCourse_15 : decode cL_runCourse 15 = .ok (.ireturn, 1) := by decide +kernel
theorem dL_goBack_0 : decode cL_goBack 0 = .ok (.aload_n 1, 1) := by decide +kernel
theorem dL_goBack_1 : decode cL_goBack 1 = .ok (.iconst 0, 1) := by decide +kernel
theorem dL_goBack_2 : decode cL_goBack 2 = .ok (.aload_n 0, 1) := by decide +kernel
theorem dL_goBack_3 : decode cL_goBack 3 = .ok (.invokevirtual 47, 3) := by decide +kernel
theorem dL_goBack_6 : decode cL_goBack 6 = .ok (.i2l, 1) := by decide +kernel
theorem dL_goBack_7 : decode cL_goBack 7 = .ok (.lastore, 1) := by decide +kernel
theorem dL_goBack_8 : decode cL_goBack 8 = .ok (.goto 6, 3) := by decide +kernel
theorem dL_goBack_11 : decode cL_goBack 11 = .ok (.astore_n 2, 1) := by decide +kernel
theorem dL_goBack_12 : decode cL_goBack 12 = .ok (.iconst 1, 1) := by decide +kernel
theorem dL_goBack_13 : decode cL_goBack 13 = .ok (.ireturn, 1) := by decide +kernel
theorem dL_goBack_14 : decode cL_goBack 14 = .ok (.iconst 0, 1) := by decide +kernel
theorem dL_goBack_15 : decode cL_goBack 15 = .ok (.ireturn, 1) := by decide +kernel
theorem dL_undo_0 : decode cL_undo 0 = .ok (.aload_n 1, 1) := by decide +kernel
theorem dL_undo_1 : decode cL_undo 1 = .ok (.iconst 0, 1) := by decide +kernel
theorem dL_undo_2 : decode cL_undo 2 = .ok (.aload_n 0, 1) := by decide +kernel
theorem dL_undo_3 : decode cL_undo 3 = .ok (.invokevirtual 50, 3) := by decide +kernel
theorem dL_undo_6 : decode cL_undo 6 = .ok (.i2l, 1) := by decide +kernel
theorem dL_undo_7 : decode cL_undo 7 = .ok (.lastore, 1) := by decide +kernel
theorem dL_undo_8 : decode cL_undo 8 = .ok (.goto 6, 3) := by decide +kernel
theorem dL_undo_11 : decode cL_undo 11 = .ok (.astore_n 2, 1) := by decide +kernel
theorem dL_undo_12 : decode cL_undo 12 = .ok (.iconst 1, 1) := by decide +kernel
theorem dL_undo_13 : decode cL_undo 13 = .ok (.ireturn, 1) := by decide +kernel
theorem dL_undo_14 : decode cL_undo 14 = .ok (.iconst 0, 1) := by decide +kernel
theorem dL_undo_15 : decode cL_undo 15 = .ok (.ireturn, 1) := by decide +kernel
theorem dL_partners_0 : decode cL_partners 0 = .ok (.aload_n 2, 1) := by decide +kernel
theorem dL_partners_1 : decode cL_partners 1 = .ok (.iconst 0, 1) := by decide +kernel
theorem dL_partners_2 : decode cL_partners 2 = .ok (.aload_n 0, 1) := by decide +kernel
theorem dL_partners_3 : decode cL_partners 3 = .ok (.iload_n 1, 1) := by decide +kernel
theorem dL_partners_4 : decode cL_partners 4 = .ok (.invokevirtual 53, 3) := by decide +kernel
theorem dL_partners_7 : decode cL_partners 7 = .ok (.i2l, 1) := by decide +kernel
theorem dL_partners_8 : decode cL_partners 8 = .ok (.lastore, 1) := by decide +kernel
theorem dL_partners_9 : decode cL_partners 9 = .ok (.goto 6, 3) := by decide +kernel
theorem dL_partners_12 : decode cL_partners 12 = .ok (.astore_n 3, 1) := by decide +kernel
theorem dL_partners_13 : decode cL_partners 13 = .ok (.iconst 1, 1) := by decide +kernel
theorem dL_partners_14 : decode cL_partners 14 = .ok (.ireturn, 1) := by decide +kernel
theorem dL_partners_15 : decode cL_partners 15 = .ok (.iconst 0, 1) := by decide +kernel
theorem dL_partners_16 : decode cL_partners 16 = .ok (.ireturn, 1) := by decide +kernel
theorem dL_share_0 : decode cL_share 0 = .ok (.aload_n 3, 1) := by decide +kernel
theorem dL_share_1 : decode cL_share 1 = .ok (.iconst 0, 1) := by decide +kernel
theorem dL_share_2 : decode cL_share 2 = .ok (.aload_n 0, 1) := by decide +kernel
theorem dL_share_3 : decode cL_share 3 = .ok (.iload_n 1, 1) := by decide +kernel
theorem dL_share_4 : decode cL_share 4 = .ok (.iload_n 2, 1) := by decide +kernel
theorem dL_share_5 : decode cL_share 5 = .ok (.invokevirtual 56, 3) := by decide +kernel
theorem dL_share_8 : decode cL_share 8 = .ok (.i2l, 1) := by decide +kernel
theorem dL_share_9 : decode cL_share 9 = .ok (.lastore, 1) := by decide +kernel
theorem dL_share_10 : decode cL_share 10 = .ok (.goto 7, 3) := by decide +kernel
theorem dL_share_13 : decode cL_share 13 = .ok (.astore 4, 2) := by decide +kernel
theorem dL_share_15 : decode cL_share 15 = .ok (.iconst 1, 1) := by decide +kernel
theorem dL_share_16 : decode cL_share 16 = .ok (.ireturn, 1) := by decide +kernel
theorem dL_share_17 : decode cL_share 17 = .ok (.iconst 0, 1) := by decide +kernel
theorem dL_share_18 : decode cL_share 18 = .ok (.ireturn, 1) := by decide +kernel
theorem dL_isUp_0 : decode cL_isUp 0 = .ok (.aload_n 2, 1) := by decide +kernel
theorem dL_isUp_1 : decode cL_isUp 1 = .ok (.iconst 0, 1) := by decide +kernel
theorem dL_isUp_2 : decode cL_isUp 2 = .ok (.aload_n 0, 1) := by decide +kernel
theorem dL_isUp_3 : decode cL_isUp 3 = .ok (.iload_n 1, 1) := by decide +kernel
theorem dL_isUp_4 : decode cL_isUp 4 = .ok (.invokevirtual 59, 3) := by decide +kernel
theorem dL_isUp_7 : decode cL_isUp 7 = .ok (.ifCond .eq 7, 3) := by decide +kernel
theorem dL_isUp_10 : decode cL_isUp 10 = .ok (.lconst 1, 1) := by decide +kernel
theorem dL_isUp_11 : decode cL_isUp 11 = .ok (.goto 4, 3) := by decide +kernel
theorem dL_isUp_14 : decode cL_isUp 14 = .ok (.lconst 0, 1) := by decide +kernel
theorem dL_isUp_15 : decode cL_isUp 15 = .ok (.lastore, 1) := by decide +kernel
theorem dL_isUp_16 : decode cL_isUp 16 = .ok (.goto 6, 3) := by decide +kernel
theorem dL_isUp_19 : decode cL_isUp 19 = .ok (.astore_n 3, 1) := by decide +kernel
theorem dL_isUp_20 : decode cL_isUp 20 = .ok (.iconst 1, 1) := by decide +kernel
theorem dL_isUp_21 : decode cL_isUp 21 = .ok (.ireturn, 1) := by decide +kernel
theorem dL_isUp_22 : decode cL_isUp 22 = .ok (.iconst 0, 1) := by decide +kernel
theorem dL_isUp_23 : decode cL_isUp 23 = .ok (.ireturn, 1) := by decide +kernel
theorem dL_amount_0 : decode cL_amount 0 = .ok (.aload_n 2, 1) := by decide +kernel
theorem dL_amount_1 : decode cL_amount 1 = .ok (.iconst 0, 1) := by decide +kernel
theorem dL_amount_2 : decode cL_amount 2 = .ok (.aload_n 0, 1) := by decide +kernel
theorem dL_amount_3 : decode cL_amount 3 = .ok (.iload_n 1, 1) := by decide +kernel
theorem dL_amount_4 : decode cL_amount 4 = .ok (.invokevirtual 62, 3) := by decide +kernel
theorem dL_amount_7 : decode cL_amount 7 = .ok (.i2l, 1) := by decide +kernel
theorem dL_amount_8 : decode cL_amount 8 = .ok (.lastore, 1) := by decide +kernel
theorem dL_amount_9 : decode cL_amount 9 = .ok (.goto 6, 3) := by decide +kernel
theorem dL_amount_12 : decode cL_amount 12 = .ok (.astore_n 3, 1) := by decide +kernel
theorem dL_amount_13 : decode cL_amount 13 = .ok (.iconst 1, 1) := by decide +kernel
theorem dL_amount_14 : decode cL_amount 14 = .ok (.ireturn, 1) := by decide +kernel
theorem dL_amount_15 : decode cL_amount 15 = .ok (.iconst 0, 1) := by decide +kernel
theorem dL_amount_16 : decode cL_amount 16 = .ok (.ireturn, 1) := by decide +kernel
theorem dL_amountByLog_0 : decode cL_amountByLog 0 = .ok (.aload_n 2, 1) := by decide +kernel
theorem dL_amountByLog_1 : decode cL_amountByLog 1 = .ok (.iconst 0, 1) := by decide +kernel
theorem dL_amountByLog_2 : decode cL_amountByLog 2 = .ok (.aload_n 0, 1) := by decide +kernel
theorem dL_amountByLog_3 : decode cL_amountByLog 3 = .ok (.iload_n 1, 1) := by decide +kernel
theorem dL_amountByLog_4 : decode cL_amountByLog 4 = .ok (.invokevirtual 65, 3) := by decide +kernel
theorem dL_amountByLog_7 : decode cL_amountByLog 7 = .ok (.i2l, 1) := by decide +kernel
theorem dL_amountByLog_8 : decode cL_amountByLog 8 = .ok (.lastore, 1) := by decide +kernel
theorem dL_amountByLog_9 : decode cL_amountByLog 9 = .ok (.goto 6, 3) := by decide +kernel
theorem dL_amountByLog_12 : decode cL_amountByLog 12 = .ok (.astore_n 3, 1) := by decide +kernel
theorem dL_amountByLog_13 : decode cL_amountByLog 13 = .ok (.iconst 1, 1) := by decide +kernel
theorem dL_amountByLog_14 : decode cL_amountByLog 14 = .ok (.ireturn, 1) := by decide +kernel
theorem dL_amountByLog_15 : decode cL_amountByLog 15 = .ok (.iconst 0, 1) := by decide +kernel
theorem dL_amountByLog_16 : decode cL_amountByLog 16 = .ok (.ireturn, 1) := by decide +kernel
theorem dL_state_0 : decode cL_state 0 = .ok (.aload_n 3, 1) := by decide +kernel
theorem dL_state_1 : decode cL_state 1 = .ok (.iconst 0, 1) := by decide +kernel
theorem dL_state_2 : decode cL_state 2 = .ok (.aload_n 0, 1) := by decide +kernel
theorem dL_state_3 : decode cL_state 3 = .ok (.iload_n 1, 1) := by decide +kernel
theorem dL_state_4 : decode cL_state 4 = .ok (.iload_n 2, 1) := by decide +kernel
theorem dL_state_5 : decode cL_state 5 = .ok (.invokevirtual 68, 3) := by decide +kernel
theorem dL_state_8 : decode cL_state 8 = .ok (.i2l, 1) := by decide +kernel
theorem dL_state_9 : decode cL_state 9 = .ok (.lastore, 1) := by decide +kernel
theorem dL_state_10 : decode cL_state 10 = .ok (.goto 7, 3) := by decide +kernel
theorem dL_state_13 : decode cL_state 13 = .ok (.astore 4, 2) := by decide +kernel
theorem dL_state_15 : decode cL_state 15 = .ok (.iconst 1, 1) := by decide +kernel
theorem dL_state_16 : decode cL_state 16 = .ok (.ireturn, 1) := by decide +kernel
theorem dL_state_17 : decode cL_state 17 = .ok (.iconst 0, 1) := by decide +kernel
theorem dL_state_18 : decode cL_state 18 = .ok (.ireturn, 1) := by decide +kernel
theorem dL_stateByLog_0 : decode cL_stateByLog 0 = .ok (.aload_n 3, 1) := by decide +kernel
theorem dL_stateByLog_1 : decode cL_stateByLog 1 = .ok (.iconst 0, 1) := by decide +kernel
theorem dL_stateByLog_2 : decode cL_stateByLog 2 = .ok (.aload_n 0, 1) := by decide +kernel
theorem dL_stateByLog_3 : decode cL_stateByLog 3 = .ok (.iload_n 1, 1) := by decide +kernel
theorem dL_stateByLog_4 : decode cL_stateByLog 4 = .ok (.iload_n 2, 1) := by decide +kernel
theorem dL_stateByLog_5 : decode cL_stateByLog 5 = .ok (.invokevirtual 71, 3) := by decide +kernel
theorem dL_stateByLog_8 : decode cL_stateByLog 8 = .ok (.i2l, 1) := by decide +kernel
theorem dL_stateByLog_9 : decode cL_stateByLog 9 = .ok (.lastore, 1) := by decide +kernel
theorem dL_stateByLog_10 : decode cL_stateByLog 10 = .ok (.goto 7, 3) := by decide +kernel
theorem dL_stateByLog_13 : decode cL_stateByLog 13 = .ok (.astore 4, 2) := by decide +kernel
theorem dL_stateByLog_15 : decode cL_stateByLog 15 = .ok (.iconst 1, 1) := by decide +kernel
theorem dL_stateByLog_16 : decode cL_stateByLog 16 = .ok (.ireturn, 1) := by decide +kernel
theorem dL_stateByLog_17 : decode cL_stateByLog 17 = .ok (.iconst 0, 1) := by decide +kernel
theorem dL_stateByLog_18 : decode cL_stateByLog 18 = .ok (.ireturn, 1) := by decide +kernel
theorem dL_inDoubt_0 : decode cL_inDoubt 0 = .ok (.aload_n 2, 1) := by decide +kernel
theorem dL_inDoubt_1 : decode cL_inDoubt 1 = .ok (.iconst 0, 1) := by decide +kernel
theorem dL_inDoubt_2 : decode cL_inDoubt 2 = .ok (.aload_n 0, 1) := by decide +kernel
theorem dL_inDoubt_3 : decode cL_inDoubt 3 = .ok (.iload_n 1, 1) := by decide +kernel
theorem dL_inDoubt_4 : decode cL_inDoubt 4 = .ok (.invokevirtual 74, 3) := by decide +kernel
theorem dL_inDoubt_7 : decode cL_inDoubt 7 = .ok (.i2l, 1) := by decide +kernel
theorem dL_inDoubt_8 : decode cL_inDoubt 8 = .ok (.lastore, 1) := by decide +kernel
theorem dL_inDoubt_9 : decode cL_inDoubt 9 = .ok (.goto 6, 3) := by decide +kernel
theorem dL_inDoubt_12 : decode cL_inDoubt 12 = .ok (.astore_n 3, 1) := by decide +kernel
theorem dL_inDoubt_13 : decode cL_inDoubt 13 = .ok (.iconst 1, 1) := by decide +kernel
theorem dL_inDoubt_14 : decode cL_inDoubt 14 = .ok (.ireturn, 1) := by decide +kernel
theorem dL_inDoubt_15 : decode cL_inDoubt 15 = .ok (.iconst 0, 1) := by decide +kernel
theorem dL_inDoubt_16 : decode cL_inDoubt 16 = .ok (.ireturn, 1) := by decide +kernel
theorem dL_outcome_0 : decode cL_outcome 0 = .ok (.aload_n 2, 1) := by decide +kernel
theorem dL_outcome_1 : decode cL_outcome 1 = .ok (.iconst 0, 1) := by decide +kernel
theorem dL_outcome_2 : decode cL_outcome 2 = .ok (.aload_n 0, 1) := by decide +kernel
theorem dL_outcome_3 : decode cL_outcome 3 = .ok (.iload_n 1, 1) := by decide +kernel
theorem dL_outcome_4 : decode cL_outcome 4 = .ok (.invokevirtual 77, 3) := by decide +kernel
theorem dL_outcome_7 : decode cL_outcome 7 = .ok (.i2l, 1) := by decide +kernel
theorem dL_outcome_8 : decode cL_outcome 8 = .ok (.lastore, 1) := by decide +kernel
theorem dL_outcome_9 : decode cL_outcome 9 = .ok (.goto 6, 3) := by decide +kernel
theorem dL_outcome_12 : decode cL_outcome 12 = .ok (.astore_n 3, 1) := by decide +kernel
theorem dL_outcome_13 : decode cL_outcome 13 = .ok (.iconst 1, 1) := by decide +kernel
theorem dL_outcome_14 : decode cL_outcome 14 = .ok (.ireturn, 1) := by decide +kernel
theorem dL_outcome_15 : decode cL_outcome 15 = .ok (.iconst 0, 1) := by decide +kernel
theorem dL_outcome_16 : decode cL_outcome 16 = .ok (.ireturn, 1) := by decide +kernel
theorem dL_outcomeByStores_0 : decode cL_outcomeByStores 0 = .ok (.aload_n 2, 1) := by decide +kernel
theorem dL_outcomeByStores_1 : decode cL_outcomeByStores 1 = .ok (.iconst 0, 1) := by decide +kernel
theorem dL_outcomeByStores_2 : decode cL_outcomeByStores 2 = .ok (.aload_n 0, 1) := by decide +kernel
theorem dL_outcomeByStores_3 : decode cL_outcomeByStores 3 = .ok (.iload_n 1, 1) := by decide +kernel
theorem dL_outcomeByStores_4 : decode cL_outcomeByStores 4 = .ok (.invokevirtual 80, 3) := by decide +kernel
theorem dL_outcomeByStores_7 : decode cL_outcomeByStores 7 = .ok (.i2l, 1) := by decide +kernel
theorem dL_outcomeByStores_8 : decode cL_outcomeByStores 8 = .ok (.lastore, 1) := by decide +kernel
theorem dL_outcomeByStores_9 : decode cL_outcomeByStores 9 = .ok (.goto 6, 3) := by decide +kernel
theorem dL_outcomeByStores_12 : decode cL_outcomeByStores 12 = .ok (.astore_n 3, 1) := by decide +kernel
theorem dL_outcomeByStores_13 : decode cL_outcomeByStores 13 = .ok (.iconst 1, 1) := by decide +kernel
theorem dL_outcomeByStores_14 : decode cL_outcomeByStores 14 = .ok (.ireturn, 1) := by decide +kernel
theorem dL_outcomeByStores_15 : decode cL_outcomeByStores 15 = .ok (.iconst 0, 1) := by decide +kernel
theorem dL_outcomeByStores_16 : decode cL_outcomeByStores 16 = .ok (.ireturn, 1) := by decide +kernel
theorem dL_hasEnded_0 : decode cL_hasEnded 0 = .ok (.aload_n 2, 1) := by decide +kernel
theorem dL_hasEnded_1 : decode cL_hasEnded 1 = .ok (.iconst 0, 1) := by decide +kernel
theorem dL_hasEnded_2 : decode cL_hasEnded 2 = .ok (.aload_n 0, 1) := by decide +kernel
theorem dL_hasEnded_3 : decode cL_hasEnded 3 = .ok (.iload_n 1, 1) := by decide +kernel
theorem dL_hasEnded_4 : decode cL_hasEnded 4 = .ok (.invokevirtual 83, 3) := by decide +kernel
theorem dL_hasEnded_7 : decode cL_hasEnded 7 = .ok (.ifCond .eq 7, 3) := by decide +kernel
theorem dL_hasEnded_10 : decode cL_hasEnded 10 = .ok (.lconst 1, 1) := by decide +kernel
theorem dL_hasEnded_11 : decode cL_hasEnded 11 = .ok (.goto 4, 3) := by decide +kernel
theorem dL_hasEnded_14 : decode cL_hasEnded 14 = .ok (.lconst 0, 1) := by decide +kernel
theorem dL_hasEnded_15 : decode cL_hasEnded 15 = .ok (.lastore, 1) := by decide +kernel
theorem dL_hasEnded_16 : decode cL_hasEnded 16 = .ok (.goto 6, 3) := by decide +kernel
theorem dL_hasEnded_19 : decode cL_hasEnded 19 = .ok (.astore_n 3, 1) := by decide +kernel
theorem dL_hasEnded_20 : decode cL_hasEnded 20 = .ok (.iconst 1, 1) := by decide +kernel
theorem dL_hasEnded_21 : decode cL_hasEnded 21 = .ok (.ireturn, 1) := by decide +kernel
theorem dL_hasEnded_22 : decode cL_hasEnded 22 = .ok (.iconst 0, 1) := by decide +kernel
theorem dL_hasEnded_23 : decode cL_hasEnded 23 = .ok (.ireturn, 1) := by decide +kernel
theorem dL_saidYes_0 : decode cL_saidYes 0 = .ok (.aload_n 2, 1) := by decide +kernel
theorem dL_saidYes_1 : decode cL_saidYes 1 = .ok (.iconst 0, 1) := by decide +kernel
theorem dL_saidYes_2 : decode cL_saidYes 2 = .ok (.aload_n 0, 1) := by decide +kernel
theorem dL_saidYes_3 : decode cL_saidYes 3 = .ok (.iload_n 1, 1) := by decide +kernel
theorem dL_saidYes_4 : decode cL_saidYes 4 = .ok (.invokevirtual 86, 3) := by decide +kernel
theorem dL_saidYes_7 : decode cL_saidYes 7 = .ok (.i2l, 1) := by decide +kernel
theorem dL_saidYes_8 : decode cL_saidYes 8 = .ok (.lastore, 1) := by decide +kernel
theorem dL_saidYes_9 : decode cL_saidYes 9 = .ok (.goto 6, 3) := by decide +kernel
theorem dL_saidYes_12 : decode cL_saidYes 12 = .ok (.astore_n 3, 1) := by decide +kernel
theorem dL_saidYes_13 : decode cL_saidYes 13 = .ok (.iconst 1, 1) := by decide +kernel
theorem dL_saidYes_14 : decode cL_saidYes 14 = .ok (.ireturn, 1) := by decide +kernel
theorem dL_saidYes_15 : decode cL_saidYes 15 = .ok (.iconst 0, 1) := by decide +kernel
theorem dL_saidYes_16 : decode cL_saidYes 16 = .ok (.ireturn, 1) := by decide +kernel
theorem dL_saidDone_0 : decode cL_saidDone 0 = .ok (.aload_n 2, 1) := by decide +kernel
theorem dL_saidDone_1 : decode cL_saidDone 1 = .ok (.iconst 0, 1) := by decide +kernel
theorem dL_saidDone_2 : decode cL_saidDone 2 = .ok (.aload_n 0, 1) := by decide +kernel
theorem dL_saidDone_3 : decode cL_saidDone 3 = .ok (.iload_n 1, 1) := by decide +kernel
theorem dL_saidDone_4 : decode cL_saidDone 4 = .ok (.invokevirtual 89, 3) := by decide +kernel
theorem dL_saidDone_7 : decode cL_saidDone 7 = .ok (.i2l, 1) := by decide +kernel
theorem dL_saidDone_8 : decode cL_saidDone 8 = .ok (.lastore, 1) := by decide +kernel
theorem dL_saidDone_9 : decode cL_saidDone 9 = .ok (.goto 6, 3) := by decide +kernel
theorem dL_saidDone_12 : decode cL_saidDone 12 = .ok (.astore_n 3, 1) := by decide +kernel
theorem dL_saidDone_13 : decode cL_saidDone 13 = .ok (.iconst 1, 1) := by decide +kernel
theorem dL_saidDone_14 : decode cL_saidDone 14 = .ok (.ireturn, 1) := by decide +kernel
theorem dL_saidDone_15 : decode cL_saidDone 15 = .ok (.iconst 0, 1) := by decide +kernel
theorem dL_saidDone_16 : decode cL_saidDone 16 = .ok (.ireturn, 1) := by decide +kernel
theorem dL_records_0 : decode cL_records 0 = .ok (.aload_n 2, 1) := by decide +kernel
theorem dL_records_1 : decode cL_records 1 = .ok (.iconst 0, 1) := by decide +kernel
theorem dL_records_2 : decode cL_records 2 = .ok (.aload_n 0, 1) := by decide +kernel
theorem dL_records_3 : decode cL_records 3 = .ok (.iload_n 1, 1) := by decide +kernel
theorem dL_records_4 : decode cL_records 4 = .ok (.invokevirtual 92, 3) := by decide +kernel
theorem dL_records_7 : decode cL_records 7 = .ok (.i2l, 1) := by decide +kernel
theorem dL_records_8 : decode cL_records 8 = .ok (.lastore, 1) := by decide +kernel
theorem dL_records_9 : decode cL_records 9 = .ok (.goto 6, 3) := by decide +kernel
theorem dL_records_12 : decode cL_records 12 = .ok (.astore_n 3, 1) := by decide +kernel
theorem dL_records_13 : decode cL_records 13 = .ok (.iconst 1, 1) := by decide +kernel
theorem dL_records_14 : decode cL_records 14 = .ok (.ireturn, 1) := by decide +kernel
theorem dL_records_15 : decode cL_records 15 = .ok (.iconst 0, 1) := by decide +kernel
theorem dL_records_16 : decode cL_records 16 = .ok (.ireturn, 1) := by decide +kernel
theorem dL_recordKind_0 : decode cL_recordKind 0 = .ok (.aload_n 3, 1) := by decide +kernel
theorem dL_recordKind_1 : decode cL_recordKind 1 = .ok (.iconst 0, 1) := by decide +kernel
theorem dL_recordKind_2 : decode cL_recordKind 2 = .ok (.aload_n 0, 1) := by decide +kernel
theorem dL_recordKind_3 : decode cL_recordKind 3 = .ok (.iload_n 1, 1) := by decide +kernel
theorem dL_recordKind_4 : decode cL_recordKind 4 = .ok (.iload_n 2, 1) := by decide +kernel
theorem dL_recordKind_5 : decode cL_recordKind 5 = .ok (.invokevirtual 95, 3) := by decide +kernel
theorem dL_recordKind_8 : decode cL_recordKind 8 = .ok (.i2l, 1) := by decide +kernel
theorem dL_recordKind_9 : decode cL_recordKind 9 = .ok (.lastore, 1) := by decide +kernel
theorem dL_recordKind_10 : decode cL_recordKind 10 = .ok (.goto 7, 3) := by decide +kernel
theorem dL_recordKind_13 : decode cL_recordKind 13 = .ok (.astore 4, 2) := by decide +kernel
theorem dL_recordKind_15 : decode cL_recordKind 15 = .ok (.iconst 1, 1) := by decide +kernel
theorem dL_recordKind_16 : decode cL_recordKind 16 = .ok (.ireturn, 1) := by decide +kernel
theorem dL_recordKind_17 : decode cL_recordKind 17 = .ok (.iconst 0, 1) := by decide +kernel
theorem dL_recordKind_18 : decode cL_recordKind 18 = .ok (.ireturn, 1) := by decide +kernel
theorem dL_recordTransfer_0 : decode cL_recordTransfer 0 = .ok (.aload_n 3, 1) := by decide +kernel
theorem dL_recordTransfer_1 : decode cL_recordTransfer 1 = .ok (.iconst 0, 1) := by decide +kernel
theorem dL_recordTransfer_2 : decode cL_recordTransfer 2 = .ok (.aload_n 0, 1) := by decide +kernel
theorem dL_recordTransfer_3 : decode cL_recordTransfer 3 = .ok (.iload_n 1, 1) := by decide +kernel
theorem dL_recordTransfer_4 : decode cL_recordTransfer 4 = .ok (.iload_n 2, 1) := by decide +kernel
theorem dL_recordTransfer_5 : decode cL_recordTransfer 5 = .ok (.invokevirtual 98, 3) := by decide +kernel
theorem dL_recordTransfer_8 : decode cL_recordTransfer 8 = .ok (.i2l, 1) := by decide +kernel
theorem dL_recordTransfer_9 : decode cL_recordTransfer 9 = .ok (.lastore, 1) := by decide +kernel
theorem dL_recordTransfer_10 : decode cL_recordTransfer 10 = .ok (.goto 7, 3) := by decide +kernel
theorem dL_recordTransfer_13 : decode cL_recordTransfer 13 = .ok (.astore 4, 2) := by decide +kernel
theorem dL_recordTransfer_15 : decode cL_recordTransfer 15 = .ok (.iconst 1, 1) := by decide +kernel
theorem dL_recordTransfer_16 : decode cL_recordTransfer 16 = .ok (.ireturn, 1) := by decide +kernel
theorem dL_recordTransfer_17 : decode cL_recordTransfer 17 = .ok (.iconst 0, 1) := by decide +kernel
theorem dL_recordTransfer_18 : decode cL_recordTransfer 18 = .ok (.ireturn, 1) := by decide +kernel
theorem dL_kindOf_0 : decode cL_kindOf 0 = .ok (.aload_n 2, 1) := by decide +kernel
theorem dL_kindOf_1 : decode cL_kindOf 1 = .ok (.iconst 0, 1) := by decide +kernel
theorem dL_kindOf_2 : decode cL_kindOf 2 = .ok (.aload_n 0, 1) := by decide +kernel
theorem dL_kindOf_3 : decode cL_kindOf 3 = .ok (.iload_n 1, 1) := by decide +kernel
theorem dL_kindOf_4 : decode cL_kindOf 4 = .ok (.invokevirtual 101, 3) := by decide +kernel
theorem dL_kindOf_7 : decode cL_kindOf 7 = .ok (.i2l, 1) := by decide +kernel
theorem dL_kindOf_8 : decode cL_kindOf 8 = .ok (.lastore, 1) := by decide +kernel
theorem dL_kindOf_9 : decode cL_kindOf 9 = .ok (.goto 6, 3) := by decide +kernel
theorem dL_kindOf_12 : decode cL_kindOf 12 = .ok (.astore_n 3, 1) := by decide +kernel
theorem dL_kindOf_13 : decode cL_kindOf 13 = .ok (.iconst 1, 1) := by decide +kernel
theorem dL_kindOf_14 : decode cL_kindOf 14 = .ok (.ireturn, 1) := by decide +kernel
theorem dL_kindOf_15 : decode cL_kindOf 15 = .ok (.iconst 0, 1) := by decide +kernel
theorem dL_kindOf_16 : decode cL_kindOf 16 = .ok (.ireturn, 1) := by decide +kernel
theorem dL_transferOf_0 : decode cL_transferOf 0 = .ok (.aload_n 2, 1) := by decide +kernel
theorem dL_transferOf_1 : decode cL_transferOf 1 = .ok (.iconst 0, 1) := by decide +kernel
theorem dL_transferOf_2 : decode cL_transferOf 2 = .ok (.aload_n 0, 1) := by decide +kernel
theorem dL_transferOf_3 : decode cL_transferOf 3 = .ok (.iload_n 1, 1) := by decide +kernel
theorem dL_transferOf_4 : decode cL_transferOf 4 = .ok (.invokevirtual 104, 3) := by decide +kernel
theorem dL_transferOf_7 : decode cL_transferOf 7 = .ok (.i2l, 1) := by decide +kernel
theorem dL_transferOf_8 : decode cL_transferOf 8 = .ok (.lastore, 1) := by decide +kernel
theorem dL_transferOf_9 : decode cL_transferOf 9 = .ok (.goto 6, 3) := by decide +kernel
theorem dL_transferOf_12 : decode cL_transferOf 12 = .ok (.astore_n 3, 1) := by decide +kernel
theorem dL_transferOf_13 : decode cL_transferOf 13 = .ok (.iconst 1, 1) := by decide +kernel
theorem dL_transferOf_14 : decode cL_transferOf 14 = .ok (.ireturn, 1) := by decide +kernel
theorem dL_transferOf_15 : decode cL_transferOf 15 = .ok (.iconst 0, 1) := by decide +kernel
theorem dL_transferOf_16 : decode cL_transferOf 16 = .ok (.ireturn, 1) := by decide +kernel
theorem dL_storeOf_0 : decode cL_storeOf 0 = .ok (.aload_n 2, 1) := by decide +kernel
theorem dL_storeOf_1 : decode cL_storeOf 1 = .ok (.iconst 0, 1) := by decide +kernel
theorem dL_storeOf_2 : decode cL_storeOf 2 = .ok (.aload_n 0, 1) := by decide +kernel
theorem dL_storeOf_3 : decode cL_storeOf 3 = .ok (.iload_n 1, 1) := by decide +kernel
theorem dL_storeOf_4 : decode cL_storeOf 4 = .ok (.invokevirtual 107, 3) := by decide +kernel
theorem dL_storeOf_7 : decode cL_storeOf 7 = .ok (.i2l, 1) := by decide +kernel
theorem dL_storeOf_8 : decode cL_storeOf 8 = .ok (.lastore, 1) := by decide +kernel
theorem dL_storeOf_9 : decode cL_storeOf 9 = .ok (.goto 6, 3) := by decide +kernel
theorem dL_storeOf_12 : decode cL_storeOf 12 = .ok (.astore_n 3, 1) := by decide +kernel
theorem dL_storeOf_13 : decode cL_storeOf 13 = .ok (.iconst 1, 1) := by decide +kernel
theorem dL_storeOf_14 : decode cL_storeOf 14 = .ok (.ireturn, 1) := by decide +kernel
theorem dL_storeOf_15 : decode cL_storeOf 15 = .ok (.iconst 0, 1) := by decide +kernel
theorem dL_storeOf_16 : decode cL_storeOf 16 = .ok (.ireturn, 1) := by decide +kernel
theorem dL_wouldSend_0 : decode cL_wouldSend 0 = .ok (.aload_n 2, 1) := by decide +kernel
theorem dL_wouldSend_1 : decode cL_wouldSend 1 = .ok (.iconst 0, 1) := by decide +kernel
theorem dL_wouldSend_2 : decode cL_wouldSend 2 = .ok (.aload_n 0, 1) := by decide +kernel
theorem dL_wouldSend_3 : decode cL_wouldSend 3 = .ok (.iload_n 1, 1) := by decide +kernel
theorem dL_wouldSend_4 : decode cL_wouldSend 4 = .ok (.invokevirtual 110, 3) := by decide +kernel
theorem dL_wouldSend_7 : decode cL_wouldSend 7 = .ok (.i2l, 1) := by decide +kernel
theorem dL_wouldSend_8 : decode cL_wouldSend 8 = .ok (.lastore, 1) := by decide +kernel
theorem dL_wouldSend_9 : decode cL_wouldSend 9 = .ok (.goto 6, 3) := by decide +kernel
theorem dL_wouldSend_12 : decode cL_wouldSend 12 = .ok (.astore_n 3, 1) := by decide +kernel
theorem dL_wouldSend_13 : decode cL_wouldSend 13 = .ok (.iconst 1, 1) := by decide +kernel
theorem dL_wouldSend_14 : decode cL_wouldSend 14 = .ok (.ireturn, 1) := by decide +kernel
theorem dL_wouldSend_15 : decode cL_wouldSend 15 = .ok (.iconst 0, 1) := by decide +kernel
theorem dL_wouldSend_16 : decode cL_wouldSend 16 = .ok (.ireturn, 1) := by decide +kernel
theorem dL_outcomeIfSettled_0 : decode cL_outcomeIfSettled 0 = .ok (.aload_n 2, 1) := by decide +kernel
theorem dL_outcomeIfSettled_1 : decode cL_outcomeIfSettled 1 = .ok (.iconst 0, 1) := by decide +kernel
theorem dL_outcomeIfSettled_2 : decode cL_outcomeIfSettled 2 = .ok (.aload_n 0, 1) := by decide +kernel
theorem dL_outcomeIfSettled_3 : decode cL_outcomeIfSettled 3 = .ok (.iload_n 1, 1) := by decide +kernel
theorem dL_outcomeIfSettled_4 : decode cL_outcomeIfSettled 4 = .ok (.invokevirtual 113, 3) := by decide +kernel
theorem dL_outcomeIfSettled_7 : decode cL_outcomeIfSettled 7 = .ok (.i2l, 1) := by decide +kernel
theorem dL_outcomeIfSettled_8 : decode cL_outcomeIfSettled 8 = .ok (.lastore, 1) := by decide +kernel
theorem dL_outcomeIfSettled_9 : decode cL_outcomeIfSettled 9 = .ok (.goto 6, 3) := by decide +kernel
theorem dL_outcomeIfSettled_12 : decode cL_outcomeIfSettled 12 = .ok (.astore_n 3, 1) := by decide +kernel
theorem dL_outcomeIfSettled_13 : decode cL_outcomeIfSettled 13 = .ok (.iconst 1, 1) := by decide +kernel
theorem dL_outcomeIfSettled_14 : decode cL_outcomeIfSettled 14 = .ok (.ireturn, 1) := by decide +kernel
theorem dL_outcomeIfSettled_15 : decode cL_outcomeIfSettled 15 = .ok (.iconst 0, 1) := by decide +kernel
theorem dL_outcomeIfSettled_16 : decode cL_outcomeIfSettled 16 = .ok (.ireturn, 1) := by decide +kernel
theorem dL_amountIfSettled_0 : decode cL_amountIfSettled 0 = .ok (.aload_n 2, 1) := by decide +kernel
theorem dL_amountIfSettled_1 : decode cL_amountIfSettled 1 = .ok (.iconst 0, 1) := by decide +kernel
theorem dL_amountIfSettled_2 : decode cL_amountIfSettled 2 = .ok (.aload_n 0, 1) := by decide +kernel
theorem dL_amountIfSettled_3 : decode cL_amountIfSettled 3 = .ok (.iload_n 1, 1) := by decide +kernel
theorem dL_amountIfSettled_4 : decode cL_amountIfSettled 4 = .ok (.invokevirtual 116, 3) := by decide +kernel
theorem dL_amountIfSettled_7 : decode cL_amountIfSettled 7 = .ok (.i2l, 1) := by decide +kernel
theorem dL_amountIfSettled_8 : decode cL_amountIfSettled 8 = .ok (.lastore, 1) := by decide +kernel
theorem dL_amountIfSettled_9 : decode cL_amountIfSettled 9 = .ok (.goto 6, 3) := by decide +kernel
theorem dL_amountIfSettled_12 : decode cL_amountIfSettled 12 = .ok (.astore_n 3, 1) := by decide +kernel
theorem dL_amountIfSettled_13 : decode cL_amountIfSettled 13 = .ok (.iconst 1, 1) := by decide +kernel
theorem dL_amountIfSettled_14 : decode cL_amountIfSettled 14 = .ok (.ireturn, 1) := by decide +kernel
theorem dL_amountIfSettled_15 : decode cL_amountIfSettled 15 = .ok (.iconst 0, 1) := by decide +kernel
theorem dL_amountIfSettled_16 : decode cL_amountIfSettled 16 = .ok (.ireturn, 1) := by decide +kernel
theorem dL_greatestSize_0 : decode cL_greatestSize 0 = .ok (.aload_n 3, 1) := by decide +kernel
theorem dL_greatestSize_1 : decode cL_greatestSize 1 = .ok (.iconst 0, 1) := by decide +kernel
theorem dL_greatestSize_2 : decode cL_greatestSize 2 = .ok (.aload_n 0, 1) := by decide +kernel
theorem dL_greatestSize_3 : decode cL_greatestSize 3 = .ok (.iload_n 1, 1) := by decide +kernel
theorem dL_greatestSize_4 : decode cL_greatestSize 4 = .ok (.iload_n 2, 1) := by decide +kernel
theorem dL_greatestSize_5 : decode cL_greatestSize 5 = .ok (.invokevirtual 119, 3) := by decide +kernel
theorem dL_greatestSize_8 : decode cL_greatestSize 8 = .ok (.i2l, 1) := by decide +kernel
theorem dL_greatestSize_9 : decode cL_greatestSize 9 = .ok (.lastore, 1) := by decide +kernel
theorem dL_greatestSize_10 : decode cL_greatestSize 10 = .ok (.goto 11, 3) := by decide +kernel
theorem dL_greatestSize_13 : decode cL_greatestSize 13 = .ok (.astore 4, 2) := by decide +kernel
theorem dL_greatestSize_15 : decode cL_greatestSize 15 = .ok (.iconst 1, 1) := by decide +kernel
theorem dL_greatestSize_16 : decode cL_greatestSize 16 = .ok (.ireturn, 1) := by decide +kernel
theorem dL_greatestSize_17 : decode cL_greatestSize 17 = .ok (.astore 4, 2) := by decide +kernel
theorem dL_greatestSize_19 : decode cL_greatestSize 19 = .ok (.iconst 2, 1) := by decide +kernel
theorem dL_greatestSize_20 : decode cL_greatestSize 20 = .ok (.ireturn, 1) := by decide +kernel
theorem dL_greatestSize_21 : decode cL_greatestSize 21 = .ok (.iconst 0, 1) := by decide +kernel
theorem dL_greatestSize_22 : decode cL_greatestSize 22 = .ok (.ireturn, 1) := by decide +kernel
theorem dL_law_0 : decode cL_law 0 = .ok (.new 8, 3) := by decide +kernel
theorem dL_law_3 : decode cL_law 3 = .ok (.dup, 1) := by decide +kernel
theorem dL_law_4 : decode cL_law 4 = .ok (.invokespecial 122, 3) := by decide +kernel
theorem dL_law_7 : decode cL_law 7 = .ok (.astore_n 1, 1) := by decide +kernel
theorem dL_law_8 : decode cL_law 8 = .ok (.new 123, 3) := by decide +kernel
theorem dL_law_11 : decode cL_law 11 = .ok (.dup, 1) := by decide +kernel
theorem dL_law_12 : decode cL_law 12 = .ok (.invokespecial 125, 3) := by decide +kernel
theorem dL_law_15 : decode cL_law 15 = .ok (.astore_n 2, 1) := by decide +kernel
theorem dL_law_16 : decode cL_law 16 = .ok (.iconst 1, 1) := by decide +kernel
theorem dL_law_17 : decode cL_law 17 = .ok (.newarray .long, 2) := by decide +kernel
theorem dL_law_19 : decode cL_law 19 = .ok (.astore_n 3, 1) := by decide +kernel
theorem dL_law_20 : decode cL_law 20 = .ok (.iconst 0, 1) := by decide +kernel
theorem dL_law_21 : decode cL_law 21 = .ok (.istore 4, 2) := by decide +kernel
theorem dL_law_23 : decode cL_law 23 = .ok (.iload 4, 2) := by decide +kernel
theorem dL_law_25 : decode cL_law 25 = .ok (.aload_n 0, 1) := by decide +kernel
theorem dL_law_26 : decode cL_law 26 = .ok (.arraylength, 1) := by decide +kernel
theorem dL_law_27 : decode cL_law 27 = .ok (.iconst 4, 1) := by decide +kernel
theorem dL_law_28 : decode cL_law 28 = .ok (.isub, 1) := by decide +kernel
theorem dL_law_29 : decode cL_law 29 = .ok (.if_icmp .gt 2476, 3) := by decide +kernel
theorem dL_law_32 : decode cL_law 32 = .ok (.aload_n 0, 1) := by decide +kernel
theorem dL_law_33 : decode cL_law 33 = .ok (.iload 4, 2) := by decide +kernel
theorem dL_law_35 : decode cL_law 35 = .ok (.iaload, 1) := by decide +kernel
theorem dL_law_36 : decode cL_law 36 = .ok (.bipush 63, 2) := by decide +kernel
theorem dL_law_38 : decode cL_law 38 = .ok (.iand, 1) := by decide +kernel
theorem dL_law_39 : decode cL_law 39 = .ok (.tableswitch 2460 0 48 #[209, 289, 345, 413, 476, 489, 545, 601, 657, 713, 726, 739, 783, 796, 840, 884, 897, 953, 1021, 1084, 1140, 1196, 1264, 1332, 1388, 1444, 1500, 1563, 1619, 1675, 1688, 1701, 1757, 1825, 1893, 1906, 1962, 2018, 2074, 2087, 2100, 2113, 2169, 2182, 2238, 2294, 2362, 2403, 2446], 209) := by decide +kernel
theorem dL_law_248 : decode cL_law 248 = .ok (.aload_n 1, 1) := by decide +kernel
theorem dL_law_249 : decode cL_law 249 = .ok (.aload_n 0, 1) := by decide +kernel
theorem dL_law_250 : decode cL_law 250 = .ok (.iload 4, 2) := by decide +kernel
theorem dL_law_252 : decode cL_law 252 = .ok (.iconst 1, 1) := by decide +kernel
theorem dL_law_253 : decode cL_law 253 = .ok (.iadd, 1) := by decide +kernel
theorem dL_law_254 : decode cL_law 254 = .ok (.iaload, 1) := by decide +kernel
theorem dL_law_255 : decode cL_law 255 = .ok (.aload_n 0, 1) := by decide +kernel
theorem dL_law_256 : decode cL_law 256 = .ok (.iload 4, 2) := by decide +kernel
theorem dL_law_258 : decode cL_law 258 = .ok (.iconst 2, 1) := by decide +kernel
theorem dL_law_259 : decode cL_law 259 = .ok (.iadd, 1) := by decide +kernel
theorem dL_law_260 : decode cL_law 260 = .ok (.iaload, 1) := by decide +kernel
theorem dL_law_261 : decode cL_law 261 = .ok (.aload_n 0, 1) := by decide +kernel
theorem dL_law_262 : decode cL_law 262 = .ok (.iload 4, 2) := by decide +kernel
theorem dL_law_264 : decode cL_law 264 = .ok (.iconst 3, 1) := by decide +kernel
theorem dL_law_265 : decode cL_law 265 = .ok (.iadd, 1) := by decide +kernel
theorem dL_law_266 : decode cL_law 266 = .ok (.iaload, 1) := by decide +kernel
theorem dL_law_267 : decode cL_law 267 = .ok (.aload_n 3, 1) := by decide +kernel
theorem dL_law_268 : decode cL_law 268 = .ok (.invokestatic 126, 3) := by decide +kernel
theorem dL_law_271 : decode cL_law 271 = .ok (.istore 5, 2) := by decide +kernel
theorem dL_law_273 : decode cL_law 273 = .ok (.aload_n 2, 1) := by decide +kernel
theorem dL_law_274 : decode cL_law 274 = .ok (.aload_n 0, 1) := by decide +kernel
theorem dL_law_275 : decode cL_law 275 = .ok (.iload 4, 2) := by decide +kernel
theorem dL_law_277 : decode cL_law 277 = .ok (.iconst 1, 1) := by decide +kernel
theorem dL_law_278 : decode cL_law 278 = .ok (.iadd, 1) := by decide +kernel
theorem dL_law_279 : decode cL_law 279 = .ok (.iaload, 1) := by decide +kernel
theorem dL_law_280 : decode cL_law 280 = .ok (.aload_n 0, 1) := by decide +kernel
theorem dL_law_281 : decode cL_law 281 = .ok (.iload 4, 2) := by decide +kernel
theorem dL_law_283 : decode cL_law 283 = .ok (.iconst 2, 1) := by decide +kernel
theorem dL_law_284 : decode cL_law 284 = .ok (.iadd, 1) := by decide +kernel
theorem dL_law_285 : decode cL_law 285 = .ok (.iaload, 1) := by decide +kernel
theorem dL_law_286 : decode cL_law 286 = .ok (.aload_n 0, 1) := by decide +kernel
theorem dL_law_287 : decode cL_law 287 = .ok (.iload 4, 2) := by decide +kernel
theorem dL_law_289 : decode cL_law 289 = .ok (.iconst 3, 1) := by decide +kernel
theorem dL_law_290 : decode cL_law 290 = .ok (.iadd, 1) := by decide +kernel
theorem dL_law_291 : decode cL_law 291 = .ok (.iaload, 1) := by decide +kernel
theorem dL_law_292 : decode cL_law 292 = .ok (.invokevirtual 131, 3) := by decide +kernel
theorem dL_law_295 : decode cL_law 295 = .ok (.istore 6, 2) := by decide +kernel
theorem dL_law_297 : decode cL_law 297 = .ok (.aload_n 2, 1) := by decide +kernel
theorem dL_law_298 : decode cL_law 298 = .ok (.invokevirtual 132, 3) := by decide +kernel
theorem dL_law_301 : decode cL_law 301 = .ok (.iload 5, 2) := by decide +kernel
theorem dL_law_303 : decode cL_law 303 = .ok (.if_icmp .eq 5, 3) := by decide +kernel
theorem dL_law_306 : decode cL_law 306 = .ok (.iconst 0, 1) := by decide +kernel
theorem dL_law_307 : decode cL_law 307 = .ok (.ireturn, 1) := by decide +kernel
theorem dL_law_308 : decode cL_law 308 = .ok (.iload 5, 2) := by decide +kernel
theorem dL_law_310 : decode cL_law 310 = .ok (.ifCond .ne 15, 3) := by decide +kernel
theorem dL_law_313 : decode cL_law 313 = .ok (.aload_n 3, 1) := by decide +kernel
theorem dL_law_314 : decode cL_law 314 = .ok (.iconst 0, 1) := by decide +kernel
theorem dL_law_315 : decode cL_law 315 = .ok (.laload, 1) := by decide +kernel
theorem dL_law_316 : decode cL_law 316 = .ok (.iload 6, 2) := by decide +kernel
theorem dL_law_318 : decode cL_law 318 = .ok (.i2l, 1) := by decide +kernel
theorem dL_law_319 : decode cL_law 319 = .ok (.lcmp, 1) := by decide +kernel
theorem dL_law_320 : decode cL_law 320 = .ok (.ifCond .eq 5, 3) := by decide +kernel
theorem dL_law_323 : decode cL_law 323 = .ok (.iconst 0, 1) := by decide +kernel
theorem dL_law_324 : decode cL_law 324 = .ok (.ireturn, 1) := by decide +kernel
theorem dL_law_325 : decode cL_law 325 = .ok (.goto 2174, 3) := by decide +kernel
theorem dL_law_328 : decode cL_law 328 = .ok (.aload_n 1, 1) := by decide +kernel
theorem dL_law_329 : decode cL_law 329 = .ok (.aload_n 0, 1) := by decide +kernel
theorem dL_law_330 : decode cL_law 330 = .ok (.iload 4, 2) := by decide +kernel
theorem dL_law_332 : decode cL_law 332 = .ok (.iconst 1, 1) := by decide +kernel
theorem dL_law_333 : decode cL_law 333 = .ok (.iadd, 1) := by decide +kernel
theorem dL_law_334 : decode cL_law 334 = .ok (.iaload, 1) := by decide +kernel
theorem dL_law_335 : decode cL_law 335 = .ok (.aload_n 3, 1) := by decide +kernel
theorem dL_law_336 : decode cL_law 336 = .ok (.invokestatic 135, 3) := by decide +kernel
theorem dL_law_339 : decode cL_law 339 = .ok (.istore 5, 2) := by decide +kernel
theorem dL_law_341 : decode cL_law 341 = .ok (.aload_n 2, 1) := by decide +kernel
theorem dL_law_342 : decode cL_law 342 = .ok (.aload_n 0, 1) := by decide +kernel
theorem dL_law_343 : decode cL_law 343 = .ok (.iload 4, 2) := by decide +kernel
theorem dL_law_345 : decode cL_law 345 = .ok (.iconst 1, 1) := by decide +kernel
theorem dL_law_346 : decode cL_law 346 = .ok (.iadd, 1) := by decide +kernel
theorem dL_law_347 : decode cL_law 347 = .ok (.iaload, 1) := by decide +kernel
theorem dL_law_348 : decode cL_law 348 = .ok (.invokevirtual 138, 3) := by decide +kernel
theorem dL_law_351 : decode cL_law 351 = .ok (.istore 6, 2) := by decide +kernel
theorem dL_law_353 : decode cL_law 353 = .ok (.aload_n 2, 1) := by decide +kernel
theorem dL_law_354 : decode cL_law 354 = .ok (.invokevirtual 132, 3) := by decide +kernel
theorem dL_law_357 : decode cL_law 357 = .ok (.iload 5, 2) := by decide +kernel
theorem dL_law_359 : decode cL_law 359 = .ok (.if_icmp .eq 5, 3) := by decide +kernel
theorem dL_law_362 : decode cL_law 362 = .ok (.iconst 0, 1) := by decide +kernel
theorem dL_law_363 : decode cL_law 363 = .ok (.ireturn, 1) := by decide +kernel
theorem dL_law_364 : decode cL_law 364 = .ok (.iload 5, 2) := by decide +kernel
theorem dL_law_366 : decode cL_law 366 = .ok (.ifCond .ne 15, 3) := by decide +kernel
theorem dL_law_369 : decode cL_law 369 = .ok (.aload_n 3, 1) := by decide +kernel
theorem dL_law_370 : decode cL_law 370 = .ok (.iconst 0, 1) := by decide +kernel
theorem dL_law_371 : decode cL_law 371 = .ok (.laload, 1) := by decide +kernel
theorem dL_law_372 : decode cL_law 372 = .ok (.iload 6, 2) := by decide +kernel
theorem dL_law_374 : decode cL_law 374 = .ok (.i2l, 1) := by decide +kernel
theorem dL_law_375 : decode cL_law 375 = .ok (.lcmp, 1) := by decide +kernel
theorem dL_law_376 : decode cL_law 376 = .ok (.ifCond .eq 5, 3) := by decide +kernel
theorem dL_law_379 : decode cL_law 379 = .ok (.iconst 0, 1) := by decide +kernel
theorem dL_law_380 : decode cL_law 380 = .ok (.ireturn, 1) := by decide +kernel
theorem dL_law_381 : decode cL_law 381 = .ok (.goto 2118, 3) := by decide +kernel
theorem dL_law_384 : decode cL_law 384 = .ok (.aload_n 1, 1) := by decide +kernel
theorem dL_law_385 : decode cL_law 385 = .ok (.aload_n 0, 1) := by decide +kernel
theorem dL_law_386 : decode cL_law 386 = .ok (.iload 4, 2) := by decide +kernel
theorem dL_law_388 : decode cL_law 388 = .ok (.iconst 1, 1) := by decide +kernel
theorem dL_law_389 : decode cL_law 389 = .ok (.iadd, 1) := by decide +kernel
theorem dL_law_390 : decode cL_law 390 = .ok (.iaload, 1) := by decide +kernel
theorem dL_law_391 : decode cL_law 391 = .ok (.aload_n 0, 1) := by decide +kernel
theorem dL_law_392 : decode cL_law 392 = .ok (.iload 4, 2) := by decide +kernel
theorem dL_law_394 : decode cL_law 394 = .ok (.iconst 2, 1) := by decide +kernel
theorem dL_law_395 : decode cL_law 395 = .ok (.iadd, 1) := by decide +kernel
theorem dL_law_396 : decode cL_law 396 = .ok (.iaload, 1) := by decide +kernel
theorem dL_law_397 : decode cL_law 397 = .ok (.aload_n 3, 1) := by decide +kernel
theorem dL_law_398 : decode cL_law 398 = .ok (.invokestatic 139, 3) := by decide +kernel
theorem dL_law_401 : decode cL_law 401 = .ok (.istore 5, 2) := by decide +kernel
theorem dL_law_403 : decode cL_law 403 = .ok (.aload_n 2, 1) := by decide +kernel
theorem dL_law_404 : decode cL_law 404 = .ok (.aload_n 0, 1) := by decide +kernel
theorem dL_law_405 : decode cL_law 405 = .ok (.iload 4, 2) := by decide +kernel
theorem dL_law_407 : decode cL_law 407 = .ok (.iconst 1, 1) := by decide +kernel
theorem dL_law_408 : decode cL_law 408 = .ok (.iadd, 1) := by decide +kernel
theorem dL_law_409 : decode cL_law 409 = .ok (.iaload, 1) := by decide +kernel
theorem dL_law_410 : decode cL_law 410 = .ok (.aload_n 0, 1) := by decide +kernel
theorem dL_law_411 : decode cL_law 411 = .ok (.iload 4, 2) := by decide +kernel
theorem dL_law_413 : decode cL_law 413 = .ok (.iconst 2, 1) := by decide +kernel
theorem dL_law_414 : decode cL_law 414 = .ok (.iadd, 1) := by decide +kernel
theorem dL_law_415 : decode cL_law 415 = .ok (.iaload, 1) := by decide +kernel
theorem dL_law_416 : decode cL_law 416 = .ok (.invokevirtual 142, 3) := by decide +kernel
theorem dL_law_419 : decode cL_law 419 = .ok (.istore 6, 2) := by decide +kernel
theorem dL_law_421 : decode cL_law 421 = .ok (.aload_n 2, 1) := by decide +kernel
theorem dL_law_422 : decode cL_law 422 = .ok (.invokevirtual 132, 3) := by decide +kernel
theorem dL_law_425 : decode cL_law 425 = .ok (.iload 5, 2) := by decide +kernel
theorem dL_law_427 : decode cL_law 427 = .ok (.if_icmp .eq 5, 3) := by decide +kernel
theorem dL_law_430 : decode cL_law 430 = .ok (.iconst 0, 1) := by decide +kernel
theorem dL_law_431 : decode cL_law 431 = .ok (.ireturn, 1) := by decide +kernel
theorem dL_law_432 : decode cL_law 432 = .ok (.iload 5, 2) := by decide +kernel
theorem dL_law_434 : decode cL_law 434 = .ok (.ifCond .ne 15, 3) := by decide +kernel
theorem dL_law_437 : decode cL_law 437 = .ok (.aload_n 3, 1) := by decide +kernel
theorem dL_law_438 : decode cL_law 438 = .ok (.iconst 0, 1) := by decide +kernel
theorem dL_law_439 : decode cL_law 439 = .ok (.laload, 1) := by decide +kernel
theorem dL_law_440 : decode cL_law 440 = .ok (.iload 6, 2) := by decide +kernel
theorem dL_law_442 : decode cL_law 442 = .ok (.i2l, 1) := by decide +kernel
theorem dL_law_443 : decode cL_law 443 = .ok (.lcmp, 1) := by decide +kernel
theorem dL_law_444 : decode cL_law 444 = .ok (.ifCond .eq 5, 3) := by decide +kernel
theorem dL_law_447 : decode cL_law 447 = .ok (.iconst 0, 1) := by decide +kernel
theorem dL_law_448 : decode cL_law 448 = .ok (.ireturn, 1) := by decide +kernel
theorem dL_law_449 : decode cL_law 449 = .ok (.goto 2050, 3) := by decide +kernel
theorem dL_law_452 : decode cL_law 452 = .ok (.aload_n 1, 1) := by decide +kernel
theorem dL_law_453 : decode cL_law 453 = .ok (.aload_n 0, 1) := by decide +kernel
theorem dL_law_454 : decode cL_law 454 = .ok (.iload 4, 2) := by decide +kernel
theorem dL_law_456 : decode cL_law 456 = .ok (.iconst 1, 1) := by decide +kernel
theorem dL_law_457 : decode cL_law 457 = .ok (.iadd, 1) := by decide +kernel
theorem dL_law_458 : decode cL_law 458 = .ok (.iaload, 1) := by decide +kernel
theorem dL_law_459 : decode cL_law 459 = .ok (.aload_n 3, 1) := by decide +kernel
theorem dL_law_460 : decode cL_law 460 = .ok (.invokestatic 143, 3) := by decide +kernel
theorem dL_law_463 : decode cL_law 463 = .ok (.istore 5, 2) := by decide +kernel
theorem dL_law_465 : decode cL_law 465 = .ok (.aload_n 2, 1) := by decide +kernel
theorem dL_law_466 : decode cL_law 466 = .ok (.aload_n 0, 1) := by decide +kernel
theorem dL_law_467 : decode cL_law 467 = .ok (.iload 4, 2) := by decide +kernel
theorem dL_law_469 : decode cL_law 469 = .ok (.iconst 1, 1) := by decide +kernel
theorem dL_law_470 : decode cL_law 470 = .ok (.iadd, 1) := by decide +kernel
theorem dL_law_471 : decode cL_law 471 = .ok (.iaload, 1) := by decide +kernel
theorem dL_law_472 : decode cL_law 472 = .ok (.invokevirtual 145, 3) := by decide +kernel
theorem dL_law_475 : decode cL_law 475 = .ok (.istore 6, 2) := by decide +kernel
theorem dL_law_477 : decode cL_law 477 = .ok (.aload_n 2, 1) := by decide +kernel
theorem dL_law_478 : decode cL_law 478 = .ok (.invokevirtual 132, 3) := by decide +kernel
theorem dL_law_481 : decode cL_law 481 = .ok (.iload 5, 2) := by decide +kernel
theorem dL_law_483 : decode cL_law 483 = .ok (.if_icmp .eq 5, 3) := by decide +kernel
theorem dL_law_486 : decode cL_law 486 = .ok (.iconst 0, 1) := by decide +kernel
theorem dL_law_487 : decode cL_law 487 = .ok (.ireturn, 1) := by decide +kernel
theorem dL_law_488 : decode cL_law 488 = .ok (.iload 5, 2) := by decide +kernel
theorem dL_law_490 : decode cL_law 490 = .ok (.ifCond .ne 22, 3) := by decide +kernel
theorem dL_law_493 : decode cL_law 493 = .ok (.aload_n 3, 1) := by decide +kernel
theorem dL_law_494 : decode cL_law 494 = .ok (.iconst 0, 1) := by decide +kernel
theorem dL_law_495 : decode cL_law 495 = .ok (.laload, 1) := by decide +kernel
theorem dL_law_496 : decode cL_law 496 = .ok (.iload 6, 2) := by decide +kernel
theorem dL_law_498 : decode cL_law 498 = .ok (.ifCond .eq 7, 3) := by decide +kernel
theorem dL_law_501 : decode cL_law 501 = .ok (.lconst 1, 1) := by decide +kernel
theorem dL_law_502 : decode cL_law 502 = .ok (.goto 4, 3) := by decide +kernel
theorem dL_law_505 : decode cL_law 505 = .ok (.lconst 0, 1) := by decide +kernel
theorem dL_law_506 : decode cL_law 506 = .ok (.lcmp, 1) := by decide +kernel
theorem dL_law_507 : decode cL_law 507 = .ok (.ifCond .eq 5, 3) := by decide +kernel
theorem dL_law_510 : decode cL_law 510 = .ok (.iconst 0, 1) := by decide +kernel
theorem dL_law_511 : decode cL_law 511 = .ok (.ireturn, 1) := by decide +kernel
theorem dL_law_512 : decode cL_law 512 = .ok (.goto 1987, 3) := by decide +kernel
theorem dL_law_515 : decode cL_law 515 = .ok (.aload_n 1, 1) := by decide +kernel
theorem dL_law_516 : decode cL_law 516 = .ok (.invokevirtual 146, 3) := by decide +kernel
theorem dL_law_519 : decode cL_law 519 = .ok (.aload_n 2, 1) := by decide +kernel
theorem dL_law_520 : decode cL_law 520 = .ok (.invokevirtual 149, 3) := by decide +kernel
theorem dL_law_523 : decode cL_law 523 = .ok (.if_icmp .eq 1976, 3) := by decide +kernel
theorem dL_law_526 : decode cL_law 526 = .ok (.iconst 0, 1) := by decide +kernel
theorem dL_law_527 : decode cL_law 527 = .ok (.ireturn, 1) := by decide +kernel
theorem dL_law_528 : decode cL_law 528 = .ok (.aload_n 1, 1) := by decide +kernel
theorem dL_law_529 : decode cL_law 529 = .ok (.aload_n 0, 1) := by decide +kernel
theorem dL_law_530 : decode cL_law 530 = .ok (.iload 4, 2) := by decide +kernel
theorem dL_law_532 : decode cL_law 532 = .ok (.iconst 1, 1) := by decide +kernel
theorem dL_law_533 : decode cL_law 533 = .ok (.iadd, 1) := by decide +kernel
theorem dL_law_534 : decode cL_law 534 = .ok (.iaload, 1) := by decide +kernel
theorem dL_law_535 : decode cL_law 535 = .ok (.aload_n 3, 1) := by decide +kernel
theorem dL_law_536 : decode cL_law 536 = .ok (.invokestatic 150, 3) := by decide +kernel
theorem dL_law_539 : decode cL_law 539 = .ok (.istore 5, 2) := by decide +kernel
theorem dL_law_541 : decode cL_law 541 = .ok (.aload_n 2, 1) := by decide +kernel
theorem dL_law_542 : decode cL_law 542 = .ok (.aload_n 0, 1) := by decide +kernel
theorem dL_law_543 : decode cL_law 543 = .ok (.iload 4, 2) := by decide +kernel
theorem dL_law_545 : decode cL_law 545 = .ok (.iconst 1, 1) := by decide +kernel
theorem dL_law_546 : decode cL_law 546 = .ok (.iadd, 1) := by decide +kernel
theorem dL_law_547 : decode cL_law 547 = .ok (.iaload, 1) := by decide +kernel
theorem dL_law_548 : decode cL_law 548 = .ok (.invokevirtual 152, 3) := by decide +kernel
theorem dL_law_551 : decode cL_law 551 = .ok (.istore 6, 2) := by decide +kernel
theorem dL_law_553 : decode cL_law 553 = .ok (.aload_n 2, 1) := by decide +kernel
theorem dL_law_554 : decode cL_law 554 = .ok (.invokevirtual 132, 3) := by decide +kernel
theorem dL_law_557 : decode cL_law 557 = .ok (.iload 5, 2) := by decide +kernel
theorem dL_law_559 : decode cL_law 559 = .ok (.if_icmp .eq 5, 3) := by decide +kernel
theorem dL_law_562 : decode cL_law 562 = .ok (.iconst 0, 1) := by decide +kernel
theorem dL_law_563 : decode cL_law 563 = .ok (.ireturn, 1) := by decide +kernel
theorem dL_law_564 : decode cL_law 564 = .ok (.iload 5, 2) := by decide +kernel
theorem dL_law_566 : decode cL_law 566 = .ok (.ifCond .ne 15, 3) := by decide +kernel
theorem dL_law_569 : decode cL_law 569 = .ok (.aload_n 3, 1) := by decide +kernel
theorem dL_law_570 : decode cL_law 570 = .ok (.iconst 0, 1) := by decide +kernel
theorem dL_law_571 : decode cL_law 571 = .ok (.laload, 1) := by decide +kernel
theorem dL_law_572 : decode cL_law 572 = .ok (.iload 6, 2) := by decide +kernel
theorem dL_law_574 : decode cL_law 574 = .ok (.i2l, 1) := by decide +kernel
theorem dL_law_575 : decode cL_law 575 = .ok (.lcmp, 1) := by decide +kernel
theorem dL_law_576 : decode cL_law 576 = .ok (.ifCond .eq 5, 3) := by decide +kernel
theorem dL_law_579 : decode cL_law 579 = .ok (.iconst 0, 1) := by decide +kernel
theorem dL_law_580 : decode cL_law 580 = .ok (.ireturn, 1) := by decide +kernel
theorem dL_law_581 : decode cL_law 581 = .ok (.goto 1918, 3) := by decide +kernel
theorem dL_law_584 : decode cL_law 584 = .ok (.aload_n 1, 1) := by decide +kernel
theorem dL_law_585 : decode cL_law 585 = .ok (.aload_n 0, 1) := by decide +kernel
theorem dL_law_586 : decode cL_law 586 = .ok (.iload 4, 2) := by decide +kernel
theorem dL_law_588 : decode cL_law 588 = .ok (.iconst 1, 1) := by decide +kernel
theorem dL_law_589 : decode cL_law 589 = .ok (.iadd, 1) := by decide +kernel
theorem dL_law_590 : decode cL_law 590 = .ok (.iaload, 1) := by decide +kernel
theorem dL_law_591 : decode cL_law 591 = .ok (.aload_n 3, 1) := by decide +kernel
theorem dL_law_592 : decode cL_law 592 = .ok (.invokestatic 153, 3) := by decide +kernel
theorem dL_law_595 : decode cL_law 595 = .ok (.istore 5, 2) := by decide +kernel
theorem dL_law_597 : decode cL_law 597 = .ok (.aload_n 2, 1) := by decide +kernel
theorem dL_law_598 : decode cL_law 598 = .ok (.aload_n 0, 1) := by decide +kernel
theorem dL_law_599 : decode cL_law 599 = .ok (.iload 4, 2) := by decide +kernel
theorem dL_law_601 : decode cL_law 601 = .ok (.iconst 1, 1) := by decide +kernel
theorem dL_law_602 : decode cL_law 602 = .ok (.iadd, 1) := by decide +kernel
theorem dL_law_603 : decode cL_law 603 = .ok (.iaload, 1) := by decide +kernel
theorem dL_law_604 : decode cL_law 604 = .ok (.invokevirtual 155, 3) := by decide +kernel
theorem dL_law_607 : decode cL_law 607 = .ok (.istore 6, 2) := by decide +kernel
theorem dL_law_609 : decode cL_law 609 = .ok (.aload_n 2, 1) := by decide +kernel
theorem dL_law_610 : decode cL_law 610 = .ok (.invokevirtual 132, 3) := by decide +kernel
theorem dL_law_613 : decode cL_law 613 = .ok (.iload 5, 2) := by decide +kernel
theorem dL_law_615 : decode cL_law 615 = .ok (.if_icmp .eq 5, 3) := by decide +kernel
theorem dL_law_618 : decode cL_law 618 = .ok (.iconst 0, 1) := by decide +kernel
theorem dL_law_619 : decode cL_law 619 = .ok (.ireturn, 1) := by decide +kernel
theorem dL_law_620 : decode cL_law 620 = .ok (.iload 5, 2) := by decide +kernel
theorem dL_law_622 : decode cL_law 622 = .ok (.ifCond .ne 15, 3) := by decide +kernel
theorem dL_law_625 : decode cL_law 625 = .ok (.aload_n 3, 1) := by decide +kernel
theorem dL_law_626 : decode cL_law 626 = .ok (.iconst 0, 1) := by decide +kernel
theorem dL_law_627 : decode cL_law 627 = .ok (.laload, 1) := by decide +kernel
theorem dL_law_628 : decode cL_law 628 = .ok (.iload 6, 2) := by decide +kernel
theorem dL_law_630 : decode cL_law 630 = .ok (.i2l, 1) := by decide +kernel
theorem dL_law_631 : decode cL_law 631 = .ok (.lcmp, 1) := by decide +kernel
theorem dL_law_632 : decode cL_law 632 = .ok (.ifCond .eq 5, 3) := by decide +kernel
theorem dL_law_635 : decode cL_law 635 = .ok (.iconst 0, 1) := by decide +kernel
theorem dL_law_636 : decode cL_law 636 = .ok (.ireturn, 1) := by decide +kernel
theorem dL_law_637 : decode cL_law 637 = .ok (.goto 1862, 3) := by decide +kernel
theorem dL_law_640 : decode cL_law 640 = .ok (.aload_n 1, 1) := by decide +kernel
theorem dL_law_641 : decode cL_law 641 = .ok (.aload_n 0, 1) := by decide +kernel
theorem dL_law_642 : decode cL_law 642 = .ok (.iload 4, 2) := by decide +kernel
theorem dL_law_644 : decode cL_law 644 = .ok (.iconst 1, 1) := by decide +kernel
theorem dL_law_645 : decode cL_law 645 = .ok (.iadd, 1) := by decide +kernel
theorem dL_law_646 : decode cL_law 646 = .ok (.iaload, 1) := by decide +kernel
theorem dL_law_647 : decode cL_law 647 = .ok (.aload_n 3, 1) := by decide +kernel
theorem dL_law_648 : decode cL_law 648 = .ok (.invokestatic 156, 3) := by decide +kernel
theorem dL_law_651 : decode cL_law 651 = .ok (.istore 5, 2) := by decide +kernel
theorem dL_law_653 : decode cL_law 653 = .ok (.aload_n 2, 1) := by decide +kernel
theorem dL_law_654 : decode cL_law 654 = .ok (.aload_n 0, 1) := by decide +kernel
theorem dL_law_655 : decode cL_law 655 = .ok (.iload 4, 2) := by decide +kernel
theorem dL_law_657 : decode cL_law 657 = .ok (.iconst 1, 1) := by decide +kernel
theorem dL_law_658 : decode cL_law 658 = .ok (.iadd, 1) := by decide +kernel
theorem dL_law_659 : decode cL_law 659 = .ok (.iaload, 1) := by decide +kernel
theorem dL_law_660 : decode cL_law 660 = .ok (.invokevirtual 158, 3) := by decide +kernel
theorem dL_law_663 : decode cL_law 663 = .ok (.istore 6, 2) := by decide +kernel
theorem dL_law_665 : decode cL_law 665 = .ok (.aload_n 2, 1) := by decide +kernel
theorem dL_law_666 : decode cL_law 666 = .ok (.invokevirtual 132, 3) := by decide +kernel
theorem dL_law_669 : decode cL_law 669 = .ok (.iload 5, 2) := by decide +kernel
theorem dL_law_671 : decode cL_law 671 = .ok (.if_icmp .eq 5, 3) := by decide +kernel
theorem dL_law_674 : decode cL_law 674 = .ok (.iconst 0, 1) := by decide +kernel
theorem dL_law_675 : decode cL_law 675 = .ok (.ireturn, 1) := by decide +kernel
theorem dL_law_676 : decode cL_law 676 = .ok (.iload 5, 2) := by decide +kernel
theorem dL_law_678 : decode cL_law 678 = .ok (.ifCond .ne 15, 3) := by decide +kernel
theorem dL_law_681 : decode cL_law 681 = .ok (.aload_n 3, 1) := by decide +kernel
theorem dL_law_682 : decode cL_law 682 = .ok (.iconst 0, 1) := by decide +kernel
theorem dL_law_683 : decode cL_law 683 = .ok (.laload, 1) := by decide +kernel
theorem dL_law_684 : decode cL_law 684 = .ok (.iload 6, 2) := by decide +kernel
theorem dL_law_686 : decode cL_law 686 = .ok (.i2l, 1) := by decide +kernel
theorem dL_law_687 : decode cL_law 687 = .ok (.lcmp, 1) := by decide +kernel
theorem dL_law_688 : decode cL_law 688 = .ok (.ifCond .eq 5, 3) := by decide +kernel
theorem dL_law_691 : decode cL_law 691 = .ok (.iconst 0, 1) := by decide +kernel
theorem dL_law_692 : decode cL_law 692 = .ok (.ireturn, 1) := by decide +kernel
theorem dL_law_693 : decode cL_law 693 = .ok (.goto 1806, 3) := by decide +kernel
theorem dL_law_696 : decode cL_law 696 = .ok (.aload_n 1, 1) := by decide +kernel
theorem dL_law_697 : decode cL_law 697 = .ok (.aload_n 0, 1) := by decide +kernel
theorem dL_law_698 : decode cL_law 698 = .ok (.iload 4, 2) := by decide +kernel
theorem dL_law_700 : decode cL_law 700 = .ok (.iconst 1, 1) := by decide +kernel
theorem dL_law_701 : decode cL_law 701 = .ok (.iadd, 1) := by decide +kernel
theorem dL_law_702 : decode cL_law 702 = .ok (.iaload, 1) := by decide +kernel
theorem dL_law_703 : decode cL_law 703 = .ok (.aload_n 3, 1) := by decide +kernel
theorem dL_law_704 : decode cL_law 704 = .ok (.invokestatic 159, 3) := by decide +kernel
theorem dL_law_707 : decode cL_law 707 = .ok (.istore 5, 2) := by decide +kernel
theorem dL_law_709 : decode cL_law 709 = .ok (.aload_n 2, 1) := by decide +kernel
theorem dL_law_710 : decode cL_law 710 = .ok (.aload_n 0, 1) := by decide +kernel
theorem dL_law_711 : decode cL_law 711 = .ok (.iload 4, 2) := by decide +kernel
theorem dL_law_713 : decode cL_law 713 = .ok (.iconst 1, 1) := by decide +kernel
theorem dL_law_714 : decode cL_law 714 = .ok (.iadd, 1) := by decide +kernel
theorem dL_law_715 : decode cL_law 715 = .ok (.iaload, 1) := by decide +kernel
theorem dL_law_716 : decode cL_law 716 = .ok (.invokevirtual 161, 3) := by decide +kernel
theorem dL_law_719 : decode cL_law 719 = .ok (.istore 6, 2) := by decide +kernel
theorem dL_law_721 : decode cL_law 721 = .ok (.aload_n 2, 1) := by decide +kernel
theorem dL_law_722 : decode cL_law 722 = .ok (.invokevirtual 132, 3) := by decide +kernel
theorem dL_law_725 : decode cL_law 725 = .ok (.iload 5, 2) := by decide +kernel
theorem dL_law_727 : decode cL_law 727 = .ok (.if_icmp .eq 5, 3) := by decide +kernel
theorem dL_law_730 : decode cL_law 730 = .ok (.iconst 0, 1) := by decide +kernel
theorem dL_law_731 : decode cL_law 731 = .ok (.ireturn, 1) := by decide +kernel
theorem dL_law_732 : decode cL_law 732 = .ok (.iload 5, 2) := by decide +kernel
theorem dL_law_734 : decode cL_law 734 = .ok (.ifCond .ne 15, 3) := by decide +kernel
theorem dL_law_737 : decode cL_law 737 = .ok (.aload_n 3, 1) := by decide +kernel
theorem dL_law_738 : decode cL_law 738 = .ok (.iconst 0, 1) := by decide +kernel
theorem dL_law_739 : decode cL_law 739 = .ok (.laload, 1) := by decide +kernel
theorem dL_law_740 : decode cL_law 740 = .ok (.iload 6, 2) := by decide +kernel
theorem dL_law_742 : decode cL_law 742 = .ok (.i2l, 1) := by decide +kernel
theorem dL_law_743 : decode cL_law 743 = .ok (.lcmp, 1) := by decide +kernel
theorem dL_law_744 : decode cL_law 744 = .ok (.ifCond .eq 5, 3) := by decide +kernel
theorem dL_law_747 : decode cL_law 747 = .ok (.iconst 0, 1) := by decide +kernel
theorem dL_law_748 : decode cL_law 748 = .ok (.ireturn, 1) := by decide +kernel
theorem dL_law_749 : decode cL_law 749 = .ok (.goto 1750, 3) := by decide +kernel
theorem dL_law_752 : decode cL_law 752 = .ok (.aload_n 1, 1) := by decide +kernel
theorem dL_law_753 : decode cL_law 753 = .ok (.invokevirtual 162, 3) := by decide +kernel
theorem dL_law_756 : decode cL_law 756 = .ok (.aload_n 2, 1) := by decide +kernel
theorem dL_law_757 : decode cL_law 757 = .ok (.invokevirtual 165, 3) := by decide +kernel
theorem dL_law_760 : decode cL_law 760 = .ok (.if_icmp .eq 1739, 3) := by decide +kernel
theorem dL_law_763 : decode cL_law 763 = .ok (.iconst 0, 1) := by decide +kernel
theorem dL_law_764 : decode cL_law 764 = .ok (.ireturn, 1) := by decide +kernel
theorem dL_law_765 : decode cL_law 765 = .ok (.aload_n 1, 1) := by decide +kernel
theorem dL_law_766 : decode cL_law 766 = .ok (.invokevirtual 166, 3) := by decide +kernel
theorem dL_law_769 : decode cL_law 769 = .ok (.aload_n 2, 1) := by decide +kernel
theorem dL_law_770 : decode cL_law 770 = .ok (.invokevirtual 169, 3) := by decide +kernel
theorem dL_law_773 : decode cL_law 773 = .ok (.if_icmp .eq 1726, 3) := by decide +kernel
theorem dL_law_776 : decode cL_law 776 = .ok (.iconst 0, 1) := by decide +kernel
theorem dL_law_777 : decode cL_law 777 = .ok (.ireturn, 1) := by decide +kernel
theorem dL_law_778 : decode cL_law 778 = .ok (.aload_n 1, 1) := by decide +kernel
theorem dL_law_779 : decode cL_law 779 = .ok (.aload_n 3, 1) := by decide +kernel
theorem dL_law_780 : decode cL_law 780 = .ok (.invokestatic 170, 3) := by decide +kernel
theorem dL_law_783 : decode cL_law 783 = .ok (.istore 5, 2) := by decide +kernel
theorem dL_law_785 : decode cL_law 785 = .ok (.aload_n 2, 1) := by decide +kernel
theorem dL_law_786 : decode cL_law 786 = .ok (.invokevirtual 173, 3) := by decide +kernel
theorem dL_law_789 : decode cL_law 789 = .ok (.istore 6, 2) := by decide +kernel
theorem dL_law_791 : decode cL_law 791 = .ok (.aload_n 2, 1) := by decide +kernel
theorem dL_law_792 : decode cL_law 792 = .ok (.invokevirtual 132, 3) := by decide +kernel
theorem dL_law_795 : decode cL_law 795 = .ok (.iload 5, 2) := by decide +kernel
theorem dL_law_797 : decode cL_law 797 = .ok (.if_icmp .eq 5, 3) := by decide +kernel
theorem dL_law_800 : decode cL_law 800 = .ok (.iconst 0, 1) := by decide +kernel
theorem dL_law_801 : decode cL_law 801 = .ok (.ireturn, 1) := by decide +kernel
theorem dL_law_802 : decode cL_law 802 = .ok (.iload 5, 2) := by decide +kernel
theorem dL_law_804 : decode cL_law 804 = .ok (.ifCond .ne 15, 3) := by decide +kernel
theorem dL_law_807 : decode cL_law 807 = .ok (.aload_n 3, 1) := by decide +kernel
theorem dL_law_808 : decode cL_law 808 = .ok (.iconst 0, 1) := by decide +kernel
theorem dL_law_809 : decode cL_law 809 = .ok (.laload, 1) := by decide +kernel
theorem dL_law_810 : decode cL_law 810 = .ok (.iload 6, 2) := by decide +kernel
theorem dL_law_812 : decode cL_law 812 = .ok (.i2l, 1) := by decide +kernel
theorem dL_law_813 : decode cL_law 813 = .ok (.lcmp, 1) := by decide +kernel
theorem dL_law_814 : decode cL_law 814 = .ok (.ifCond .eq 5, 3) := by decide +kernel
theorem dL_law_817 : decode cL_law 817 = .ok (.iconst 0, 1) := by decide +kernel
theorem dL_law_818 : decode cL_law 818 = .ok (.ireturn, 1) := by decide +kernel
theorem dL_law_819 : decode cL_law 819 = .ok (.goto 1680, 3) := by decide +kernel
theorem dL_law_822 : decode cL_law 822 = .ok (.aload_n 1, 1) := by decide +kernel
theorem dL_law_823 : decode cL_law 823 = .ok (.invokevirtual 174, 3) := by decide +kernel
theorem dL_law_826 : decode cL_law 826 = .ok (.aload_n 2, 1) := by decide +kernel
theorem dL_law_827 : decode cL_law 827 = .ok (.invokevirtual 177, 3) := by decide +kernel
theorem dL_law_830 : decode cL_law 830 = .ok (.if_icmp .eq 1669, 3) := by decide +kernel
theorem dL_law_833 : decode cL_law 833 = .ok (.iconst 0, 1) := by decide +kernel
theorem dL_law_834 : decode cL_law 834 = .ok (.ireturn, 1) := by decide +kernel
theorem dL_law_835 : decode cL_law 835 = .ok (.aload_n 1, 1) := by decide +kernel
theorem dL_law_836 : decode cL_law 836 = .ok (.aload_n 3, 1) := by decide +kernel
theorem dL_law_837 : decode cL_law 837 = .ok (.invokestatic 178, 3) := by decide +kernel
theorem dL_law_840 : decode cL_law 840 = .ok (.istore 5, 2) := by decide +kernel
theorem dL_law_842 : decode cL_law 842 = .ok (.aload_n 2, 1) := by decide +kernel
theorem dL_law_843 : decode cL_law 843 = .ok (.invokevirtual 180, 3) := by decide +kernel
theorem dL_law_846 : decode cL_law 846 = .ok (.istore 6, 2) := by decide +kernel
theorem dL_law_848 : decode cL_law 848 = .ok (.aload_n 2, 1) := by decide +kernel
theorem dL_law_849 : decode cL_law 849 = .ok (.invokevirtual 132, 3) := by decide +kernel
theorem dL_law_852 : decode cL_law 852 = .ok (.iload 5, 2) := by decide +kernel
theorem dL_law_854 : decode cL_law 854 = .ok (.if_icmp .eq 5, 3) := by decide +kernel
theorem dL_law_857 : decode cL_law 857 = .ok (.iconst 0, 1) := by decide +kernel
theorem dL_law_858 : decode cL_law 858 = .ok (.ireturn, 1) := by decide +kernel
theorem dL_law_859 : decode cL_law 859 = .ok (.iload 5, 2) := by decide +kernel
theorem dL_law_861 : decode cL_law 861 = .ok (.ifCond .ne 15, 3) := by decide +kernel
theorem dL_law_864 : decode cL_law 864 = .ok (.aload_n 3, 1) := by decide +kernel
theorem dL_law_865 : decode cL_law 865 = .ok (.iconst 0, 1) := by decide +kernel
theorem dL_law_866 : decode cL_law 866 = .ok (.laload, 1) := by decide +kernel
theorem dL_law_867 : decode cL_law 867 = .ok (.iload 6, 2) := by decide +kernel
theorem dL_law_869 : decode cL_law 869 = .ok (.i2l, 1) := by decide +kernel
theorem dL_law_870 : decode cL_law 870 = .ok (.lcmp, 1) := by decide +kernel
theorem dL_law_871 : decode cL_law 871 = .ok (.ifCond .eq 5, 3) := by decide +kernel
theorem dL_law_874 : decode cL_law 874 = .ok (.iconst 0, 1) := by decide +kernel
theorem dL_law_875 : decode cL_law 875 = .ok (.ireturn, 1) := by decide +kernel
theorem dL_law_876 : decode cL_law 876 = .ok (.goto 1623, 3) := by decide +kernel
theorem dL_law_879 : decode cL_law 879 = .ok (.aload_n 1, 1) := by decide +kernel
theorem dL_law_880 : decode cL_law 880 = .ok (.aload_n 3, 1) := by decide +kernel
theorem dL_law_881 : decode cL_law 881 = .ok (.invokestatic 181, 3) := by decide +kernel
theorem dL_law_884 : decode cL_law 884 = .ok (.istore 5, 2) := by decide +kernel
theorem dL_law_886 : decode cL_law 886 = .ok (.aload_n 2, 1) := by decide +kernel
theorem dL_law_887 : decode cL_law 887 = .ok (.invokevirtual 183, 3) := by decide +kernel
theorem dL_law_890 : decode cL_law 890 = .ok (.istore 6, 2) := by decide +kernel
theorem dL_law_892 : decode cL_law 892 = .ok (.aload_n 2, 1) := by decide +kernel
theorem dL_law_893 : decode cL_law 893 = .ok (.invokevirtual 132, 3) := by decide +kernel
theorem dL_law_896 : decode cL_law 896 = .ok (.iload 5, 2) := by decide +kernel
theorem dL_law_898 : decode cL_law 898 = .ok (.if_icmp .eq 5, 3) := by decide +kernel
theorem dL_law_901 : decode cL_law 901 = .ok (.iconst 0, 1) := by decide +kernel
theorem dL_law_902 : decode cL_law 902 = .ok (.ireturn, 1) := by decide +kernel
theorem dL_law_903 : decode cL_law 903 = .ok (.iload 5, 2) := by decide +kernel
theorem dL_law_905 : decode cL_law 905 = .ok (.ifCond .ne 15, 3) := by decide +kernel
theorem dL_law_908 : decode cL_law 908 = .ok (.aload_n 3, 1) := by decide +kernel
theorem dL_law_909 : decode cL_law 909 = .ok (.iconst 0, 1) := by decide +kernel
theorem dL_law_910 : decode cL_law 910 = .ok (.laload, 1) := by decide +kernel
theorem dL_law_911 : decode cL_law 911 = .ok (.iload 6, 2) := by decide +kernel
theorem dL_law_913 : decode cL_law 913 = .ok (.i2l, 1) := by decide +kernel
theorem dL_law_914 : decode cL_law 914 = .ok (.lcmp, 1) := by decide +kernel
theorem dL_law_915 : decode cL_law 915 = .ok (.ifCond .eq 5, 3) := by decide +kernel
theorem dL_law_918 : decode cL_law 918 = .ok (.iconst 0, 1) := by decide +kernel
theorem dL_law_919 : decode cL_law 919 = .ok (.ireturn, 1) := by decide +kernel
theorem dL_law_920 : decode cL_law 920 = .ok (.goto 1579, 3) := by decide +kernel
theorem dL_law_923 : decode cL_law 923 = .ok (.aload_n 1, 1) := by decide +kernel
theorem dL_law_924 : decode cL_law 924 = .ok (.invokevirtual 184, 3) := by decide +kernel
theorem dL_law_927 : decode cL_law 927 = .ok (.aload_n 2, 1) := by decide +kernel
theorem dL_law_928 : decode cL_law 928 = .ok (.invokevirtual 187, 3) := by decide +kernel
theorem dL_law_931 : decode cL_law 931 = .ok (.if_icmp .eq 1568, 3) := by decide +kernel
theorem dL_law_934 : decode cL_law 934 = .ok (.iconst 0, 1) := by decide +kernel
theorem dL_law_935 : decode cL_law 935 = .ok (.ireturn, 1) := by decide +kernel
theorem dL_law_936 : decode cL_law 936 = .ok (.aload_n 1, 1) := by decide +kernel
theorem dL_law_937 : decode cL_law 937 = .ok (.aload_n 0, 1) := by decide +kernel
theorem dL_law_938 : decode cL_law 938 = .ok (.iload 4, 2) := by decide +kernel
theorem dL_law_940 : decode cL_law 940 = .ok (.iconst 1, 1) := by decide +kernel
theorem dL_law_941 : decode cL_law 941 = .ok (.iadd, 1) := by decide +kernel
theorem dL_law_942 : decode cL_law 942 = .ok (.iaload, 1) := by decide +kernel
theorem dL_law_943 : decode cL_law 943 = .ok (.aload_n 3, 1) := by decide +kernel
theorem dL_law_944 : decode cL_law 944 = .ok (.invokestatic 188, 3) := by decide +kernel
theorem dL_law_947 : decode cL_law 947 = .ok (.istore 5, 2) := by decide +kernel
theorem dL_law_949 : decode cL_law 949 = .ok (.aload_n 2, 1) := by decide +kernel
theorem dL_law_950 : decode cL_law 950 = .ok (.aload_n 0, 1) := by decide +kernel
theorem dL_law_951 : decode cL_law 951 = .ok (.iload 4, 2) := by decide +kernel
theorem dL_law_953 : decode cL_law 953 = .ok (.iconst 1, 1) := by decide +kernel
theorem dL_law_954 : decode cL_law 954 = .ok (.iadd, 1) := by decide +kernel
theorem dL_law_955 : decode cL_law 955 = .ok (.iaload, 1) := by decide +kernel
theorem dL_law_956 : decode cL_law 956 = .ok (.invokevirtual 190, 3) := by decide +kernel
theorem dL_law_959 : decode cL_law 959 = .ok (.istore 6, 2) := by decide +kernel
theorem dL_law_961 : decode cL_law 961 = .ok (.aload_n 2, 1) := by decide +kernel
theorem dL_law_962 : decode cL_law 962 = .ok (.invokevirtual 132, 3) := by decide +kernel
theorem dL_law_965 : decode cL_law 965 = .ok (.iload 5, 2) := by decide +kernel
theorem dL_law_967 : decode cL_law 967 = .ok (.if_icmp .eq 5, 3) := by decide +kernel
theorem dL_law_970 : decode cL_law 970 = .ok (.iconst 0, 1) := by decide +kernel
theorem dL_law_971 : decode cL_law 971 = .ok (.ireturn, 1) := by decide +kernel
theorem dL_law_972 : decode cL_law 972 = .ok (.iload 5, 2) := by decide +kernel
theorem dL_law_974 : decode cL_law 974 = .ok (.ifCond .ne 15, 3) := by decide +kernel
theorem dL_law_977 : decode cL_law 977 = .ok (.aload_n 3, 1) := by decide +kernel
theorem dL_law_978 : decode cL_law 978 = .ok (.iconst 0, 1) := by decide +kernel
theorem dL_law_979 : decode cL_law 979 = .ok (.laload, 1) := by decide +kernel
theorem dL_law_980 : decode cL_law 980 = .ok (.iload 6, 2) := by decide +kernel
theorem dL_law_982 : decode cL_law 982 = .ok (.i2l, 1) := by decide +kernel
theorem dL_law_983 : decode cL_law 983 = .ok (.lcmp, 1) := by decide +kernel
theorem dL_law_984 : decode cL_law 984 = .ok (.ifCond .eq 5, 3) := by decide +kernel
theorem dL_law_987 : decode cL_law 987 = .ok (.iconst 0, 1) := by decide +kernel
theorem dL_law_988 : decode cL_law 988 = .ok (.ireturn, 1) := by decide +kernel
theorem dL_law_989 : decode cL_law 989 = .ok (.goto 1510, 3) := by decide +kernel
theorem dL_law_992 : decode cL_law 992 = .ok (.aload_n 1, 1) := by decide +kernel
theorem dL_law_993 : decode cL_law 993 = .ok (.aload_n 0, 1) := by decide +kernel
theorem dL_law_994 : decode cL_law 994 = .ok (.iload 4, 2) := by decide +kernel
theorem dL_law_996 : decode cL_law 996 = .ok (.iconst 1, 1) := by decide +kernel
theorem dL_law_997 : decode cL_law 997 = .ok (.iadd, 1) := by decide +kernel
theorem dL_law_998 : decode cL_law 998 = .ok (.iaload, 1) := by decide +kernel
theorem dL_law_999 : decode cL_law 999 = .ok (.aload_n 0, 1) := by decide +kernel
theorem dL_law_1000 : decode cL_law 1000 = .ok (.iload 4, 2) := by decide +kernel
theorem dL_law_1002 : decode cL_law 1002 = .ok (.iconst 2, 1) := by decide +kernel
theorem dL_law_1003 : decode cL_law 1003 = .ok (.iadd, 1) := by decide +kernel
theorem dL_law_1004 : decode cL_law 1004 = .ok (.iaload, 1) := by decide +kernel
theorem dL_law_1005 : decode cL_law 1005 = .ok (.aload_n 3, 1) := by decide +kernel
theorem dL_law_1006 : decode cL_law 1006 = .ok (.invokestatic 191, 3) := by decide +kernel
theorem dL_law_1009 : decode cL_law 1009 = .ok (.istore 5, 2) := by decide +kernel
theorem dL_law_1011 : decode cL_law 1011 = .ok (.aload_n 2, 1) := by decide +kernel
theorem dL_law_1012 : decode cL_law 1012 = .ok (.aload_n 0, 1) := by decide +kernel
theorem dL_law_1013 : decode cL_law 1013 = .ok (.iload 4, 2) := by decide +kernel
theorem dL_law_1015 : decode cL_law 1015 = .ok (.iconst 1, 1) := by decide +kernel
theorem dL_law_1016 : decode cL_law 1016 = .ok (.iadd, 1) := by decide +kernel
theorem dL_law_1017 : decode cL_law 1017 = .ok (.iaload, 1) := by decide +kernel
theorem dL_law_1018 : decode cL_law 1018 = .ok (.aload_n 0, 1) := by decide +kernel
theorem dL_law_1019 : decode cL_law 1019 = .ok (.iload 4, 2) := by decide +kernel
theorem dL_law_1021 : decode cL_law 1021 = .ok (.iconst 2, 1) := by decide +kernel
theorem dL_law_1022 : decode cL_law 1022 = .ok (.iadd, 1) := by decide +kernel
theorem dL_law_1023 : decode cL_law 1023 = .ok (.iaload, 1) := by decide +kernel
theorem dL_law_1024 : decode cL_law 1024 = .ok (.invokevirtual 193, 3) := by decide +kernel
theorem dL_law_1027 : decode cL_law 1027 = .ok (.istore 6, 2) := by decide +kernel
theorem dL_law_1029 : decode cL_law 1029 = .ok (.aload_n 2, 1) := by decide +kernel
theorem dL_law_1030 : decode cL_law 1030 = .ok (.invokevirtual 132, 3) := by decide +kernel
theorem dL_law_1033 : decode cL_law 1033 = .ok (.iload 5, 2) := by decide +kernel
theorem dL_law_1035 : decode cL_law 1035 = .ok (.if_icmp .eq 5, 3) := by decide +kernel
theorem dL_law_1038 : decode cL_law 1038 = .ok (.iconst 0, 1) := by decide +kernel
theorem dL_law_1039 : decode cL_law 1039 = .ok (.ireturn, 1) := by decide +kernel
theorem dL_law_1040 : decode cL_law 1040 = .ok (.iload 5, 2) := by decide +kernel
theorem dL_law_1042 : decode cL_law 1042 = .ok (.ifCond .ne 15, 3) := by decide +kernel
theorem dL_law_1045 : decode cL_law 1045 = .ok (.aload_n 3, 1) := by decide +kernel
theorem dL_law_1046 : decode cL_law 1046 = .ok (.iconst 0, 1) := by decide +kernel
theorem dL_law_1047 : decode cL_law 1047 = .ok (.laload, 1) := by decide +kernel
theorem dL_law_1048 : decode cL_law 1048 = .ok (.iload 6, 2) := by decide +kernel
theorem dL_law_1050 : decode cL_law 1050 = .ok (.i2l, 1) := by decide +kernel
theorem dL_law_1051 : decode cL_law 1051 = .ok (.lcmp, 1) := by decide +kernel
theorem dL_law_1052 : decode cL_law 1052 = .ok (.ifCond .eq 5, 3) := by decide +kernel
theorem dL_law_1055 : decode cL_law 1055 = .ok (.iconst 0, 1) := by decide +kernel
theorem dL_law_1056 : decode cL_law 1056 = .ok (.ireturn, 1) := by decide +kernel
theorem dL_law_1057 : decode cL_law 1057 = .ok (.goto 1442, 3) := by decide +kernel
theorem dL_law_1060 : decode cL_law 1060 = .ok (.aload_n 1, 1) := by decide +kernel
theorem dL_law_1061 : decode cL_law 1061 = .ok (.aload_n 0, 1) := by decide +kernel
theorem dL_law_1062 : decode cL_law 1062 = .ok (.iload 4, 2) := by decide +kernel
theorem dL_law_1064 : decode cL_law 1064 = .ok (.iconst 1, 1) := by decide +kernel
theorem dL_law_1065 : decode cL_law 1065 = .ok (.iadd, 1) := by decide +kernel
theorem dL_law_1066 : decode cL_law 1066 = .ok (.iaload, 1) := by decide +kernel
theorem dL_law_1067 : decode cL_law 1067 = .ok (.aload_n 3, 1) := by decide +kernel
theorem dL_law_1068 : decode cL_law 1068 = .ok (.invokestatic 194, 3) := by decide +kernel
theorem dL_law_1071 : decode cL_law 1071 = .ok (.istore 5, 2) := by decide +kernel
theorem dL_law_1073 : decode cL_law 1073 = .ok (.aload_n 2, 1) := by decide +kernel
theorem dL_law_1074 : decode cL_law 1074 = .ok (.aload_n 0, 1) := by decide +kernel
theorem dL_law_1075 : decode cL_law 1075 = .ok (.iload 4, 2) := by decide +kernel
theorem dL_law_1077 : decode cL_law 1077 = .ok (.iconst 1, 1) := by decide +kernel
theorem dL_law_1078 : decode cL_law 1078 = .ok (.iadd, 1) := by decide +kernel
theorem dL_law_1079 : decode cL_law 1079 = .ok (.iaload, 1) := by decide +kernel
theorem dL_law_1080 : decode cL_law 1080 = .ok (.invokevirtual 196, 3) := by decide +kernel
theorem dL_law_1083 : decode cL_law 1083 = .ok (.istore 6, 2) := by decide +kernel
theorem dL_law_1085 : decode cL_law 1085 = .ok (.aload_n 2, 1) := by decide +kernel
theorem dL_law_1086 : decode cL_law 1086 = .ok (.invokevirtual 132, 3) := by decide +kernel
theorem dL_law_1089 : decode cL_law 1089 = .ok (.iload 5, 2) := by decide +kernel
theorem dL_law_1091 : decode cL_law 1091 = .ok (.if_icmp .eq 5, 3) := by decide +kernel
theorem dL_law_1094 : decode cL_law 1094 = .ok (.iconst 0, 1) := by decide +kernel
theorem dL_law_1095 : decode cL_law 1095 = .ok (.ireturn, 1) := by decide +kernel
theorem dL_law_1096 : decode cL_law 1096 = .ok (.iload 5, 2) := by decide +kernel
theorem dL_law_1098 : decode cL_law 1098 = .ok (.ifCond .ne 22, 3) := by decide +kernel
theorem dL_law_1101 : decode cL_law 1101 = .ok (.aload_n 3, 1) := by decide +kernel
theorem dL_law_1102 : decode cL_law 1102 = .ok (.iconst 0, 1) := by decide +kernel
theorem dL_law_1103 : decode cL_law 1103 = .ok (.laload, 1) := by decide +kernel
theorem dL_law_1104 : decode cL_law 1104 = .ok (.iload 6, 2) := by decide +kernel
theorem dL_law_1106 : decode cL_law 1106 = .ok (.ifCond .eq 7, 3) := by decide +kernel
theorem dL_law_1109 : decode cL_law 1109 = .ok (.lconst 1, 1) := by decide +kernel
theorem dL_law_1110 : decode cL_law 1110 = .ok (.goto 4, 3) := by decide +kernel
theorem dL_law_1113 : decode cL_law 1113 = .ok (.lconst 0, 1) := by decide +kernel
theorem dL_law_1114 : decode cL_law 1114 = .ok (.lcmp, 1) := by decide +kernel
theorem dL_law_1115 : decode cL_law 1115 = .ok (.ifCond .eq 5, 3) := by decide +kernel
theorem dL_law_1118 : decode cL_law 1118 = .ok (.iconst 0, 1) := by decide +kernel
theorem dL_law_1119 : decode cL_law 1119 = .ok (.ireturn, 1) := by decide +kernel
theorem dL_law_1120 : decode cL_law 1120 = .ok (.goto 1379, 3) := by decide +kernel
theorem dL_law_1123 : decode cL_law 1123 = .ok (.aload_n 1, 1) := by decide +kernel
theorem dL_law_1124 : decode cL_law 1124 = .ok (.aload_n 0, 1) := by decide +kernel
theorem dL_law_1125 : decode cL_law 1125 = .ok (.iload 4, 2) := by decide +kernel
theorem dL_law_1127 : decode cL_law 1127 = .ok (.iconst 1, 1) := by decide +kernel
theorem dL_law_1128 : decode cL_law 1128 = .ok (.iadd, 1) := by decide +kernel
theorem dL_law_1129 : decode cL_law 1129 = .ok (.iaload, 1) := by decide +kernel
theorem dL_law_1130 : decode cL_law 1130 = .ok (.aload_n 3, 1) := by decide +kernel
theorem dL_law_1131 : decode cL_law 1131 = .ok (.invokestatic 197, 3) := by decide +kernel
theorem dL_law_1134 : decode cL_law 1134 = .ok (.istore 5, 2) := by decide +kernel
theorem dL_law_1136 : decode cL_law 1136 = .ok (.aload_n 2, 1) := by decide +kernel
theorem dL_law_1137 : decode cL_law 1137 = .ok (.aload_n 0, 1) := by decide +kernel
theorem dL_law_1138 : decode cL_law 1138 = .ok (.iload 4, 2) := by decide +kernel
theorem dL_law_1140 : decode cL_law 1140 = .ok (.iconst 1, 1) := by decide +kernel
theorem dL_law_1141 : decode cL_law 1141 = .ok (.iadd, 1) := by decide +kernel
theorem dL_law_1142 : decode cL_law 1142 = .ok (.iaload, 1) := by decide +kernel
theorem dL_law_1143 : decode cL_law 1143 = .ok (.invokevirtual 199, 3) := by decide +kernel
theorem dL_law_1146 : decode cL_law 1146 = .ok (.istore 6, 2) := by decide +kernel
theorem dL_law_1148 : decode cL_law 1148 = .ok (.aload_n 2, 1) := by decide +kernel
theorem dL_law_1149 : decode cL_law 1149 = .ok (.invokevirtual 132, 3) := by decide +kernel
theorem dL_law_1152 : decode cL_law 1152 = .ok (.iload 5, 2) := by decide +kernel
theorem dL_law_1154 : decode cL_law 1154 = .ok (.if_icmp .eq 5, 3) := by decide +kernel
theorem dL_law_1157 : decode cL_law 1157 = .ok (.iconst 0, 1) := by decide +kernel
theorem dL_law_1158 : decode cL_law 1158 = .ok (.ireturn, 1) := by decide +kernel
theorem dL_law_1159 : decode cL_law 1159 = .ok (.iload 5, 2) := by decide +kernel
theorem dL_law_1161 : decode cL_law 1161 = .ok (.ifCond .ne 15, 3) := by decide +kernel
theorem dL_law_1164 : decode cL_law 1164 = .ok (.aload_n 3, 1) := by decide +kernel
theorem dL_law_1165 : decode cL_law 1165 = .ok (.iconst 0, 1) := by decide +kernel
theorem dL_law_1166 : decode cL_law 1166 = .ok (.laload, 1) := by decide +kernel
theorem dL_law_1167 : decode cL_law 1167 = .ok (.iload 6, 2) := by decide +kernel
theorem dL_law_1169 : decode cL_law 1169 = .ok (.i2l, 1) := by decide +kernel
theorem dL_law_1170 : decode cL_law 1170 = .ok (.lcmp, 1) := by decide +kernel
theorem dL_law_1171 : decode cL_law 1171 = .ok (.ifCond .eq 5, 3) := by decide +kernel
theorem dL_law_1174 : decode cL_law 1174 = .ok (.iconst 0, 1) := by decide +kernel
theorem dL_law_1175 : decode cL_law 1175 = .ok (.ireturn, 1) := by decide +kernel
theorem dL_law_1176 : decode cL_law 1176 = .ok (.goto 1323, 3) := by decide +kernel
theorem dL_law_1179 : decode cL_law 1179 = .ok (.aload_n 1, 1) := by decide +kernel
theorem dL_law_1180 : decode cL_law 1180 = .ok (.aload_n 0, 1) := by decide +kernel
theorem dL_law_1181 : decode cL_law 1181 = .ok (.iload 4, 2) := by decide +kernel
theorem dL_law_1183 : decode cL_law 1183 = .ok (.iconst 1, 1) := by decide +kernel
theorem dL_law_1184 : decode cL_law 1184 = .ok (.iadd, 1) := by decide +kernel
theorem dL_law_1185 : decode cL_law 1185 = .ok (.iaload, 1) := by decide +kernel
theorem dL_law_1186 : decode cL_law 1186 = .ok (.aload_n 3, 1) := by decide +kernel
theorem dL_law_1187 : decode cL_law 1187 = .ok (.invokestatic 200, 3) := by decide +kernel
theorem dL_law_1190 : decode cL_law 1190 = .ok (.istore 5, 2) := by decide +kernel
theorem dL_law_1192 : decode cL_law 1192 = .ok (.aload_n 2, 1) := by decide +kernel
theorem dL_law_1193 : decode cL_law 1193 = .ok (.aload_n 0, 1) := by decide +kernel
theorem dL_law_1194 : decode cL_law 1194 = .ok (.iload 4, 2) := by decide +kernel
theorem dL_law_1196 : decode cL_law 1196 = .ok (.iconst 1, 1) := by decide +kernel
theorem dL_law_1197 : decode cL_law 1197 = .ok (.iadd, 1) := by decide +kernel
theorem dL_law_1198 : decode cL_law 1198 = .ok (.iaload, 1) := by decide +kernel
theorem dL_law_1199 : decode cL_law 1199 = .ok (.invokevirtual 202, 3) := by decide +kernel
theorem dL_law_1202 : decode cL_law 1202 = .ok (.istore 6, 2) := by decide +kernel
theorem dL_law_1204 : decode cL_law 1204 = .ok (.aload_n 2, 1) := by decide +kernel
theorem dL_law_1205 : decode cL_law 1205 = .ok (.invokevirtual 132, 3) := by decide +kernel
theorem dL_law_1208 : decode cL_law 1208 = .ok (.iload 5, 2) := by decide +kernel
theorem dL_law_1210 : decode cL_law 1210 = .ok (.if_icmp .eq 5, 3) := by decide +kernel
theorem dL_law_1213 : decode cL_law 1213 = .ok (.iconst 0, 1) := by decide +kernel
theorem dL_law_1214 : decode cL_law 1214 = .ok (.ireturn, 1) := by decide +kernel
theorem dL_law_1215 : decode cL_law 1215 = .ok (.iload 5, 2) := by decide +kernel
theorem dL_law_1217 : decode cL_law 1217 = .ok (.ifCond .ne 15, 3) := by decide +kernel
theorem dL_law_1220 : decode cL_law 1220 = .ok (.aload_n 3, 1) := by decide +kernel
theorem dL_law_1221 : decode cL_law 1221 = .ok (.iconst 0, 1) := by decide +kernel
theorem dL_law_1222 : decode cL_law 1222 = .ok (.laload, 1) := by decide +kernel
theorem dL_law_1223 : decode cL_law 1223 = .ok (.iload 6, 2) := by decide +kernel
theorem dL_law_1225 : decode cL_law 1225 = .ok (.i2l, 1) := by decide +kernel
theorem dL_law_1226 : decode cL_law 1226 = .ok (.lcmp, 1) := by decide +kernel
theorem dL_law_1227 : decode cL_law 1227 = .ok (.ifCond .eq 5, 3) := by decide +kernel
theorem dL_law_1230 : decode cL_law 1230 = .ok (.iconst 0, 1) := by decide +kernel
theorem dL_law_1231 : decode cL_law 1231 = .ok (.ireturn, 1) := by decide +kernel
theorem dL_law_1232 : decode cL_law 1232 = .ok (.goto 1267, 3) := by decide +kernel
theorem dL_law_1235 : decode cL_law 1235 = .ok (.aload_n 1, 1) := by decide +kernel
theorem dL_law_1236 : decode cL_law 1236 = .ok (.aload_n 0, 1) := by decide +kernel
theorem dL_law_1237 : decode cL_law 1237 = .ok (.iload 4, 2) := by decide +kernel
theorem dL_law_1239 : decode cL_law 1239 = .ok (.iconst 1, 1) := by decide +kernel
theorem dL_law_1240 : decode cL_law 1240 = .ok (.iadd, 1) := by decide +kernel
theorem dL_law_1241 : decode cL_law 1241 = .ok (.iaload, 1) := by decide +kernel
theorem dL_law_1242 : decode cL_law 1242 = .ok (.aload_n 0, 1) := by decide +kernel
theorem dL_law_1243 : decode cL_law 1243 = .ok (.iload 4, 2) := by decide +kernel
theorem dL_law_1245 : decode cL_law 1245 = .ok (.iconst 2, 1) := by decide +kernel
theorem dL_law_1246 : decode cL_law 1246 = .ok (.iadd, 1) := by decide +kernel
theorem dL_law_1247 : decode cL_law 1247 = .ok (.iaload, 1) := by decide +kernel
theorem dL_law_1248 : decode cL_law 1248 = .ok (.aload_n 3, 1) := by decide +kernel
theorem dL_law_1249 : decode cL_law 1249 = .ok (.invokestatic 203, 3) := by decide +kernel
theorem dL_law_1252 : decode cL_law 1252 = .ok (.istore 5, 2) := by decide +kernel
theorem dL_law_1254 : decode cL_law 1254 = .ok (.aload_n 2, 1) := by decide +kernel
theorem dL_law_1255 : decode cL_law 1255 = .ok (.aload_n 0, 1) := by decide +kernel
theorem dL_law_1256 : decode cL_law 1256 = .ok (.iload 4, 2) := by decide +kernel
theorem dL_law_1258 : decode cL_law 1258 = .ok (.iconst 1, 1) := by decide +kernel
theorem dL_law_1259 : decode cL_law 1259 = .ok (.iadd, 1) := by decide +kernel
theorem dL_law_1260 : decode cL_law 1260 = .ok (.iaload, 1) := by decide +kernel
theorem dL_law_1261 : decode cL_law 1261 = .ok (.aload_n 0, 1) := by decide +kernel
theorem dL_law_1262 : decode cL_law 1262 = .ok (.iload 4, 2) := by decide +kernel
theorem dL_law_1264 : decode cL_law 1264 = .ok (.iconst 2, 1) := by decide +kernel
theorem dL_law_1265 : decode cL_law 1265 = .ok (.iadd, 1) := by decide +kernel
theorem dL_law_1266 : decode cL_law 1266 = .ok (.iaload, 1) := by decide +kernel
theorem dL_law_1267 : decode cL_law 1267 = .ok (.invokevirtual 205, 3) := by decide +kernel
theorem dL_law_1270 : decode cL_law 1270 = .ok (.istore 6, 2) := by decide +kernel
theorem dL_law_1272 : decode cL_law 1272 = .ok (.aload_n 2, 1) := by decide +kernel
theorem dL_law_1273 : decode cL_law 1273 = .ok (.invokevirtual 132, 3) := by decide +kernel
theorem dL_law_1276 : decode cL_law 1276 = .ok (.iload 5, 2) := by decide +kernel
theorem dL_law_1278 : decode cL_law 1278 = .ok (.if_icmp .eq 5, 3) := by decide +kernel
theorem dL_law_1281 : decode cL_law 1281 = .ok (.iconst 0, 1) := by decide +kernel
theorem dL_law_1282 : decode cL_law 1282 = .ok (.ireturn, 1) := by decide +kernel
theorem dL_law_1283 : decode cL_law 1283 = .ok (.iload 5, 2) := by decide +kernel
theorem dL_law_1285 : decode cL_law 1285 = .ok (.ifCond .ne 15, 3) := by decide +kernel
theorem dL_law_1288 : decode cL_law 1288 = .ok (.aload_n 3, 1) := by decide +kernel
theorem dL_law_1289 : decode cL_law 1289 = .ok (.iconst 0, 1) := by decide +kernel
theorem dL_law_1290 : decode cL_law 1290 = .ok (.laload, 1) := by decide +kernel
theorem dL_law_1291 : decode cL_law 1291 = .ok (.iload 6, 2) := by decide +kernel
theorem dL_law_1293 : decode cL_law 1293 = .ok (.i2l, 1) := by decide +kernel
theorem dL_law_1294 : decode cL_law 1294 = .ok (.lcmp, 1) := by decide +kernel
theorem dL_law_1295 : decode cL_law 1295 = .ok (.ifCond .eq 5, 3) := by decide +kernel
theorem dL_law_1298 : decode cL_law 1298 = .ok (.iconst 0, 1) := by decide +kernel
theorem dL_law_1299 : decode cL_law 1299 = .ok (.ireturn, 1) := by decide +kernel
theorem dL_law_1300 : decode cL_law 1300 = .ok (.goto 1199, 3) := by decide +kernel
theorem dL_law_1303 : decode cL_law 1303 = .ok (.aload_n 1, 1) := by decide +kernel
theorem dL_law_1304 : decode cL_law 1304 = .ok (.aload_n 0, 1) := by decide +kernel
theorem dL_law_1305 : decode cL_law 1305 = .ok (.iload 4, 2) := by decide +kernel
theorem dL_law_1307 : decode cL_law 1307 = .ok (.iconst 1, 1) := by decide +kernel
theorem dL_law_1308 : decode cL_law 1308 = .ok (.iadd, 1) := by decide +kernel
theorem dL_law_1309 : decode cL_law 1309 = .ok (.iaload, 1) := by decide +kernel
theorem dL_law_1310 : decode cL_law 1310 = .ok (.aload_n 0, 1) := by decide +kernel
theorem dL_law_1311 : decode cL_law 1311 = .ok (.iload 4, 2) := by decide +kernel
theorem dL_law_1313 : decode cL_law 1313 = .ok (.iconst 2, 1) := by decide +kernel
theorem dL_law_1314 : decode cL_law 1314 = .ok (.iadd, 1) := by decide +kernel
theorem dL_law_1315 : decode cL_law 1315 = .ok (.iaload, 1) := by decide +kernel
theorem dL_law_1316 : decode cL_law 1316 = .ok (.aload_n 3, 1) := by decide +kernel
theorem dL_law_1317 : decode cL_law 1317 = .ok (.invokestatic 206, 3) := by decide +kernel
theorem dL_law_1320 : decode cL_law 1320 = .ok (.istore 5, 2) := by decide +kernel
theorem dL_law_1322 : decode cL_law 1322 = .ok (.aload_n 2, 1) := by decide +kernel
theorem dL_law_1323 : decode cL_law 1323 = .ok (.aload_n 0, 1) := by decide +kernel
theorem dL_law_1324 : decode cL_law 1324 = .ok (.iload 4, 2) := by decide +kernel
theorem dL_law_1326 : decode cL_law 1326 = .ok (.iconst 1, 1) := by decide +kernel
theorem dL_law_1327 : decode cL_law 1327 = .ok (.iadd, 1) := by decide +kernel
theorem dL_law_1328 : decode cL_law 1328 = .ok (.iaload, 1) := by decide +kernel
theorem dL_law_1329 : decode cL_law 1329 = .ok (.aload_n 0, 1) := by decide +kernel
theorem dL_law_1330 : decode cL_law 1330 = .ok (.iload 4, 2) := by decide +kernel
theorem dL_law_1332 : decode cL_law 1332 = .ok (.iconst 2, 1) := by decide +kernel
theorem dL_law_1333 : decode cL_law 1333 = .ok (.iadd, 1) := by decide +kernel
theorem dL_law_1334 : decode cL_law 1334 = .ok (.iaload, 1) := by decide +kernel
theorem dL_law_1335 : decode cL_law 1335 = .ok (.invokevirtual 208, 3) := by decide +kernel
theorem dL_law_1338 : decode cL_law 1338 = .ok (.istore 6, 2) := by decide +kernel
theorem dL_law_1340 : decode cL_law 1340 = .ok (.aload_n 2, 1) := by decide +kernel
theorem dL_law_1341 : decode cL_law 1341 = .ok (.invokevirtual 132, 3) := by decide +kernel
theorem dL_law_1344 : decode cL_law 1344 = .ok (.iload 5, 2) := by decide +kernel
theorem dL_law_1346 : decode cL_law 1346 = .ok (.if_icmp .eq 5, 3) := by decide +kernel
theorem dL_law_1349 : decode cL_law 1349 = .ok (.iconst 0, 1) := by decide +kernel
theorem dL_law_1350 : decode cL_law 1350 = .ok (.ireturn, 1) := by decide +kernel
theorem dL_law_1351 : decode cL_law 1351 = .ok (.iload 5, 2) := by decide +kernel
theorem dL_law_1353 : decode cL_law 1353 = .ok (.ifCond .ne 15, 3) := by decide +kernel
theorem dL_law_1356 : decode cL_law 1356 = .ok (.aload_n 3, 1) := by decide +kernel
theorem dL_law_1357 : decode cL_law 1357 = .ok (.iconst 0, 1) := by decide +kernel
theorem dL_law_1358 : decode cL_law 1358 = .ok (.laload, 1) := by decide +kernel
theorem dL_law_1359 : decode cL_law 1359 = .ok (.iload 6, 2) := by decide +kernel
theorem dL_law_1361 : decode cL_law 1361 = .ok (.i2l, 1) := by decide +kernel
theorem dL_law_1362 : decode cL_law 1362 = .ok (.lcmp, 1) := by decide +kernel
theorem dL_law_1363 : decode cL_law 1363 = .ok (.ifCond .eq 5, 3) := by decide +kernel
theorem dL_law_1366 : decode cL_law 1366 = .ok (.iconst 0, 1) := by decide +kernel
theorem dL_law_1367 : decode cL_law 1367 = .ok (.ireturn, 1) := by decide +kernel
theorem dL_law_1368 : decode cL_law 1368 = .ok (.goto 1131, 3) := by decide +kernel
theorem dL_law_1371 : decode cL_law 1371 = .ok (.aload_n 1, 1) := by decide +kernel
theorem dL_law_1372 : decode cL_law 1372 = .ok (.aload_n 0, 1) := by decide +kernel
theorem dL_law_1373 : decode cL_law 1373 = .ok (.iload 4, 2) := by decide +kernel
theorem dL_law_1375 : decode cL_law 1375 = .ok (.iconst 1, 1) := by decide +kernel
theorem dL_law_1376 : decode cL_law 1376 = .ok (.iadd, 1) := by decide +kernel
theorem dL_law_1377 : decode cL_law 1377 = .ok (.iaload, 1) := by decide +kernel
theorem dL_law_1378 : decode cL_law 1378 = .ok (.aload_n 3, 1) := by decide +kernel
theorem dL_law_1379 : decode cL_law 1379 = .ok (.invokestatic 209, 3) := by decide +kernel
theorem dL_law_1382 : decode cL_law 1382 = .ok (.istore 5, 2) := by decide +kernel
theorem dL_law_1384 : decode cL_law 1384 = .ok (.aload_n 2, 1) := by decide +kernel
theorem dL_law_1385 : decode cL_law 1385 = .ok (.aload_n 0, 1) := by decide +kernel
theorem dL_law_1386 : decode cL_law 1386 = .ok (.iload 4, 2) := by decide +kernel
theorem dL_law_1388 : decode cL_law 1388 = .ok (.iconst 1, 1) := by decide +kernel
theorem dL_law_1389 : decode cL_law 1389 = .ok (.iadd, 1) := by decide +kernel
theorem dL_law_1390 : decode cL_law 1390 = .ok (.iaload, 1) := by decide +kernel
theorem dL_law_1391 : decode cL_law 1391 = .ok (.invokevirtual 211, 3) := by decide +kernel
theorem dL_law_1394 : decode cL_law 1394 = .ok (.istore 6, 2) := by decide +kernel
theorem dL_law_1396 : decode cL_law 1396 = .ok (.aload_n 2, 1) := by decide +kernel
theorem dL_law_1397 : decode cL_law 1397 = .ok (.invokevirtual 132, 3) := by decide +kernel
theorem dL_law_1400 : decode cL_law 1400 = .ok (.iload 5, 2) := by decide +kernel
theorem dL_law_1402 : decode cL_law 1402 = .ok (.if_icmp .eq 5, 3) := by decide +kernel
theorem dL_law_1405 : decode cL_law 1405 = .ok (.iconst 0, 1) := by decide +kernel
theorem dL_law_1406 : decode cL_law 1406 = .ok (.ireturn, 1) := by decide +kernel
theorem dL_law_1407 : decode cL_law 1407 = .ok (.iload 5, 2) := by decide +kernel
theorem dL_law_1409 : decode cL_law 1409 = .ok (.ifCond .ne 15, 3) := by decide +kernel
theorem dL_law_1412 : decode cL_law 1412 = .ok (.aload_n 3, 1) := by decide +kernel
theorem dL_law_1413 : decode cL_law 1413 = .ok (.iconst 0, 1) := by decide +kernel
theorem dL_law_1414 : decode cL_law 1414 = .ok (.laload, 1) := by decide +kernel
theorem dL_law_1415 : decode cL_law 1415 = .ok (.iload 6, 2) := by decide +kernel
theorem dL_law_1417 : decode cL_law 1417 = .ok (.i2l, 1) := by decide +kernel
theorem dL_law_1418 : decode cL_law 1418 = .ok (.lcmp, 1) := by decide +kernel
theorem dL_law_1419 : decode cL_law 1419 = .ok (.ifCond .eq 5, 3) := by decide +kernel
theorem dL_law_1422 : decode cL_law 1422 = .ok (.iconst 0, 1) := by decide +kernel
theorem dL_law_1423 : decode cL_law 1423 = .ok (.ireturn, 1) := by decide +kernel
theorem dL_law_1424 : decode cL_law 1424 = .ok (.goto 1075, 3) := by decide +kernel
theorem dL_law_1427 : decode cL_law 1427 = .ok (.aload_n 1, 1) := by decide +kernel
theorem dL_law_1428 : decode cL_law 1428 = .ok (.aload_n 0, 1) := by decide +kernel
theorem dL_law_1429 : decode cL_law 1429 = .ok (.iload 4, 2) := by decide +kernel
theorem dL_law_1431 : decode cL_law 1431 = .ok (.iconst 1, 1) := by decide +kernel
theorem dL_law_1432 : decode cL_law 1432 = .ok (.iadd, 1) := by decide +kernel
theorem dL_law_1433 : decode cL_law 1433 = .ok (.iaload, 1) := by decide +kernel
theorem dL_law_1434 : decode cL_law 1434 = .ok (.aload_n 3, 1) := by decide +kernel
theorem dL_law_1435 : decode cL_law 1435 = .ok (.invokestatic 212, 3) := by decide +kernel
theorem dL_law_1438 : decode cL_law 1438 = .ok (.istore 5, 2) := by decide +kernel
theorem dL_law_1440 : decode cL_law 1440 = .ok (.aload_n 2, 1) := by decide +kernel
theorem dL_law_1441 : decode cL_law 1441 = .ok (.aload_n 0, 1) := by decide +kernel
theorem dL_law_1442 : decode cL_law 1442 = .ok (.iload 4, 2) := by decide +kernel
theorem dL_law_1444 : decode cL_law 1444 = .ok (.iconst 1, 1) := by decide +kernel
theorem dL_law_1445 : decode cL_law 1445 = .ok (.iadd, 1) := by decide +kernel
theorem dL_law_1446 : decode cL_law 1446 = .ok (.iaload, 1) := by decide +kernel
theorem dL_law_1447 : decode cL_law 1447 = .ok (.invokevirtual 214, 3) := by decide +kernel
theorem dL_law_1450 : decode cL_law 1450 = .ok (.istore 6, 2) := by decide +kernel
theorem dL_law_1452 : decode cL_law 1452 = .ok (.aload_n 2, 1) := by decide +kernel
theorem dL_law_1453 : decode cL_law 1453 = .ok (.invokevirtual 132, 3) := by decide +kernel
theorem dL_law_1456 : decode cL_law 1456 = .ok (.iload 5, 2) := by decide +kernel
theorem dL_law_1458 : decode cL_law 1458 = .ok (.if_icmp .eq 5, 3) := by decide +kernel
theorem dL_law_1461 : decode cL_law 1461 = .ok (.iconst 0, 1) := by decide +kernel
theorem dL_law_1462 : decode cL_law 1462 = .ok (.ireturn, 1) := by decide +kernel
theorem dL_law_1463 : decode cL_law 1463 = .ok (.iload 5, 2) := by decide +kernel
theorem dL_law_1465 : decode cL_law 1465 = .ok (.ifCond .ne 15, 3) := by decide +kernel
theorem dL_law_1468 : decode cL_law 1468 = .ok (.aload_n 3, 1) := by decide +kernel
theorem dL_law_1469 : decode cL_law 1469 = .ok (.iconst 0, 1) := by decide +kernel
theorem dL_law_1470 : decode cL_law 1470 = .ok (.laload, 1) := by decide +kernel
theorem dL_law_1471 : decode cL_law 1471 = .ok (.iload 6, 2) := by decide +kernel
theorem dL_law_1473 : decode cL_law 1473 = .ok (.i2l, 1) := by decide +kernel
theorem dL_law_1474 : decode cL_law 1474 = .ok (.lcmp, 1) := by decide +kernel
theorem dL_law_1475 : decode cL_law 1475 = .ok (.ifCond .eq 5, 3) := by decide +kernel
theorem dL_law_1478 : decode cL_law 1478 = .ok (.iconst 0, 1) := by decide +kernel
theorem dL_law_1479 : decode cL_law 1479 = .ok (.ireturn, 1) := by decide +kernel
theorem dL_law_1480 : decode cL_law 1480 = .ok (.goto 1019, 3) := by decide +kernel
theorem dL_law_1483 : decode cL_law 1483 = .ok (.aload_n 1, 1) := by decide +kernel
theorem dL_law_1484 : decode cL_law 1484 = .ok (.aload_n 0, 1) := by decide +kernel
theorem dL_law_1485 : decode cL_law 1485 = .ok (.iload 4, 2) := by decide +kernel
theorem dL_law_1487 : decode cL_law 1487 = .ok (.iconst 1, 1) := by decide +kernel
theorem dL_law_1488 : decode cL_law 1488 = .ok (.iadd, 1) := by decide +kernel
theorem dL_law_1489 : decode cL_law 1489 = .ok (.iaload, 1) := by decide +kernel
theorem dL_law_1490 : decode cL_law 1490 = .ok (.aload_n 3, 1) := by decide +kernel
theorem dL_law_1491 : decode cL_law 1491 = .ok (.invokestatic 215, 3) := by decide +kernel
theorem dL_law_1494 : decode cL_law 1494 = .ok (.istore 5, 2) := by decide +kernel
theorem dL_law_1496 : decode cL_law 1496 = .ok (.aload_n 2, 1) := by decide +kernel
theorem dL_law_1497 : decode cL_law 1497 = .ok (.aload_n 0, 1) := by decide +kernel
theorem dL_law_1498 : decode cL_law 1498 = .ok (.iload 4, 2) := by decide +kernel
theorem dL_law_1500 : decode cL_law 1500 = .ok (.iconst 1, 1) := by decide +kernel
theorem dL_law_1501 : decode cL_law 1501 = .ok (.iadd, 1) := by decide +kernel
theorem dL_law_1502 : decode cL_law 1502 = .ok (.iaload, 1) := by decide +kernel
theorem dL_law_1503 : decode cL_law 1503 = .ok (.invokevirtual 217, 3) := by decide +kernel
theorem dL_law_1506 : decode cL_law 1506 = .ok (.istore 6, 2) := by decide +kernel
theorem dL_law_1508 : decode cL_law 1508 = .ok (.aload_n 2, 1) := by decide +kernel
theorem dL_law_1509 : decode cL_law 1509 = .ok (.invokevirtual 132, 3) := by decide +kernel
theorem dL_law_1512 : decode cL_law 1512 = .ok (.iload 5, 2) := by decide +kernel
theorem dL_law_1514 : decode cL_law 1514 = .ok (.if_icmp .eq 5, 3) := by decide +kernel
theorem dL_law_1517 : decode cL_law 1517 = .ok (.iconst 0, 1) := by decide +kernel
theorem dL_law_1518 : decode cL_law 1518 = .ok (.ireturn, 1) := by decide +kernel
theorem dL_law_1519 : decode cL_law 1519 = .ok (.iload 5, 2) := by decide +kernel
theorem dL_law_1521 : decode cL_law 1521 = .ok (.ifCond .ne 15, 3) := by decide +kernel
theorem dL_law_1524 : decode cL_law 1524 = .ok (.aload_n 3, 1) := by decide +kernel
theorem dL_law_1525 : decode cL_law 1525 = .ok (.iconst 0, 1) := by decide +kernel
theorem dL_law_1526 : decode cL_law 1526 = .ok (.laload, 1) := by decide +kernel
theorem dL_law_1527 : decode cL_law 1527 = .ok (.iload 6, 2) := by decide +kernel
theorem dL_law_1529 : decode cL_law 1529 = .ok (.i2l, 1) := by decide +kernel
theorem dL_law_1530 : decode cL_law 1530 = .ok (.lcmp, 1) := by decide +kernel
theorem dL_law_1531 : decode cL_law 1531 = .ok (.ifCond .eq 5, 3) := by decide +kernel
theorem dL_law_1534 : decode cL_law 1534 = .ok (.iconst 0, 1) := by decide +kernel
theorem dL_law_1535 : decode cL_law 1535 = .ok (.ireturn, 1) := by decide +kernel
theorem dL_law_1536 : decode cL_law 1536 = .ok (.goto 963, 3) := by decide +kernel
theorem dL_law_1539 : decode cL_law 1539 = .ok (.aload_n 1, 1) := by decide +kernel
theorem dL_law_1540 : decode cL_law 1540 = .ok (.aload_n 0, 1) := by decide +kernel
theorem dL_law_1541 : decode cL_law 1541 = .ok (.iload 4, 2) := by decide +kernel
theorem dL_law_1543 : decode cL_law 1543 = .ok (.iconst 1, 1) := by decide +kernel
theorem dL_law_1544 : decode cL_law 1544 = .ok (.iadd, 1) := by decide +kernel
theorem dL_law_1545 : decode cL_law 1545 = .ok (.iaload, 1) := by decide +kernel
theorem dL_law_1546 : decode cL_law 1546 = .ok (.aload_n 3, 1) := by decide +kernel
theorem dL_law_1547 : decode cL_law 1547 = .ok (.invokestatic 218, 3) := by decide +kernel
theorem dL_law_1550 : decode cL_law 1550 = .ok (.istore 5, 2) := by decide +kernel
theorem dL_law_1552 : decode cL_law 1552 = .ok (.aload_n 2, 1) := by decide +kernel
theorem dL_law_1553 : decode cL_law 1553 = .ok (.aload_n 0, 1) := by decide +kernel
theorem dL_law_1554 : decode cL_law 1554 = .ok (.iload 4, 2) := by decide +kernel
theorem dL_law_1556 : decode cL_law 1556 = .ok (.iconst 1, 1) := by decide +kernel
theorem dL_law_1557 : decode cL_law 1557 = .ok (.iadd, 1) := by decide +kernel
theorem dL_law_1558 : decode cL_law 1558 = .ok (.iaload, 1) := by decide +kernel
theorem dL_law_1559 : decode cL_law 1559 = .ok (.invokevirtual 220, 3) := by decide +kernel
theorem dL_law_1562 : decode cL_law 1562 = .ok (.istore 6, 2) := by decide +kernel
theorem dL_law_1564 : decode cL_law 1564 = .ok (.aload_n 2, 1) := by decide +kernel
theorem dL_law_1565 : decode cL_law 1565 = .ok (.invokevirtual 132, 3) := by decide +kernel
theorem dL_law_1568 : decode cL_law 1568 = .ok (.iload 5, 2) := by decide +kernel
theorem dL_law_1570 : decode cL_law 1570 = .ok (.if_icmp .eq 5, 3) := by decide +kernel
theorem dL_law_1573 : decode cL_law 1573 = .ok (.iconst 0, 1) := by decide +kernel
theorem dL_law_1574 : decode cL_law 1574 = .ok (.ireturn, 1) := by decide +kernel
theorem dL_law_1575 : decode cL_law 1575 = .ok (.iload 5, 2) := by decide +kernel
theorem dL_law_1577 : decode cL_law 1577 = .ok (.ifCond .ne 22, 3) := by decide +kernel
theorem dL_law_1580 : decode cL_law 1580 = .ok (.aload_n 3, 1) := by decide +kernel
theorem dL_law_1581 : decode cL_law 1581 = .ok (.iconst 0, 1) := by decide +kernel
theorem dL_law_1582 : decode cL_law 1582 = .ok (.laload, 1) := by decide +kernel
theorem dL_law_1583 : decode cL_law 1583 = .ok (.iload 6, 2) := by decide +kernel
theorem dL_law_1585 : decode cL_law 1585 = .ok (.ifCond .eq 7, 3) := by decide +kernel
theorem dL_law_1588 : decode cL_law 1588 = .ok (.lconst 1, 1) := by decide +kernel
theorem dL_law_1589 : decode cL_law 1589 = .ok (.goto 4, 3) := by decide +kernel
theorem dL_law_1592 : decode cL_law 1592 = .ok (.lconst 0, 1) := by decide +kernel
theorem dL_law_1593 : decode cL_law 1593 = .ok (.lcmp, 1) := by decide +kernel
theorem dL_law_1594 : decode cL_law 1594 = .ok (.ifCond .eq 5, 3) := by decide +kernel
theorem dL_law_1597 : decode cL_law 1597 = .ok (.iconst 0, 1) := by decide +kernel
theorem dL_law_1598 : decode cL_law 1598 = .ok (.ireturn, 1) := by decide +kernel
theorem dL_law_1599 : decode cL_law 1599 = .ok (.goto 900, 3) := by decide +kernel
theorem dL_law_1602 : decode cL_law 1602 = .ok (.aload_n 1, 1) := by decide +kernel
theorem dL_law_1603 : decode cL_law 1603 = .ok (.aload_n 0, 1) := by decide +kernel
theorem dL_law_1604 : decode cL_law 1604 = .ok (.iload 4, 2) := by decide +kernel
theorem dL_law_1606 : decode cL_law 1606 = .ok (.iconst 1, 1) := by decide +kernel
theorem dL_law_1607 : decode cL_law 1607 = .ok (.iadd, 1) := by decide +kernel
theorem dL_law_1608 : decode cL_law 1608 = .ok (.iaload, 1) := by decide +kernel
theorem dL_law_1609 : decode cL_law 1609 = .ok (.aload_n 3, 1) := by decide +kernel
theorem dL_law_1610 : decode cL_law 1610 = .ok (.invokestatic 221, 3) := by decide +kernel
theorem dL_law_1613 : decode cL_law 1613 = .ok (.istore 5, 2) := by decide +kernel
theorem dL_law_1615 : decode cL_law 1615 = .ok (.aload_n 2, 1) := by decide +kernel
theorem dL_law_1616 : decode cL_law 1616 = .ok (.aload_n 0, 1) := by decide +kernel
theorem dL_law_1617 : decode cL_law 1617 = .ok (.iload 4, 2) := by decide +kernel
theorem dL_law_1619 : decode cL_law 1619 = .ok (.iconst 1, 1) := by decide +kernel
theorem dL_law_1620 : decode cL_law 1620 = .ok (.iadd, 1) := by decide +kernel
theorem dL_law_1621 : decode cL_law 1621 = .ok (.iaload, 1) := by decide +kernel
theorem dL_law_1622 : decode cL_law 1622 = .ok (.invokevirtual 223, 3) := by decide +kernel
theorem dL_law_1625 : decode cL_law 1625 = .ok (.istore 6, 2) := by decide +kernel
theorem dL_law_1627 : decode cL_law 1627 = .ok (.aload_n 2, 1) := by decide +kernel
theorem dL_law_1628 : decode cL_law 1628 = .ok (.invokevirtual 132, 3) := by decide +kernel
theorem dL_law_1631 : decode cL_law 1631 = .ok (.iload 5, 2) := by decide +kernel
theorem dL_law_1633 : decode cL_law 1633 = .ok (.if_icmp .eq 5, 3) := by decide +kernel
theorem dL_law_1636 : decode cL_law 1636 = .ok (.iconst 0, 1) := by decide +kernel
theorem dL_law_1637 : decode cL_law 1637 = .ok (.ireturn, 1) := by decide +kernel
theorem dL_law_1638 : decode cL_law 1638 = .ok (.iload 5, 2) := by decide +kernel
theorem dL_law_1640 : decode cL_law 1640 = .ok (.ifCond .ne 15, 3) := by decide +kernel
theorem dL_law_1643 : decode cL_law 1643 = .ok (.aload_n 3, 1) := by decide +kernel
theorem dL_law_1644 : decode cL_law 1644 = .ok (.iconst 0, 1) := by decide +kernel
theorem dL_law_1645 : decode cL_law 1645 = .ok (.laload, 1) := by decide +kernel
theorem dL_law_1646 : decode cL_law 1646 = .ok (.iload 6, 2) := by decide +kernel
theorem dL_law_1648 : decode cL_law 1648 = .ok (.i2l, 1) := by decide +kernel
theorem dL_law_1649 : decode cL_law 1649 = .ok (.lcmp, 1) := by decide +kernel
theorem dL_law_1650 : decode cL_law 1650 = .ok (.ifCond .eq 5, 3) := by decide +kernel
theorem dL_law_1653 : decode cL_law 1653 = .ok (.iconst 0, 1) := by decide +kernel
theorem dL_law_1654 : decode cL_law 1654 = .ok (.ireturn, 1) := by decide +kernel
theorem dL_law_1655 : decode cL_law 1655 = .ok (.goto 844, 3) := by decide +kernel
theorem dL_law_1658 : decode cL_law 1658 = .ok (.aload_n 1, 1) := by decide +kernel
theorem dL_law_1659 : decode cL_law 1659 = .ok (.aload_n 0, 1) := by decide +kernel
theorem dL_law_1660 : decode cL_law 1660 = .ok (.iload 4, 2) := by decide +kernel
theorem dL_law_1662 : decode cL_law 1662 = .ok (.iconst 1, 1) := by decide +kernel
theorem dL_law_1663 : decode cL_law 1663 = .ok (.iadd, 1) := by decide +kernel
theorem dL_law_1664 : decode cL_law 1664 = .ok (.iaload, 1) := by decide +kernel
theorem dL_law_1665 : decode cL_law 1665 = .ok (.aload_n 3, 1) := by decide +kernel
theorem dL_law_1666 : decode cL_law 1666 = .ok (.invokestatic 224, 3) := by decide +kernel
theorem dL_law_1669 : decode cL_law 1669 = .ok (.istore 5, 2) := by decide +kernel
theorem dL_law_1671 : decode cL_law 1671 = .ok (.aload_n 2, 1) := by decide +kernel
theorem dL_law_1672 : decode cL_law 1672 = .ok (.aload_n 0, 1) := by decide +kernel
theorem dL_law_1673 : decode cL_law 1673 = .ok (.iload 4, 2) := by decide +kernel
theorem dL_law_1675 : decode cL_law 1675 = .ok (.iconst 1, 1) := by decide +kernel
theorem dL_law_1676 : decode cL_law 1676 = .ok (.iadd, 1) := by decide +kernel
theorem dL_law_1677 : decode cL_law 1677 = .ok (.iaload, 1) := by decide +kernel
theorem dL_law_1678 : decode cL_law 1678 = .ok (.invokevirtual 226, 3) := by decide +kernel
theorem dL_law_1681 : decode cL_law 1681 = .ok (.istore 6, 2) := by decide +kernel
theorem dL_law_1683 : decode cL_law 1683 = .ok (.aload_n 2, 1) := by decide +kernel
theorem dL_law_1684 : decode cL_law 1684 = .ok (.invokevirtual 132, 3) := by decide +kernel
theorem dL_law_1687 : decode cL_law 1687 = .ok (.iload 5, 2) := by decide +kernel
theorem dL_law_1689 : decode cL_law 1689 = .ok (.if_icmp .eq 5, 3) := by decide +kernel
theorem dL_law_1692 : decode cL_law 1692 = .ok (.iconst 0, 1) := by decide +kernel
theorem dL_law_1693 : decode cL_law 1693 = .ok (.ireturn, 1) := by decide +kernel
theorem dL_law_1694 : decode cL_law 1694 = .ok (.iload 5, 2) := by decide +kernel
theorem dL_law_1696 : decode cL_law 1696 = .ok (.ifCond .ne 15, 3) := by decide +kernel
theorem dL_law_1699 : decode cL_law 1699 = .ok (.aload_n 3, 1) := by decide +kernel
theorem dL_law_1700 : decode cL_law 1700 = .ok (.iconst 0, 1) := by decide +kernel
theorem dL_law_1701 : decode cL_law 1701 = .ok (.laload, 1) := by decide +kernel
theorem dL_law_1702 : decode cL_law 1702 = .ok (.iload 6, 2) := by decide +kernel
theorem dL_law_1704 : decode cL_law 1704 = .ok (.i2l, 1) := by decide +kernel
theorem dL_law_1705 : decode cL_law 1705 = .ok (.lcmp, 1) := by decide +kernel
theorem dL_law_1706 : decode cL_law 1706 = .ok (.ifCond .eq 5, 3) := by decide +kernel
theorem dL_law_1709 : decode cL_law 1709 = .ok (.iconst 0, 1) := by decide +kernel
theorem dL_law_1710 : decode cL_law 1710 = .ok (.ireturn, 1) := by decide +kernel
theorem dL_law_1711 : decode cL_law 1711 = .ok (.goto 788, 3) := by decide +kernel
theorem dL_law_1714 : decode cL_law 1714 = .ok (.aload_n 1, 1) := by decide +kernel
theorem dL_law_1715 : decode cL_law 1715 = .ok (.invokevirtual 227, 3) := by decide +kernel
theorem dL_law_1718 : decode cL_law 1718 = .ok (.aload_n 2, 1) := by decide +kernel
theorem dL_law_1719 : decode cL_law 1719 = .ok (.invokevirtual 230, 3) := by decide +kernel
theorem dL_law_1722 : decode cL_law 1722 = .ok (.if_icmp .eq 777, 3) := by decide +kernel
theorem dL_law_1725 : decode cL_law 1725 = .ok (.iconst 0, 1) := by decide +kernel
theorem dL_law_1726 : decode cL_law 1726 = .ok (.ireturn, 1) := by decide +kernel
theorem dL_law_1727 : decode cL_law 1727 = .ok (.aload_n 1, 1) := by decide +kernel
theorem dL_law_1728 : decode cL_law 1728 = .ok (.invokevirtual 231, 3) := by decide +kernel
theorem dL_law_1731 : decode cL_law 1731 = .ok (.aload_n 2, 1) := by decide +kernel
theorem dL_law_1732 : decode cL_law 1732 = .ok (.invokevirtual 234, 3) := by decide +kernel
theorem dL_law_1735 : decode cL_law 1735 = .ok (.if_icmp .eq 764, 3) := by decide +kernel
theorem dL_law_1738 : decode cL_law 1738 = .ok (.iconst 0, 1) := by decide +kernel
theorem dL_law_1739 : decode cL_law 1739 = .ok (.ireturn, 1) := by decide +kernel
theorem dL_law_1740 : decode cL_law 1740 = .ok (.aload_n 1, 1) := by decide +kernel
theorem dL_law_1741 : decode cL_law 1741 = .ok (.aload_n 0, 1) := by decide +kernel
theorem dL_law_1742 : decode cL_law 1742 = .ok (.iload 4, 2) := by decide +kernel
theorem dL_law_1744 : decode cL_law 1744 = .ok (.iconst 1, 1) := by decide +kernel
theorem dL_law_1745 : decode cL_law 1745 = .ok (.iadd, 1) := by decide +kernel
theorem dL_law_1746 : decode cL_law 1746 = .ok (.iaload, 1) := by decide +kernel
theorem dL_law_1747 : decode cL_law 1747 = .ok (.aload_n 3, 1) := by decide +kernel
theorem dL_law_1748 : decode cL_law 1748 = .ok (.invokestatic 235, 3) := by decide +kernel
theorem dL_law_1751 : decode cL_law 1751 = .ok (.istore 5, 2) := by decide +kernel
theorem dL_law_1753 : decode cL_law 1753 = .ok (.aload_n 2, 1) := by decide +kernel
theorem dL_law_1754 : decode cL_law 1754 = .ok (.aload_n 0, 1) := by decide +kernel
theorem dL_law_1755 : decode cL_law 1755 = .ok (.iload 4, 2) := by decide +kernel
theorem dL_law_1757 : decode cL_law 1757 = .ok (.iconst 1, 1) := by decide +kernel
theorem dL_law_1758 : decode cL_law 1758 = .ok (.iadd, 1) := by decide +kernel
theorem dL_law_1759 : decode cL_law 1759 = .ok (.iaload, 1) := by decide +kernel
theorem dL_law_1760 : decode cL_law 1760 = .ok (.invokevirtual 237, 3) := by decide +kernel
theorem dL_law_1763 : decode cL_law 1763 = .ok (.istore 6, 2) := by decide +kernel
theorem dL_law_1765 : decode cL_law 1765 = .ok (.aload_n 2, 1) := by decide +kernel
theorem dL_law_1766 : decode cL_law 1766 = .ok (.invokevirtual 132, 3) := by decide +kernel
theorem dL_law_1769 : decode cL_law 1769 = .ok (.iload 5, 2) := by decide +kernel
theorem dL_law_1771 : decode cL_law 1771 = .ok (.if_icmp .eq 5, 3) := by decide +kernel
theorem dL_law_1774 : decode cL_law 1774 = .ok (.iconst 0, 1) := by decide +kernel
theorem dL_law_1775 : decode cL_law 1775 = .ok (.ireturn, 1) := by decide +kernel
theorem dL_law_1776 : decode cL_law 1776 = .ok (.iload 5, 2) := by decide +kernel
theorem dL_law_1778 : decode cL_law 1778 = .ok (.ifCond .ne 15, 3) := by decide +kernel
theorem dL_law_1781 : decode cL_law 1781 = .ok (.aload_n 3, 1) := by decide +kernel
theorem dL_law_1782 : decode cL_law 1782 = .ok (.iconst 0, 1) := by decide +kernel
theorem dL_law_1783 : decode cL_law 1783 = .ok (.laload, 1) := by decide +kernel
theorem dL_law_1784 : decode cL_law 1784 = .ok (.iload 6, 2) := by decide +kernel
theorem dL_law_1786 : decode cL_law 1786 = .ok (.i2l, 1) := by decide +kernel
theorem dL_law_1787 : decode cL_law 1787 = .ok (.lcmp, 1) := by decide +kernel
theorem dL_law_1788 : decode cL_law 1788 = .ok (.ifCond .eq 5, 3) := by decide +kernel
theorem dL_law_1791 : decode cL_law 1791 = .ok (.iconst 0, 1) := by decide +kernel
theorem dL_law_1792 : decode cL_law 1792 = .ok (.ireturn, 1) := by decide +kernel
theorem dL_law_1793 : decode cL_law 1793 = .ok (.goto 706, 3) := by decide +kernel
theorem dL_law_1796 : decode cL_law 1796 = .ok (.aload_n 1, 1) := by decide +kernel
theorem dL_law_1797 : decode cL_law 1797 = .ok (.aload_n 0, 1) := by decide +kernel
theorem dL_law_1798 : decode cL_law 1798 = .ok (.iload 4, 2) := by decide +kernel
theorem dL_law_1800 : decode cL_law 1800 = .ok (.iconst 1, 1) := by decide +kernel
theorem dL_law_1801 : decode cL_law 1801 = .ok (.iadd, 1) := by decide +kernel
theorem dL_law_1802 : decode cL_law 1802 = .ok (.iaload, 1) := by decide +kernel
theorem dL_law_1803 : decode cL_law 1803 = .ok (.aload_n 0, 1) := by decide +kernel
theorem dL_law_1804 : decode cL_law 1804 = .ok (.iload 4, 2) := by decide +kernel
theorem dL_law_1806 : decode cL_law 1806 = .ok (.iconst 2, 1) := by decide +kernel
theorem dL_law_1807 : decode cL_law 1807 = .ok (.iadd, 1) := by decide +kernel
theorem dL_law_1808 : decode cL_law 1808 = .ok (.iaload, 1) := by decide +kernel
theorem dL_law_1809 : decode cL_law 1809 = .ok (.aload_n 3, 1) := by decide +kernel
theorem dL_law_1810 : decode cL_law 1810 = .ok (.invokestatic 238, 3) := by decide +kernel
theorem dL_law_1813 : decode cL_law 1813 = .ok (.istore 5, 2) := by decide +kernel
theorem dL_law_1815 : decode cL_law 1815 = .ok (.aload_n 2, 1) := by decide +kernel
theorem dL_law_1816 : decode cL_law 1816 = .ok (.aload_n 0, 1) := by decide +kernel
theorem dL_law_1817 : decode cL_law 1817 = .ok (.iload 4, 2) := by decide +kernel
theorem dL_law_1819 : decode cL_law 1819 = .ok (.iconst 1, 1) := by decide +kernel
theorem dL_law_1820 : decode cL_law 1820 = .ok (.iadd, 1) := by decide +kernel
theorem dL_law_1821 : decode cL_law 1821 = .ok (.iaload, 1) := by decide +kernel
theorem dL_law_1822 : decode cL_law 1822 = .ok (.aload_n 0, 1) := by decide +kernel
theorem dL_law_1823 : decode cL_law 1823 = .ok (.iload 4, 2) := by decide +kernel
theorem dL_law_1825 : decode cL_law 1825 = .ok (.iconst 2, 1) := by decide +kernel
theorem dL_law_1826 : decode cL_law 1826 = .ok (.iadd, 1) := by decide +kernel
theorem dL_law_1827 : decode cL_law 1827 = .ok (.iaload, 1) := by decide +kernel
theorem dL_law_1828 : decode cL_law 1828 = .ok (.invokevirtual 240, 3) := by decide +kernel
theorem dL_law_1831 : decode cL_law 1831 = .ok (.istore 6, 2) := by decide +kernel
theorem dL_law_1833 : decode cL_law 1833 = .ok (.aload_n 2, 1) := by decide +kernel
theorem dL_law_1834 : decode cL_law 1834 = .ok (.invokevirtual 132, 3) := by decide +kernel
theorem dL_law_1837 : decode cL_law 1837 = .ok (.iload 5, 2) := by decide +kernel
theorem dL_law_1839 : decode cL_law 1839 = .ok (.if_icmp .eq 5, 3) := by decide +kernel
theorem dL_law_1842 : decode cL_law 1842 = .ok (.iconst 0, 1) := by decide +kernel
theorem dL_law_1843 : decode cL_law 1843 = .ok (.ireturn, 1) := by decide +kernel
theorem dL_law_1844 : decode cL_law 1844 = .ok (.iload 5, 2) := by decide +kernel
theorem dL_law_1846 : decode cL_law 1846 = .ok (.ifCond .ne 15, 3) := by decide +kernel
theorem dL_law_1849 : decode cL_law 1849 = .ok (.aload_n 3, 1) := by decide +kernel
theorem dL_law_1850 : decode cL_law 1850 = .ok (.iconst 0, 1) := by decide +kernel
theorem dL_law_1851 : decode cL_law 1851 = .ok (.laload, 1) := by decide +kernel
theorem dL_law_1852 : decode cL_law 1852 = .ok (.iload 6, 2) := by decide +kernel
theorem dL_law_1854 : decode cL_law 1854 = .ok (.i2l, 1) := by decide +kernel
theorem dL_law_1855 : decode cL_law 1855 = .ok (.lcmp, 1) := by decide +kernel
theorem dL_law_1856 : decode cL_law 1856 = .ok (.ifCond .eq 5, 3) := by decide +kernel
theorem dL_law_1859 : decode cL_law 1859 = .ok (.iconst 0, 1) := by decide +kernel
theorem dL_law_1860 : decode cL_law 1860 = .ok (.ireturn, 1) := by decide +kernel
theorem dL_law_1861 : decode cL_law 1861 = .ok (.goto 638, 3) := by decide +kernel
theorem dL_law_1864 : decode cL_law 1864 = .ok (.aload_n 1, 1) := by decide +kernel
theorem dL_law_1865 : decode cL_law 1865 = .ok (.aload_n 0, 1) := by decide +kernel
theorem dL_law_1866 : decode cL_law 1866 = .ok (.iload 4, 2) := by decide +kernel
theorem dL_law_1868 : decode cL_law 1868 = .ok (.iconst 1, 1) := by decide +kernel
theorem dL_law_1869 : decode cL_law 1869 = .ok (.iadd, 1) := by decide +kernel
theorem dL_law_1870 : decode cL_law 1870 = .ok (.iaload, 1) := by decide +kernel
theorem dL_law_1871 : decode cL_law 1871 = .ok (.aload_n 0, 1) := by decide +kernel
theorem dL_law_1872 : decode cL_law 1872 = .ok (.iload 4, 2) := by decide +kernel
theorem dL_law_1874 : decode cL_law 1874 = .ok (.iconst 2, 1) := by decide +kernel
theorem dL_law_1875 : decode cL_law 1875 = .ok (.iadd, 1) := by decide +kernel
theorem dL_law_1876 : decode cL_law 1876 = .ok (.iaload, 1) := by decide +kernel
theorem dL_law_1877 : decode cL_law 1877 = .ok (.aload_n 3, 1) := by decide +kernel
theorem dL_law_1878 : decode cL_law 1878 = .ok (.invokestatic 241, 3) := by decide +kernel
theorem dL_law_1881 : decode cL_law 1881 = .ok (.istore 5, 2) := by decide +kernel
theorem dL_law_1883 : decode cL_law 1883 = .ok (.aload_n 2, 1) := by decide +kernel
theorem dL_law_1884 : decode cL_law 1884 = .ok (.aload_n 0, 1) := by decide +kernel
theorem dL_law_1885 : decode cL_law 1885 = .ok (.iload 4, 2) := by decide +kernel
theorem dL_law_1887 : decode cL_law 1887 = .ok (.iconst 1, 1) := by decide +kernel
theorem dL_law_1888 : decode cL_law 1888 = .ok (.iadd, 1) := by decide +kernel
theorem dL_law_1889 : decode cL_law 1889 = .ok (.iaload, 1) := by decide +kernel
theorem dL_law_1890 : decode cL_law 1890 = .ok (.aload_n 0, 1) := by decide +kernel
theorem dL_law_1891 : decode cL_law 1891 = .ok (.iload 4, 2) := by decide +kernel
theorem dL_law_1893 : decode cL_law 1893 = .ok (.iconst 2, 1) := by decide +kernel
theorem dL_law_1894 : decode cL_law 1894 = .ok (.iadd, 1) := by decide +kernel
theorem dL_law_1895 : decode cL_law 1895 = .ok (.iaload, 1) := by decide +kernel
theorem dL_law_1896 : decode cL_law 1896 = .ok (.invokevirtual 243, 3) := by decide +kernel
theorem dL_law_1899 : decode cL_law 1899 = .ok (.istore 6, 2) := by decide +kernel
theorem dL_law_1901 : decode cL_law 1901 = .ok (.aload_n 2, 1) := by decide +kernel
theorem dL_law_1902 : decode cL_law 1902 = .ok (.invokevirtual 132, 3) := by decide +kernel
theorem dL_law_1905 : decode cL_law 1905 = .ok (.iload 5, 2) := by decide +kernel
theorem dL_law_1907 : decode cL_law 1907 = .ok (.if_icmp .eq 5, 3) := by decide +kernel
theorem dL_law_1910 : decode cL_law 1910 = .ok (.iconst 0, 1) := by decide +kernel
theorem dL_law_1911 : decode cL_law 1911 = .ok (.ireturn, 1) := by decide +kernel
theorem dL_law_1912 : decode cL_law 1912 = .ok (.iload 5, 2) := by decide +kernel
theorem dL_law_1914 : decode cL_law 1914 = .ok (.ifCond .ne 15, 3) := by decide +kernel
theorem dL_law_1917 : decode cL_law 1917 = .ok (.aload_n 3, 1) := by decide +kernel
theorem dL_law_1918 : decode cL_law 1918 = .ok (.iconst 0, 1) := by decide +kernel
theorem dL_law_1919 : decode cL_law 1919 = .ok (.laload, 1) := by decide +kernel
theorem dL_law_1920 : decode cL_law 1920 = .ok (.iload 6, 2) := by decide +kernel
theorem dL_law_1922 : decode cL_law 1922 = .ok (.i2l, 1) := by decide +kernel
theorem dL_law_1923 : decode cL_law 1923 = .ok (.lcmp, 1) := by decide +kernel
theorem dL_law_1924 : decode cL_law 1924 = .ok (.ifCond .eq 5, 3) := by decide +kernel
theorem dL_law_1927 : decode cL_law 1927 = .ok (.iconst 0, 1) := by decide +kernel
theorem dL_law_1928 : decode cL_law 1928 = .ok (.ireturn, 1) := by decide +kernel
theorem dL_law_1929 : decode cL_law 1929 = .ok (.goto 570, 3) := by decide +kernel
theorem dL_law_1932 : decode cL_law 1932 = .ok (.aload_n 1, 1) := by decide +kernel
theorem dL_law_1933 : decode cL_law 1933 = .ok (.invokevirtual 244, 3) := by decide +kernel
theorem dL_law_1936 : decode cL_law 1936 = .ok (.aload_n 2, 1) := by decide +kernel
theorem dL_law_1937 : decode cL_law 1937 = .ok (.invokevirtual 247, 3) := by decide +kernel
theorem dL_law_1940 : decode cL_law 1940 = .ok (.if_icmp .eq 559, 3) := by decide +kernel
theorem dL_law_1943 : decode cL_law 1943 = .ok (.iconst 0, 1) := by decide +kernel
theorem dL_law_1944 : decode cL_law 1944 = .ok (.ireturn, 1) := by decide +kernel
theorem dL_law_1945 : decode cL_law 1945 = .ok (.aload_n 1, 1) := by decide +kernel
theorem dL_law_1946 : decode cL_law 1946 = .ok (.aload_n 0, 1) := by decide +kernel
theorem dL_law_1947 : decode cL_law 1947 = .ok (.iload 4, 2) := by decide +kernel
theorem dL_law_1949 : decode cL_law 1949 = .ok (.iconst 1, 1) := by decide +kernel
theorem dL_law_1950 : decode cL_law 1950 = .ok (.iadd, 1) := by decide +kernel
theorem dL_law_1951 : decode cL_law 1951 = .ok (.iaload, 1) := by decide +kernel
theorem dL_law_1952 : decode cL_law 1952 = .ok (.aload_n 3, 1) := by decide +kernel
theorem dL_law_1953 : decode cL_law 1953 = .ok (.invokestatic 248, 3) := by decide +kernel
theorem dL_law_1956 : decode cL_law 1956 = .ok (.istore 5, 2) := by decide +kernel
theorem dL_law_1958 : decode cL_law 1958 = .ok (.aload_n 2, 1) := by decide +kernel
theorem dL_law_1959 : decode cL_law 1959 = .ok (.aload_n 0, 1) := by decide +kernel
theorem dL_law_1960 : decode cL_law 1960 = .ok (.iload 4, 2) := by decide +kernel
theorem dL_law_1962 : decode cL_law 1962 = .ok (.iconst 1, 1) := by decide +kernel
theorem dL_law_1963 : decode cL_law 1963 = .ok (.iadd, 1) := by decide +kernel
theorem dL_law_1964 : decode cL_law 1964 = .ok (.iaload, 1) := by decide +kernel
theorem dL_law_1965 : decode cL_law 1965 = .ok (.invokevirtual 250, 3) := by decide +kernel
theorem dL_law_1968 : decode cL_law 1968 = .ok (.istore 6, 2) := by decide +kernel
theorem dL_law_1970 : decode cL_law 1970 = .ok (.aload_n 2, 1) := by decide +kernel
theorem dL_law_1971 : decode cL_law 1971 = .ok (.invokevirtual 132, 3) := by decide +kernel
theorem dL_law_1974 : decode cL_law 1974 = .ok (.iload 5, 2) := by decide +kernel
theorem dL_law_1976 : decode cL_law 1976 = .ok (.if_icmp .eq 5, 3) := by decide +kernel
theorem dL_law_1979 : decode cL_law 1979 = .ok (.iconst 0, 1) := by decide +kernel
theorem dL_law_1980 : decode cL_law 1980 = .ok (.ireturn, 1) := by decide +kernel
theorem dL_law_1981 : decode cL_law 1981 = .ok (.iload 5, 2) := by decide +kernel
theorem dL_law_1983 : decode cL_law 1983 = .ok (.ifCond .ne 15, 3) := by decide +kernel
theorem dL_law_1986 : decode cL_law 1986 = .ok (.aload_n 3, 1) := by decide +kernel
theorem dL_law_1987 : decode cL_law 1987 = .ok (.iconst 0, 1) := by decide +kernel
theorem dL_law_1988 : decode cL_law 1988 = .ok (.laload, 1) := by decide +kernel
theorem dL_law_1989 : decode cL_law 1989 = .ok (.iload 6, 2) := by decide +kernel
theorem dL_law_1991 : decode cL_law 1991 = .ok (.i2l, 1) := by decide +kernel
theorem dL_law_1992 : decode cL_law 1992 = .ok (.lcmp, 1) := by decide +kernel
theorem dL_law_1993 : decode cL_law 1993 = .ok (.ifCond .eq 5, 3) := by decide +kernel
theorem dL_law_1996 : decode cL_law 1996 = .ok (.iconst 0, 1) := by decide +kernel
theorem dL_law_1997 : decode cL_law 1997 = .ok (.ireturn, 1) := by decide +kernel
theorem dL_law_1998 : decode cL_law 1998 = .ok (.goto 501, 3) := by decide +kernel
theorem dL_law_2001 : decode cL_law 2001 = .ok (.aload_n 1, 1) := by decide +kernel
theorem dL_law_2002 : decode cL_law 2002 = .ok (.aload_n 0, 1) := by decide +kernel
theorem dL_law_2003 : decode cL_law 2003 = .ok (.iload 4, 2) := by decide +kernel
theorem dL_law_2005 : decode cL_law 2005 = .ok (.iconst 1, 1) := by decide +kernel
theorem dL_law_2006 : decode cL_law 2006 = .ok (.iadd, 1) := by decide +kernel
theorem dL_law_2007 : decode cL_law 2007 = .ok (.iaload, 1) := by decide +kernel
theorem dL_law_2008 : decode cL_law 2008 = .ok (.aload_n 3, 1) := by decide +kernel
theorem dL_law_2009 : decode cL_law 2009 = .ok (.invokestatic 251, 3) := by decide +kernel
theorem dL_law_2012 : decode cL_law 2012 = .ok (.istore 5, 2) := by decide +kernel
theorem dL_law_2014 : decode cL_law 2014 = .ok (.aload_n 2, 1) := by decide +kernel
theorem dL_law_2015 : decode cL_law 2015 = .ok (.aload_n 0, 1) := by decide +kernel
theorem dL_law_2016 : decode cL_law 2016 = .ok (.iload 4, 2) := by decide +kernel
theorem dL_law_2018 : decode cL_law 2018 = .ok (.iconst 1, 1) := by decide +kernel
theorem dL_law_2019 : decode cL_law 2019 = .ok (.iadd, 1) := by decide +kernel
theorem dL_law_2020 : decode cL_law 2020 = .ok (.iaload, 1) := by decide +kernel
theorem dL_law_2021 : decode cL_law 2021 = .ok (.invokevirtual 253, 3) := by decide +kernel
theorem dL_law_2024 : decode cL_law 2024 = .ok (.istore 6, 2) := by decide +kernel
theorem dL_law_2026 : decode cL_law 2026 = .ok (.aload_n 2, 1) := by decide +kernel
theorem dL_law_2027 : decode cL_law 2027 = .ok (.invokevirtual 132, 3) := by decide +kernel
theorem dL_law_2030 : decode cL_law 2030 = .ok (.iload 5, 2) := by decide +kernel
theorem dL_law_2032 : decode cL_law 2032 = .ok (.if_icmp .eq 5, 3) := by decide +kernel
theorem dL_law_2035 : decode cL_law 2035 = .ok (.iconst 0, 1) := by decide +kernel
theorem dL_law_2036 : decode cL_law 2036 = .ok (.ireturn, 1) := by decide +kernel
theorem dL_law_2037 : decode cL_law 2037 = .ok (.iload 5, 2) := by decide +kernel
theorem dL_law_2039 : decode cL_law 2039 = .ok (.ifCond .ne 15, 3) := by decide +kernel
theorem dL_law_2042 : decode cL_law 2042 = .ok (.aload_n 3, 1) := by decide +kernel
theorem dL_law_2043 : decode cL_law 2043 = .ok (.iconst 0, 1) := by decide +kernel
theorem dL_law_2044 : decode cL_law 2044 = .ok (.laload, 1) := by decide +kernel
theorem dL_law_2045 : decode cL_law 2045 = .ok (.iload 6, 2) := by decide +kernel
theorem dL_law_2047 : decode cL_law 2047 = .ok (.i2l, 1) := by decide +kernel
theorem dL_law_2048 : decode cL_law 2048 = .ok (.lcmp, 1) := by decide +kernel
theorem dL_law_2049 : decode cL_law 2049 = .ok (.ifCond .eq 5, 3) := by decide +kernel
theorem dL_law_2052 : decode cL_law 2052 = .ok (.iconst 0, 1) := by decide +kernel
theorem dL_law_2053 : decode cL_law 2053 = .ok (.ireturn, 1) := by decide +kernel
theorem dL_law_2054 : decode cL_law 2054 = .ok (.goto 445, 3) := by decide +kernel
theorem dL_law_2057 : decode cL_law 2057 = .ok (.aload_n 1, 1) := by decide +kernel
theorem dL_law_2058 : decode cL_law 2058 = .ok (.aload_n 0, 1) := by decide +kernel
theorem dL_law_2059 : decode cL_law 2059 = .ok (.iload 4, 2) := by decide +kernel
theorem dL_law_2061 : decode cL_law 2061 = .ok (.iconst 1, 1) := by decide +kernel
theorem dL_law_2062 : decode cL_law 2062 = .ok (.iadd, 1) := by decide +kernel
theorem dL_law_2063 : decode cL_law 2063 = .ok (.iaload, 1) := by decide +kernel
theorem dL_law_2064 : decode cL_law 2064 = .ok (.aload_n 3, 1) := by decide +kernel
theorem dL_law_2065 : decode cL_law 2065 = .ok (.invokestatic 254, 3) := by decide +kernel
theorem dL_law_2068 : decode cL_law 2068 = .ok (.istore 5, 2) := by decide +kernel
theorem dL_law_2070 : decode cL_law 2070 = .ok (.aload_n 2, 1) := by decide +kernel
theorem dL_law_2071 : decode cL_law 2071 = .ok (.aload_n 0, 1) := by decide +kernel
theorem dL_law_2072 : decode cL_law 2072 = .ok (.iload 4, 2) := by decide +kernel
theorem dL_law_2074 : decode cL_law 2074 = .ok (.iconst 1, 1) := by decide +kernel
theorem dL_law_2075 : decode cL_law 2075 = .ok (.iadd, 1) := by decide +kernel
theorem dL_law_2076 : decode cL_law 2076 = .ok (.iaload, 1) := by decide +kernel
theorem dL_law_2077 : decode cL_law 2077 = .ok (.invokevirtual 256, 3) := by decide +kernel
theorem dL_law_2080 : decode cL_law 2080 = .ok (.istore 6, 2) := by decide +kernel
theorem dL_law_2082 : decode cL_law 2082 = .ok (.aload_n 2, 1) := by decide +kernel
theorem dL_law_2083 : decode cL_law 2083 = .ok (.invokevirtual 132, 3) := by decide +kernel
theorem dL_law_2086 : decode cL_law 2086 = .ok (.iload 5, 2) := by decide +kernel
theorem dL_law_2088 : decode cL_law 2088 = .ok (.if_icmp .eq 5, 3) := by decide +kernel
theorem dL_law_2091 : decode cL_law 2091 = .ok (.iconst 0, 1) := by decide +kernel
theorem dL_law_2092 : decode cL_law 2092 = .ok (.ireturn, 1) := by decide +kernel
theorem dL_law_2093 : decode cL_law 2093 = .ok (.iload 5, 2) := by decide +kernel
theorem dL_law_2095 : decode cL_law 2095 = .ok (.ifCond .ne 15, 3) := by decide +kernel
theorem dL_law_2098 : decode cL_law 2098 = .ok (.aload_n 3, 1) := by decide +kernel
theorem dL_law_2099 : decode cL_law 2099 = .ok (.iconst 0, 1) := by decide +kernel
theorem dL_law_2100 : decode cL_law 2100 = .ok (.laload, 1) := by decide +kernel
theorem dL_law_2101 : decode cL_law 2101 = .ok (.iload 6, 2) := by decide +kernel
theorem dL_law_2103 : decode cL_law 2103 = .ok (.i2l, 1) := by decide +kernel
theorem dL_law_2104 : decode cL_law 2104 = .ok (.lcmp, 1) := by decide +kernel
theorem dL_law_2105 : decode cL_law 2105 = .ok (.ifCond .eq 5, 3) := by decide +kernel
theorem dL_law_2108 : decode cL_law 2108 = .ok (.iconst 0, 1) := by decide +kernel
theorem dL_law_2109 : decode cL_law 2109 = .ok (.ireturn, 1) := by decide +kernel
theorem dL_law_2110 : decode cL_law 2110 = .ok (.goto 389, 3) := by decide +kernel
theorem dL_law_2113 : decode cL_law 2113 = .ok (.aload_n 1, 1) := by decide +kernel
theorem dL_law_2114 : decode cL_law 2114 = .ok (.invokevirtual 257, 3) := by decide +kernel
theorem dL_law_2117 : decode cL_law 2117 = .ok (.aload_n 2, 1) := by decide +kernel
theorem dL_law_2118 : decode cL_law 2118 = .ok (.invokevirtual 260, 3) := by decide +kernel
theorem dL_law_2121 : decode cL_law 2121 = .ok (.if_icmp .eq 378, 3) := by decide +kernel
theorem dL_law_2124 : decode cL_law 2124 = .ok (.iconst 0, 1) := by decide +kernel
theorem dL_law_2125 : decode cL_law 2125 = .ok (.ireturn, 1) := by decide +kernel
theorem dL_law_2126 : decode cL_law 2126 = .ok (.aload_n 1, 1) := by decide +kernel
theorem dL_law_2127 : decode cL_law 2127 = .ok (.invokevirtual 261, 3) := by decide +kernel
theorem dL_law_2130 : decode cL_law 2130 = .ok (.aload_n 2, 1) := by decide +kernel
theorem dL_law_2131 : decode cL_law 2131 = .ok (.invokevirtual 264, 3) := by decide +kernel
theorem dL_law_2134 : decode cL_law 2134 = .ok (.if_icmp .eq 365, 3) := by decide +kernel
theorem dL_law_2137 : decode cL_law 2137 = .ok (.iconst 0, 1) := by decide +kernel
theorem dL_law_2138 : decode cL_law 2138 = .ok (.ireturn, 1) := by decide +kernel
theorem dL_law_2139 : decode cL_law 2139 = .ok (.aload_n 1, 1) := by decide +kernel
theorem dL_law_2140 : decode cL_law 2140 = .ok (.invokevirtual 265, 3) := by decide +kernel
theorem dL_law_2143 : decode cL_law 2143 = .ok (.aload_n 2, 1) := by decide +kernel
theorem dL_law_2144 : decode cL_law 2144 = .ok (.invokevirtual 268, 3) := by decide +kernel
theorem dL_law_2147 : decode cL_law 2147 = .ok (.if_icmp .eq 352, 3) := by decide +kernel
theorem dL_law_2150 : decode cL_law 2150 = .ok (.iconst 0, 1) := by decide +kernel
theorem dL_law_2151 : decode cL_law 2151 = .ok (.ireturn, 1) := by decide +kernel
theorem dL_law_2152 : decode cL_law 2152 = .ok (.aload_n 1, 1) := by decide +kernel
theorem dL_law_2153 : decode cL_law 2153 = .ok (.aload_n 0, 1) := by decide +kernel
theorem dL_law_2154 : decode cL_law 2154 = .ok (.iload 4, 2) := by decide +kernel
theorem dL_law_2156 : decode cL_law 2156 = .ok (.iconst 1, 1) := by decide +kernel
theorem dL_law_2157 : decode cL_law 2157 = .ok (.iadd, 1) := by decide +kernel
theorem dL_law_2158 : decode cL_law 2158 = .ok (.iaload, 1) := by decide +kernel
theorem dL_law_2159 : decode cL_law 2159 = .ok (.aload_n 3, 1) := by decide +kernel
theorem dL_law_2160 : decode cL_law 2160 = .ok (.invokestatic 269, 3) := by decide +kernel
theorem dL_law_2163 : decode cL_law 2163 = .ok (.istore 5, 2) := by decide +kernel
theorem dL_law_2165 : decode cL_law 2165 = .ok (.aload_n 2, 1) := by decide +kernel
theorem dL_law_2166 : decode cL_law 2166 = .ok (.aload_n 0, 1) := by decide +kernel
theorem dL_law_2167 : decode cL_law 2167 = .ok (.iload 4, 2) := by decide +kernel
theorem dL_law_2169 : decode cL_law 2169 = .ok (.iconst 1, 1) := by decide +kernel
theorem dL_law_2170 : decode cL_law 2170 = .ok (.iadd, 1) := by decide +kernel
theorem dL_law_2171 : decode cL_law 2171 = .ok (.iaload, 1) := by decide +kernel
theorem dL_law_2172 : decode cL_law 2172 = .ok (.invokevirtual 271, 3) := by decide +kernel
theorem dL_law_2175 : decode cL_law 2175 = .ok (.istore 6, 2) := by decide +kernel
theorem dL_law_2177 : decode cL_law 2177 = .ok (.aload_n 2, 1) := by decide +kernel
theorem dL_law_2178 : decode cL_law 2178 = .ok (.invokevirtual 132, 3) := by decide +kernel
theorem dL_law_2181 : decode cL_law 2181 = .ok (.iload 5, 2) := by decide +kernel
theorem dL_law_2183 : decode cL_law 2183 = .ok (.if_icmp .eq 5, 3) := by decide +kernel
theorem dL_law_2186 : decode cL_law 2186 = .ok (.iconst 0, 1) := by decide +kernel
theorem dL_law_2187 : decode cL_law 2187 = .ok (.ireturn, 1) := by decide +kernel
theorem dL_law_2188 : decode cL_law 2188 = .ok (.iload 5, 2) := by decide +kernel
theorem dL_law_2190 : decode cL_law 2190 = .ok (.ifCond .ne 15, 3) := by decide +kernel
theorem dL_law_2193 : decode cL_law 2193 = .ok (.aload_n 3, 1) := by decide +kernel
theorem dL_law_2194 : decode cL_law 2194 = .ok (.iconst 0, 1) := by decide +kernel
theorem dL_law_2195 : decode cL_law 2195 = .ok (.laload, 1) := by decide +kernel
theorem dL_law_2196 : decode cL_law 2196 = .ok (.iload 6, 2) := by decide +kernel
theorem dL_law_2198 : decode cL_law 2198 = .ok (.i2l, 1) := by decide +kernel
theorem dL_law_2199 : decode cL_law 2199 = .ok (.lcmp, 1) := by decide +kernel
theorem dL_law_2200 : decode cL_law 2200 = .ok (.ifCond .eq 5, 3) := by decide +kernel
theorem dL_law_2203 : decode cL_law 2203 = .ok (.iconst 0, 1) := by decide +kernel
theorem dL_law_2204 : decode cL_law 2204 = .ok (.ireturn, 1) := by decide +kernel
theorem dL_law_2205 : decode cL_law 2205 = .ok (.goto 294, 3) := by decide +kernel
theorem dL_law_2208 : decode cL_law 2208 = .ok (.aload_n 1, 1) := by decide +kernel
theorem dL_law_2209 : decode cL_law 2209 = .ok (.invokevirtual 272, 3) := by decide +kernel
theorem dL_law_2212 : decode cL_law 2212 = .ok (.aload_n 2, 1) := by decide +kernel
theorem dL_law_2213 : decode cL_law 2213 = .ok (.invokevirtual 275, 3) := by decide +kernel
theorem dL_law_2216 : decode cL_law 2216 = .ok (.if_icmp .eq 283, 3) := by decide +kernel
theorem dL_law_2219 : decode cL_law 2219 = .ok (.iconst 0, 1) := by decide +kernel
theorem dL_law_2220 : decode cL_law 2220 = .ok (.ireturn, 1) := by decide +kernel
theorem dL_law_2221 : decode cL_law 2221 = .ok (.aload_n 1, 1) := by decide +kernel
theorem dL_law_2222 : decode cL_law 2222 = .ok (.aload_n 0, 1) := by decide +kernel
theorem dL_law_2223 : decode cL_law 2223 = .ok (.iload 4, 2) := by decide +kernel
theorem dL_law_2225 : decode cL_law 2225 = .ok (.iconst 1, 1) := by decide +kernel
theorem dL_law_2226 : decode cL_law 2226 = .ok (.iadd, 1) := by decide +kernel
theorem dL_law_2227 : decode cL_law 2227 = .ok (.iaload, 1) := by decide +kernel
theorem dL_law_2228 : decode cL_law 2228 = .ok (.aload_n 3, 1) := by decide +kernel
theorem dL_law_2229 : decode cL_law 2229 = .ok (.invokestatic 276, 3) := by decide +kernel
theorem dL_law_2232 : decode cL_law 2232 = .ok (.istore 5, 2) := by decide +kernel
theorem dL_law_2234 : decode cL_law 2234 = .ok (.aload_n 2, 1) := by decide +kernel
theorem dL_law_2235 : decode cL_law 2235 = .ok (.aload_n 0, 1) := by decide +kernel
theorem dL_law_2236 : decode cL_law 2236 = .ok (.iload 4, 2) := by decide +kernel
theorem dL_law_2238 : decode cL_law 2238 = .ok (.iconst 1, 1) := by decide +kernel
theorem dL_law_2239 : decode cL_law 2239 = .ok (.iadd, 1) := by decide +kernel
theorem dL_law_2240 : decode cL_law 2240 = .ok (.iaload, 1) := by decide +kernel
theorem dL_law_2241 : decode cL_law 2241 = .ok (.invokevirtual 278, 3) := by decide +kernel
theorem dL_law_2244 : decode cL_law 2244 = .ok (.istore 6, 2) := by decide +kernel
theorem dL_law_2246 : decode cL_law 2246 = .ok (.aload_n 2, 1) := by decide +kernel
theorem dL_law_2247 : decode cL_law 2247 = .ok (.invokevirtual 132, 3) := by decide +kernel
theorem dL_law_2250 : decode cL_law 2250 = .ok (.iload 5, 2) := by decide +kernel
theorem dL_law_2252 : decode cL_law 2252 = .ok (.if_icmp .eq 5, 3) := by decide +kernel
theorem dL_law_2255 : decode cL_law 2255 = .ok (.iconst 0, 1) := by decide +kernel
theorem dL_law_2256 : decode cL_law 2256 = .ok (.ireturn, 1) := by decide +kernel
theorem dL_law_2257 : decode cL_law 2257 = .ok (.iload 5, 2) := by decide +kernel
theorem dL_law_2259 : decode cL_law 2259 = .ok (.ifCond .ne 15, 3) := by decide +kernel
theorem dL_law_2262 : decode cL_law 2262 = .ok (.aload_n 3, 1) := by decide +kernel
theorem dL_law_2263 : decode cL_law 2263 = .ok (.iconst 0, 1) := by decide +kernel
theorem dL_law_2264 : decode cL_law 2264 = .ok (.laload, 1) := by decide +kernel
theorem dL_law_2265 : decode cL_law 2265 = .ok (.iload 6, 2) := by decide +kernel
theorem dL_law_2267 : decode cL_law 2267 = .ok (.i2l, 1) := by decide +kernel
theorem dL_law_2268 : decode cL_law 2268 = .ok (.lcmp, 1) := by decide +kernel
theorem dL_law_2269 : decode cL_law 2269 = .ok (.ifCond .eq 5, 3) := by decide +kernel
theorem dL_law_2272 : decode cL_law 2272 = .ok (.iconst 0, 1) := by decide +kernel
theorem dL_law_2273 : decode cL_law 2273 = .ok (.ireturn, 1) := by decide +kernel
theorem dL_law_2274 : decode cL_law 2274 = .ok (.goto 225, 3) := by decide +kernel
theorem dL_law_2277 : decode cL_law 2277 = .ok (.aload_n 1, 1) := by decide +kernel
theorem dL_law_2278 : decode cL_law 2278 = .ok (.aload_n 0, 1) := by decide +kernel
theorem dL_law_2279 : decode cL_law 2279 = .ok (.iload 4, 2) := by decide +kernel
theorem dL_law_2281 : decode cL_law 2281 = .ok (.iconst 1, 1) := by decide +kernel
theorem dL_law_2282 : decode cL_law 2282 = .ok (.iadd, 1) := by decide +kernel
theorem dL_law_2283 : decode cL_law 2283 = .ok (.iaload, 1) := by decide +kernel
theorem dL_law_2284 : decode cL_law 2284 = .ok (.aload_n 3, 1) := by decide +kernel
theorem dL_law_2285 : decode cL_law 2285 = .ok (.invokestatic 279, 3) := by decide +kernel
theorem dL_law_2288 : decode cL_law 2288 = .ok (.istore 5, 2) := by decide +kernel
theorem dL_law_2290 : decode cL_law 2290 = .ok (.aload_n 2, 1) := by decide +kernel
theorem dL_law_2291 : decode cL_law 2291 = .ok (.aload_n 0, 1) := by decide +kernel
theorem dL_law_2292 : decode cL_law 2292 = .ok (.iload 4, 2) := by decide +kernel
theorem dL_law_2294 : decode cL_law 2294 = .ok (.iconst 1, 1) := by decide +kernel
theorem dL_law_2295 : decode cL_law 2295 = .ok (.iadd, 1) := by decide +kernel
theorem dL_law_2296 : decode cL_law 2296 = .ok (.iaload, 1) := by decide +kernel
theorem dL_law_2297 : decode cL_law 2297 = .ok (.invokevirtual 281, 3) := by decide +kernel
theorem dL_law_2300 : decode cL_law 2300 = .ok (.istore 6, 2) := by decide +kernel
theorem dL_law_2302 : decode cL_law 2302 = .ok (.aload_n 2, 1) := by decide +kernel
theorem dL_law_2303 : decode cL_law 2303 = .ok (.invokevirtual 132, 3) := by decide +kernel
theorem dL_law_2306 : decode cL_law 2306 = .ok (.iload 5, 2) := by decide +kernel
theorem dL_law_2308 : decode cL_law 2308 = .ok (.if_icmp .eq 5, 3) := by decide +kernel
theorem dL_law_2311 : decode cL_law 2311 = .ok (.iconst 0, 1) := by decide +kernel
theorem dL_law_2312 : decode cL_law 2312 = .ok (.ireturn, 1) := by decide +kernel
theorem dL_law_2313 : decode cL_law 2313 = .ok (.iload 5, 2) := by decide +kernel
theorem dL_law_2315 : decode cL_law 2315 = .ok (.ifCond .ne 15, 3) := by decide +kernel
theorem dL_law_2318 : decode cL_law 2318 = .ok (.aload_n 3, 1) := by decide +kernel
theorem dL_law_2319 : decode cL_law 2319 = .ok (.iconst 0, 1) := by decide +kernel
theorem dL_law_2320 : decode cL_law 2320 = .ok (.laload, 1) := by decide +kernel
theorem dL_law_2321 : decode cL_law 2321 = .ok (.iload 6, 2) := by decide +kernel
theorem dL_law_2323 : decode cL_law 2323 = .ok (.i2l, 1) := by decide +kernel
theorem dL_law_2324 : decode cL_law 2324 = .ok (.lcmp, 1) := by decide +kernel
theorem dL_law_2325 : decode cL_law 2325 = .ok (.ifCond .eq 5, 3) := by decide +kernel
theorem dL_law_2328 : decode cL_law 2328 = .ok (.iconst 0, 1) := by decide +kernel
theorem dL_law_2329 : decode cL_law 2329 = .ok (.ireturn, 1) := by decide +kernel
theorem dL_law_2330 : decode cL_law 2330 = .ok (.goto 169, 3) := by decide +kernel
theorem dL_law_2333 : decode cL_law 2333 = .ok (.aload_n 1, 1) := by decide +kernel
theorem dL_law_2334 : decode cL_law 2334 = .ok (.aload_n 0, 1) := by decide +kernel
theorem dL_law_2335 : decode cL_law 2335 = .ok (.iload 4, 2) := by decide +kernel
theorem dL_law_2337 : decode cL_law 2337 = .ok (.iconst 1, 1) := by decide +kernel
theorem dL_law_2338 : decode cL_law 2338 = .ok (.iadd, 1) := by decide +kernel
theorem dL_law_2339 : decode cL_law 2339 = .ok (.iaload, 1) := by decide +kernel
theorem dL_law_2340 : decode cL_law 2340 = .ok (.aload_n 0, 1) := by decide +kernel
theorem dL_law_2341 : decode cL_law 2341 = .ok (.iload 4, 2) := by decide +kernel
theorem dL_law_2343 : decode cL_law 2343 = .ok (.iconst 2, 1) := by decide +kernel
theorem dL_law_2344 : decode cL_law 2344 = .ok (.iadd, 1) := by decide +kernel
theorem dL_law_2345 : decode cL_law 2345 = .ok (.iaload, 1) := by decide +kernel
theorem dL_law_2346 : decode cL_law 2346 = .ok (.aload_n 3, 1) := by decide +kernel
theorem dL_law_2347 : decode cL_law 2347 = .ok (.invokestatic 282, 3) := by decide +kernel
theorem dL_law_2350 : decode cL_law 2350 = .ok (.istore 5, 2) := by decide +kernel
theorem dL_law_2352 : decode cL_law 2352 = .ok (.aload_n 2, 1) := by decide +kernel
theorem dL_law_2353 : decode cL_law 2353 = .ok (.aload_n 0, 1) := by decide +kernel
theorem dL_law_2354 : decode cL_law 2354 = .ok (.iload 4, 2) := by decide +kernel
theorem dL_law_2356 : decode cL_law 2356 = .ok (.iconst 1, 1) := by decide +kernel
theorem dL_law_2357 : decode cL_law 2357 = .ok (.iadd, 1) := by decide +kernel
theorem dL_law_2358 : decode cL_law 2358 = .ok (.iaload, 1) := by decide +kernel
theorem dL_law_2359 : decode cL_law 2359 = .ok (.aload_n 0, 1) := by decide +kernel
theorem dL_law_2360 : decode cL_law 2360 = .ok (.iload 4, 2) := by decide +kernel
theorem dL_law_2362 : decode cL_law 2362 = .ok (.iconst 2, 1) := by decide +kernel
theorem dL_law_2363 : decode cL_law 2363 = .ok (.iadd, 1) := by decide +kernel
theorem dL_law_2364 : decode cL_law 2364 = .ok (.iaload, 1) := by decide +kernel
theorem dL_law_2365 : decode cL_law 2365 = .ok (.invokevirtual 284, 3) := by decide +kernel
theorem dL_law_2368 : decode cL_law 2368 = .ok (.istore 6, 2) := by decide +kernel
theorem dL_law_2370 : decode cL_law 2370 = .ok (.aload_n 2, 1) := by decide +kernel
theorem dL_law_2371 : decode cL_law 2371 = .ok (.invokevirtual 132, 3) := by decide +kernel
theorem dL_law_2374 : decode cL_law 2374 = .ok (.iload 5, 2) := by decide +kernel
theorem dL_law_2376 : decode cL_law 2376 = .ok (.if_icmp .eq 5, 3) := by decide +kernel
theorem dL_law_2379 : decode cL_law 2379 = .ok (.iconst 0, 1) := by decide +kernel
theorem dL_law_2380 : decode cL_law 2380 = .ok (.ireturn, 1) := by decide +kernel
theorem dL_law_2381 : decode cL_law 2381 = .ok (.iload 5, 2) := by decide +kernel
theorem dL_law_2383 : decode cL_law 2383 = .ok (.ifCond .ne 15, 3) := by decide +kernel
theorem dL_law_2386 : decode cL_law 2386 = .ok (.aload_n 3, 1) := by decide +kernel
theorem dL_law_2387 : decode cL_law 2387 = .ok (.iconst 0, 1) := by decide +kernel
theorem dL_law_2388 : decode cL_law 2388 = .ok (.laload, 1) := by decide +kernel
theorem dL_law_2389 : decode cL_law 2389 = .ok (.iload 6, 2) := by decide +kernel
theorem dL_law_2391 : decode cL_law 2391 = .ok (.i2l, 1) := by decide +kernel
theorem dL_law_2392 : decode cL_law 2392 = .ok (.lcmp, 1) := by decide +kernel
theorem dL_law_2393 : decode cL_law 2393 = .ok (.ifCond .eq 5, 3) := by decide +kernel
theorem dL_law_2396 : decode cL_law 2396 = .ok (.iconst 0, 1) := by decide +kernel
theorem dL_law_2397 : decode cL_law 2397 = .ok (.ireturn, 1) := by decide +kernel
theorem dL_law_2398 : decode cL_law 2398 = .ok (.goto 101, 3) := by decide +kernel
theorem dL_law_2401 : decode cL_law 2401 = .ok (.aload_n 1, 1) := by decide +kernel
theorem dL_law_2402 : decode cL_law 2402 = .ok (.invokevirtual 285, 3) := by decide +kernel
theorem dL_law_2405 : decode cL_law 2405 = .ok (.dstore 5, 2) := by decide +kernel
theorem dL_law_2407 : decode cL_law 2407 = .ok (.aload_n 2, 1) := by decide +kernel
theorem dL_law_2408 : decode cL_law 2408 = .ok (.invokevirtual 289, 3) := by decide +kernel
theorem dL_law_2411 : decode cL_law 2411 = .ok (.dstore 7, 2) := by decide +kernel
theorem dL_law_2413 : decode cL_law 2413 = .ok (.dload 5, 2) := by decide +kernel
theorem dL_law_2415 : decode cL_law 2415 = .ok (.dload 7, 2) := by decide +kernel
theorem dL_law_2417 : decode cL_law 2417 = .ok (.dcmp .l, 1) := by decide +kernel
theorem dL_law_2418 : decode cL_law 2418 = .ok (.ifCond .eq 21, 3) := by decide +kernel
theorem dL_law_2421 : decode cL_law 2421 = .ok (.dload 5, 2) := by decide +kernel
theorem dL_law_2423 : decode cL_law 2423 = .ok (.dload 5, 2) := by decide +kernel
theorem dL_law_2425 : decode cL_law 2425 = .ok (.dcmp .l, 1) := by decide +kernel
theorem dL_law_2426 : decode cL_law 2426 = .ok (.ifCond .eq 11, 3) := by decide +kernel
theorem dL_law_2429 : decode cL_law 2429 = .ok (.dload 7, 2) := by decide +kernel
theorem dL_law_2431 : decode cL_law 2431 = .ok (.dload 7, 2) := by decide +kernel
theorem dL_law_2433 : decode cL_law 2433 = .ok (.dcmp .l, 1) := by decide +kernel
theorem dL_law_2434 : decode cL_law 2434 = .ok (.ifCond .ne 5, 3) := by decide +kernel
theorem dL_law_2437 : decode cL_law 2437 = .ok (.iconst 0, 1) := by decide +kernel
theorem dL_law_2438 : decode cL_law 2438 = .ok (.ireturn, 1) := by decide +kernel
theorem dL_law_2439 : decode cL_law 2439 = .ok (.goto 60, 3) := by decide +kernel
theorem dL_law_2442 : decode cL_law 2442 = .ok (.aload_n 1, 1) := by decide +kernel
theorem dL_law_2443 : decode cL_law 2443 = .ok (.invokevirtual 290, 3) := by decide +kernel
theorem dL_law_2446 : decode cL_law 2446 = .ok (.f2d, 1) := by decide +kernel
theorem dL_law_2447 : decode cL_law 2447 = .ok (.dstore 5, 2) := by decide +kernel
theorem dL_law_2449 : decode cL_law 2449 = .ok (.aload_n 2, 1) := by decide +kernel
theorem dL_law_2450 : decode cL_law 2450 = .ok (.invokevirtual 294, 3) := by decide +kernel
theorem dL_law_2453 : decode cL_law 2453 = .ok (.f2d, 1) := by decide +kernel
theorem dL_law_2454 : decode cL_law 2454 = .ok (.dstore 7, 2) := by decide +kernel
theorem dL_law_2456 : decode cL_law 2456 = .ok (.dload 5, 2) := by decide +kernel
theorem dL_law_2458 : decode cL_law 2458 = .ok (.dload 7, 2) := by decide +kernel
theorem dL_law_2460 : decode cL_law 2460 = .ok (.dcmp .l, 1) := by decide +kernel
theorem dL_law_2461 : decode cL_law 2461 = .ok (.ifCond .eq 21, 3) := by decide +kernel
theorem dL_law_2464 : decode cL_law 2464 = .ok (.dload 5, 2) := by decide +kernel
theorem dL_law_2466 : decode cL_law 2466 = .ok (.dload 5, 2) := by decide +kernel
theorem dL_law_2468 : decode cL_law 2468 = .ok (.dcmp .l, 1) := by decide +kernel
theorem dL_law_2469 : decode cL_law 2469 = .ok (.ifCond .eq 11, 3) := by decide +kernel
theorem dL_law_2472 : decode cL_law 2472 = .ok (.dload 7, 2) := by decide +kernel
theorem dL_law_2474 : decode cL_law 2474 = .ok (.dload 7, 2) := by decide +kernel
theorem dL_law_2476 : decode cL_law 2476 = .ok (.dcmp .l, 1) := by decide +kernel
theorem dL_law_2477 : decode cL_law 2477 = .ok (.ifCond .ne 5, 3) := by decide +kernel
theorem dL_law_2480 : decode cL_law 2480 = .ok (.iconst 0, 1) := by decide +kernel
theorem dL_law_2481 : decode cL_law 2481 = .ok (.ireturn, 1) := by decide +kernel
theorem dL_law_2482 : decode cL_law 2482 = .ok (.goto 17, 3) := by decide +kernel
theorem dL_law_2485 : decode cL_law 2485 = .ok (.aload_n 1, 1) := by decide +kernel
theorem dL_law_2486 : decode cL_law 2486 = .ok (.invokevirtual 295, 3) := by decide +kernel
theorem dL_law_2489 : decode cL_law 2489 = .ok (.aload_n 2, 1) := by decide +kernel
theorem dL_law_2490 : decode cL_law 2490 = .ok (.invokevirtual 299, 3) := by decide +kernel
theorem dL_law_2493 : decode cL_law 2493 = .ok (.lcmp, 1) := by decide +kernel
theorem dL_law_2494 : decode cL_law 2494 = .ok (.ifCond .eq 5, 3) := by decide +kernel
theorem dL_law_2497 : decode cL_law 2497 = .ok (.iconst 0, 1) := by decide +kernel
theorem dL_law_2498 : decode cL_law 2498 = .ok (.ireturn, 1) := by decide +kernel
theorem dL_law_2499 : decode cL_law 2499 = .ok (.iinc 4 4, 3) := by decide +kernel
theorem dL_law_2502 : decode cL_law 2502 = .ok (.goto (-2479), 3) := by decide +kernel
theorem dL_law_2505 : decode cL_law 2505 = .ok (.iconst 1, 1) := by decide +kernel
theorem dL_law_2506 : decode cL_law 2506 = .ok (.ireturn, 1) := by decide +kernel
