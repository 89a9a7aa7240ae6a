theorem dX0_init_0 : decode cX0_init 0 = .ok (.aload_n 0, 1) := by decide +kernel
theorem dX0_init_1 : decode cX0_init 1 = .ok (.invokespecial 3, 3) := by decide +kernel
theorem dX0_init_4 : decode cX0_init 4 = .ok (.aload_n 0, 1) := by decide +kernel
theorem dX0_init_5 : decode cX0_init 5 = .ok (.iconst 0, 1) := by decide +kernel
theorem dX0_init_6 : decode cX0_init 6 = .ok (.putfield 11, 3) := by decide +kernel
theorem dX0_init_9 : decode cX0_init 9 = .ok (.return_, 1) := by decide +kernel
theorem dX1_init_0 : decode cX1_init 0 = .ok (.aload_n 0, 1) := by decide +kernel
theorem dX1_init_1 : decode cX1_init 1 = .ok (.invokespecial 3, 3) := by decide +kernel
theorem dX1_init_4 : decode cX1_init 4 = .ok (.aload_n 0, 1) := by decide +kernel
theorem dX1_init_5 : decode cX1_init 5 = .ok (.bipush 8, 2) := by decide +kernel
theorem dX1_init_7 : decode cX1_init 7 = .ok (.newarray .int, 2) := by decide +kernel
theorem dX1_init_9 : decode cX1_init 9 = .ok (.putfield 9, 3) := by decide +kernel
theorem dX1_init_12 : decode cX1_init 12 = .ok (.aload_n 0, 1) := by decide +kernel
theorem dX1_init_13 : decode cX1_init 13 = .ok (.bipush 8, 2) := by decide +kernel
theorem dX1_init_15 : decode cX1_init 15 = .ok (.newarray .int, 2) := by decide +kernel
theorem dX1_init_17 : decode cX1_init 17 = .ok (.putfield 15, 3) := by decide +kernel
theorem dX1_init_20 : decode cX1_init 20 = .ok (.aload_n 0, 1) := by decide +kernel
theorem dX1_init_21 : decode cX1_init 21 = .ok (.bipush 32, 2) := by decide +kernel
theorem dX1_init_23 : decode cX1_init 23 = .ok (.newarray .int, 2) := by decide +kernel
theorem dX1_init_25 : decode cX1_init 25 = .ok (.putfield 18, 3) := by decide +kernel
theorem dX1_init_28 : decode cX1_init 28 = .ok (.aload_n 0, 1) := by decide +kernel
theorem dX1_init_29 : decode cX1_init 29 = .ok (.bipush 8, 2) := by decide +kernel
theorem dX1_init_31 : decode cX1_init 31 = .ok (.newarray .int, 2) := by decide +kernel
theorem dX1_init_33 : decode cX1_init 33 = .ok (.putfield 21, 3) := by decide +kernel
theorem dX1_init_36 : decode cX1_init 36 = .ok (.aload_n 0, 1) := by decide +kernel
theorem dX1_init_37 : decode cX1_init 37 = .ok (.bipush 8, 2) := by decide +kernel
theorem dX1_init_39 : decode cX1_init 39 = .ok (.newarray .int, 2) := by decide +kernel
theorem dX1_init_41 : decode cX1_init 41 = .ok (.putfield 24, 3) := by decide +kernel
theorem dX1_init_44 : decode cX1_init 44 = .ok (.aload_n 0, 1) := by decide +kernel
theorem dX1_init_45 : decode cX1_init 45 = .ok (.bipush 8, 2) := by decide +kernel
theorem dX1_init_47 : decode cX1_init 47 = .ok (.newarray .int, 2) := by decide +kernel
theorem dX1_init_49 : decode cX1_init 49 = .ok (.putfield 27, 3) := by decide +kernel
theorem dX1_init_52 : decode cX1_init 52 = .ok (.aload_n 0, 1) := by decide +kernel
theorem dX1_init_53 : decode cX1_init 53 = .ok (.iconst 4, 1) := by decide +kernel
theorem dX1_init_54 : decode cX1_init 54 = .ok (.newarray .int, 2) := by decide +kernel
theorem dX1_init_56 : decode cX1_init 56 = .ok (.putfield 30, 3) := by decide +kernel
theorem dX1_init_59 : decode cX1_init 59 = .ok (.aload_n 0, 1) := by decide +kernel
theorem dX1_init_60 : decode cX1_init 60 = .ok (.bipush 32, 2) := by decide +kernel
theorem dX1_init_62 : decode cX1_init 62 = .ok (.newarray .int, 2) := by decide +kernel
theorem dX1_init_64 : decode cX1_init 64 = .ok (.putfield 33, 3) := by decide +kernel
theorem dX1_init_67 : decode cX1_init 67 = .ok (.aload_n 0, 1) := by decide +kernel
theorem dX1_init_68 : decode cX1_init 68 = .ok (.bipush 120, 2) := by decide +kernel
theorem dX1_init_70 : decode cX1_init 70 = .ok (.newarray .int, 2) := by decide +kernel
theorem dX1_init_72 : decode cX1_init 72 = .ok (.putfield 36, 3) := by decide +kernel
theorem dX1_init_75 : decode cX1_init 75 = .ok (.aload_n 0, 1) := by decide +kernel
theorem dX1_init_76 : decode cX1_init 76 = .ok (.iconst 5, 1) := by decide +kernel
theorem dX1_init_77 : decode cX1_init 77 = .ok (.newarray .int, 2) := by decide +kernel
theorem dX1_init_79 : decode cX1_init 79 = .ok (.putfield 39, 3) := by decide +kernel
theorem dX1_init_82 : decode cX1_init 82 = .ok (.aload_n 0, 1) := by decide +kernel
theorem dX1_init_83 : decode cX1_init 83 = .ok (.bipush 60, 2) := by decide +kernel
theorem dX1_init_85 : decode cX1_init 85 = .ok (.newarray .int, 2) := by decide +kernel
theorem dX1_init_87 : decode cX1_init 87 = .ok (.putfield 42, 3) := by decide +kernel
theorem dX1_init_90 : decode cX1_init 90 = .ok (.aload_n 0, 1) := by decide +kernel
theorem dX1_init_91 : decode cX1_init 91 = .ok (.bipush 31, 2) := by decide +kernel
theorem dX1_init_93 : decode cX1_init 93 = .ok (.putfield 45, 3) := by decide +kernel
theorem dX1_init_96 : decode cX1_init 96 = .ok (.iconst 0, 1) := by decide +kernel
theorem dX1_init_97 : decode cX1_init 97 = .ok (.istore_n 1, 1) := by decide +kernel
theorem dX1_init_98 : decode cX1_init 98 = .ok (.iload_n 1, 1) := by decide +kernel
theorem dX1_init_99 : decode cX1_init 99 = .ok (.iconst 4, 1) := by decide +kernel
theorem dX1_init_100 : decode cX1_init 100 = .ok (.if_icmp .ge 17, 3) := by decide +kernel
theorem dX1_init_103 : decode cX1_init 103 = .ok (.aload_n 0, 1) := by decide +kernel
theorem dX1_init_104 : decode cX1_init 104 = .ok (.getfield 30, 3) := by decide +kernel
theorem dX1_init_107 : decode cX1_init 107 = .ok (.iload_n 1, 1) := by decide +kernel
theorem dX1_init_108 : decode cX1_init 108 = .ok (.bipush 100, 2) := by decide +kernel
theorem dX1_init_110 : decode cX1_init 110 = .ok (.iastore, 1) := by decide +kernel
theorem dX1_init_111 : decode cX1_init 111 = .ok (.iinc 1 1, 3) := by decide +kernel
theorem dX1_init_114 : decode cX1_init 114 = .ok (.goto (-16), 3) := by decide +kernel
theorem dX1_init_117 : decode cX1_init 117 = .ok (.return_, 1) := by decide +kernel
theorem dX1_copyFrom_0 : decode cX1_copyFrom 0 = .ok (.aload_n 0, 1) := by decide +kernel
theorem dX1_copyFrom_1 : decode cX1_copyFrom 1 = .ok (.aload_n 1, 1) := by decide +kernel
theorem dX1_copyFrom_2 : decode cX1_copyFrom 2 = .ok (.getfield 49, 3) := by decide +kernel
theorem dX1_copyFrom_5 : decode cX1_copyFrom 5 = .ok (.putfield 49, 3) := by decide +kernel
theorem dX1_copyFrom_8 : decode cX1_copyFrom 8 = .ok (.aload_n 1, 1) := by decide +kernel
theorem dX1_copyFrom_9 : decode cX1_copyFrom 9 = .ok (.getfield 9, 3) := by decide +kernel
theorem dX1_copyFrom_12 : decode cX1_copyFrom 12 = .ok (.iconst 0, 1) := by decide +kernel
theorem dX1_copyFrom_13 : decode cX1_copyFrom 13 = .ok (.aload_n 0, 1) := by decide +kernel
theorem dX1_copyFrom_14 : decode cX1_copyFrom 14 = .ok (.getfield 9, 3) := by decide +kernel
theorem dX1_copyFrom_17 : decode cX1_copyFrom 17 = .ok (.iconst 0, 1) := by decide +kernel
theorem dX1_copyFrom_18 : decode cX1_copyFrom 18 = .ok (.bipush 8, 2) := by decide +kernel
theorem dX1_copyFrom_20 : decode cX1_copyFrom 20 = .ok (.invokestatic 52, 3) := by decide +kernel
theorem dX1_copyFrom_23 : decode cX1_copyFrom 23 = .ok (.aload_n 1, 1) := by decide +kernel
theorem dX1_copyFrom_24 : decode cX1_copyFrom 24 = .ok (.getfield 15, 3) := by decide +kernel
theorem dX1_copyFrom_27 : decode cX1_copyFrom 27 = .ok (.iconst 0, 1) := by decide +kernel
theorem dX1_copyFrom_28 : decode cX1_copyFrom 28 = .ok (.aload_n 0, 1) := by decide +kernel
theorem dX1_copyFrom_29 : decode cX1_copyFrom 29 = .ok (.getfield 15, 3) := by decide +kernel
theorem dX1_copyFrom_32 : decode cX1_copyFrom 32 = .ok (.iconst 0, 1) := by decide +kernel
theorem dX1_copyFrom_33 : decode cX1_copyFrom 33 = .ok (.bipush 8, 2) := by decide +kernel
theorem dX1_copyFrom_35 : decode cX1_copyFrom 35 = .ok (.invokestatic 52, 3) := by decide +kernel
theorem dX1_copyFrom_38 : decode cX1_copyFrom 38 = .ok (.aload_n 1, 1) := by decide +kernel
theorem dX1_copyFrom_39 : decode cX1_copyFrom 39 = .ok (.getfield 18, 3) := by decide +kernel
theorem dX1_copyFrom_42 : decode cX1_copyFrom 42 = .ok (.iconst 0, 1) := by decide +kernel
theorem dX1_copyFrom_43 : decode cX1_copyFrom 43 = .ok (.aload_n 0, 1) := by decide +kernel
theorem dX1_copyFrom_44 : decode cX1_copyFrom 44 = .ok (.getfield 18, 3) := by decide +kernel
theorem dX1_copyFrom_47 : decode cX1_copyFrom 47 = .ok (.iconst 0, 1) := by decide +kernel
theorem dX1_copyFrom_48 : decode cX1_copyFrom 48 = .ok (.bipush 32, 2) := by decide +kernel
theorem dX1_copyFrom_50 : decode cX1_copyFrom 50 = .ok (.invokestatic 52, 3) := by decide +kernel
theorem dX1_copyFrom_53 : decode cX1_copyFrom 53 = .ok (.aload_n 1, 1) := by decide +kernel
theorem dX1_copyFrom_54 : decode cX1_copyFrom 54 = .ok (.getfield 21, 3) := by decide +kernel
theorem dX1_copyFrom_57 : decode cX1_copyFrom 57 = .ok (.iconst 0, 1) := by decide +kernel
theorem dX1_copyFrom_58 : decode cX1_copyFrom 58 = .ok (.aload_n 0, 1) := by decide +kernel
theorem dX1_copyFrom_59 : decode cX1_copyFrom 59 = .ok (.getfield 21, 3) := by decide +kernel
theorem dX1_copyFrom_62 : decode cX1_copyFrom 62 = .ok (.iconst 0, 1) := by decide +kernel
theorem dX1_copyFrom_63 : decode cX1_copyFrom 63 = .ok (.bipush 8, 2) := by decide +kernel
theorem dX1_copyFrom_65 : decode cX1_copyFrom 65 = .ok (.invokestatic 52, 3) := by decide +kernel
theorem dX1_copyFrom_68 : decode cX1_copyFrom 68 = .ok (.aload_n 1, 1) := by decide +kernel
theorem dX1_copyFrom_69 : decode cX1_copyFrom 69 = .ok (.getfield 24, 3) := by decide +kernel
theorem dX1_copyFrom_72 : decode cX1_copyFrom 72 = .ok (.iconst 0, 1) := by decide +kernel
theorem dX1_copyFrom_73 : decode cX1_copyFrom 73 = .ok (.aload_n 0, 1) := by decide +kernel
theorem dX1_copyFrom_74 : decode cX1_copyFrom 74 = .ok (.getfield 24, 3) := by decide +kernel
theorem dX1_copyFrom_77 : decode cX1_copyFrom 77 = .ok (.iconst 0, 1) := by decide +kernel
theorem dX1_copyFrom_78 : decode cX1_copyFrom 78 = .ok (.bipush 8, 2) := by decide +kernel
theorem dX1_copyFrom_80 : decode cX1_copyFrom 80 = .ok (.invokestatic 52, 3) := by decide +kernel
theorem dX1_copyFrom_83 : decode cX1_copyFrom 83 = .ok (.aload_n 1, 1) := by decide +kernel
theorem dX1_copyFrom_84 : decode cX1_copyFrom 84 = .ok (.getfield 27, 3) := by decide +kernel
theorem dX1_copyFrom_87 : decode cX1_copyFrom 87 = .ok (.iconst 0, 1) := by decide +kernel
theorem dX1_copyFrom_88 : decode cX1_copyFrom 88 = .ok (.aload_n 0, 1) := by decide +kernel
theorem dX1_copyFrom_89 : decode cX1_copyFrom 89 = .ok (.getfield 27, 3) := by decide +kernel
theorem dX1_copyFrom_92 : decode cX1_copyFrom 92 = .ok (.iconst 0, 1) := by decide +kernel
theorem dX1_copyFrom_93 : decode cX1_copyFrom 93 = .ok (.bipush 8, 2) := by decide +kernel
theorem dX1_copyFrom_95 : decode cX1_copyFrom 95 = .ok (.invokestatic 52, 3) := by decide +kernel
theorem dX1_copyFrom_98 : decode cX1_copyFrom 98 = .ok (.aload_n 0, 1) := by decide +kernel
theorem dX1_copyFrom_99 : decode cX1_copyFrom 99 = .ok (.aload_n 1, 1) := by decide +kernel
theorem dX1_copyFrom_100 : decode cX1_copyFrom 100 = .ok (.getfield 58, 3) := by decide +kernel
theorem dX1_copyFrom_103 : decode cX1_copyFrom 103 = .ok (.putfield 58, 3) := by decide +kernel
theorem dX1_copyFrom_106 : decode cX1_copyFrom 106 = .ok (.aload_n 0, 1) := by decide +kernel
theorem dX1_copyFrom_107 : decode cX1_copyFrom 107 = .ok (.aload_n 1, 1) := by decide +kernel
theorem dX1_copyFrom_108 : decode cX1_copyFrom 108 = .ok (.getfield 45, 3) := by decide +kernel
theorem dX1_copyFrom_111 : decode cX1_copyFrom 111 = .ok (.putfield 45, 3) := by decide +kernel
theorem dX1_copyFrom_114 : decode cX1_copyFrom 114 = .ok (.aload_n 1, 1) := by decide +kernel
theorem dX1_copyFrom_115 : decode cX1_copyFrom 115 = .ok (.getfield 30, 3) := by decide +kernel
theorem dX1_copyFrom_118 : decode cX1_copyFrom 118 = .ok (.iconst 0, 1) := by decide +kernel
theorem dX1_copyFrom_119 : decode cX1_copyFrom 119 = .ok (.aload_n 0, 1) := by decide +kernel
theorem dX1_copyFrom_120 : decode cX1_copyFrom 120 = .ok (.getfield 30, 3) := by decide +kernel
theorem dX1_copyFrom_123 : decode cX1_copyFrom 123 = .ok (.iconst 0, 1) := by decide +kernel
theorem dX1_copyFrom_124 : decode cX1_copyFrom 124 = .ok (.iconst 4, 1) := by decide +kernel
theorem dX1_copyFrom_125 : decode cX1_copyFrom 125 = .ok (.invokestatic 52, 3) := by decide +kernel
theorem dX1_copyFrom_128 : decode cX1_copyFrom 128 = .ok (.aload_n 1, 1) := by decide +kernel
theorem dX1_copyFrom_129 : decode cX1_copyFrom 129 = .ok (.getfield 33, 3) := by decide +kernel
theorem dX1_copyFrom_132 : decode cX1_copyFrom 132 = .ok (.iconst 0, 1) := by decide +kernel
theorem dX1_copyFrom_133 : decode cX1_copyFrom 133 = .ok (.aload_n 0, 1) := by decide +kernel
theorem dX1_copyFrom_134 : decode cX1_copyFrom 134 = .ok (.getfield 33, 3) := by decide +kernel
theorem dX1_copyFrom_137 : decode cX1_copyFrom 137 = .ok (.iconst 0, 1) := by decide +kernel
theorem dX1_copyFrom_138 : decode cX1_copyFrom 138 = .ok (.bipush 32, 2) := by decide +kernel
theorem dX1_copyFrom_140 : decode cX1_copyFrom 140 = .ok (.invokestatic 52, 3) := by decide +kernel
theorem dX1_copyFrom_143 : decode cX1_copyFrom 143 = .ok (.aload_n 1, 1) := by decide +kernel
theorem dX1_copyFrom_144 : decode cX1_copyFrom 144 = .ok (.getfield 36, 3) := by decide +kernel
theorem dX1_copyFrom_147 : decode cX1_copyFrom 147 = .ok (.iconst 0, 1) := by decide +kernel
theorem dX1_copyFrom_148 : decode cX1_copyFrom 148 = .ok (.aload_n 0, 1) := by decide +kernel
theorem dX1_copyFrom_149 : decode cX1_copyFrom 149 = .ok (.getfield 36, 3) := by decide +kernel
theorem dX1_copyFrom_152 : decode cX1_copyFrom 152 = .ok (.iconst 0, 1) := by decide +kernel
theorem dX1_copyFrom_153 : decode cX1_copyFrom 153 = .ok (.bipush 120, 2) := by decide +kernel
theorem dX1_copyFrom_155 : decode cX1_copyFrom 155 = .ok (.invokestatic 52, 3) := by decide +kernel
theorem dX1_copyFrom_158 : decode cX1_copyFrom 158 = .ok (.aload_n 1, 1) := by decide +kernel
theorem dX1_copyFrom_159 : decode cX1_copyFrom 159 = .ok (.getfield 39, 3) := by decide +kernel
theorem dX1_copyFrom_162 : decode cX1_copyFrom 162 = .ok (.iconst 0, 1) := by decide +kernel
theorem dX1_copyFrom_163 : decode cX1_copyFrom 163 = .ok (.aload_n 0, 1) := by decide +kernel
theorem dX1_copyFrom_164 : decode cX1_copyFrom 164 = .ok (.getfield 39, 3) := by decide +kernel
theorem dX1_copyFrom_167 : decode cX1_copyFrom 167 = .ok (.iconst 0, 1) := by decide +kernel
theorem dX1_copyFrom_168 : decode cX1_copyFrom 168 = .ok (.iconst 5, 1) := by decide +kernel
theorem dX1_copyFrom_169 : decode cX1_copyFrom 169 = .ok (.invokestatic 52, 3) := by decide +kernel
theorem dX1_copyFrom_172 : decode cX1_copyFrom 172 = .ok (.aload_n 1, 1) := by decide +kernel
theorem dX1_copyFrom_173 : decode cX1_copyFrom 173 = .ok (.getfield 42, 3) := by decide +kernel
theorem dX1_copyFrom_176 : decode cX1_copyFrom 176 = .ok (.iconst 0, 1) := by decide +kernel
theorem dX1_copyFrom_177 : decode cX1_copyFrom 177 = .ok (.aload_n 0, 1) := by decide +kernel
theorem dX1_copyFrom_178 : decode cX1_copyFrom 178 = .ok (.getfield 42, 3) := by decide +kernel
theorem dX1_copyFrom_181 : decode cX1_copyFrom 181 = .ok (.iconst 0, 1) := by decide +kernel
theorem dX1_copyFrom_182 : decode cX1_copyFrom 182 = .ok (.bipush 60, 2) := by decide +kernel
theorem dX1_copyFrom_184 : decode cX1_copyFrom 184 = .ok (.invokestatic 52, 3) := by decide +kernel
theorem dX1_copyFrom_187 : decode cX1_copyFrom 187 = .ok (.aload_n 0, 1) := by decide +kernel
theorem dX1_copyFrom_188 : decode cX1_copyFrom 188 = .ok (.aload_n 1, 1) := by decide +kernel
theorem dX1_copyFrom_189 : decode cX1_copyFrom 189 = .ok (.getfield 61, 3) := by decide +kernel
theorem dX1_copyFrom_192 : decode cX1_copyFrom 192 = .ok (.putfield 61, 3) := by decide +kernel
theorem dX1_copyFrom_195 : decode cX1_copyFrom 195 = .ok (.aload_n 0, 1) := by decide +kernel
theorem dX1_copyFrom_196 : decode cX1_copyFrom 196 = .ok (.aload_n 1, 1) := by decide +kernel
theorem dX1_copyFrom_197 : decode cX1_copyFrom 197 = .ok (.getfield 64, 3) := by decide +kernel
theorem dX1_copyFrom_200 : decode cX1_copyFrom 200 = .ok (.putfield 64, 3) := by decide +kernel
theorem dX1_copyFrom_203 : decode cX1_copyFrom 203 = .ok (.aload_n 0, 1) := by decide +kernel
theorem dX1_copyFrom_204 : decode cX1_copyFrom 204 = .ok (.aload_n 1, 1) := by decide +kernel
theorem dX1_copyFrom_205 : decode cX1_copyFrom 205 = .ok (.getfield 67, 3) := by decide +kernel
theorem dX1_copyFrom_208 : decode cX1_copyFrom 208 = .ok (.putfield 67, 3) := by decide +kernel
theorem dX1_copyFrom_211 : decode cX1_copyFrom 211 = .ok (.aload_n 0, 1) := by decide +kernel
theorem dX1_copyFrom_212 : decode cX1_copyFrom 212 = .ok (.aload_n 1, 1) := by decide +kernel
theorem dX1_copyFrom_213 : decode cX1_copyFrom 213 = .ok (.getfield 70, 3) := by decide +kernel
theorem dX1_copyFrom_216 : decode cX1_copyFrom 216 = .ok (.putfield 70, 3) := by decide +kernel
theorem dX1_copyFrom_219 : decode cX1_copyFrom 219 = .ok (.return_, 1) := by decide +kernel
theorem dX1_knows_0 : decode cX1_knows 0 = .ok (.iload_n 1, 1) := by decide +kernel
theorem dX1_knows_1 : decode cX1_knows 1 = .ok (.ifCond .lt 15, 3) := by decide +kernel
theorem dX1_knows_4 : decode cX1_knows 4 = .ok (.iload_n 1, 1) := by decide +kernel
theorem dX1_knows_5 : decode cX1_knows 5 = .ok (.aload_n 0, 1) := by decide +kernel
theorem dX1_knows_6 : decode cX1_knows 6 = .ok (.getfield 49, 3) := by decide +kernel
theorem dX1_knows_9 : decode cX1_knows 9 = .ok (.if_icmp .ge 7, 3) := by decide +kernel
theorem dX1_knows_12 : decode cX1_knows 12 = .ok (.iconst 1, 1) := by decide +kernel
theorem dX1_knows_13 : decode cX1_knows 13 = .ok (.goto 4, 3) := by decide +kernel
theorem dX1_knows_16 : decode cX1_knows 16 = .ok (.iconst 0, 1) := by decide +kernel
theorem dX1_knows_17 : decode cX1_knows 17 = .ok (.ireturn, 1) := by decide +kernel
theorem dX1_hasMessage_0 : decode cX1_hasMessage 0 = .ok (.iload_n 1, 1) := by decide +kernel
theorem dX1_hasMessage_1 : decode cX1_hasMessage 1 = .ok (.ifCond .lt 15, 3) := by decide +kernel
theorem dX1_hasMessage_4 : decode cX1_hasMessage 4 = .ok (.iload_n 1, 1) := by decide +kernel
theorem dX1_hasMessage_5 : decode cX1_hasMessage 5 = .ok (.aload_n 0, 1) := by decide +kernel
theorem dX1_hasMessage_6 : decode cX1_hasMessage 6 = .ok (.getfield 61, 3) := by decide +kernel
theorem dX1_hasMessage_9 : decode cX1_hasMessage 9 = .ok (.if_icmp .ge 7, 3) := by decide +kernel
theorem dX1_hasMessage_12 : decode cX1_hasMessage 12 = .ok (.iconst 1, 1) := by decide +kernel
theorem dX1_hasMessage_13 : decode cX1_hasMessage 13 = .ok (.goto 4, 3) := by decide +kernel
theorem dX1_hasMessage_16 : decode cX1_hasMessage 16 = .ok (.iconst 0, 1) := by decide +kernel
theorem dX1_hasMessage_17 : decode cX1_hasMessage 17 = .ok (.ireturn, 1) := by decide +kernel
theorem dX1_stands_0 : decode cX1_stands 0 = .ok (.aload_n 0, 1) := by decide +kernel
theorem dX1_stands_1 : decode cX1_stands 1 = .ok (.getfield 45, 3) := by decide +kernel
theorem dX1_stands_4 : decode cX1_stands 4 = .ok (.iload_n 1, 1) := by decide +kernel
theorem dX1_stands_5 : decode cX1_stands 5 = .ok (.ishr, 1) := by decide +kernel
theorem dX1_stands_6 : decode cX1_stands 6 = .ok (.iconst 1, 1) := by decide +kernel
theorem dX1_stands_7 : decode cX1_stands 7 = .ok (.iand, 1) := by decide +kernel
theorem dX1_stands_8 : decode cX1_stands 8 = .ok (.iconst 1, 1) := by decide +kernel
theorem dX1_stands_9 : decode cX1_stands 9 = .ok (.if_icmp .ne 7, 3) := by decide +kernel
theorem dX1_stands_12 : decode cX1_stands 12 = .ok (.iconst 1, 1) := by decide +kernel
theorem dX1_stands_13 : decode cX1_stands 13 = .ok (.goto 4, 3) := by decide +kernel
theorem dX1_stands_16 : decode cX1_stands 16 = .ok (.iconst 0, 1) := by decide +kernel
theorem dX1_stands_17 : decode cX1_stands 17 = .ok (.ireturn, 1) := by decide +kernel
theorem dX1_isOver_0 : decode cX1_isOver 0 = .ok (.aload_n 0, 1) := by decide +kernel
theorem dX1_isOver_1 : decode cX1_isOver 1 = .ok (.getfield 58, 3) := by decide +kernel
theorem dX1_isOver_4 : decode cX1_isOver 4 = .ok (.iload_n 1, 1) := by decide +kernel
theorem dX1_isOver_5 : decode cX1_isOver 5 = .ok (.ishr, 1) := by decide +kernel
theorem dX1_isOver_6 : decode cX1_isOver 6 = .ok (.iconst 1, 1) := by decide +kernel
theorem dX1_isOver_7 : decode cX1_isOver 7 = .ok (.iand, 1) := by decide +kernel
theorem dX1_isOver_8 : decode cX1_isOver 8 = .ok (.iconst 1, 1) := by decide +kernel
theorem dX1_isOver_9 : decode cX1_isOver 9 = .ok (.if_icmp .ne 7, 3) := by decide +kernel
theorem dX1_isOver_12 : decode cX1_isOver 12 = .ok (.iconst 1, 1) := by decide +kernel
theorem dX1_isOver_13 : decode cX1_isOver 13 = .ok (.goto 4, 3) := by decide +kernel
theorem dX1_isOver_16 : decode cX1_isOver 16 = .ok (.iconst 0, 1) := by decide +kernel
theorem dX1_isOver_17 : decode cX1_isOver 17 = .ok (.ireturn, 1) := by decide +kernel
theorem dX1_shareOf_0 : decode cX1_shareOf 0 = .ok (.aload_n 0, 1) := by decide +kernel
theorem dX1_shareOf_1 : decode cX1_shareOf 1 = .ok (.getfield 18, 3) := by decide +kernel
theorem dX1_shareOf_4 : decode cX1_shareOf 4 = .ok (.iload_n 2, 1) := by decide +kernel
theorem dX1_shareOf_5 : decode cX1_shareOf 5 = .ok (.bipush 8, 2) := by decide +kernel
theorem dX1_shareOf_7 : decode cX1_shareOf 7 = .ok (.imul, 1) := by decide +kernel
theorem dX1_shareOf_8 : decode cX1_shareOf 8 = .ok (.iload_n 1, 1) := by decide +kernel
theorem dX1_shareOf_9 : decode cX1_shareOf 9 = .ok (.iadd, 1) := by decide +kernel
theorem dX1_shareOf_10 : decode cX1_shareOf 10 = .ok (.iaload, 1) := by decide +kernel
theorem dX1_shareOf_11 : decode cX1_shareOf 11 = .ok (.ireturn, 1) := by decide +kernel
theorem dX1_stateOf_0 : decode cX1_stateOf 0 = .ok (.aload_n 0, 1) := by decide +kernel
theorem dX1_stateOf_1 : decode cX1_stateOf 1 = .ok (.getfield 33, 3) := by decide +kernel
theorem dX1_stateOf_4 : decode cX1_stateOf 4 = .ok (.iload_n 1, 1) := by decide +kernel
theorem dX1_stateOf_5 : decode cX1_stateOf 5 = .ok (.bipush 8, 2) := by decide +kernel
theorem dX1_stateOf_7 : decode cX1_stateOf 7 = .ok (.imul, 1) := by decide +kernel
theorem dX1_stateOf_8 : decode cX1_stateOf 8 = .ok (.iload_n 2, 1) := by decide +kernel
theorem dX1_stateOf_9 : decode cX1_stateOf 9 = .ok (.iadd, 1) := by decide +kernel
theorem dX1_stateOf_10 : decode cX1_stateOf 10 = .ok (.iaload, 1) := by decide +kernel
theorem dX1_stateOf_11 : decode cX1_stateOf 11 = .ok (.ireturn, 1) := by decide +kernel
theorem dX1_kindOfRecord_0 : decode cX1_kindOfRecord 0 = .ok (.aload_n 0, 1) := by decide +kernel
theorem dX1_kindOfRecord_1 : decode cX1_kindOfRecord 1 = .ok (.getfield 36, 3) := by decide +kernel
theorem dX1_kindOfRecord_4 : decode cX1_kindOfRecord 4 = .ok (.iload_n 1, 1) := by decide +kernel
theorem dX1_kindOfRecord_5 : decode cX1_kindOfRecord 5 = .ok (.bipush 24, 2) := by decide +kernel
theorem dX1_kindOfRecord_7 : decode cX1_kindOfRecord 7 = .ok (.imul, 1) := by decide +kernel
theorem dX1_kindOfRecord_8 : decode cX1_kindOfRecord 8 = .ok (.iload_n 2, 1) := by decide +kernel
theorem dX1_kindOfRecord_9 : decode cX1_kindOfRecord 9 = .ok (.iadd, 1) := by decide +kernel
theorem dX1_kindOfRecord_10 : decode cX1_kindOfRecord 10 = .ok (.iaload, 1) := by decide +kernel
theorem dX1_kindOfRecord_11 : decode cX1_kindOfRecord 11 = .ok (.iconst 3, 1) := by decide +kernel
theorem dX1_kindOfRecord_12 : decode cX1_kindOfRecord 12 = .ok (.ishr, 1) := by decide +kernel
theorem dX1_kindOfRecord_13 : decode cX1_kindOfRecord 13 = .ok (.ireturn, 1) := by decide +kernel
theorem dX1_transferOfRecord_0 : decode cX1_transferOfRecord 0 = .ok (.aload_n 0, 1) := by decide +kernel
theorem dX1_transferOfRecord_1 : decode cX1_transferOfRecord 1 = .ok (.getfield 36, 3) := by decide +kernel
theorem dX1_transferOfRecord_4 : decode cX1_transferOfRecord 4 = .ok (.iload_n 1, 1) := by decide +kernel
theorem dX1_transferOfRecord_5 : decode cX1_transferOfRecord 5 = .ok (.bipush 24, 2) := by decide +kernel
theorem dX1_transferOfRecord_7 : decode cX1_transferOfRecord 7 = .ok (.imul, 1) := by decide +kernel
theorem dX1_transferOfRecord_8 : decode cX1_transferOfRecord 8 = .ok (.iload_n 2, 1) := by decide +kernel
theorem dX1_transferOfRecord_9 : decode cX1_transferOfRecord 9 = .ok (.iadd, 1) := by decide +kernel
theorem dX1_transferOfRecord_10 : decode cX1_transferOfRecord 10 = .ok (.iaload, 1) := by decide +kernel
theorem dX1_transferOfRecord_11 : decode cX1_transferOfRecord 11 = .ok (.bipush 7, 2) := by decide +kernel
theorem dX1_transferOfRecord_13 : decode cX1_transferOfRecord 13 = .ok (.iand, 1) := by decide +kernel
theorem dX1_transferOfRecord_14 : decode cX1_transferOfRecord 14 = .ok (.ireturn, 1) := by decide +kernel
theorem dX1_outcomeByLog_0 : decode cX1_outcomeByLog 0 = .ok (.iconst 0, 1) := by decide +kernel
theorem dX1_outcomeByLog_1 : decode cX1_outcomeByLog 1 = .ok (.istore_n 2, 1) := by decide +kernel
theorem dX1_outcomeByLog_2 : decode cX1_outcomeByLog 2 = .ok (.iconst 0, 1) := by decide +kernel
theorem dX1_outcomeByLog_3 : decode cX1_outcomeByLog 3 = .ok (.istore_n 3, 1) := by decide +kernel
theorem dX1_outcomeByLog_4 : decode cX1_outcomeByLog 4 = .ok (.iload_n 3, 1) := by decide +kernel
theorem dX1_outcomeByLog_5 : decode cX1_outcomeByLog 5 = .ok (.aload_n 0, 1) := by decide +kernel
theorem dX1_outcomeByLog_6 : decode cX1_outcomeByLog 6 = .ok (.getfield 39, 3) := by decide +kernel
theorem dX1_outcomeByLog_9 : decode cX1_outcomeByLog 9 = .ok (.iconst 4, 1) := by decide +kernel
theorem dX1_outcomeByLog_10 : decode cX1_outcomeByLog 10 = .ok (.iaload, 1) := by decide +kernel
theorem dX1_outcomeByLog_11 : decode cX1_outcomeByLog 11 = .ok (.if_icmp .ge 51, 3) := by decide +kernel
theorem dX1_outcomeByLog_14 : decode cX1_outcomeByLog 14 = .ok (.aload_n 0, 1) := by decide +kernel
theorem dX1_outcomeByLog_15 : decode cX1_outcomeByLog 15 = .ok (.iconst 4, 1) := by decide +kernel
theorem dX1_outcomeByLog_16 : decode cX1_outcomeByLog 16 = .ok (.iload_n 3, 1) := by decide +kernel
theorem dX1_outcomeByLog_17 : decode cX1_outcomeByLog 17 = .ok (.invokevirtual 73, 3) := by decide +kernel
theorem dX1_outcomeByLog_20 : decode cX1_outcomeByLog 20 = .ok (.istore 4, 2) := by decide +kernel
theorem dX1_outcomeByLog_22 : decode cX1_outcomeByLog 22 = .ok (.aload_n 0, 1) := by decide +kernel
theorem dX1_outcomeByLog_23 : decode cX1_outcomeByLog 23 = .ok (.iconst 4, 1) := by decide +kernel
theorem dX1_outcomeByLog_24 : decode cX1_outcomeByLog 24 = .ok (.iload_n 3, 1) := by decide +kernel
theorem dX1_outcomeByLog_25 : decode cX1_outcomeByLog 25 = .ok (.invokevirtual 77, 3) := by decide +kernel
theorem dX1_outcomeByLog_28 : decode cX1_outcomeByLog 28 = .ok (.iload_n 1, 1) := by decide +kernel
theorem dX1_outcomeByLog_29 : decode cX1_outcomeByLog 29 = .ok (.if_icmp .ne 27, 3) := by decide +kernel
theorem dX1_outcomeByLog_32 : decode cX1_outcomeByLog 32 = .ok (.iload 4, 2) := by decide +kernel
theorem dX1_outcomeByLog_34 : decode cX1_outcomeByLog 34 = .ok (.iconst 1, 1) := by decide +kernel
theorem dX1_outcomeByLog_35 : decode cX1_outcomeByLog 35 = .ok (.if_icmp .eq 9, 3) := by decide +kernel
theorem dX1_outcomeByLog_38 : decode cX1_outcomeByLog 38 = .ok (.iload 4, 2) := by decide +kernel
theorem dX1_outcomeByLog_40 : decode cX1_outcomeByLog 40 = .ok (.iconst 2, 1) := by decide +kernel
theorem dX1_outcomeByLog_41 : decode cX1_outcomeByLog 41 = .ok (.if_icmp .ne 15, 3) := by decide +kernel
theorem dX1_outcomeByLog_44 : decode cX1_outcomeByLog 44 = .ok (.iload 4, 2) := by decide +kernel
theorem dX1_outcomeByLog_46 : decode cX1_outcomeByLog 46 = .ok (.iconst 1, 1) := by decide +kernel
theorem dX1_outcomeByLog_47 : decode cX1_outcomeByLog 47 = .ok (.if_icmp .ne 7, 3) := by decide +kernel
theorem dX1_outcomeByLog_50 : decode cX1_outcomeByLog 50 = .ok (.iconst 1, 1) := by decide +kernel
theorem dX1_outcomeByLog_51 : decode cX1_outcomeByLog 51 = .ok (.goto 4, 3) := by decide +kernel
theorem dX1_outcomeByLog_54 : decode cX1_outcomeByLog 54 = .ok (.iconst 2, 1) := by decide +kernel
theorem dX1_outcomeByLog_55 : decode cX1_outcomeByLog 55 = .ok (.istore_n 2, 1) := by decide +kernel
theorem dX1_outcomeByLog_56 : decode cX1_outcomeByLog 56 = .ok (.iinc 3 1, 3) := by decide +kernel
theorem dX1_outcomeByLog_59 : decode cX1_outcomeByLog 59 = .ok (.goto (-55), 3) := by decide +kernel
theorem dX1_outcomeByLog_62 : decode cX1_outcomeByLog 62 = .ok (.iload_n 2, 1) := by decide +kernel
theorem dX1_outcomeByLog_63 : decode cX1_outcomeByLog 63 = .ok (.ireturn, 1) := by decide +kernel
theorem dX1_sharesNotMade_0 : decode cX1_sharesNotMade 0 = .ok (.iconst 0, 1) := by decide +kernel
theorem dX1_sharesNotMade_1 : decode cX1_sharesNotMade 1 = .ok (.istore_n 2, 1) := by decide +kernel
theorem dX1_sharesNotMade_2 : decode cX1_sharesNotMade 2 = .ok (.iconst 0, 1) := by decide +kernel
theorem dX1_sharesNotMade_3 : decode cX1_sharesNotMade 3 = .ok (.istore_n 3, 1) := by decide +kernel
theorem dX1_sharesNotMade_4 : decode cX1_sharesNotMade 4 = .ok (.iload_n 3, 1) := by decide +kernel
theorem dX1_sharesNotMade_5 : decode cX1_sharesNotMade 5 = .ok (.iconst 4, 1) := by decide +kernel
theorem dX1_sharesNotMade_6 : decode cX1_sharesNotMade 6 = .ok (.if_icmp .ge 28, 3) := by decide +kernel
theorem dX1_sharesNotMade_9 : decode cX1_sharesNotMade 9 = .ok (.aload_n 0, 1) := by decide +kernel
theorem dX1_sharesNotMade_10 : decode cX1_sharesNotMade 10 = .ok (.iload_n 3, 1) := by decide +kernel
theorem dX1_sharesNotMade_11 : decode cX1_sharesNotMade 11 = .ok (.iload_n 1, 1) := by decide +kernel
theorem dX1_sharesNotMade_12 : decode cX1_sharesNotMade 12 = .ok (.invokevirtual 80, 3) := by decide +kernel
theorem dX1_sharesNotMade_15 : decode cX1_sharesNotMade 15 = .ok (.iconst 2, 1) := by decide +kernel
theorem dX1_sharesNotMade_16 : decode cX1_sharesNotMade 16 = .ok (.if_icmp .eq 12, 3) := by decide +kernel
theorem dX1_sharesNotMade_19 : decode cX1_sharesNotMade 19 = .ok (.iload_n 2, 1) := by decide +kernel
theorem dX1_sharesNotMade_20 : decode cX1_sharesNotMade 20 = .ok (.aload_n 0, 1) := by decide +kernel
theorem dX1_sharesNotMade_21 : decode cX1_sharesNotMade 21 = .ok (.iload_n 1, 1) := by decide +kernel
theorem dX1_sharesNotMade_22 : decode cX1_sharesNotMade 22 = .ok (.iload_n 3, 1) := by decide +kernel
theorem dX1_sharesNotMade_23 : decode cX1_sharesNotMade 23 = .ok (.invokevirtual 83, 3) := by decide +kernel
theorem dX1_sharesNotMade_26 : decode cX1_sharesNotMade 26 = .ok (.iadd, 1) := by decide +kernel
theorem dX1_sharesNotMade_27 : decode cX1_sharesNotMade 27 = .ok (.istore_n 2, 1) := by decide +kernel
theorem dX1_sharesNotMade_28 : decode cX1_sharesNotMade 28 = .ok (.iinc 3 1, 3) := by decide +kernel
theorem dX1_sharesNotMade_31 : decode cX1_sharesNotMade 31 = .ok (.goto (-27), 3) := by decide +kernel
theorem dX1_sharesNotMade_34 : decode cX1_sharesNotMade 34 = .ok (.iload_n 2, 1) := by decide +kernel
theorem dX1_sharesNotMade_35 : decode cX1_sharesNotMade 35 = .ok (.ireturn, 1) := by decide +kernel
theorem dX1_wouldTake_0 : decode cX1_wouldTake 0 = .ok (.aload_n 0, 1) := by decide +kernel
theorem dX1_wouldTake_1 : decode cX1_wouldTake 1 = .ok (.getfield 30, 3) := by decide +kernel
theorem dX1_wouldTake_4 : decode cX1_wouldTake 4 = .ok (.iload_n 1, 1) := by decide +kernel
theorem dX1_wouldTake_5 : decode cX1_wouldTake 5 = .ok (.iaload, 1) := by decide +kernel
theorem dX1_wouldTake_6 : decode cX1_wouldTake 6 = .ok (.iload_n 2, 1) := by decide +kernel
theorem dX1_wouldTake_7 : decode cX1_wouldTake 7 = .ok (.iadd, 1) := by decide +kernel
theorem dX1_wouldTake_8 : decode cX1_wouldTake 8 = .ok (.istore_n 3, 1) := by decide +kernel
theorem dX1_wouldTake_9 : decode cX1_wouldTake 9 = .ok (.iconst 0, 1) := by decide +kernel
theorem dX1_wouldTake_10 : decode cX1_wouldTake 10 = .ok (.istore 4, 2) := by decide +kernel
theorem dX1_wouldTake_12 : decode cX1_wouldTake 12 = .ok (.iload 4, 2) := by decide +kernel
theorem dX1_wouldTake_14 : decode cX1_wouldTake 14 = .ok (.aload_n 0, 1) := by decide +kernel
theorem dX1_wouldTake_15 : decode cX1_wouldTake 15 = .ok (.getfield 49, 3) := by decide +kernel
theorem dX1_wouldTake_18 : decode cX1_wouldTake 18 = .ok (.if_icmp .ge 68, 3) := by decide +kernel
theorem dX1_wouldTake_21 : decode cX1_wouldTake 21 = .ok (.aload_n 0, 1) := by decide +kernel
theorem dX1_wouldTake_22 : decode cX1_wouldTake 22 = .ok (.iload 4, 2) := by decide +kernel
theorem dX1_wouldTake_24 : decode cX1_wouldTake 24 = .ok (.iload_n 1, 1) := by decide +kernel
theorem dX1_wouldTake_25 : decode cX1_wouldTake 25 = .ok (.invokevirtual 83, 3) := by decide +kernel
theorem dX1_wouldTake_28 : decode cX1_wouldTake 28 = .ok (.istore 5, 2) := by decide +kernel
theorem dX1_wouldTake_30 : decode cX1_wouldTake 30 = .ok (.iload_n 2, 1) := by decide +kernel
theorem dX1_wouldTake_31 : decode cX1_wouldTake 31 = .ok (.ifCond .ge 16, 3) := by decide +kernel
theorem dX1_wouldTake_34 : decode cX1_wouldTake 34 = .ok (.iload 5, 2) := by decide +kernel
theorem dX1_wouldTake_36 : decode cX1_wouldTake 36 = .ok (.ifCond .ge 7, 3) := by decide +kernel
theorem dX1_wouldTake_39 : decode cX1_wouldTake 39 = .ok (.iconst 1, 1) := by decide +kernel
theorem dX1_wouldTake_40 : decode cX1_wouldTake 40 = .ok (.goto 17, 3) := by decide +kernel
theorem dX1_wouldTake_43 : decode cX1_wouldTake 43 = .ok (.iconst 0, 1) := by decide +kernel
theorem dX1_wouldTake_44 : decode cX1_wouldTake 44 = .ok (.goto 13, 3) := by decide +kernel
theorem dX1_wouldTake_47 : decode cX1_wouldTake 47 = .ok (.iload 5, 2) := by decide +kernel
theorem dX1_wouldTake_49 : decode cX1_wouldTake 49 = .ok (.ifCond .le 7, 3) := by decide +kernel
theorem dX1_wouldTake_52 : decode cX1_wouldTake 52 = .ok (.iconst 1, 1) := by decide +kernel
theorem dX1_wouldTake_53 : decode cX1_wouldTake 53 = .ok (.goto 4, 3) := by decide +kernel
theorem dX1_wouldTake_56 : decode cX1_wouldTake 56 = .ok (.iconst 0, 1) := by decide +kernel
theorem dX1_wouldTake_57 : decode cX1_wouldTake 57 = .ok (.istore 6, 2) := by decide +kernel
theorem dX1_wouldTake_59 : decode cX1_wouldTake 59 = .ok (.iload 6, 2) := by decide +kernel
theorem dX1_wouldTake_61 : decode cX1_wouldTake 61 = .ok (.ifCond .eq 19, 3) := by decide +kernel
theorem dX1_wouldTake_64 : decode cX1_wouldTake 64 = .ok (.aload_n 0, 1) := by decide +kernel
theorem dX1_wouldTake_65 : decode cX1_wouldTake 65 = .ok (.iload_n 1, 1) := by decide +kernel
theorem dX1_wouldTake_66 : decode cX1_wouldTake 66 = .ok (.iload 4, 2) := by decide +kernel
theorem dX1_wouldTake_68 : decode cX1_wouldTake 68 = .ok (.invokevirtual 80, 3) := by decide +kernel
theorem dX1_wouldTake_71 : decode cX1_wouldTake 71 = .ok (.iconst 1, 1) := by decide +kernel
theorem dX1_wouldTake_72 : decode cX1_wouldTake 72 = .ok (.if_icmp .ne 8, 3) := by decide +kernel
theorem dX1_wouldTake_75 : decode cX1_wouldTake 75 = .ok (.iload_n 3, 1) := by decide +kernel
theorem dX1_wouldTake_76 : decode cX1_wouldTake 76 = .ok (.iload 5, 2) := by decide +kernel
theorem dX1_wouldTake_78 : decode cX1_wouldTake 78 = .ok (.iadd, 1) := by decide +kernel
theorem dX1_wouldTake_79 : decode cX1_wouldTake 79 = .ok (.istore_n 3, 1) := by decide +kernel
theorem dX1_wouldTake_80 : decode cX1_wouldTake 80 = .ok (.iinc 4 1, 3) := by decide +kernel
theorem dX1_wouldTake_83 : decode cX1_wouldTake 83 = .ok (.goto (-71), 3) := by decide +kernel
theorem dX1_wouldTake_86 : decode cX1_wouldTake 86 = .ok (.iload_n 3, 1) := by decide +kernel
theorem dX1_wouldTake_87 : decode cX1_wouldTake 87 = .ok (.ifCond .lt 14, 3) := by decide +kernel
theorem dX1_wouldTake_90 : decode cX1_wouldTake 90 = .ok (.iload_n 3, 1) := by decide +kernel
theorem dX1_wouldTake_91 : decode cX1_wouldTake 91 = .ok (.sipush 999, 3) := by decide +kernel
theorem dX1_wouldTake_94 : decode cX1_wouldTake 94 = .ok (.if_icmp .gt 7, 3) := by decide +kernel
theorem dX1_wouldTake_97 : decode cX1_wouldTake 97 = .ok (.iconst 1, 1) := by decide +kernel
theorem dX1_wouldTake_98 : decode cX1_wouldTake 98 = .ok (.goto 4, 3) := by decide +kernel
theorem dX1_wouldTake_101 : decode cX1_wouldTake 101 = .ok (.iconst 0, 1) := by decide +kernel
theorem dX1_wouldTake_102 : decode cX1_wouldTake 102 = .ok (.ireturn, 1) := by decide +kernel
theorem dX1_allWouldTake_0 : decode cX1_allWouldTake 0 = .ok (.iconst 0, 1) := by decide +kernel
theorem dX1_allWouldTake_1 : decode cX1_allWouldTake 1 = .ok (.istore 4, 2) := by decide +kernel
theorem dX1_allWouldTake_3 : decode cX1_allWouldTake 3 = .ok (.iload 4, 2) := by decide +kernel
theorem dX1_allWouldTake_5 : decode cX1_allWouldTake 5 = .ok (.iconst 4, 1) := by decide +kernel
theorem dX1_allWouldTake_6 : decode cX1_allWouldTake 6 = .ok (.if_icmp .ge 37, 3) := by decide +kernel
theorem dX1_allWouldTake_9 : decode cX1_allWouldTake 9 = .ok (.iload_n 1, 1) := by decide +kernel
theorem dX1_allWouldTake_10 : decode cX1_allWouldTake 10 = .ok (.iload_n 2, 1) := by decide +kernel
theorem dX1_allWouldTake_11 : decode cX1_allWouldTake 11 = .ok (.iload_n 3, 1) := by decide +kernel
theorem dX1_allWouldTake_12 : decode cX1_allWouldTake 12 = .ok (.iload 4, 2) := by decide +kernel
theorem dX1_allWouldTake_14 : decode cX1_allWouldTake 14 = .ok (.invokestatic 86, 3) := by decide +kernel
theorem dX1_allWouldTake_17 : decode cX1_allWouldTake 17 = .ok (.istore 5, 2) := by decide +kernel
theorem dX1_allWouldTake_19 : decode cX1_allWouldTake 19 = .ok (.iload 5, 2) := by decide +kernel
theorem dX1_allWouldTake_21 : decode cX1_allWouldTake 21 = .ok (.ifCond .eq 16, 3) := by decide +kernel
theorem dX1_allWouldTake_24 : decode cX1_allWouldTake 24 = .ok (.aload_n 0, 1) := by decide +kernel
theorem dX1_allWouldTake_25 : decode cX1_allWouldTake 25 = .ok (.iload 4, 2) := by decide +kernel
theorem dX1_allWouldTake_27 : decode cX1_allWouldTake 27 = .ok (.iload 5, 2) := by decide +kernel
theorem dX1_allWouldTake_29 : decode cX1_allWouldTake 29 = .ok (.invokevirtual 90, 3) := by decide +kernel
theorem dX1_allWouldTake_32 : decode cX1_allWouldTake 32 = .ok (.ifCond .ne 5, 3) := by decide +kernel
theorem dX1_allWouldTake_35 : decode cX1_allWouldTake 35 = .ok (.iconst 0, 1) := by decide +kernel
theorem dX1_allWouldTake_36 : decode cX1_allWouldTake 36 = .ok (.ireturn, 1) := by decide +kernel
theorem dX1_allWouldTake_37 : decode cX1_allWouldTake 37 = .ok (.iinc 4 1, 3) := by decide +kernel
theorem dX1_allWouldTake_40 : decode cX1_allWouldTake 40 = .ok (.goto (-37), 3) := by decide +kernel
theorem dX1_allWouldTake_43 : decode cX1_allWouldTake 43 = .ok (.iconst 1, 1) := by decide +kernel
theorem dX1_allWouldTake_44 : decode cX1_allWouldTake 44 = .ok (.ireturn, 1) := by decide +kernel
theorem dX1_canStart_0 : decode cX1_canStart 0 = .ok (.aload_n 0, 1) := by decide +kernel
theorem dX1_canStart_1 : decode cX1_canStart 1 = .ok (.iconst 4, 1) := by decide +kernel
theorem dX1_canStart_2 : decode cX1_canStart 2 = .ok (.invokevirtual 94, 3) := by decide +kernel
theorem dX1_canStart_5 : decode cX1_canStart 5 = .ok (.ifCond .eq 16, 3) := by decide +kernel
theorem dX1_canStart_8 : decode cX1_canStart 8 = .ok (.aload_n 0, 1) := by decide +kernel
theorem dX1_canStart_9 : decode cX1_canStart 9 = .ok (.getfield 49, 3) := by decide +kernel
theorem dX1_canStart_12 : decode cX1_canStart 12 = .ok (.bipush 8, 2) := by decide +kernel
theorem dX1_canStart_14 : decode cX1_canStart 14 = .ok (.if_icmp .ge 7, 3) := by decide +kernel
theorem dX1_canStart_17 : decode cX1_canStart 17 = .ok (.iconst 1, 1) := by decide +kernel
theorem dX1_canStart_18 : decode cX1_canStart 18 = .ok (.goto 4, 3) := by decide +kernel
theorem dX1_canStart_21 : decode cX1_canStart 21 = .ok (.iconst 0, 1) := by decide +kernel
theorem dX1_canStart_22 : decode cX1_canStart 22 = .ok (.ireturn, 1) := by decide +kernel
theorem dX1_canDecide_0 : decode cX1_canDecide 0 = .ok (.aload_n 0, 1) := by decide +kernel
theorem dX1_canDecide_1 : decode cX1_canDecide 1 = .ok (.iconst 4, 1) := by decide +kernel
theorem dX1_canDecide_2 : decode cX1_canDecide 2 = .ok (.invokevirtual 94, 3) := by decide +kernel
theorem dX1_canDecide_5 : decode cX1_canDecide 5 = .ok (.ifCond .eq 16, 3) := by decide +kernel
theorem dX1_canDecide_8 : decode cX1_canDecide 8 = .ok (.aload_n 0, 1) := by decide +kernel
theorem dX1_canDecide_9 : decode cX1_canDecide 9 = .ok (.getfield 21, 3) := by decide +kernel
theorem dX1_canDecide_12 : decode cX1_canDecide 12 = .ok (.iload_n 1, 1) := by decide +kernel
theorem dX1_canDecide_13 : decode cX1_canDecide 13 = .ok (.iaload, 1) := by decide +kernel
theorem dX1_canDecide_14 : decode cX1_canDecide 14 = .ok (.ifCond .ne 7, 3) := by decide +kernel
theorem dX1_canDecide_17 : decode cX1_canDecide 17 = .ok (.iconst 1, 1) := by decide +kernel
theorem dX1_canDecide_18 : decode cX1_canDecide 18 = .ok (.goto 4, 3) := by decide +kernel
theorem dX1_canDecide_21 : decode cX1_canDecide 21 = .ok (.iconst 0, 1) := by decide +kernel
theorem dX1_canDecide_22 : decode cX1_canDecide 22 = .ok (.ireturn, 1) := by decide +kernel
theorem dX1_canAskWhatNow_0 : decode cX1_canAskWhatNow 0 = .ok (.aload_n 0, 1) := by decide +kernel
theorem dX1_canAskWhatNow_1 : decode cX1_canAskWhatNow 1 = .ok (.iload_n 1, 1) := by decide +kernel
theorem dX1_canAskWhatNow_2 : decode cX1_canAskWhatNow 2 = .ok (.invokevirtual 94, 3) := by decide +kernel
theorem dX1_canAskWhatNow_5 : decode cX1_canAskWhatNow 5 = .ok (.ifCond .eq 17, 3) := by decide +kernel
theorem dX1_canAskWhatNow_8 : decode cX1_canAskWhatNow 8 = .ok (.aload_n 0, 1) := by decide +kernel
theorem dX1_canAskWhatNow_9 : decode cX1_canAskWhatNow 9 = .ok (.iload_n 1, 1) := by decide +kernel
theorem dX1_canAskWhatNow_10 : decode cX1_canAskWhatNow 10 = .ok (.iload_n 2, 1) := by decide +kernel
theorem dX1_canAskWhatNow_11 : decode cX1_canAskWhatNow 11 = .ok (.invokevirtual 80, 3) := by decide +kernel
theorem dX1_canAskWhatNow_14 : decode cX1_canAskWhatNow 14 = .ok (.iconst 1, 1) := by decide +kernel
theorem dX1_canAskWhatNow_15 : decode cX1_canAskWhatNow 15 = .ok (.if_icmp .ne 7, 3) := by decide +kernel
theorem dX1_canAskWhatNow_18 : decode cX1_canAskWhatNow 18 = .ok (.iconst 1, 1) := by decide +kernel
theorem dX1_canAskWhatNow_19 : decode cX1_canAskWhatNow 19 = .ok (.goto 4, 3) := by decide +kernel
theorem dX1_canAskWhatNow_22 : decode cX1_canAskWhatNow 22 = .ok (.iconst 0, 1) := by decide +kernel
theorem dX1_canAskWhatNow_23 : decode cX1_canAskWhatNow 23 = .ok (.ireturn, 1) := by decide +kernel
theorem dX1_write_0 : decode cX1_write 0 = .ok (.aload_n 0, 1) := by decide +kernel
theorem dX1_write_1 : decode cX1_write 1 = .ok (.getfield 39, 3) := by decide +kernel
theorem dX1_write_4 : decode cX1_write 4 = .ok (.iload_n 1, 1) := by decide +kernel
theorem dX1_write_5 : decode cX1_write 5 = .ok (.iaload, 1) := by decide +kernel
theorem dX1_write_6 : decode cX1_write 6 = .ok (.istore 4, 2) := by decide +kernel
theorem dX1_write_8 : decode cX1_write 8 = .ok (.iload 4, 2) := by decide +kernel
theorem dX1_write_10 : decode cX1_write 10 = .ok (.bipush 24, 2) := by decide +kernel
theorem dX1_write_12 : decode cX1_write 12 = .ok (.if_icmp .ge 30, 3) := by decide +kernel
theorem dX1_write_15 : decode cX1_write 15 = .ok (.aload_n 0, 1) := by decide +kernel
theorem dX1_write_16 : decode cX1_write 16 = .ok (.getfield 36, 3) := by decide +kernel
theorem dX1_write_19 : decode cX1_write 19 = .ok (.iload_n 1, 1) := by decide +kernel
theorem dX1_write_20 : decode cX1_write 20 = .ok (.bipush 24, 2) := by decide +kernel
theorem dX1_write_22 : decode cX1_write 22 = .ok (.imul, 1) := by decide +kernel
theorem dX1_write_23 : decode cX1_write 23 = .ok (.iload 4, 2) := by decide +kernel
theorem dX1_write_25 : decode cX1_write 25 = .ok (.iadd, 1) := by decide +kernel
theorem dX1_write_26 : decode cX1_write 26 = .ok (.iload_n 2, 1) := by decide +kernel
theorem dX1_write_27 : decode cX1_write 27 = .ok (.iconst 3, 1) := by decide +kernel
theorem dX1_write_28 : decode cX1_write 28 = .ok (.ishl, 1) := by decide +kernel
theorem dX1_write_29 : decode cX1_write 29 = .ok (.iload_n 3, 1) := by decide +kernel
theorem dX1_write_30 : decode cX1_write 30 = .ok (.ior, 1) := by decide +kernel
theorem dX1_write_31 : decode cX1_write 31 = .ok (.iastore, 1) := by decide +kernel
theorem dX1_write_32 : decode cX1_write 32 = .ok (.aload_n 0, 1) := by decide +kernel
theorem dX1_write_33 : decode cX1_write 33 = .ok (.getfield 39, 3) := by decide +kernel
theorem dX1_write_36 : decode cX1_write 36 = .ok (.iload_n 1, 1) := by decide +kernel
theorem dX1_write_37 : decode cX1_write 37 = .ok (.iload 4, 2) := by decide +kernel
theorem dX1_write_39 : decode cX1_write 39 = .ok (.iconst 1, 1) := by decide +kernel
theorem dX1_write_40 : decode cX1_write 40 = .ok (.iadd, 1) := by decide +kernel
theorem dX1_write_41 : decode cX1_write 41 = .ok (.iastore, 1) := by decide +kernel
theorem dX1_write_42 : decode cX1_write 42 = .ok (.return_, 1) := by decide +kernel
theorem dX1_send_0 : decode cX1_send 0 = .ok (.iconst 0, 1) := by decide +kernel
theorem dX1_send_1 : decode cX1_send 1 = .ok (.istore 4, 2) := by decide +kernel
theorem dX1_send_3 : decode cX1_send 3 = .ok (.iload 4, 2) := by decide +kernel
theorem dX1_send_5 : decode cX1_send 5 = .ok (.iconst 4, 1) := by decide +kernel
theorem dX1_send_6 : decode cX1_send 6 = .ok (.if_icmp .ge 80, 3) := by decide +kernel
theorem dX1_send_9 : decode cX1_send 9 = .ok (.iload_n 3, 1) := by decide +kernel
theorem dX1_send_10 : decode cX1_send 10 = .ok (.iload 4, 2) := by decide +kernel
theorem dX1_send_12 : decode cX1_send 12 = .ok (.ishr, 1) := by decide +kernel
theorem dX1_send_13 : decode cX1_send 13 = .ok (.iconst 1, 1) := by decide +kernel
theorem dX1_send_14 : decode cX1_send 14 = .ok (.iand, 1) := by decide +kernel
theorem dX1_send_15 : decode cX1_send 15 = .ok (.iconst 1, 1) := by decide +kernel
theorem dX1_send_16 : decode cX1_send 16 = .ok (.if_icmp .ne 64, 3) := by decide +kernel
theorem dX1_send_19 : decode cX1_send 19 = .ok (.aload_n 0, 1) := by decide +kernel
theorem dX1_send_20 : decode cX1_send 20 = .ok (.dup, 1) := by decide +kernel
theorem dX1_send_21 : decode cX1_send 21 = .ok (.getfield 64, 3) := by decide +kernel
theorem dX1_send_24 : decode cX1_send 24 = .ok (.iconst 1, 1) := by decide +kernel
theorem dX1_send_25 : decode cX1_send 25 = .ok (.iadd, 1) := by decide +kernel
theorem dX1_send_26 : decode cX1_send 26 = .ok (.putfield 64, 3) := by decide +kernel
theorem dX1_send_29 : decode cX1_send 29 = .ok (.aload_n 0, 1) := by decide +kernel
theorem dX1_send_30 : decode cX1_send 30 = .ok (.getfield 61, 3) := by decide +kernel
theorem dX1_send_33 : decode cX1_send 33 = .ok (.bipush 60, 2) := by decide +kernel
theorem dX1_send_35 : decode cX1_send 35 = .ok (.if_icmp .ge 35, 3) := by decide +kernel
theorem dX1_send_38 : decode cX1_send 38 = .ok (.aload_n 0, 1) := by decide +kernel
theorem dX1_send_39 : decode cX1_send 39 = .ok (.getfield 42, 3) := by decide +kernel
theorem dX1_send_42 : decode cX1_send 42 = .ok (.aload_n 0, 1) := by decide +kernel
theorem dX1_send_43 : decode cX1_send 43 = .ok (.getfield 61, 3) := by decide +kernel
theorem dX1_send_46 : decode cX1_send 46 = .ok (.iload_n 1, 1) := by decide +kernel
theorem dX1_send_47 : decode cX1_send 47 = .ok (.iconst 5, 1) := by decide +kernel
theorem dX1_send_48 : decode cX1_send 48 = .ok (.ishl, 1) := by decide +kernel
theorem dX1_send_49 : decode cX1_send 49 = .ok (.iload_n 2, 1) := by decide +kernel
theorem dX1_send_50 : decode cX1_send 50 = .ok (.iconst 2, 1) := by decide +kernel
theorem dX1_send_51 : decode cX1_send 51 = .ok (.ishl, 1) := by decide +kernel
theorem dX1_send_52 : decode cX1_send 52 = .ok (.ior, 1) := by decide +kernel
theorem dX1_send_53 : decode cX1_send 53 = .ok (.iload 4, 2) := by decide +kernel
theorem dX1_send_55 : decode cX1_send 55 = .ok (.ior, 1) := by decide +kernel
theorem dX1_send_56 : decode cX1_send 56 = .ok (.iastore, 1) := by decide +kernel
theorem dX1_send_57 : decode cX1_send 57 = .ok (.aload_n 0, 1) := by decide +kernel
theorem dX1_send_58 : decode cX1_send 58 = .ok (.dup, 1) := by decide +kernel
theorem dX1_send_59 : decode cX1_send 59 = .ok (.getfield 61, 3) := by decide +kernel
theorem dX1_send_62 : decode cX1_send 62 = .ok (.iconst 1, 1) := by decide +kernel
theorem dX1_send_63 : decode cX1_send 63 = .ok (.iadd, 1) := by decide +kernel
theorem dX1_send_64 : decode cX1_send 64 = .ok (.putfield 61, 3) := by decide +kernel
theorem dX1_send_67 : decode cX1_send 67 = .ok (.goto 13, 3) := by decide +kernel
theorem dX1_send_70 : decode cX1_send 70 = .ok (.aload_n 0, 1) := by decide +kernel
theorem dX1_send_71 : decode cX1_send 71 = .ok (.dup, 1) := by decide +kernel
theorem dX1_send_72 : decode cX1_send 72 = .ok (.getfield 70, 3) := by decide +kernel
theorem dX1_send_75 : decode cX1_send 75 = .ok (.iconst 1, 1) := by decide +kernel
theorem dX1_send_76 : decode cX1_send 76 = .ok (.iadd, 1) := by decide +kernel
theorem dX1_send_77 : decode cX1_send 77 = .ok (.putfield 70, 3) := by decide +kernel
theorem dX1_send_80 : decode cX1_send 80 = .ok (.iinc 4 1, 3) := by decide +kernel
theorem dX1_send_83 : decode cX1_send 83 = .ok (.goto (-80), 3) := by decide +kernel
theorem dX1_send_86 : decode cX1_send 86 = .ok (.return_, 1) := by decide +kernel
theorem dX1_takeOut_0 : decode cX1_takeOut 0 = .ok (.aload_n 0, 1) := by decide +kernel
theorem dX1_takeOut_1 : decode cX1_takeOut 1 = .ok (.getfield 42, 3) := by decide +kernel
theorem dX1_takeOut_4 : decode cX1_takeOut 4 = .ok (.iload_n 1, 1) := by decide +kernel
theorem dX1_takeOut_5 : decode cX1_takeOut 5 = .ok (.iaload, 1) := by decide +kernel
theorem dX1_takeOut_6 : decode cX1_takeOut 6 = .ok (.istore_n 2, 1) := by decide +kernel
theorem dX1_takeOut_7 : decode cX1_takeOut 7 = .ok (.iload_n 1, 1) := by decide +kernel
theorem dX1_takeOut_8 : decode cX1_takeOut 8 = .ok (.iconst 1, 1) := by decide +kernel
theorem dX1_takeOut_9 : decode cX1_takeOut 9 = .ok (.iadd, 1) := by decide +kernel
theorem dX1_takeOut_10 : decode cX1_takeOut 10 = .ok (.istore_n 3, 1) := by decide +kernel
theorem dX1_takeOut_11 : decode cX1_takeOut 11 = .ok (.iload_n 3, 1) := by decide +kernel
theorem dX1_takeOut_12 : decode cX1_takeOut 12 = .ok (.aload_n 0, 1) := by decide +kernel
theorem dX1_takeOut_13 : decode cX1_takeOut 13 = .ok (.getfield 61, 3) := by decide +kernel
theorem dX1_takeOut_16 : decode cX1_takeOut 16 = .ok (.if_icmp .ge 23, 3) := by decide +kernel
theorem dX1_takeOut_19 : decode cX1_takeOut 19 = .ok (.aload_n 0, 1) := by decide +kernel
theorem dX1_takeOut_20 : decode cX1_takeOut 20 = .ok (.getfield 42, 3) := by decide +kernel
theorem dX1_takeOut_23 : decode cX1_takeOut 23 = .ok (.iload_n 3, 1) := by decide +kernel
theorem dX1_takeOut_24 : decode cX1_takeOut 24 = .ok (.iconst 1, 1) := by decide +kernel
theorem dX1_takeOut_25 : decode cX1_takeOut 25 = .ok (.isub, 1) := by decide +kernel
theorem dX1_takeOut_26 : decode cX1_takeOut 26 = .ok (.aload_n 0, 1) := by decide +kernel
theorem dX1_takeOut_27 : decode cX1_takeOut 27 = .ok (.getfield 42, 3) := by decide +kernel
theorem dX1_takeOut_30 : decode cX1_takeOut 30 = .ok (.iload_n 3, 1) := by decide +kernel
theorem dX1_takeOut_31 : decode cX1_takeOut 31 = .ok (.iaload, 1) := by decide +kernel
theorem dX1_takeOut_32 : decode cX1_takeOut 32 = .ok (.iastore, 1) := by decide +kernel
theorem dX1_takeOut_33 : decode cX1_takeOut 33 = .ok (.iinc 3 1, 3) := by decide +kernel
theorem dX1_takeOut_36 : decode cX1_takeOut 36 = .ok (.goto (-25), 3) := by decide +kernel
theorem dX1_takeOut_39 : decode cX1_takeOut 39 = .ok (.aload_n 0, 1) := by decide +kernel
theorem dX1_takeOut_40 : decode cX1_takeOut 40 = .ok (.dup, 1) := by decide +kernel
theorem dX1_takeOut_41 : decode cX1_takeOut 41 = .ok (.getfield 61, 3) := by decide +kernel
theorem dX1_takeOut_44 : decode cX1_takeOut 44 = .ok (.iconst 1, 1) := by decide +kernel
theorem dX1_takeOut_45 : decode cX1_takeOut 45 = .ok (.isub, 1) := by decide +kernel
theorem dX1_takeOut_46 : decode cX1_takeOut 46 = .ok (.putfield 61, 3) := by decide +kernel
theorem dX1_takeOut_49 : decode cX1_takeOut 49 = .ok (.iload_n 2, 1) := by decide +kernel
theorem dX1_takeOut_50 : decode cX1_takeOut 50 = .ok (.ireturn, 1) := by decide +kernel
theorem dX1_loseFrom_0 : decode cX1_loseFrom 0 = .ok (.aload_n 0, 1) := by decide +kernel
theorem dX1_loseFrom_1 : decode cX1_loseFrom 1 = .ok (.dup, 1) := by decide +kernel
theorem dX1_loseFrom_2 : decode cX1_loseFrom 2 = .ok (.getfield 70, 3) := by decide +kernel
theorem dX1_loseFrom_5 : decode cX1_loseFrom 5 = .ok (.iconst 1, 1) := by decide +kernel
theorem dX1_loseFrom_6 : decode cX1_loseFrom 6 = .ok (.iadd, 1) := by decide +kernel
theorem dX1_loseFrom_7 : decode cX1_loseFrom 7 = .ok (.putfield 70, 3) := by decide +kernel
theorem dX1_loseFrom_10 : decode cX1_loseFrom 10 = .ok (.aload_n 0, 1) := by decide +kernel
theorem dX1_loseFrom_11 : decode cX1_loseFrom 11 = .ok (.iload_n 1, 1) := by decide +kernel
theorem dX1_loseFrom_12 : decode cX1_loseFrom 12 = .ok (.invokevirtual 98, 3) := by decide +kernel
theorem dX1_loseFrom_15 : decode cX1_loseFrom 15 = .ok (.invokestatic 102, 3) := by decide +kernel
theorem dX1_loseFrom_18 : decode cX1_loseFrom 18 = .ok (.ireturn, 1) := by decide +kernel
theorem dX1_deliverFirst_0 : decode cX1_deliverFirst 0 = .ok (.iconst 0, 1) := by decide +kernel
theorem dX1_deliverFirst_1 : decode cX1_deliverFirst 1 = .ok (.istore_n 2, 1) := by decide +kernel
theorem dX1_deliverFirst_2 : decode cX1_deliverFirst 2 = .ok (.iload_n 2, 1) := by decide +kernel
theorem dX1_deliverFirst_3 : decode cX1_deliverFirst 3 = .ok (.iload_n 1, 1) := by decide +kernel
theorem dX1_deliverFirst_4 : decode cX1_deliverFirst 4 = .ok (.if_icmp .ge 22, 3) := by decide +kernel
theorem dX1_deliverFirst_7 : decode cX1_deliverFirst 7 = .ok (.aload_n 0, 1) := by decide +kernel
theorem dX1_deliverFirst_8 : decode cX1_deliverFirst 8 = .ok (.getfield 61, 3) := by decide +kernel
theorem dX1_deliverFirst_11 : decode cX1_deliverFirst 11 = .ok (.ifCond .le 15, 3) := by decide +kernel
theorem dX1_deliverFirst_14 : decode cX1_deliverFirst 14 = .ok (.aload_n 0, 1) := by decide +kernel
theorem dX1_deliverFirst_15 : decode cX1_deliverFirst 15 = .ok (.iconst 0, 1) := by decide +kernel
theorem dX1_deliverFirst_16 : decode cX1_deliverFirst 16 = .ok (.invokevirtual 105, 3) := by decide +kernel
theorem dX1_deliverFirst_19 : decode cX1_deliverFirst 19 = .ok (.pop, 1) := by decide +kernel
theorem dX1_deliverFirst_20 : decode cX1_deliverFirst 20 = .ok (.iinc 2 1, 3) := by decide +kernel
theorem dX1_deliverFirst_23 : decode cX1_deliverFirst 23 = .ok (.goto (-21), 3) := by decide +kernel
theorem dX1_deliverFirst_26 : decode cX1_deliverFirst 26 = .ok (.iload_n 2, 1) := by decide +kernel
theorem dX1_deliverFirst_27 : decode cX1_deliverFirst 27 = .ok (.ireturn, 1) := by decide +kernel
theorem dX1_deliverFrom_0 : decode cX1_deliverFrom 0 = .ok (.aload_n 0, 1) := by decide +kernel
theorem dX1_deliverFrom_1 : decode cX1_deliverFrom 1 = .ok (.iload_n 1, 1) := by decide +kernel
theorem dX1_deliverFrom_2 : decode cX1_deliverFrom 2 = .ok (.invokevirtual 98, 3) := by decide +kernel
theorem dX1_deliverFrom_5 : decode cX1_deliverFrom 5 = .ok (.istore_n 2, 1) := by decide +kernel
theorem dX1_deliverFrom_6 : decode cX1_deliverFrom 6 = .ok (.iload_n 2, 1) := by decide +kernel
theorem dX1_deliverFrom_7 : decode cX1_deliverFrom 7 = .ok (.invokestatic 102, 3) := by decide +kernel
theorem dX1_deliverFrom_10 : decode cX1_deliverFrom 10 = .ok (.istore_n 3, 1) := by decide +kernel
theorem dX1_deliverFrom_11 : decode cX1_deliverFrom 11 = .ok (.iload_n 2, 1) := by decide +kernel
theorem dX1_deliverFrom_12 : decode cX1_deliverFrom 12 = .ok (.invokestatic 108, 3) := by decide +kernel
theorem dX1_deliverFrom_15 : decode cX1_deliverFrom 15 = .ok (.istore 4, 2) := by decide +kernel
theorem dX1_deliverFrom_17 : decode cX1_deliverFrom 17 = .ok (.iload_n 2, 1) := by decide +kernel
theorem dX1_deliverFrom_18 : decode cX1_deliverFrom 18 = .ok (.invokestatic 111, 3) := by decide +kernel
theorem dX1_deliverFrom_21 : decode cX1_deliverFrom 21 = .ok (.istore 5, 2) := by decide +kernel
theorem dX1_deliverFrom_23 : decode cX1_deliverFrom 23 = .ok (.aload_n 0, 1) := by decide +kernel
theorem dX1_deliverFrom_24 : decode cX1_deliverFrom 24 = .ok (.iload_n 3, 1) := by decide +kernel
theorem dX1_deliverFrom_25 : decode cX1_deliverFrom 25 = .ok (.invokestatic 114, 3) := by decide +kernel
theorem dX1_deliverFrom_28 : decode cX1_deliverFrom 28 = .ok (.ifCond .eq 8, 3) := by decide +kernel
theorem dX1_deliverFrom_31 : decode cX1_deliverFrom 31 = .ok (.iload 5, 2) := by decide +kernel
theorem dX1_deliverFrom_33 : decode cX1_deliverFrom 33 = .ok (.goto 4, 3) := by decide +kernel
theorem dX1_deliverFrom_36 : decode cX1_deliverFrom 36 = .ok (.iconst 4, 1) := by decide +kernel
theorem dX1_deliverFrom_37 : decode cX1_deliverFrom 37 = .ok (.invokevirtual 94, 3) := by decide +kernel
theorem dX1_deliverFrom_40 : decode cX1_deliverFrom 40 = .ok (.ifCond .ne 15, 3) := by decide +kernel
theorem dX1_deliverFrom_43 : decode cX1_deliverFrom 43 = .ok (.aload_n 0, 1) := by decide +kernel
theorem dX1_deliverFrom_44 : decode cX1_deliverFrom 44 = .ok (.dup, 1) := by decide +kernel
theorem dX1_deliverFrom_45 : decode cX1_deliverFrom 45 = .ok (.getfield 70, 3) := by decide +kernel
theorem dX1_deliverFrom_48 : decode cX1_deliverFrom 48 = .ok (.iconst 1, 1) := by decide +kernel
theorem dX1_deliverFrom_49 : decode cX1_deliverFrom 49 = .ok (.iadd, 1) := by decide +kernel
theorem dX1_deliverFrom_50 : decode cX1_deliverFrom 50 = .ok (.putfield 70, 3) := by decide +kernel
theorem dX1_deliverFrom_53 : decode cX1_deliverFrom 53 = .ok (.iconst 0, 1) := by decide +kernel
theorem dX1_deliverFrom_54 : decode cX1_deliverFrom 54 = .ok (.ireturn, 1) := by decide +kernel
theorem dX1_deliverFrom_55 : decode cX1_deliverFrom 55 = .ok (.aload_n 0, 1) := by decide +kernel
theorem dX1_deliverFrom_56 : decode cX1_deliverFrom 56 = .ok (.dup, 1) := by decide +kernel
theorem dX1_deliverFrom_57 : decode cX1_deliverFrom 57 = .ok (.getfield 67, 3) := by decide +kernel
theorem dX1_deliverFrom_60 : decode cX1_deliverFrom 60 = .ok (.iconst 1, 1) := by decide +kernel
theorem dX1_deliverFrom_61 : decode cX1_deliverFrom 61 = .ok (.iadd, 1) := by decide +kernel
theorem dX1_deliverFrom_62 : decode cX1_deliverFrom 62 = .ok (.putfield 67, 3) := by decide +kernel
theorem dX1_deliverFrom_65 : decode cX1_deliverFrom 65 = .ok (.iload_n 3, 1) := by decide +kernel
theorem dX1_deliverFrom_66 : decode cX1_deliverFrom 66 = .ok (.tableswitch 102 0 5 #[38, 49, 60, 69, 80, 91], 38) := by decide +kernel
theorem dX1_deliverFrom_104 : decode cX1_deliverFrom 104 = .ok (.aload_n 0, 1) := by decide +kernel
theorem dX1_deliverFrom_105 : decode cX1_deliverFrom 105 = .ok (.iload 5, 2) := by decide +kernel
theorem dX1_deliverFrom_107 : decode cX1_deliverFrom 107 = .ok (.iload 4, 2) := by decide +kernel
theorem dX1_deliverFrom_109 : decode cX1_deliverFrom 109 = .ok (.invokevirtual 117, 3) := by decide +kernel
theorem dX1_deliverFrom_112 : decode cX1_deliverFrom 112 = .ok (.goto 64, 3) := by decide +kernel
theorem dX1_deliverFrom_115 : decode cX1_deliverFrom 115 = .ok (.aload_n 0, 1) := by decide +kernel
theorem dX1_deliverFrom_116 : decode cX1_deliverFrom 116 = .ok (.iload 5, 2) := by decide +kernel
theorem dX1_deliverFrom_118 : decode cX1_deliverFrom 118 = .ok (.iload 4, 2) := by decide +kernel
theorem dX1_deliverFrom_120 : decode cX1_deliverFrom 120 = .ok (.invokevirtual 121, 3) := by decide +kernel
theorem dX1_deliverFrom_123 : decode cX1_deliverFrom 123 = .ok (.goto 53, 3) := by decide +kernel
theorem dX1_deliverFrom_126 : decode cX1_deliverFrom 126 = .ok (.aload_n 0, 1) := by decide +kernel
theorem dX1_deliverFrom_127 : decode cX1_deliverFrom 127 = .ok (.iload 4, 2) := by decide +kernel
theorem dX1_deliverFrom_129 : decode cX1_deliverFrom 129 = .ok (.invokevirtual 124, 3) := by decide +kernel
theorem dX1_deliverFrom_132 : decode cX1_deliverFrom 132 = .ok (.goto 44, 3) := by decide +kernel
theorem dX1_deliverFrom_135 : decode cX1_deliverFrom 135 = .ok (.aload_n 0, 1) := by decide +kernel
theorem dX1_deliverFrom_136 : decode cX1_deliverFrom 136 = .ok (.iload 5, 2) := by decide +kernel
theorem dX1_deliverFrom_138 : decode cX1_deliverFrom 138 = .ok (.iload 4, 2) := by decide +kernel
theorem dX1_deliverFrom_140 : decode cX1_deliverFrom 140 = .ok (.invokevirtual 128, 3) := by decide +kernel
theorem dX1_deliverFrom_143 : decode cX1_deliverFrom 143 = .ok (.goto 33, 3) := by decide +kernel
theorem dX1_deliverFrom_146 : decode cX1_deliverFrom 146 = .ok (.aload_n 0, 1) := by decide +kernel
theorem dX1_deliverFrom_147 : decode cX1_deliverFrom 147 = .ok (.iload 5, 2) := by decide +kernel
theorem dX1_deliverFrom_149 : decode cX1_deliverFrom 149 = .ok (.iload 4, 2) := by decide +kernel
theorem dX1_deliverFrom_151 : decode cX1_deliverFrom 151 = .ok (.invokevirtual 131, 3) := by decide +kernel
theorem dX1_deliverFrom_154 : decode cX1_deliverFrom 154 = .ok (.goto 22, 3) := by decide +kernel
theorem dX1_deliverFrom_157 : decode cX1_deliverFrom 157 = .ok (.aload_n 0, 1) := by decide +kernel
theorem dX1_deliverFrom_158 : decode cX1_deliverFrom 158 = .ok (.iload 5, 2) := by decide +kernel
theorem dX1_deliverFrom_160 : decode cX1_deliverFrom 160 = .ok (.iload 4, 2) := by decide +kernel
theorem dX1_deliverFrom_162 : decode cX1_deliverFrom 162 = .ok (.invokevirtual 134, 3) := by decide +kernel
theorem dX1_deliverFrom_165 : decode cX1_deliverFrom 165 = .ok (.goto 11, 3) := by decide +kernel
theorem dX1_deliverFrom_168 : decode cX1_deliverFrom 168 = .ok (.aload_n 0, 1) := by decide +kernel
theorem dX1_deliverFrom_169 : decode cX1_deliverFrom 169 = .ok (.iload 5, 2) := by decide +kernel
theorem dX1_deliverFrom_171 : decode cX1_deliverFrom 171 = .ok (.iload 4, 2) := by decide +kernel
theorem dX1_deliverFrom_173 : decode cX1_deliverFrom 173 = .ok (.invokevirtual 137, 3) := by decide +kernel
theorem dX1_deliverFrom_176 : decode cX1_deliverFrom 176 = .ok (.iconst 1, 1) := by decide +kernel
theorem dX1_deliverFrom_177 : decode cX1_deliverFrom 177 = .ok (.ireturn, 1) := by decide +kernel
theorem dX1_storeWrites_0 : decode cX1_storeWrites 0 = .ok (.aload_n 0, 1) := by decide +kernel
theorem dX1_storeWrites_1 : decode cX1_storeWrites 1 = .ok (.iload_n 1, 1) := by decide +kernel
theorem dX1_storeWrites_2 : decode cX1_storeWrites 2 = .ok (.iload_n 2, 1) := by decide +kernel
theorem dX1_storeWrites_3 : decode cX1_storeWrites 3 = .ok (.iload_n 3, 1) := by decide +kernel
theorem dX1_storeWrites_4 : decode cX1_storeWrites 4 = .ok (.invokevirtual 140, 3) := by decide +kernel
theorem dX1_storeWrites_7 : decode cX1_storeWrites 7 = .ok (.aload_n 0, 1) := by decide +kernel
theorem dX1_storeWrites_8 : decode cX1_storeWrites 8 = .ok (.getfield 33, 3) := by decide +kernel
theorem dX1_storeWrites_11 : decode cX1_storeWrites 11 = .ok (.iload_n 1, 1) := by decide +kernel
theorem dX1_storeWrites_12 : decode cX1_storeWrites 12 = .ok (.bipush 8, 2) := by decide +kernel
theorem dX1_storeWrites_14 : decode cX1_storeWrites 14 = .ok (.imul, 1) := by decide +kernel
theorem dX1_storeWrites_15 : decode cX1_storeWrites 15 = .ok (.iload_n 3, 1) := by decide +kernel
theorem dX1_storeWrites_16 : decode cX1_storeWrites 16 = .ok (.iadd, 1) := by decide +kernel
theorem dX1_storeWrites_17 : decode cX1_storeWrites 17 = .ok (.iload_n 2, 1) := by decide +kernel
theorem dX1_storeWrites_18 : decode cX1_storeWrites 18 = .ok (.invokestatic 144, 3) := by decide +kernel
theorem dX1_storeWrites_21 : decode cX1_storeWrites 21 = .ok (.iastore, 1) := by decide +kernel
theorem dX1_storeWrites_22 : decode cX1_storeWrites 22 = .ok (.iload_n 2, 1) := by decide +kernel
theorem dX1_storeWrites_23 : decode cX1_storeWrites 23 = .ok (.iconst 1, 1) := by decide +kernel
theorem dX1_storeWrites_24 : decode cX1_storeWrites 24 = .ok (.if_icmp .ne 18, 3) := by decide +kernel
theorem dX1_storeWrites_27 : decode cX1_storeWrites 27 = .ok (.aload_n 0, 1) := by decide +kernel
theorem dX1_storeWrites_28 : decode cX1_storeWrites 28 = .ok (.getfield 30, 3) := by decide +kernel
theorem dX1_storeWrites_31 : decode cX1_storeWrites 31 = .ok (.iload_n 1, 1) := by decide +kernel
theorem dX1_storeWrites_32 : decode cX1_storeWrites 32 = .ok (.dup2, 1) := by decide +kernel
theorem dX1_storeWrites_33 : decode cX1_storeWrites 33 = .ok (.iaload, 1) := by decide +kernel
theorem dX1_storeWrites_34 : decode cX1_storeWrites 34 = .ok (.aload_n 0, 1) := by decide +kernel
theorem dX1_storeWrites_35 : decode cX1_storeWrites 35 = .ok (.iload_n 3, 1) := by decide +kernel
theorem dX1_storeWrites_36 : decode cX1_storeWrites 36 = .ok (.iload_n 1, 1) := by decide +kernel
theorem dX1_storeWrites_37 : decode cX1_storeWrites 37 = .ok (.invokevirtual 83, 3) := by decide +kernel
theorem dX1_storeWrites_40 : decode cX1_storeWrites 40 = .ok (.iadd, 1) := by decide +kernel
theorem dX1_storeWrites_41 : decode cX1_storeWrites 41 = .ok (.iastore, 1) := by decide +kernel
theorem dX1_storeWrites_42 : decode cX1_storeWrites 42 = .ok (.return_, 1) := by decide +kernel
theorem dX1_storeHearsAsking_0 : decode cX1_storeHearsAsking 0 = .ok (.aload_n 0, 1) := by decide +kernel
theorem dX1_storeHearsAsking_1 : decode cX1_storeHearsAsking 1 = .ok (.iload_n 1, 1) := by decide +kernel
theorem dX1_storeHearsAsking_2 : decode cX1_storeHearsAsking 2 = .ok (.iload_n 2, 1) := by decide +kernel
theorem dX1_storeHearsAsking_3 : decode cX1_storeHearsAsking 3 = .ok (.invokevirtual 80, 3) := by decide +kernel
theorem dX1_storeHearsAsking_6 : decode cX1_storeHearsAsking 6 = .ok (.ifCond .ne 30, 3) := by decide +kernel
theorem dX1_storeHearsAsking_9 : decode cX1_storeHearsAsking 9 = .ok (.aload_n 0, 1) := by decide +kernel
theorem dX1_storeHearsAsking_10 : decode cX1_storeHearsAsking 10 = .ok (.iload_n 1, 1) := by decide +kernel
theorem dX1_storeHearsAsking_11 : decode cX1_storeHearsAsking 11 = .ok (.aload_n 0, 1) := by decide +kernel
theorem dX1_storeHearsAsking_12 : decode cX1_storeHearsAsking 12 = .ok (.iload_n 2, 1) := by decide +kernel
theorem dX1_storeHearsAsking_13 : decode cX1_storeHearsAsking 13 = .ok (.iload_n 1, 1) := by decide +kernel
theorem dX1_storeHearsAsking_14 : decode cX1_storeHearsAsking 14 = .ok (.invokevirtual 83, 3) := by decide +kernel
theorem dX1_storeHearsAsking_17 : decode cX1_storeHearsAsking 17 = .ok (.invokevirtual 90, 3) := by decide +kernel
theorem dX1_storeHearsAsking_20 : decode cX1_storeHearsAsking 20 = .ok (.istore_n 3, 1) := by decide +kernel
theorem dX1_storeHearsAsking_21 : decode cX1_storeHearsAsking 21 = .ok (.aload_n 0, 1) := by decide +kernel
theorem dX1_storeHearsAsking_22 : decode cX1_storeHearsAsking 22 = .ok (.iload_n 1, 1) := by decide +kernel
theorem dX1_storeHearsAsking_23 : decode cX1_storeHearsAsking 23 = .ok (.iload_n 3, 1) := by decide +kernel
theorem dX1_storeHearsAsking_24 : decode cX1_storeHearsAsking 24 = .ok (.ifCond .eq 7, 3) := by decide +kernel
theorem dX1_storeHearsAsking_27 : decode cX1_storeHearsAsking 27 = .ok (.iconst 4, 1) := by decide +kernel
theorem dX1_storeHearsAsking_28 : decode cX1_storeHearsAsking 28 = .ok (.goto 4, 3) := by decide +kernel
theorem dX1_storeHearsAsking_31 : decode cX1_storeHearsAsking 31 = .ok (.iconst 2, 1) := by decide +kernel
theorem dX1_storeHearsAsking_32 : decode cX1_storeHearsAsking 32 = .ok (.iload_n 2, 1) := by decide +kernel
theorem dX1_storeHearsAsking_33 : decode cX1_storeHearsAsking 33 = .ok (.invokevirtual 147, 3) := by decide +kernel
theorem dX1_storeHearsAsking_36 : decode cX1_storeHearsAsking 36 = .ok (.aload_n 0, 1) := by decide +kernel
theorem dX1_storeHearsAsking_37 : decode cX1_storeHearsAsking 37 = .ok (.aload_n 0, 1) := by decide +kernel
theorem dX1_storeHearsAsking_38 : decode cX1_storeHearsAsking 38 = .ok (.iload_n 1, 1) := by decide +kernel
theorem dX1_storeHearsAsking_39 : decode cX1_storeHearsAsking 39 = .ok (.iload_n 2, 1) := by decide +kernel
theorem dX1_storeHearsAsking_40 : decode cX1_storeHearsAsking 40 = .ok (.invokevirtual 80, 3) := by decide +kernel
theorem dX1_storeHearsAsking_43 : decode cX1_storeHearsAsking 43 = .ok (.iconst 3, 1) := by decide +kernel
theorem dX1_storeHearsAsking_44 : decode cX1_storeHearsAsking 44 = .ok (.if_icmp .ne 7, 3) := by decide +kernel
theorem dX1_storeHearsAsking_47 : decode cX1_storeHearsAsking 47 = .ok (.iconst 2, 1) := by decide +kernel
theorem dX1_storeHearsAsking_48 : decode cX1_storeHearsAsking 48 = .ok (.goto 4, 3) := by decide +kernel
theorem dX1_storeHearsAsking_51 : decode cX1_storeHearsAsking 51 = .ok (.iconst 1, 1) := by decide +kernel
theorem dX1_storeHearsAsking_52 : decode cX1_storeHearsAsking 52 = .ok (.iload_n 2, 1) := by decide +kernel
theorem dX1_storeHearsAsking_53 : decode cX1_storeHearsAsking 53 = .ok (.iconst 1, 1) := by decide +kernel
theorem dX1_storeHearsAsking_54 : decode cX1_storeHearsAsking 54 = .ok (.iload_n 1, 1) := by decide +kernel
theorem dX1_storeHearsAsking_55 : decode cX1_storeHearsAsking 55 = .ok (.ishl, 1) := by decide +kernel
theorem dX1_storeHearsAsking_56 : decode cX1_storeHearsAsking 56 = .ok (.invokevirtual 150, 3) := by decide +kernel
theorem dX1_storeHearsAsking_59 : decode cX1_storeHearsAsking 59 = .ok (.return_, 1) := by decide +kernel
theorem dX1_storeHearsMake_0 : decode cX1_storeHearsMake 0 = .ok (.aload_n 0, 1) := by decide +kernel
theorem dX1_storeHearsMake_1 : decode cX1_storeHearsMake 1 = .ok (.iload_n 1, 1) := by decide +kernel
theorem dX1_storeHearsMake_2 : decode cX1_storeHearsMake 2 = .ok (.iload_n 2, 1) := by decide +kernel
theorem dX1_storeHearsMake_3 : decode cX1_storeHearsMake 3 = .ok (.invokevirtual 80, 3) := by decide +kernel
theorem dX1_storeHearsMake_6 : decode cX1_storeHearsMake 6 = .ok (.iconst 1, 1) := by decide +kernel
theorem dX1_storeHearsMake_7 : decode cX1_storeHearsMake 7 = .ok (.if_icmp .ne 10, 3) := by decide +kernel
theorem dX1_storeHearsMake_10 : decode cX1_storeHearsMake 10 = .ok (.aload_n 0, 1) := by decide +kernel
theorem dX1_storeHearsMake_11 : decode cX1_storeHearsMake 11 = .ok (.iload_n 1, 1) := by decide +kernel
theorem dX1_storeHearsMake_12 : decode cX1_storeHearsMake 12 = .ok (.iconst 1, 1) := by decide +kernel
theorem dX1_storeHearsMake_13 : decode cX1_storeHearsMake 13 = .ok (.iload_n 2, 1) := by decide +kernel
theorem dX1_storeHearsMake_14 : decode cX1_storeHearsMake 14 = .ok (.invokevirtual 147, 3) := by decide +kernel
theorem dX1_storeHearsMake_17 : decode cX1_storeHearsMake 17 = .ok (.aload_n 0, 1) := by decide +kernel
theorem dX1_storeHearsMake_18 : decode cX1_storeHearsMake 18 = .ok (.iload_n 1, 1) := by decide +kernel
theorem dX1_storeHearsMake_19 : decode cX1_storeHearsMake 19 = .ok (.iload_n 2, 1) := by decide +kernel
theorem dX1_storeHearsMake_20 : decode cX1_storeHearsMake 20 = .ok (.invokevirtual 80, 3) := by decide +kernel
theorem dX1_storeHearsMake_23 : decode cX1_storeHearsMake 23 = .ok (.iconst 2, 1) := by decide +kernel
theorem dX1_storeHearsMake_24 : decode cX1_storeHearsMake 24 = .ok (.if_icmp .ne 12, 3) := by decide +kernel
theorem dX1_storeHearsMake_27 : decode cX1_storeHearsMake 27 = .ok (.aload_n 0, 1) := by decide +kernel
theorem dX1_storeHearsMake_28 : decode cX1_storeHearsMake 28 = .ok (.iconst 5, 1) := by decide +kernel
theorem dX1_storeHearsMake_29 : decode cX1_storeHearsMake 29 = .ok (.iload_n 2, 1) := by decide +kernel
theorem dX1_storeHearsMake_30 : decode cX1_storeHearsMake 30 = .ok (.iconst 1, 1) := by decide +kernel
theorem dX1_storeHearsMake_31 : decode cX1_storeHearsMake 31 = .ok (.iload_n 1, 1) := by decide +kernel
theorem dX1_storeHearsMake_32 : decode cX1_storeHearsMake 32 = .ok (.ishl, 1) := by decide +kernel
theorem dX1_storeHearsMake_33 : decode cX1_storeHearsMake 33 = .ok (.invokevirtual 150, 3) := by decide +kernel
theorem dX1_storeHearsMake_36 : decode cX1_storeHearsMake 36 = .ok (.return_, 1) := by decide +kernel
theorem dX1_storeHearsDrop_0 : decode cX1_storeHearsDrop 0 = .ok (.aload_n 0, 1) := by decide +kernel
theorem dX1_storeHearsDrop_1 : decode cX1_storeHearsDrop 1 = .ok (.iload_n 1, 1) := by decide +kernel
theorem dX1_storeHearsDrop_2 : decode cX1_storeHearsDrop 2 = .ok (.iload_n 2, 1) := by decide +kernel
theorem dX1_storeHearsDrop_3 : decode cX1_storeHearsDrop 3 = .ok (.invokevirtual 80, 3) := by decide +kernel
theorem dX1_storeHearsDrop_6 : decode cX1_storeHearsDrop 6 = .ok (.istore_n 3, 1) := by decide +kernel
theorem dX1_storeHearsDrop_7 : decode cX1_storeHearsDrop 7 = .ok (.iload_n 3, 1) := by decide +kernel
theorem dX1_storeHearsDrop_8 : decode cX1_storeHearsDrop 8 = .ok (.iconst 1, 1) := by decide +kernel
theorem dX1_storeHearsDrop_9 : decode cX1_storeHearsDrop 9 = .ok (.if_icmp .eq 7, 3) := by decide +kernel
theorem dX1_storeHearsDrop_12 : decode cX1_storeHearsDrop 12 = .ok (.iload_n 3, 1) := by decide +kernel
theorem dX1_storeHearsDrop_13 : decode cX1_storeHearsDrop 13 = .ok (.ifCond .ne 10, 3) := by decide +kernel
theorem dX1_storeHearsDrop_16 : decode cX1_storeHearsDrop 16 = .ok (.aload_n 0, 1) := by decide +kernel
theorem dX1_storeHearsDrop_17 : decode cX1_storeHearsDrop 17 = .ok (.iload_n 1, 1) := by decide +kernel
theorem dX1_storeHearsDrop_18 : decode cX1_storeHearsDrop 18 = .ok (.iconst 2, 1) := by decide +kernel
theorem dX1_storeHearsDrop_19 : decode cX1_storeHearsDrop 19 = .ok (.iload_n 2, 1) := by decide +kernel
theorem dX1_storeHearsDrop_20 : decode cX1_storeHearsDrop 20 = .ok (.invokevirtual 147, 3) := by decide +kernel
theorem dX1_storeHearsDrop_23 : decode cX1_storeHearsDrop 23 = .ok (.aload_n 0, 1) := by decide +kernel
theorem dX1_storeHearsDrop_24 : decode cX1_storeHearsDrop 24 = .ok (.iload_n 1, 1) := by decide +kernel
theorem dX1_storeHearsDrop_25 : decode cX1_storeHearsDrop 25 = .ok (.iload_n 2, 1) := by decide +kernel
theorem dX1_storeHearsDrop_26 : decode cX1_storeHearsDrop 26 = .ok (.invokevirtual 80, 3) := by decide +kernel
theorem dX1_storeHearsDrop_29 : decode cX1_storeHearsDrop 29 = .ok (.iconst 3, 1) := by decide +kernel
theorem dX1_storeHearsDrop_30 : decode cX1_storeHearsDrop 30 = .ok (.if_icmp .ne 12, 3) := by decide +kernel
theorem dX1_storeHearsDrop_33 : decode cX1_storeHearsDrop 33 = .ok (.aload_n 0, 1) := by decide +kernel
theorem dX1_storeHearsDrop_34 : decode cX1_storeHearsDrop 34 = .ok (.iconst 5, 1) := by decide +kernel
theorem dX1_storeHearsDrop_35 : decode cX1_storeHearsDrop 35 = .ok (.iload_n 2, 1) := by decide +kernel
theorem dX1_storeHearsDrop_36 : decode cX1_storeHearsDrop 36 = .ok (.iconst 1, 1) := by decide +kernel
theorem dX1_storeHearsDrop_37 : decode cX1_storeHearsDrop 37 = .ok (.iload_n 1, 1) := by decide +kernel
theorem dX1_storeHearsDrop_38 : decode cX1_storeHearsDrop 38 = .ok (.ishl, 1) := by decide +kernel
theorem dX1_storeHearsDrop_39 : decode cX1_storeHearsDrop 39 = .ok (.invokevirtual 150, 3) := by decide +kernel
theorem dX1_storeHearsDrop_42 : decode cX1_storeHearsDrop 42 = .ok (.return_, 1) := by decide +kernel
theorem dX1_start_0 : decode cX1_start 0 = .ok (.aload_n 0, 1) := by decide +kernel
theorem dX1_start_1 : decode cX1_start 1 = .ok (.getfield 49, 3) := by decide +kernel
theorem dX1_start_4 : decode cX1_start 4 = .ok (.istore 4, 2) := by decide +kernel
theorem dX1_start_6 : decode cX1_start 6 = .ok (.aload_n 0, 1) := by decide +kernel
theorem dX1_start_7 : decode cX1_start 7 = .ok (.getfield 9, 3) := by decide +kernel
theorem dX1_start_10 : decode cX1_start 10 = .ok (.iload 4, 2) := by decide +kernel
theorem dX1_start_12 : decode cX1_start 12 = .ok (.iload_n 3, 1) := by decide +kernel
theorem dX1_start_13 : decode cX1_start 13 = .ok (.iastore, 1) := by decide +kernel
theorem dX1_start_14 : decode cX1_start 14 = .ok (.aload_n 0, 1) := by decide +kernel
theorem dX1_start_15 : decode cX1_start 15 = .ok (.getfield 15, 3) := by decide +kernel
theorem dX1_start_18 : decode cX1_start 18 = .ok (.iload 4, 2) := by decide +kernel
theorem dX1_start_20 : decode cX1_start 20 = .ok (.iload_n 2, 1) := by decide +kernel
theorem dX1_start_21 : decode cX1_start 21 = .ok (.iconst 1, 1) := by decide +kernel
theorem dX1_start_22 : decode cX1_start 22 = .ok (.iload_n 1, 1) := by decide +kernel
theorem dX1_start_23 : decode cX1_start 23 = .ok (.ishl, 1) := by decide +kernel
theorem dX1_start_24 : decode cX1_start 24 = .ok (.ior, 1) := by decide +kernel
theorem dX1_start_25 : decode cX1_start 25 = .ok (.iastore, 1) := by decide +kernel
theorem dX1_start_26 : decode cX1_start 26 = .ok (.iconst 0, 1) := by decide +kernel
theorem dX1_start_27 : decode cX1_start 27 = .ok (.istore 5, 2) := by decide +kernel
theorem dX1_start_29 : decode cX1_start 29 = .ok (.iload 5, 2) := by decide +kernel
theorem dX1_start_31 : decode cX1_start 31 = .ok (.iconst 4, 1) := by decide +kernel
theorem dX1_start_32 : decode cX1_start 32 = .ok (.if_icmp .ge 30, 3) := by decide +kernel
theorem dX1_start_35 : decode cX1_start 35 = .ok (.aload_n 0, 1) := by decide +kernel
theorem dX1_start_36 : decode cX1_start 36 = .ok (.getfield 18, 3) := by decide +kernel
theorem dX1_start_39 : decode cX1_start 39 = .ok (.iload 5, 2) := by decide +kernel
theorem dX1_start_41 : decode cX1_start 41 = .ok (.bipush 8, 2) := by decide +kernel
theorem dX1_start_43 : decode cX1_start 43 = .ok (.imul, 1) := by decide +kernel
theorem dX1_start_44 : decode cX1_start 44 = .ok (.iload 4, 2) := by decide +kernel
theorem dX1_start_46 : decode cX1_start 46 = .ok (.iadd, 1) := by decide +kernel
theorem dX1_start_47 : decode cX1_start 47 = .ok (.iload_n 1, 1) := by decide +kernel
theorem dX1_start_48 : decode cX1_start 48 = .ok (.iload_n 2, 1) := by decide +kernel
theorem dX1_start_49 : decode cX1_start 49 = .ok (.iload_n 3, 1) := by decide +kernel
theorem dX1_start_50 : decode cX1_start 50 = .ok (.iload 5, 2) := by decide +kernel
theorem dX1_start_52 : decode cX1_start 52 = .ok (.invokestatic 86, 3) := by decide +kernel
theorem dX1_start_55 : decode cX1_start 55 = .ok (.iastore, 1) := by decide +kernel
theorem dX1_start_56 : decode cX1_start 56 = .ok (.iinc 5 1, 3) := by decide +kernel
theorem dX1_start_59 : decode cX1_start 59 = .ok (.goto (-30), 3) := by decide +kernel
theorem dX1_start_62 : decode cX1_start 62 = .ok (.aload_n 0, 1) := by decide +kernel
theorem dX1_start_63 : decode cX1_start 63 = .ok (.dup, 1) := by decide +kernel
theorem dX1_start_64 : decode cX1_start 64 = .ok (.getfield 49, 3) := by decide +kernel
theorem dX1_start_67 : decode cX1_start 67 = .ok (.iconst 1, 1) := by decide +kernel
theorem dX1_start_68 : decode cX1_start 68 = .ok (.iadd, 1) := by decide +kernel
theorem dX1_start_69 : decode cX1_start 69 = .ok (.putfield 49, 3) := by decide +kernel
theorem dX1_start_72 : decode cX1_start 72 = .ok (.aload_n 0, 1) := by decide +kernel
theorem dX1_start_73 : decode cX1_start 73 = .ok (.iconst 4, 1) := by decide +kernel
theorem dX1_start_74 : decode cX1_start 74 = .ok (.iconst 0, 1) := by decide +kernel
theorem dX1_start_75 : decode cX1_start 75 = .ok (.iload 4, 2) := by decide +kernel
theorem dX1_start_77 : decode cX1_start 77 = .ok (.invokevirtual 140, 3) := by decide +kernel
theorem dX1_start_80 : decode cX1_start 80 = .ok (.aload_n 0, 1) := by decide +kernel
theorem dX1_start_81 : decode cX1_start 81 = .ok (.iconst 0, 1) := by decide +kernel
theorem dX1_start_82 : decode cX1_start 82 = .ok (.iload 4, 2) := by decide +kernel
theorem dX1_start_84 : decode cX1_start 84 = .ok (.aload_n 0, 1) := by decide +kernel
theorem dX1_start_85 : decode cX1_start 85 = .ok (.getfield 15, 3) := by decide +kernel
theorem dX1_start_88 : decode cX1_start 88 = .ok (.iload 4, 2) := by decide +kernel
theorem dX1_start_90 : decode cX1_start 90 = .ok (.iaload, 1) := by decide +kernel
theorem dX1_start_91 : decode cX1_start 91 = .ok (.invokevirtual 150, 3) := by decide +kernel
theorem dX1_start_94 : decode cX1_start 94 = .ok (.iload 4, 2) := by decide +kernel
theorem dX1_start_96 : decode cX1_start 96 = .ok (.ireturn, 1) := by decide +kernel
theorem dX1_decide_0 : decode cX1_decide 0 = .ok (.aload_n 0, 1) := by decide +kernel
theorem dX1_decide_1 : decode cX1_decide 1 = .ok (.getfield 21, 3) := by decide +kernel
theorem dX1_decide_4 : decode cX1_decide 4 = .ok (.iload_n 1, 1) := by decide +kernel
theorem dX1_decide_5 : decode cX1_decide 5 = .ok (.iload_n 2, 1) := by decide +kernel
theorem dX1_decide_6 : decode cX1_decide 6 = .ok (.iastore, 1) := by decide +kernel
theorem dX1_decide_7 : decode cX1_decide 7 = .ok (.aload_n 0, 1) := by decide +kernel
theorem dX1_decide_8 : decode cX1_decide 8 = .ok (.iconst 4, 1) := by decide +kernel
theorem dX1_decide_9 : decode cX1_decide 9 = .ok (.iload_n 2, 1) := by decide +kernel
theorem dX1_decide_10 : decode cX1_decide 10 = .ok (.iconst 1, 1) := by decide +kernel
theorem dX1_decide_11 : decode cX1_decide 11 = .ok (.if_icmp .ne 7, 3) := by decide +kernel
theorem dX1_decide_14 : decode cX1_decide 14 = .ok (.iconst 1, 1) := by decide +kernel
theorem dX1_decide_15 : decode cX1_decide 15 = .ok (.goto 4, 3) := by decide +kernel
theorem dX1_decide_18 : decode cX1_decide 18 = .ok (.iconst 2, 1) := by decide +kernel
theorem dX1_decide_19 : decode cX1_decide 19 = .ok (.iload_n 1, 1) := by decide +kernel
theorem dX1_decide_20 : decode cX1_decide 20 = .ok (.invokevirtual 140, 3) := by decide +kernel
theorem dX1_decide_23 : decode cX1_decide 23 = .ok (.aload_n 0, 1) := by decide +kernel
theorem dX1_decide_24 : decode cX1_decide 24 = .ok (.aload_n 0, 1) := by decide +kernel
theorem dX1_decide_25 : decode cX1_decide 25 = .ok (.iload_n 1, 1) := by decide +kernel
theorem dX1_decide_26 : decode cX1_decide 26 = .ok (.invokevirtual 153, 3) := by decide +kernel
theorem dX1_decide_29 : decode cX1_decide 29 = .ok (.iload_n 1, 1) := by decide +kernel
theorem dX1_decide_30 : decode cX1_decide 30 = .ok (.aload_n 0, 1) := by decide +kernel
theorem dX1_decide_31 : decode cX1_decide 31 = .ok (.getfield 15, 3) := by decide +kernel
theorem dX1_decide_34 : decode cX1_decide 34 = .ok (.iload_n 1, 1) := by decide +kernel
theorem dX1_decide_35 : decode cX1_decide 35 = .ok (.iaload, 1) := by decide +kernel
theorem dX1_decide_36 : decode cX1_decide 36 = .ok (.invokevirtual 150, 3) := by decide +kernel
theorem dX1_decide_39 : decode cX1_decide 39 = .ok (.return_, 1) := by decide +kernel
theorem dX1_orderFor_0 : decode cX1_orderFor 0 = .ok (.aload_n 0, 1) := by decide +kernel
theorem dX1_orderFor_1 : decode cX1_orderFor 1 = .ok (.getfield 21, 3) := by decide +kernel
theorem dX1_orderFor_4 : decode cX1_orderFor 4 = .ok (.iload_n 1, 1) := by decide +kernel
theorem dX1_orderFor_5 : decode cX1_orderFor 5 = .ok (.iaload, 1) := by decide +kernel
theorem dX1_orderFor_6 : decode cX1_orderFor 6 = .ok (.iconst 1, 1) := by decide +kernel
theorem dX1_orderFor_7 : decode cX1_orderFor 7 = .ok (.if_icmp .ne 7, 3) := by decide +kernel
theorem dX1_orderFor_10 : decode cX1_orderFor 10 = .ok (.iconst 3, 1) := by decide +kernel
theorem dX1_orderFor_11 : decode cX1_orderFor 11 = .ok (.goto 4, 3) := by decide +kernel
theorem dX1_orderFor_14 : decode cX1_orderFor 14 = .ok (.iconst 4, 1) := by decide +kernel
theorem dX1_orderFor_15 : decode cX1_orderFor 15 = .ok (.ireturn, 1) := by decide +kernel
theorem dX1_clerkHearsYes_0 : decode cX1_clerkHearsYes 0 = .ok (.aload_n 0, 1) := by decide +kernel
theorem dX1_clerkHearsYes_1 : decode cX1_clerkHearsYes 1 = .ok (.getfield 21, 3) := by decide +kernel
theorem dX1_clerkHearsYes_4 : decode cX1_clerkHearsYes 4 = .ok (.iload_n 2, 1) := by decide +kernel
theorem dX1_clerkHearsYes_5 : decode cX1_clerkHearsYes 5 = .ok (.iaload, 1) := by decide +kernel
theorem dX1_clerkHearsYes_6 : decode cX1_clerkHearsYes 6 = .ok (.ifCond .ne 36, 3) := by decide +kernel
theorem dX1_clerkHearsYes_9 : decode cX1_clerkHearsYes 9 = .ok (.aload_n 0, 1) := by decide +kernel
theorem dX1_clerkHearsYes_10 : decode cX1_clerkHearsYes 10 = .ok (.getfield 24, 3) := by decide +kernel
theorem dX1_clerkHearsYes_13 : decode cX1_clerkHearsYes 13 = .ok (.iload_n 2, 1) := by decide +kernel
theorem dX1_clerkHearsYes_14 : decode cX1_clerkHearsYes 14 = .ok (.dup2, 1) := by decide +kernel
theorem dX1_clerkHearsYes_15 : decode cX1_clerkHearsYes 15 = .ok (.iaload, 1) := by decide +kernel
theorem dX1_clerkHearsYes_16 : decode cX1_clerkHearsYes 16 = .ok (.iconst 1, 1) := by decide +kernel
theorem dX1_clerkHearsYes_17 : decode cX1_clerkHearsYes 17 = .ok (.iload_n 1, 1) := by decide +kernel
theorem dX1_clerkHearsYes_18 : decode cX1_clerkHearsYes 18 = .ok (.ishl, 1) := by decide +kernel
theorem dX1_clerkHearsYes_19 : decode cX1_clerkHearsYes 19 = .ok (.ior, 1) := by decide +kernel
theorem dX1_clerkHearsYes_20 : decode cX1_clerkHearsYes 20 = .ok (.iastore, 1) := by decide +kernel
theorem dX1_clerkHearsYes_21 : decode cX1_clerkHearsYes 21 = .ok (.aload_n 0, 1) := by decide +kernel
theorem dX1_clerkHearsYes_22 : decode cX1_clerkHearsYes 22 = .ok (.getfield 24, 3) := by decide +kernel
theorem dX1_clerkHearsYes_25 : decode cX1_clerkHearsYes 25 = .ok (.iload_n 2, 1) := by decide +kernel
theorem dX1_clerkHearsYes_26 : decode cX1_clerkHearsYes 26 = .ok (.iaload, 1) := by decide +kernel
theorem dX1_clerkHearsYes_27 : decode cX1_clerkHearsYes 27 = .ok (.aload_n 0, 1) := by decide +kernel
theorem dX1_clerkHearsYes_28 : decode cX1_clerkHearsYes 28 = .ok (.getfield 15, 3) := by decide +kernel
theorem dX1_clerkHearsYes_31 : decode cX1_clerkHearsYes 31 = .ok (.iload_n 2, 1) := by decide +kernel
theorem dX1_clerkHearsYes_32 : decode cX1_clerkHearsYes 32 = .ok (.iaload, 1) := by decide +kernel
theorem dX1_clerkHearsYes_33 : decode cX1_clerkHearsYes 33 = .ok (.if_icmp .ne 9, 3) := by decide +kernel
theorem dX1_clerkHearsYes_36 : decode cX1_clerkHearsYes 36 = .ok (.aload_n 0, 1) := by decide +kernel
theorem dX1_clerkHearsYes_37 : decode cX1_clerkHearsYes 37 = .ok (.iload_n 2, 1) := by decide +kernel
theorem dX1_clerkHearsYes_38 : decode cX1_clerkHearsYes 38 = .ok (.iconst 1, 1) := by decide +kernel
theorem dX1_clerkHearsYes_39 : decode cX1_clerkHearsYes 39 = .ok (.invokevirtual 156, 3) := by decide +kernel
theorem dX1_clerkHearsYes_42 : decode cX1_clerkHearsYes 42 = .ok (.return_, 1) := by decide +kernel
theorem dX1_clerkHearsNo_0 : decode cX1_clerkHearsNo 0 = .ok (.aload_n 0, 1) := by decide +kernel
theorem dX1_clerkHearsNo_1 : decode cX1_clerkHearsNo 1 = .ok (.getfield 21, 3) := by decide +kernel
theorem dX1_clerkHearsNo_4 : decode cX1_clerkHearsNo 4 = .ok (.iload_n 1, 1) := by decide +kernel
theorem dX1_clerkHearsNo_5 : decode cX1_clerkHearsNo 5 = .ok (.iaload, 1) := by decide +kernel
theorem dX1_clerkHearsNo_6 : decode cX1_clerkHearsNo 6 = .ok (.ifCond .ne 9, 3) := by decide +kernel
theorem dX1_clerkHearsNo_9 : decode cX1_clerkHearsNo 9 = .ok (.aload_n 0, 1) := by decide +kernel
theorem dX1_clerkHearsNo_10 : decode cX1_clerkHearsNo 10 = .ok (.iload_n 1, 1) := by decide +kernel
theorem dX1_clerkHearsNo_11 : decode cX1_clerkHearsNo 11 = .ok (.iconst 2, 1) := by decide +kernel
theorem dX1_clerkHearsNo_12 : decode cX1_clerkHearsNo 12 = .ok (.invokevirtual 156, 3) := by decide +kernel
theorem dX1_clerkHearsNo_15 : decode cX1_clerkHearsNo 15 = .ok (.return_, 1) := by decide +kernel
theorem dX1_clerkHearsDone_0 : decode cX1_clerkHearsDone 0 = .ok (.aload_n 0, 1) := by decide +kernel
theorem dX1_clerkHearsDone_1 : decode cX1_clerkHearsDone 1 = .ok (.getfield 27, 3) := by decide +kernel
theorem dX1_clerkHearsDone_4 : decode cX1_clerkHearsDone 4 = .ok (.iload_n 2, 1) := by decide +kernel
theorem dX1_clerkHearsDone_5 : decode cX1_clerkHearsDone 5 = .ok (.dup2, 1) := by decide +kernel
theorem dX1_clerkHearsDone_6 : decode cX1_clerkHearsDone 6 = .ok (.iaload, 1) := by decide +kernel
theorem dX1_clerkHearsDone_7 : decode cX1_clerkHearsDone 7 = .ok (.iconst 1, 1) := by decide +kernel
theorem dX1_clerkHearsDone_8 : decode cX1_clerkHearsDone 8 = .ok (.iload_n 1, 1) := by decide +kernel
theorem dX1_clerkHearsDone_9 : decode cX1_clerkHearsDone 9 = .ok (.ishl, 1) := by decide +kernel
theorem dX1_clerkHearsDone_10 : decode cX1_clerkHearsDone 10 = .ok (.ior, 1) := by decide +kernel
theorem dX1_clerkHearsDone_11 : decode cX1_clerkHearsDone 11 = .ok (.iastore, 1) := by decide +kernel
theorem dX1_clerkHearsDone_12 : decode cX1_clerkHearsDone 12 = .ok (.aload_n 0, 1) := by decide +kernel
theorem dX1_clerkHearsDone_13 : decode cX1_clerkHearsDone 13 = .ok (.getfield 27, 3) := by decide +kernel
theorem dX1_clerkHearsDone_16 : decode cX1_clerkHearsDone 16 = .ok (.iload_n 2, 1) := by decide +kernel
theorem dX1_clerkHearsDone_17 : decode cX1_clerkHearsDone 17 = .ok (.iaload, 1) := by decide +kernel
theorem dX1_clerkHearsDone_18 : decode cX1_clerkHearsDone 18 = .ok (.aload_n 0, 1) := by decide +kernel
theorem dX1_clerkHearsDone_19 : decode cX1_clerkHearsDone 19 = .ok (.getfield 15, 3) := by decide +kernel
theorem dX1_clerkHearsDone_22 : decode cX1_clerkHearsDone 22 = .ok (.iload_n 2, 1) := by decide +kernel
theorem dX1_clerkHearsDone_23 : decode cX1_clerkHearsDone 23 = .ok (.iaload, 1) := by decide +kernel
theorem dX1_clerkHearsDone_24 : decode cX1_clerkHearsDone 24 = .ok (.if_icmp .ne 30, 3) := by decide +kernel
theorem dX1_clerkHearsDone_27 : decode cX1_clerkHearsDone 27 = .ok (.aload_n 0, 1) := by decide +kernel
theorem dX1_clerkHearsDone_28 : decode cX1_clerkHearsDone 28 = .ok (.iload_n 2, 1) := by decide +kernel
theorem dX1_clerkHearsDone_29 : decode cX1_clerkHearsDone 29 = .ok (.invokevirtual 159, 3) := by decide +kernel
theorem dX1_clerkHearsDone_32 : decode cX1_clerkHearsDone 32 = .ok (.ifCond .ne 22, 3) := by decide +kernel
theorem dX1_clerkHearsDone_35 : decode cX1_clerkHearsDone 35 = .ok (.aload_n 0, 1) := by decide +kernel
theorem dX1_clerkHearsDone_36 : decode cX1_clerkHearsDone 36 = .ok (.iconst 4, 1) := by decide +kernel
theorem dX1_clerkHearsDone_37 : decode cX1_clerkHearsDone 37 = .ok (.iconst 3, 1) := by decide +kernel
theorem dX1_clerkHearsDone_38 : decode cX1_clerkHearsDone 38 = .ok (.iload_n 2, 1) := by decide +kernel
theorem dX1_clerkHearsDone_39 : decode cX1_clerkHearsDone 39 = .ok (.invokevirtual 140, 3) := by decide +kernel
theorem dX1_clerkHearsDone_42 : decode cX1_clerkHearsDone 42 = .ok (.aload_n 0, 1) := by decide +kernel
theorem dX1_clerkHearsDone_43 : decode cX1_clerkHearsDone 43 = .ok (.dup, 1) := by decide +kernel
theorem dX1_clerkHearsDone_44 : decode cX1_clerkHearsDone 44 = .ok (.getfield 58, 3) := by decide +kernel
theorem dX1_clerkHearsDone_47 : decode cX1_clerkHearsDone 47 = .ok (.iconst 1, 1) := by decide +kernel
theorem dX1_clerkHearsDone_48 : decode cX1_clerkHearsDone 48 = .ok (.iload_n 2, 1) := by decide +kernel
theorem dX1_clerkHearsDone_49 : decode cX1_clerkHearsDone 49 = .ok (.ishl, 1) := by decide +kernel
theorem dX1_clerkHearsDone_50 : decode cX1_clerkHearsDone 50 = .ok (.ior, 1) := by decide +kernel
theorem dX1_clerkHearsDone_51 : decode cX1_clerkHearsDone 51 = .ok (.putfield 58, 3) := by decide +kernel
theorem dX1_clerkHearsDone_54 : decode cX1_clerkHearsDone 54 = .ok (.return_, 1) := by decide +kernel
theorem dX1_clerkHearsWhatNow_0 : decode cX1_clerkHearsWhatNow 0 = .ok (.aload_n 0, 1) := by decide +kernel
theorem dX1_clerkHearsWhatNow_1 : decode cX1_clerkHearsWhatNow 1 = .ok (.getfield 21, 3) := by decide +kernel
theorem dX1_clerkHearsWhatNow_4 : decode cX1_clerkHearsWhatNow 4 = .ok (.iload_n 2, 1) := by decide +kernel
theorem dX1_clerkHearsWhatNow_5 : decode cX1_clerkHearsWhatNow 5 = .ok (.iaload, 1) := by decide +kernel
theorem dX1_clerkHearsWhatNow_6 : decode cX1_clerkHearsWhatNow 6 = .ok (.ifCond .eq 16, 3) := by decide +kernel
theorem dX1_clerkHearsWhatNow_9 : decode cX1_clerkHearsWhatNow 9 = .ok (.aload_n 0, 1) := by decide +kernel
theorem dX1_clerkHearsWhatNow_10 : decode cX1_clerkHearsWhatNow 10 = .ok (.aload_n 0, 1) := by decide +kernel
theorem dX1_clerkHearsWhatNow_11 : decode cX1_clerkHearsWhatNow 11 = .ok (.iload_n 2, 1) := by decide +kernel
theorem dX1_clerkHearsWhatNow_12 : decode cX1_clerkHearsWhatNow 12 = .ok (.invokevirtual 153, 3) := by decide +kernel
theorem dX1_clerkHearsWhatNow_15 : decode cX1_clerkHearsWhatNow 15 = .ok (.iload_n 2, 1) := by decide +kernel
theorem dX1_clerkHearsWhatNow_16 : decode cX1_clerkHearsWhatNow 16 = .ok (.iconst 1, 1) := by decide +kernel
theorem dX1_clerkHearsWhatNow_17 : decode cX1_clerkHearsWhatNow 17 = .ok (.iload_n 1, 1) := by decide +kernel
theorem dX1_clerkHearsWhatNow_18 : decode cX1_clerkHearsWhatNow 18 = .ok (.ishl, 1) := by decide +kernel
theorem dX1_clerkHearsWhatNow_19 : decode cX1_clerkHearsWhatNow 19 = .ok (.invokevirtual 150, 3) := by decide +kernel
theorem dX1_clerkHearsWhatNow_22 : decode cX1_clerkHearsWhatNow 22 = .ok (.return_, 1) := by decide +kernel
theorem dX1_takeDown_0 : decode cX1_takeDown 0 = .ok (.aload_n 0, 1) := by decide +kernel
theorem dX1_takeDown_1 : decode cX1_takeDown 1 = .ok (.dup, 1) := by decide +kernel
theorem dX1_takeDown_2 : decode cX1_takeDown 2 = .ok (.getfield 45, 3) := by decide +kernel
theorem dX1_takeDown_5 : decode cX1_takeDown 5 = .ok (.iconst 1, 1) := by decide +kernel
theorem dX1_takeDown_6 : decode cX1_takeDown 6 = .ok (.iload_n 1, 1) := by decide +kernel
theorem dX1_takeDown_7 : decode cX1_takeDown 7 = .ok (.ishl, 1) := by decide +kernel
theorem dX1_takeDown_8 : decode cX1_takeDown 8 = .ok (.iconst (-1), 1) := by decide +kernel
theorem dX1_takeDown_9 : decode cX1_takeDown 9 = .ok (.ixor, 1) := by decide +kernel
theorem dX1_takeDown_10 : decode cX1_takeDown 10 = .ok (.iand, 1) := by decide +kernel
theorem dX1_takeDown_11 : decode cX1_takeDown 11 = .ok (.putfield 45, 3) := by decide +kernel
theorem dX1_takeDown_14 : decode cX1_takeDown 14 = .ok (.iload_n 1, 1) := by decide +kernel
theorem dX1_takeDown_15 : decode cX1_takeDown 15 = .ok (.iconst 4, 1) := by decide +kernel
theorem dX1_takeDown_16 : decode cX1_takeDown 16 = .ok (.if_icmp .ne 33, 3) := by decide +kernel
theorem dX1_takeDown_19 : decode cX1_takeDown 19 = .ok (.iconst 0, 1) := by decide +kernel
theorem dX1_takeDown_20 : decode cX1_takeDown 20 = .ok (.istore_n 2, 1) := by decide +kernel
theorem dX1_takeDown_21 : decode cX1_takeDown 21 = .ok (.iload_n 2, 1) := by decide +kernel
theorem dX1_takeDown_22 : decode cX1_takeDown 22 = .ok (.aload_n 0, 1) := by decide +kernel
theorem dX1_takeDown_23 : decode cX1_takeDown 23 = .ok (.getfield 49, 3) := by decide +kernel
theorem dX1_takeDown_26 : decode cX1_takeDown 26 = .ok (.if_icmp .ge 23, 3) := by decide +kernel
theorem dX1_takeDown_29 : decode cX1_takeDown 29 = .ok (.aload_n 0, 1) := by decide +kernel
theorem dX1_takeDown_30 : decode cX1_takeDown 30 = .ok (.getfield 24, 3) := by decide +kernel
theorem dX1_takeDown_33 : decode cX1_takeDown 33 = .ok (.iload_n 2, 1) := by decide +kernel
theorem dX1_takeDown_34 : decode cX1_takeDown 34 = .ok (.iconst 0, 1) := by decide +kernel
theorem dX1_takeDown_35 : decode cX1_takeDown 35 = .ok (.iastore, 1) := by decide +kernel
theorem dX1_takeDown_36 : decode cX1_takeDown 36 = .ok (.aload_n 0, 1) := by decide +kernel
theorem dX1_takeDown_37 : decode cX1_takeDown 37 = .ok (.getfield 27, 3) := by decide +kernel
theorem dX1_takeDown_40 : decode cX1_takeDown 40 = .ok (.iload_n 2, 1) := by decide +kernel
theorem dX1_takeDown_41 : decode cX1_takeDown 41 = .ok (.iconst 0, 1) := by decide +kernel
theorem dX1_takeDown_42 : decode cX1_takeDown 42 = .ok (.iastore, 1) := by decide +kernel
theorem dX1_takeDown_43 : decode cX1_takeDown 43 = .ok (.iinc 2 1, 3) := by decide +kernel
theorem dX1_takeDown_46 : decode cX1_takeDown 46 = .ok (.goto (-25), 3) := by decide +kernel
theorem dX1_takeDown_49 : decode cX1_takeDown 49 = .ok (.return_, 1) := by decide +kernel
theorem dX1_bringUp_0 : decode cX1_bringUp 0 = .ok (.aload_n 0, 1) := by decide +kernel
theorem dX1_bringUp_1 : decode cX1_bringUp 1 = .ok (.dup, 1) := by decide +kernel
theorem dX1_bringUp_2 : decode cX1_bringUp 2 = .ok (.getfield 45, 3) := by decide +kernel
theorem dX1_bringUp_5 : decode cX1_bringUp 5 = .ok (.iconst 1, 1) := by decide +kernel
theorem dX1_bringUp_6 : decode cX1_bringUp 6 = .ok (.iload_n 1, 1) := by decide +kernel
theorem dX1_bringUp_7 : decode cX1_bringUp 7 = .ok (.ishl, 1) := by decide +kernel
theorem dX1_bringUp_8 : decode cX1_bringUp 8 = .ok (.ior, 1) := by decide +kernel
theorem dX1_bringUp_9 : decode cX1_bringUp 9 = .ok (.putfield 45, 3) := by decide +kernel
theorem dX1_bringUp_12 : decode cX1_bringUp 12 = .ok (.iconst 0, 1) := by decide +kernel
theorem dX1_bringUp_13 : decode cX1_bringUp 13 = .ok (.istore_n 2, 1) := by decide +kernel
theorem dX1_bringUp_14 : decode cX1_bringUp 14 = .ok (.iload_n 2, 1) := by decide +kernel
theorem dX1_bringUp_15 : decode cX1_bringUp 15 = .ok (.aload_n 0, 1) := by decide +kernel
theorem dX1_bringUp_16 : decode cX1_bringUp 16 = .ok (.getfield 49, 3) := by decide +kernel
theorem dX1_bringUp_19 : decode cX1_bringUp 19 = .ok (.if_icmp .ge 42, 3) := by decide +kernel
theorem dX1_bringUp_22 : decode cX1_bringUp 22 = .ok (.iload_n 1, 1) := by decide +kernel
theorem dX1_bringUp_23 : decode cX1_bringUp 23 = .ok (.iconst 4, 1) := by decide +kernel
theorem dX1_bringUp_24 : decode cX1_bringUp 24 = .ok (.if_icmp .ne 11, 3) := by decide +kernel
theorem dX1_bringUp_27 : decode cX1_bringUp 27 = .ok (.aload_n 0, 1) := by decide +kernel
theorem dX1_bringUp_28 : decode cX1_bringUp 28 = .ok (.iload_n 2, 1) := by decide +kernel
theorem dX1_bringUp_29 : decode cX1_bringUp 29 = .ok (.invokevirtual 162, 3) := by decide +kernel
theorem dX1_bringUp_32 : decode cX1_bringUp 32 = .ok (.goto 23, 3) := by decide +kernel
theorem dX1_bringUp_35 : decode cX1_bringUp 35 = .ok (.aload_n 0, 1) := by decide +kernel
theorem dX1_bringUp_36 : decode cX1_bringUp 36 = .ok (.iload_n 1, 1) := by decide +kernel
theorem dX1_bringUp_37 : decode cX1_bringUp 37 = .ok (.iload_n 2, 1) := by decide +kernel
theorem dX1_bringUp_38 : decode cX1_bringUp 38 = .ok (.invokevirtual 80, 3) := by decide +kernel
theorem dX1_bringUp_41 : decode cX1_bringUp 41 = .ok (.iconst 1, 1) := by decide +kernel
theorem dX1_bringUp_42 : decode cX1_bringUp 42 = .ok (.if_icmp .ne 13, 3) := by decide +kernel
theorem dX1_bringUp_45 : decode cX1_bringUp 45 = .ok (.aload_n 0, 1) := by decide +kernel
theorem dX1_bringUp_46 : decode cX1_bringUp 46 = .ok (.bipush 6, 2) := by decide +kernel
theorem dX1_bringUp_48 : decode cX1_bringUp 48 = .ok (.iload_n 2, 1) := by decide +kernel
theorem dX1_bringUp_49 : decode cX1_bringUp 49 = .ok (.iconst 1, 1) := by decide +kernel
theorem dX1_bringUp_50 : decode cX1_bringUp 50 = .ok (.iload_n 1, 1) := by decide +kernel
theorem dX1_bringUp_51 : decode cX1_bringUp 51 = .ok (.ishl, 1) := by decide +kernel
theorem dX1_bringUp_52 : decode cX1_bringUp 52 = .ok (.invokevirtual 150, 3) := by decide +kernel
theorem dX1_bringUp_55 : decode cX1_bringUp 55 = .ok (.iinc 2 1, 3) := by decide +kernel
theorem dX1_bringUp_58 : decode cX1_bringUp 58 = .ok (.goto (-44), 3) := by decide +kernel
theorem dX1_bringUp_61 : decode cX1_bringUp 61 = .ok (.return_, 1) := by decide +kernel
theorem dX1_clerkTakesUp_0 : decode cX1_clerkTakesUp 0 = .ok (.aload_n 0, 1) := by decide +kernel
theorem dX1_clerkTakesUp_1 : decode cX1_clerkTakesUp 1 = .ok (.getfield 21, 3) := by decide +kernel
theorem dX1_clerkTakesUp_4 : decode cX1_clerkTakesUp 4 = .ok (.iload_n 1, 1) := by decide +kernel
theorem dX1_clerkTakesUp_5 : decode cX1_clerkTakesUp 5 = .ok (.iaload, 1) := by decide +kernel
theorem dX1_clerkTakesUp_6 : decode cX1_clerkTakesUp 6 = .ok (.ifCond .ne 12, 3) := by decide +kernel
theorem dX1_clerkTakesUp_9 : decode cX1_clerkTakesUp 9 = .ok (.aload_n 0, 1) := by decide +kernel
theorem dX1_clerkTakesUp_10 : decode cX1_clerkTakesUp 10 = .ok (.iload_n 1, 1) := by decide +kernel
theorem dX1_clerkTakesUp_11 : decode cX1_clerkTakesUp 11 = .ok (.iconst 2, 1) := by decide +kernel
theorem dX1_clerkTakesUp_12 : decode cX1_clerkTakesUp 12 = .ok (.invokevirtual 156, 3) := by decide +kernel
theorem dX1_clerkTakesUp_15 : decode cX1_clerkTakesUp 15 = .ok (.goto 27, 3) := by decide +kernel
theorem dX1_clerkTakesUp_18 : decode cX1_clerkTakesUp 18 = .ok (.aload_n 0, 1) := by decide +kernel
theorem dX1_clerkTakesUp_19 : decode cX1_clerkTakesUp 19 = .ok (.iload_n 1, 1) := by decide +kernel
theorem dX1_clerkTakesUp_20 : decode cX1_clerkTakesUp 20 = .ok (.invokevirtual 159, 3) := by decide +kernel
theorem dX1_clerkTakesUp_23 : decode cX1_clerkTakesUp 23 = .ok (.ifCond .ne 19, 3) := by decide +kernel
theorem dX1_clerkTakesUp_26 : decode cX1_clerkTakesUp 26 = .ok (.aload_n 0, 1) := by decide +kernel
theorem dX1_clerkTakesUp_27 : decode cX1_clerkTakesUp 27 = .ok (.aload_n 0, 1) := by decide +kernel
theorem dX1_clerkTakesUp_28 : decode cX1_clerkTakesUp 28 = .ok (.iload_n 1, 1) := by decide +kernel
theorem dX1_clerkTakesUp_29 : decode cX1_clerkTakesUp 29 = .ok (.invokevirtual 153, 3) := by decide +kernel
theorem dX1_clerkTakesUp_32 : decode cX1_clerkTakesUp 32 = .ok (.iload_n 1, 1) := by decide +kernel
theorem dX1_clerkTakesUp_33 : decode cX1_clerkTakesUp 33 = .ok (.aload_n 0, 1) := by decide +kernel
theorem dX1_clerkTakesUp_34 : decode cX1_clerkTakesUp 34 = .ok (.getfield 15, 3) := by decide +kernel
theorem dX1_clerkTakesUp_37 : decode cX1_clerkTakesUp 37 = .ok (.iload_n 1, 1) := by decide +kernel
theorem dX1_clerkTakesUp_38 : decode cX1_clerkTakesUp 38 = .ok (.iaload, 1) := by decide +kernel
theorem dX1_clerkTakesUp_39 : decode cX1_clerkTakesUp 39 = .ok (.invokevirtual 150, 3) := by decide +kernel
theorem dX1_clerkTakesUp_42 : decode cX1_clerkTakesUp 42 = .ok (.return_, 1) := by decide +kernel
theorem dX2_init_0 : decode cX2_init 0 = .ok (.aload_n 0, 1) := by decide +kernel
theorem dX2_init_1 : decode cX2_init 1 = .ok (.invokespecial 1, 3) := by decide +kernel
theorem dX2_init_4 : decode cX2_init 4 = .ok (.aload_n 0, 1) := by decide +kernel
theorem dX2_init_5 : decode cX2_init 5 = .ok (.new 7, 3) := by decide +kernel
theorem dX2_init_8 : decode cX2_init 8 = .ok (.dup, 1) := by decide +kernel
theorem dX2_init_9 : decode cX2_init 9 = .ok (.invokespecial 9, 3) := by decide +kernel
theorem dX2_init_12 : decode cX2_init 12 = .ok (.putfield 10, 3) := by decide +kernel
theorem dX2_init_15 : decode cX2_init 15 = .ok (.aload_n 0, 1) := by decide +kernel
theorem dX2_init_16 : decode cX2_init 16 = .ok (.new 7, 3) := by decide +kernel
theorem dX2_init_19 : decode cX2_init 19 = .ok (.dup, 1) := by decide +kernel
theorem dX2_init_20 : decode cX2_init 20 = .ok (.invokespecial 9, 3) := by decide +kernel
theorem dX2_init_23 : decode cX2_init 23 = .ok (.putfield 16, 3) := by decide +kernel
theorem dX2_init_26 : decode cX2_init 26 = .ok (.aload_n 0, 1) := by decide +kernel
theorem dX2_init_27 : decode cX2_init 27 = .ok (.new 7, 3) := by decide +kernel
theorem dX2_init_30 : decode cX2_init 30 = .ok (.dup, 1) := by decide +kernel
theorem dX2_init_31 : decode cX2_init 31 = .ok (.invokespecial 9, 3) := by decide +kernel
theorem dX2_init_34 : decode cX2_init 34 = .ok (.putfield 19, 3) := by decide +kernel
theorem dX2_init_37 : decode cX2_init 37 = .ok (.aload_n 0, 1) := by decide +kernel
theorem dX2_init_38 : decode cX2_init 38 = .ok (.new 7, 3) := by decide +kernel
theorem dX2_init_41 : decode cX2_init 41 = .ok (.dup, 1) := by decide +kernel
theorem dX2_init_42 : decode cX2_init 42 = .ok (.invokespecial 9, 3) := by decide +kernel
theorem dX2_init_45 : decode cX2_init 45 = .ok (.putfield 22, 3) := by decide +kernel
theorem dX2_init_48 : decode cX2_init 48 = .ok (.aload_n 0, 1) := by decide +kernel
theorem dX2_init_49 : decode cX2_init 49 = .ok (.bipush 6, 2) := by decide +kernel
theorem dX2_init_51 : decode cX2_init 51 = .ok (.anewarray 7, 3) := by decide +kernel
theorem dX2_init_54 : decode cX2_init 54 = .ok (.putfield 25, 3) := by decide +kernel
theorem dX2_init_57 : decode cX2_init 57 = .ok (.aload_n 0, 1) := by decide +kernel
theorem dX2_init_58 : decode cX2_init 58 = .ok (.bipush 60, 2) := by decide +kernel
theorem dX2_init_60 : decode cX2_init 60 = .ok (.newarray .int, 2) := by decide +kernel
theorem dX2_init_62 : decode cX2_init 62 = .ok (.putfield 29, 3) := by decide +kernel
theorem dX2_init_65 : decode cX2_init 65 = .ok (.aload_n 0, 1) := by decide +kernel
theorem dX2_init_66 : decode cX2_init 66 = .ok (.new 33, 3) := by decide +kernel
theorem dX2_init_69 : decode cX2_init 69 = .ok (.dup, 1) := by decide +kernel
theorem dX2_init_70 : decode cX2_init 70 = .ok (.invokespecial 35, 3) := by decide +kernel
theorem dX2_init_73 : decode cX2_init 73 = .ok (.putfield 36, 3) := by decide +kernel
theorem dX2_init_76 : decode cX2_init 76 = .ok (.iconst 0, 1) := by decide +kernel
theorem dX2_init_77 : decode cX2_init 77 = .ok (.istore_n 1, 1) := by decide +kernel
theorem dX2_init_78 : decode cX2_init 78 = .ok (.iload_n 1, 1) := by decide +kernel
theorem dX2_init_79 : decode cX2_init 79 = .ok (.bipush 6, 2) := by decide +kernel
theorem dX2_init_81 : decode cX2_init 81 = .ok (.if_icmp .ge 22, 3) := by decide +kernel
theorem dX2_init_84 : decode cX2_init 84 = .ok (.aload_n 0, 1) := by decide +kernel
theorem dX2_init_85 : decode cX2_init 85 = .ok (.getfield 25, 3) := by decide +kernel
theorem dX2_init_88 : decode cX2_init 88 = .ok (.iload_n 1, 1) := by decide +kernel
theorem dX2_init_89 : decode cX2_init 89 = .ok (.new 7, 3) := by decide +kernel
theorem dX2_init_92 : decode cX2_init 92 = .ok (.dup, 1) := by decide +kernel
theorem dX2_init_93 : decode cX2_init 93 = .ok (.invokespecial 9, 3) := by decide +kernel
theorem dX2_init_96 : decode cX2_init 96 = .ok (.aastore, 1) := by decide +kernel
theorem dX2_init_97 : decode cX2_init 97 = .ok (.iinc 1 1, 3) := by decide +kernel
theorem dX2_init_100 : decode cX2_init 100 = .ok (.goto (-22), 3) := by decide +kernel
theorem dX2_init_103 : decode cX2_init 103 = .ok (.aload_n 0, 1) := by decide +kernel
theorem dX2_init_104 : decode cX2_init 104 = .ok (.iconst 0, 1) := by decide +kernel
theorem dX2_init_105 : decode cX2_init 105 = .ok (.putfield 40, 3) := by decide +kernel
theorem dX2_init_108 : decode cX2_init 108 = .ok (.aload_n 0, 1) := by decide +kernel
theorem dX2_init_109 : decode cX2_init 109 = .ok (.iconst 0, 1) := by decide +kernel
theorem dX2_init_110 : decode cX2_init 110 = .ok (.putfield 44, 3) := by decide +kernel
theorem dX2_init_113 : decode cX2_init 113 = .ok (.aload_n 0, 1) := by decide +kernel
theorem dX2_init_114 : decode cX2_init 114 = .ok (.iconst 0, 1) := by decide +kernel
theorem dX2_init_115 : decode cX2_init 115 = .ok (.putfield 48, 3) := by decide +kernel
theorem dX2_init_118 : decode cX2_init 118 = .ok (.return_, 1) := by decide +kernel
theorem dX2_begin_0 : decode cX2_begin 0 = .ok (.aload_n 0, 1) := by decide +kernel
theorem dX2_begin_1 : decode cX2_begin 1 = .ok (.iload_n 1, 1) := by decide +kernel
theorem dX2_begin_2 : decode cX2_begin 2 = .ok (.invokevirtual 51, 3) := by decide +kernel
theorem dX2_begin_5 : decode cX2_begin 5 = .ok (.aload_n 0, 1) := by decide +kernel
theorem dX2_begin_6 : decode cX2_begin 6 = .ok (.iload_n 1, 1) := by decide +kernel
theorem dX2_begin_7 : decode cX2_begin 7 = .ok (.iload_n 2, 1) := by decide +kernel
theorem dX2_begin_8 : decode cX2_begin 8 = .ok (.invokevirtual 55, 3) := by decide +kernel
theorem dX2_begin_11 : decode cX2_begin 11 = .ok (.iload_n 3, 1) := by decide +kernel
theorem dX2_begin_12 : decode cX2_begin 12 = .ok (.iconst 1, 1) := by decide +kernel
theorem dX2_begin_13 : decode cX2_begin 13 = .ok (.if_icmp .lt 9, 3) := by decide +kernel
theorem dX2_begin_16 : decode cX2_begin 16 = .ok (.iload_n 3, 1) := by decide +kernel
theorem dX2_begin_17 : decode cX2_begin 17 = .ok (.bipush 50, 2) := by decide +kernel
theorem dX2_begin_19 : decode cX2_begin 19 = .ok (.if_icmp .le 13, 3) := by decide +kernel
theorem dX2_begin_22 : decode cX2_begin 22 = .ok (.new 59, 3) := by decide +kernel
theorem dX2_begin_25 : decode cX2_begin 25 = .ok (.dup, 1) := by decide +kernel
theorem dX2_begin_26 : decode cX2_begin 26 = .ok (.ldc 61, 2) := by decide +kernel
theorem dX2_begin_28 : decode cX2_begin 28 = .ok (.invokespecial 63, 3) := by decide +kernel
theorem dX2_begin_31 : decode cX2_begin 31 = .ok (.athrow, 1) := by decide +kernel
theorem dX2_begin_32 : decode cX2_begin 32 = .ok (.aload_n 0, 1) := by decide +kernel
theorem dX2_begin_33 : decode cX2_begin 33 = .ok (.getfield 10, 3) := by decide +kernel
theorem dX2_begin_36 : decode cX2_begin 36 = .ok (.invokevirtual 66, 3) := by decide +kernel
theorem dX2_begin_39 : decode cX2_begin 39 = .ok (.ifCond .ne 13, 3) := by decide +kernel
theorem dX2_begin_42 : decode cX2_begin 42 = .ok (.new 70, 3) := by decide +kernel
theorem dX2_begin_45 : decode cX2_begin 45 = .ok (.dup, 1) := by decide +kernel
theorem dX2_begin_46 : decode cX2_begin 46 = .ok (.ldc 72, 2) := by decide +kernel
theorem dX2_begin_48 : decode cX2_begin 48 = .ok (.invokespecial 74, 3) := by decide +kernel
theorem dX2_begin_51 : decode cX2_begin 51 = .ok (.athrow, 1) := by decide +kernel
theorem dX2_begin_52 : decode cX2_begin 52 = .ok (.aload_n 0, 1) := by decide +kernel
theorem dX2_begin_53 : decode cX2_begin 53 = .ok (.invokevirtual 75, 3) := by decide +kernel
theorem dX2_begin_56 : decode cX2_begin 56 = .ok (.aload_n 0, 1) := by decide +kernel
theorem dX2_begin_57 : decode cX2_begin 57 = .ok (.getfield 10, 3) := by decide +kernel
theorem dX2_begin_60 : decode cX2_begin 60 = .ok (.iload_n 1, 1) := by decide +kernel
theorem dX2_begin_61 : decode cX2_begin 61 = .ok (.iload_n 2, 1) := by decide +kernel
theorem dX2_begin_62 : decode cX2_begin 62 = .ok (.iload_n 3, 1) := by decide +kernel
theorem dX2_begin_63 : decode cX2_begin 63 = .ok (.invokevirtual 78, 3) := by decide +kernel
theorem dX2_begin_66 : decode cX2_begin 66 = .ok (.ireturn, 1) := by decide +kernel
theorem dX2_giveUp_0 : decode cX2_giveUp 0 = .ok (.aload_n 0, 1) := by decide +kernel
theorem dX2_giveUp_1 : decode cX2_giveUp 1 = .ok (.iload_n 1, 1) := by decide +kernel
theorem dX2_giveUp_2 : decode cX2_giveUp 2 = .ok (.invokevirtual 82, 3) := by decide +kernel
theorem dX2_giveUp_5 : decode cX2_giveUp 5 = .ok (.aload_n 0, 1) := by decide +kernel
theorem dX2_giveUp_6 : decode cX2_giveUp 6 = .ok (.getfield 10, 3) := by decide +kernel
theorem dX2_giveUp_9 : decode cX2_giveUp 9 = .ok (.iload_n 1, 1) := by decide +kernel
theorem dX2_giveUp_10 : decode cX2_giveUp 10 = .ok (.invokevirtual 85, 3) := by decide +kernel
theorem dX2_giveUp_13 : decode cX2_giveUp 13 = .ok (.ifCond .ne 13, 3) := by decide +kernel
theorem dX2_giveUp_16 : decode cX2_giveUp 16 = .ok (.new 70, 3) := by decide +kernel
theorem dX2_giveUp_19 : decode cX2_giveUp 19 = .ok (.dup, 1) := by decide +kernel
theorem dX2_giveUp_20 : decode cX2_giveUp 20 = .ok (.ldc 89, 2) := by decide +kernel
theorem dX2_giveUp_22 : decode cX2_giveUp 22 = .ok (.invokespecial 74, 3) := by decide +kernel
theorem dX2_giveUp_25 : decode cX2_giveUp 25 = .ok (.athrow, 1) := by decide +kernel
theorem dX2_giveUp_26 : decode cX2_giveUp 26 = .ok (.aload_n 0, 1) := by decide +kernel
theorem dX2_giveUp_27 : decode cX2_giveUp 27 = .ok (.invokevirtual 75, 3) := by decide +kernel
theorem dX2_giveUp_30 : decode cX2_giveUp 30 = .ok (.aload_n 0, 1) := by decide +kernel
theorem dX2_giveUp_31 : decode cX2_giveUp 31 = .ok (.getfield 10, 3) := by decide +kernel
theorem dX2_giveUp_34 : decode cX2_giveUp 34 = .ok (.iload_n 1, 1) := by decide +kernel
theorem dX2_giveUp_35 : decode cX2_giveUp 35 = .ok (.iconst 2, 1) := by decide +kernel
theorem dX2_giveUp_36 : decode cX2_giveUp 36 = .ok (.invokevirtual 91, 3) := by decide +kernel
theorem dX2_giveUp_39 : decode cX2_giveUp 39 = .ok (.aload_n 0, 1) := by decide +kernel
theorem dX2_giveUp_40 : decode cX2_giveUp 40 = .ok (.getfield 10, 3) := by decide +kernel
theorem dX2_giveUp_43 : decode cX2_giveUp 43 = .ok (.getfield 94, 3) := by decide +kernel
theorem dX2_giveUp_46 : decode cX2_giveUp 46 = .ok (.ireturn, 1) := by decide +kernel
theorem dX2_ask_0 : decode cX2_ask 0 = .ok (.aload_n 0, 1) := by decide +kernel
theorem dX2_ask_1 : decode cX2_ask 1 = .ok (.iload_n 1, 1) := by decide +kernel
theorem dX2_ask_2 : decode cX2_ask 2 = .ok (.invokevirtual 51, 3) := by decide +kernel
theorem dX2_ask_5 : decode cX2_ask 5 = .ok (.aload_n 0, 1) := by decide +kernel
theorem dX2_ask_6 : decode cX2_ask 6 = .ok (.iload_n 2, 1) := by decide +kernel
theorem dX2_ask_7 : decode cX2_ask 7 = .ok (.invokevirtual 82, 3) := by decide +kernel
theorem dX2_ask_10 : decode cX2_ask 10 = .ok (.aload_n 0, 1) := by decide +kernel
theorem dX2_ask_11 : decode cX2_ask 11 = .ok (.getfield 10, 3) := by decide +kernel
theorem dX2_ask_14 : decode cX2_ask 14 = .ok (.iload_n 1, 1) := by decide +kernel
theorem dX2_ask_15 : decode cX2_ask 15 = .ok (.iload_n 2, 1) := by decide +kernel
theorem dX2_ask_16 : decode cX2_ask 16 = .ok (.invokevirtual 97, 3) := by decide +kernel
theorem dX2_ask_19 : decode cX2_ask 19 = .ok (.ifCond .ne 13, 3) := by decide +kernel
theorem dX2_ask_22 : decode cX2_ask 22 = .ok (.new 70, 3) := by decide +kernel
theorem dX2_ask_25 : decode cX2_ask 25 = .ok (.dup, 1) := by decide +kernel
theorem dX2_ask_26 : decode cX2_ask 26 = .ok (.ldc 101, 2) := by decide +kernel
theorem dX2_ask_28 : decode cX2_ask 28 = .ok (.invokespecial 74, 3) := by decide +kernel
theorem dX2_ask_31 : decode cX2_ask 31 = .ok (.athrow, 1) := by decide +kernel
theorem dX2_ask_32 : decode cX2_ask 32 = .ok (.aload_n 0, 1) := by decide +kernel
theorem dX2_ask_33 : decode cX2_ask 33 = .ok (.invokevirtual 75, 3) := by decide +kernel
theorem dX2_ask_36 : decode cX2_ask 36 = .ok (.aload_n 0, 1) := by decide +kernel
theorem dX2_ask_37 : decode cX2_ask 37 = .ok (.getfield 10, 3) := by decide +kernel
theorem dX2_ask_40 : decode cX2_ask 40 = .ok (.bipush 6, 2) := by decide +kernel
theorem dX2_ask_42 : decode cX2_ask 42 = .ok (.iload_n 2, 1) := by decide +kernel
theorem dX2_ask_43 : decode cX2_ask 43 = .ok (.iconst 1, 1) := by decide +kernel
theorem dX2_ask_44 : decode cX2_ask 44 = .ok (.iload_n 1, 1) := by decide +kernel
theorem dX2_ask_45 : decode cX2_ask 45 = .ok (.ishl, 1) := by decide +kernel
theorem dX2_ask_46 : decode cX2_ask 46 = .ok (.invokevirtual 103, 3) := by decide +kernel
theorem dX2_ask_49 : decode cX2_ask 49 = .ok (.aload_n 0, 1) := by decide +kernel
theorem dX2_ask_50 : decode cX2_ask 50 = .ok (.getfield 10, 3) := by decide +kernel
theorem dX2_ask_53 : decode cX2_ask 53 = .ok (.getfield 94, 3) := by decide +kernel
theorem dX2_ask_56 : decode cX2_ask 56 = .ok (.ireturn, 1) := by decide +kernel
theorem dX2_deliver_0 : decode cX2_deliver 0 = .ok (.aload_n 0, 1) := by decide +kernel
theorem dX2_deliver_1 : decode cX2_deliver 1 = .ok (.iload_n 1, 1) := by decide +kernel
theorem dX2_deliver_2 : decode cX2_deliver 2 = .ok (.invokevirtual 107, 3) := by decide +kernel
theorem dX2_deliver_5 : decode cX2_deliver 5 = .ok (.aload_n 0, 1) := by decide +kernel
theorem dX2_deliver_6 : decode cX2_deliver 6 = .ok (.invokevirtual 75, 3) := by decide +kernel
theorem dX2_deliver_9 : decode cX2_deliver 9 = .ok (.aload_n 0, 1) := by decide +kernel
theorem dX2_deliver_10 : decode cX2_deliver 10 = .ok (.getfield 10, 3) := by decide +kernel
theorem dX2_deliver_13 : decode cX2_deliver 13 = .ok (.iload_n 1, 1) := by decide +kernel
theorem dX2_deliver_14 : decode cX2_deliver 14 = .ok (.invokevirtual 110, 3) := by decide +kernel
theorem dX2_deliver_17 : decode cX2_deliver 17 = .ok (.ireturn, 1) := by decide +kernel
theorem dX2_deliverAll_0 : decode cX2_deliverAll 0 = .ok (.aload_n 0, 1) := by decide +kernel
theorem dX2_deliverAll_1 : decode cX2_deliverAll 1 = .ok (.invokevirtual 75, 3) := by decide +kernel
theorem dX2_deliverAll_4 : decode cX2_deliverAll 4 = .ok (.aload_n 0, 1) := by decide +kernel
theorem dX2_deliverAll_5 : decode cX2_deliverAll 5 = .ok (.getfield 10, 3) := by decide +kernel
theorem dX2_deliverAll_8 : decode cX2_deliverAll 8 = .ok (.ldc 113, 2) := by decide +kernel
theorem dX2_deliverAll_10 : decode cX2_deliverAll 10 = .ok (.invokevirtual 114, 3) := by decide +kernel
theorem dX2_deliverAll_13 : decode cX2_deliverAll 13 = .ok (.ireturn, 1) := by decide +kernel
theorem dX2_lose_0 : decode cX2_lose 0 = .ok (.aload_n 0, 1) := by decide +kernel
theorem dX2_lose_1 : decode cX2_lose 1 = .ok (.iload_n 1, 1) := by decide +kernel
theorem dX2_lose_2 : decode cX2_lose 2 = .ok (.invokevirtual 107, 3) := by decide +kernel
theorem dX2_lose_5 : decode cX2_lose 5 = .ok (.aload_n 0, 1) := by decide +kernel
theorem dX2_lose_6 : decode cX2_lose 6 = .ok (.invokevirtual 75, 3) := by decide +kernel
theorem dX2_lose_9 : decode cX2_lose 9 = .ok (.aload_n 0, 1) := by decide +kernel
theorem dX2_lose_10 : decode cX2_lose 10 = .ok (.getfield 10, 3) := by decide +kernel
theorem dX2_lose_13 : decode cX2_lose 13 = .ok (.iload_n 1, 1) := by decide +kernel
theorem dX2_lose_14 : decode cX2_lose 14 = .ok (.invokevirtual 118, 3) := by decide +kernel
theorem dX2_lose_17 : decode cX2_lose 17 = .ok (.ireturn, 1) := by decide +kernel
theorem dX2_crash_0 : decode cX2_crash 0 = .ok (.aload_n 0, 1) := by decide +kernel
theorem dX2_crash_1 : decode cX2_crash 1 = .ok (.iload_n 1, 1) := by decide +kernel
theorem dX2_crash_2 : decode cX2_crash 2 = .ok (.invokevirtual 121, 3) := by decide +kernel
theorem dX2_crash_5 : decode cX2_crash 5 = .ok (.aload_n 0, 1) := by decide +kernel
theorem dX2_crash_6 : decode cX2_crash 6 = .ok (.getfield 10, 3) := by decide +kernel
theorem dX2_crash_9 : decode cX2_crash 9 = .ok (.iload_n 1, 1) := by decide +kernel
theorem dX2_crash_10 : decode cX2_crash 10 = .ok (.invokevirtual 124, 3) := by decide +kernel
theorem dX2_crash_13 : decode cX2_crash 13 = .ok (.ifCond .ne 13, 3) := by decide +kernel
theorem dX2_crash_16 : decode cX2_crash 16 = .ok (.new 70, 3) := by decide +kernel
theorem dX2_crash_19 : decode cX2_crash 19 = .ok (.dup, 1) := by decide +kernel
theorem dX2_crash_20 : decode cX2_crash 20 = .ok (.ldc 127, 2) := by decide +kernel
theorem dX2_crash_22 : decode cX2_crash 22 = .ok (.invokespecial 74, 3) := by decide +kernel
theorem dX2_crash_25 : decode cX2_crash 25 = .ok (.athrow, 1) := by decide +kernel
theorem dX2_crash_26 : decode cX2_crash 26 = .ok (.aload_n 0, 1) := by decide +kernel
theorem dX2_crash_27 : decode cX2_crash 27 = .ok (.invokevirtual 75, 3) := by decide +kernel
theorem dX2_crash_30 : decode cX2_crash 30 = .ok (.aload_n 0, 1) := by decide +kernel
theorem dX2_crash_31 : decode cX2_crash 31 = .ok (.getfield 10, 3) := by decide +kernel
theorem dX2_crash_34 : decode cX2_crash 34 = .ok (.iload_n 1, 1) := by decide +kernel
theorem dX2_crash_35 : decode cX2_crash 35 = .ok (.invokevirtual 129, 3) := by decide +kernel
theorem dX2_crash_38 : decode cX2_crash 38 = .ok (.aload_n 0, 1) := by decide +kernel
theorem dX2_crash_39 : decode cX2_crash 39 = .ok (.getfield 10, 3) := by decide +kernel
theorem dX2_crash_42 : decode cX2_crash 42 = .ok (.getfield 132, 3) := by decide +kernel
theorem dX2_crash_45 : decode cX2_crash 45 = .ok (.invokestatic 135, 3) := by decide +kernel
theorem dX2_crash_48 : decode cX2_crash 48 = .ok (.ireturn, 1) := by decide +kernel
theorem dX2_recover_0 : decode cX2_recover 0 = .ok (.aload_n 0, 1) := by decide +kernel
theorem dX2_recover_1 : decode cX2_recover 1 = .ok (.iload_n 1, 1) := by decide +kernel
theorem dX2_recover_2 : decode cX2_recover 2 = .ok (.invokevirtual 121, 3) := by decide +kernel
theorem dX2_recover_5 : decode cX2_recover 5 = .ok (.aload_n 0, 1) := by decide +kernel
theorem dX2_recover_6 : decode cX2_recover 6 = .ok (.getfield 10, 3) := by decide +kernel
theorem dX2_recover_9 : decode cX2_recover 9 = .ok (.iload_n 1, 1) := by decide +kernel
theorem dX2_recover_10 : decode cX2_recover 10 = .ok (.invokevirtual 124, 3) := by decide +kernel
theorem dX2_recover_13 : decode cX2_recover 13 = .ok (.ifCond .eq 13, 3) := by decide +kernel
theorem dX2_recover_16 : decode cX2_recover 16 = .ok (.new 70, 3) := by decide +kernel
theorem dX2_recover_19 : decode cX2_recover 19 = .ok (.dup, 1) := by decide +kernel
theorem dX2_recover_20 : decode cX2_recover 20 = .ok (.ldc 140, 2) := by decide +kernel
theorem dX2_recover_22 : decode cX2_recover 22 = .ok (.invokespecial 74, 3) := by decide +kernel
theorem dX2_recover_25 : decode cX2_recover 25 = .ok (.athrow, 1) := by decide +kernel
theorem dX2_recover_26 : decode cX2_recover 26 = .ok (.aload_n 0, 1) := by decide +kernel
theorem dX2_recover_27 : decode cX2_recover 27 = .ok (.invokevirtual 75, 3) := by decide +kernel
theorem dX2_recover_30 : decode cX2_recover 30 = .ok (.aload_n 0, 1) := by decide +kernel
theorem dX2_recover_31 : decode cX2_recover 31 = .ok (.getfield 10, 3) := by decide +kernel
theorem dX2_recover_34 : decode cX2_recover 34 = .ok (.iload_n 1, 1) := by decide +kernel
theorem dX2_recover_35 : decode cX2_recover 35 = .ok (.invokevirtual 142, 3) := by decide +kernel
theorem dX2_recover_38 : decode cX2_recover 38 = .ok (.aload_n 0, 1) := by decide +kernel
theorem dX2_recover_39 : decode cX2_recover 39 = .ok (.getfield 10, 3) := by decide +kernel
theorem dX2_recover_42 : decode cX2_recover 42 = .ok (.getfield 94, 3) := by decide +kernel
theorem dX2_recover_45 : decode cX2_recover 45 = .ok (.ireturn, 1) := by decide +kernel
theorem dX2_undo_0 : decode cX2_undo 0 = .ok (.aload_n 0, 1) := by decide +kernel
theorem dX2_undo_1 : decode cX2_undo 1 = .ok (.getfield 40, 3) := by decide +kernel
theorem dX2_undo_4 : decode cX2_undo 4 = .ok (.iconst 1, 1) := by decide +kernel
theorem dX2_undo_5 : decode cX2_undo 5 = .ok (.if_icmp .ge 13, 3) := by decide +kernel
theorem dX2_undo_8 : decode cX2_undo 8 = .ok (.new 70, 3) := by decide +kernel
theorem dX2_undo_11 : decode cX2_undo 11 = .ok (.dup, 1) := by decide +kernel
theorem dX2_undo_12 : decode cX2_undo 12 = .ok (.ldc 173, 2) := by decide +kernel
theorem dX2_undo_14 : decode cX2_undo 14 = .ok (.invokespecial 74, 3) := by decide +kernel
theorem dX2_undo_17 : decode cX2_undo 17 = .ok (.athrow, 1) := by decide +kernel
theorem dX2_undo_18 : decode cX2_undo 18 = .ok (.aload_n 0, 1) := by decide +kernel
theorem dX2_undo_19 : decode cX2_undo 19 = .ok (.dup, 1) := by decide +kernel
theorem dX2_undo_20 : decode cX2_undo 20 = .ok (.getfield 40, 3) := by decide +kernel
theorem dX2_undo_23 : decode cX2_undo 23 = .ok (.iconst 1, 1) := by decide +kernel
theorem dX2_undo_24 : decode cX2_undo 24 = .ok (.isub, 1) := by decide +kernel
theorem dX2_undo_25 : decode cX2_undo 25 = .ok (.putfield 40, 3) := by decide +kernel
theorem dX2_undo_28 : decode cX2_undo 28 = .ok (.aload_n 0, 1) := by decide +kernel
theorem dX2_undo_29 : decode cX2_undo 29 = .ok (.getfield 10, 3) := by decide +kernel
theorem dX2_undo_32 : decode cX2_undo 32 = .ok (.aload_n 0, 1) := by decide +kernel
theorem dX2_undo_33 : decode cX2_undo 33 = .ok (.getfield 25, 3) := by decide +kernel
theorem dX2_undo_36 : decode cX2_undo 36 = .ok (.aload_n 0, 1) := by decide +kernel
theorem dX2_undo_37 : decode cX2_undo 37 = .ok (.getfield 40, 3) := by decide +kernel
theorem dX2_undo_40 : decode cX2_undo 40 = .ok (.aaload, 1) := by decide +kernel
theorem dX2_undo_41 : decode cX2_undo 41 = .ok (.invokevirtual 167, 3) := by decide +kernel
theorem dX2_undo_44 : decode cX2_undo 44 = .ok (.aload_n 0, 1) := by decide +kernel
theorem dX2_undo_45 : decode cX2_undo 45 = .ok (.getfield 40, 3) := by decide +kernel
theorem dX2_undo_48 : decode cX2_undo 48 = .ok (.ireturn, 1) := by decide +kernel
theorem dX2_transfers_0 : decode cX2_transfers 0 = .ok (.aload_n 0, 1) := by decide +kernel
theorem dX2_transfers_1 : decode cX2_transfers 1 = .ok (.getfield 10, 3) := by decide +kernel
theorem dX2_transfers_4 : decode cX2_transfers 4 = .ok (.getfield 175, 3) := by decide +kernel
theorem dX2_transfers_7 : decode cX2_transfers 7 = .ok (.ireturn, 1) := by decide +kernel
theorem dX2_partners_0 : decode cX2_partners 0 = .ok (.aload_n 0, 1) := by decide +kernel
theorem dX2_partners_1 : decode cX2_partners 1 = .ok (.iload_n 1, 1) := by decide +kernel
theorem dX2_partners_2 : decode cX2_partners 2 = .ok (.invokevirtual 82, 3) := by decide +kernel
theorem dX2_partners_5 : decode cX2_partners 5 = .ok (.aload_n 0, 1) := by decide +kernel
theorem dX2_partners_6 : decode cX2_partners 6 = .ok (.getfield 10, 3) := by decide +kernel
theorem dX2_partners_9 : decode cX2_partners 9 = .ok (.getfield 178, 3) := by decide +kernel
theorem dX2_partners_12 : decode cX2_partners 12 = .ok (.iload_n 1, 1) := by decide +kernel
theorem dX2_partners_13 : decode cX2_partners 13 = .ok (.iaload, 1) := by decide +kernel
theorem dX2_partners_14 : decode cX2_partners 14 = .ok (.ireturn, 1) := by decide +kernel
theorem dX2_share_0 : decode cX2_share 0 = .ok (.aload_n 0, 1) := by decide +kernel
theorem dX2_share_1 : decode cX2_share 1 = .ok (.iload_n 1, 1) := by decide +kernel
theorem dX2_share_2 : decode cX2_share 2 = .ok (.invokevirtual 82, 3) := by decide +kernel
theorem dX2_share_5 : decode cX2_share 5 = .ok (.aload_n 0, 1) := by decide +kernel
theorem dX2_share_6 : decode cX2_share 6 = .ok (.iload_n 2, 1) := by decide +kernel
theorem dX2_share_7 : decode cX2_share 7 = .ok (.invokevirtual 51, 3) := by decide +kernel
theorem dX2_share_10 : decode cX2_share 10 = .ok (.aload_n 0, 1) := by decide +kernel
theorem dX2_share_11 : decode cX2_share 11 = .ok (.getfield 10, 3) := by decide +kernel
theorem dX2_share_14 : decode cX2_share 14 = .ok (.iload_n 1, 1) := by decide +kernel
theorem dX2_share_15 : decode cX2_share 15 = .ok (.iload_n 2, 1) := by decide +kernel
theorem dX2_share_16 : decode cX2_share 16 = .ok (.invokevirtual 181, 3) := by decide +kernel
theorem dX2_share_19 : decode cX2_share 19 = .ok (.ireturn, 1) := by decide +kernel
theorem dX2_isUp_0 : decode cX2_isUp 0 = .ok (.aload_n 0, 1) := by decide +kernel
theorem dX2_isUp_1 : decode cX2_isUp 1 = .ok (.iload_n 1, 1) := by decide +kernel
theorem dX2_isUp_2 : decode cX2_isUp 2 = .ok (.invokevirtual 121, 3) := by decide +kernel
theorem dX2_isUp_5 : decode cX2_isUp 5 = .ok (.aload_n 0, 1) := by decide +kernel
theorem dX2_isUp_6 : decode cX2_isUp 6 = .ok (.getfield 10, 3) := by decide +kernel
theorem dX2_isUp_9 : decode cX2_isUp 9 = .ok (.iload_n 1, 1) := by decide +kernel
theorem dX2_isUp_10 : decode cX2_isUp 10 = .ok (.invokevirtual 124, 3) := by decide +kernel
theorem dX2_isUp_13 : decode cX2_isUp 13 = .ok (.ireturn, 1) := by decide +kernel
theorem dX2_amount_0 : decode cX2_amount 0 = .ok (.aload_n 0, 1) := by decide +kernel
theorem dX2_amount_1 : decode cX2_amount 1 = .ok (.iload_n 1, 1) := by decide +kernel
theorem dX2_amount_2 : decode cX2_amount 2 = .ok (.invokevirtual 51, 3) := by decide +kernel
theorem dX2_amount_5 : decode cX2_amount 5 = .ok (.aload_n 0, 1) := by decide +kernel
theorem dX2_amount_6 : decode cX2_amount 6 = .ok (.getfield 10, 3) := by decide +kernel
theorem dX2_amount_9 : decode cX2_amount 9 = .ok (.getfield 185, 3) := by decide +kernel
theorem dX2_amount_12 : decode cX2_amount 12 = .ok (.iload_n 1, 1) := by decide +kernel
theorem dX2_amount_13 : decode cX2_amount 13 = .ok (.iaload, 1) := by decide +kernel
theorem dX2_amount_14 : decode cX2_amount 14 = .ok (.ireturn, 1) := by decide +kernel
theorem dX2_amountByLog_0 : decode cX2_amountByLog 0 = .ok (.aload_n 0, 1) := by decide +kernel
theorem dX2_amountByLog_1 : decode cX2_amountByLog 1 = .ok (.iload_n 1, 1) := by decide +kernel
theorem dX2_amountByLog_2 : decode cX2_amountByLog 2 = .ok (.invokevirtual 51, 3) := by decide +kernel
theorem dX2_amountByLog_5 : decode cX2_amountByLog 5 = .ok (.bipush 100, 2) := by decide +kernel
theorem dX2_amountByLog_7 : decode cX2_amountByLog 7 = .ok (.istore_n 2, 1) := by decide +kernel
theorem dX2_amountByLog_8 : decode cX2_amountByLog 8 = .ok (.iconst 0, 1) := by decide +kernel
theorem dX2_amountByLog_9 : decode cX2_amountByLog 9 = .ok (.istore_n 3, 1) := by decide +kernel
theorem dX2_amountByLog_10 : decode cX2_amountByLog 10 = .ok (.iload_n 3, 1) := by decide +kernel
theorem dX2_amountByLog_11 : decode cX2_amountByLog 11 = .ok (.aload_n 0, 1) := by decide +kernel
theorem dX2_amountByLog_12 : decode cX2_amountByLog 12 = .ok (.getfield 10, 3) := by decide +kernel
theorem dX2_amountByLog_15 : decode cX2_amountByLog 15 = .ok (.getfield 188, 3) := by decide +kernel
theorem dX2_amountByLog_18 : decode cX2_amountByLog 18 = .ok (.iload_n 1, 1) := by decide +kernel
theorem dX2_amountByLog_19 : decode cX2_amountByLog 19 = .ok (.iaload, 1) := by decide +kernel
theorem dX2_amountByLog_20 : decode cX2_amountByLog 20 = .ok (.if_icmp .ge 42, 3) := by decide +kernel
theorem dX2_amountByLog_23 : decode cX2_amountByLog 23 = .ok (.aload_n 0, 1) := by decide +kernel
theorem dX2_amountByLog_24 : decode cX2_amountByLog 24 = .ok (.getfield 10, 3) := by decide +kernel
theorem dX2_amountByLog_27 : decode cX2_amountByLog 27 = .ok (.iload_n 1, 1) := by decide +kernel
theorem dX2_amountByLog_28 : decode cX2_amountByLog 28 = .ok (.iload_n 3, 1) := by decide +kernel
theorem dX2_amountByLog_29 : decode cX2_amountByLog 29 = .ok (.invokevirtual 191, 3) := by decide +kernel
theorem dX2_amountByLog_32 : decode cX2_amountByLog 32 = .ok (.iconst 1, 1) := by decide +kernel
theorem dX2_amountByLog_33 : decode cX2_amountByLog 33 = .ok (.if_icmp .ne 23, 3) := by decide +kernel
theorem dX2_amountByLog_36 : decode cX2_amountByLog 36 = .ok (.iload_n 2, 1) := by decide +kernel
theorem dX2_amountByLog_37 : decode cX2_amountByLog 37 = .ok (.aload_n 0, 1) := by decide +kernel
theorem dX2_amountByLog_38 : decode cX2_amountByLog 38 = .ok (.getfield 10, 3) := by decide +kernel
theorem dX2_amountByLog_41 : decode cX2_amountByLog 41 = .ok (.aload_n 0, 1) := by decide +kernel
theorem dX2_amountByLog_42 : decode cX2_amountByLog 42 = .ok (.getfield 10, 3) := by decide +kernel
theorem dX2_amountByLog_45 : decode cX2_amountByLog 45 = .ok (.iload_n 1, 1) := by decide +kernel
theorem dX2_amountByLog_46 : decode cX2_amountByLog 46 = .ok (.iload_n 3, 1) := by decide +kernel
theorem dX2_amountByLog_47 : decode cX2_amountByLog 47 = .ok (.invokevirtual 194, 3) := by decide +kernel
theorem dX2_amountByLog_50 : decode cX2_amountByLog 50 = .ok (.iload_n 1, 1) := by decide +kernel
theorem dX2_amountByLog_51 : decode cX2_amountByLog 51 = .ok (.invokevirtual 181, 3) := by decide +kernel
theorem dX2_amountByLog_54 : decode cX2_amountByLog 54 = .ok (.iadd, 1) := by decide +kernel
theorem dX2_amountByLog_55 : decode cX2_amountByLog 55 = .ok (.istore_n 2, 1) := by decide +kernel
theorem dX2_amountByLog_56 : decode cX2_amountByLog 56 = .ok (.iinc 3 1, 3) := by decide +kernel
theorem dX2_amountByLog_59 : decode cX2_amountByLog 59 = .ok (.goto (-49), 3) := by decide +kernel
theorem dX2_amountByLog_62 : decode cX2_amountByLog 62 = .ok (.iload_n 2, 1) := by decide +kernel
theorem dX2_amountByLog_63 : decode cX2_amountByLog 63 = .ok (.ireturn, 1) := by decide +kernel
theorem dX2_state_0 : decode cX2_state 0 = .ok (.aload_n 0, 1) := by decide +kernel
theorem dX2_state_1 : decode cX2_state 1 = .ok (.iload_n 1, 1) := by decide +kernel
theorem dX2_state_2 : decode cX2_state 2 = .ok (.invokevirtual 51, 3) := by decide +kernel
theorem dX2_state_5 : decode cX2_state 5 = .ok (.aload_n 0, 1) := by decide +kernel
theorem dX2_state_6 : decode cX2_state 6 = .ok (.iload_n 2, 1) := by decide +kernel
theorem dX2_state_7 : decode cX2_state 7 = .ok (.invokevirtual 82, 3) := by decide +kernel
theorem dX2_state_10 : decode cX2_state 10 = .ok (.aload_n 0, 1) := by decide +kernel
theorem dX2_state_11 : decode cX2_state 11 = .ok (.getfield 10, 3) := by decide +kernel
theorem dX2_state_14 : decode cX2_state 14 = .ok (.iload_n 1, 1) := by decide +kernel
theorem dX2_state_15 : decode cX2_state 15 = .ok (.iload_n 2, 1) := by decide +kernel
theorem dX2_state_16 : decode cX2_state 16 = .ok (.invokevirtual 197, 3) := by decide +kernel
theorem dX2_state_19 : decode cX2_state 19 = .ok (.ireturn, 1) := by decide +kernel
theorem dX2_stateByLog_0 : decode cX2_stateByLog 0 = .ok (.aload_n 0, 1) := by decide +kernel
theorem dX2_stateByLog_1 : decode cX2_stateByLog 1 = .ok (.iload_n 1, 1) := by decide +kernel
theorem dX2_stateByLog_2 : decode cX2_stateByLog 2 = .ok (.invokevirtual 51, 3) := by decide +kernel
theorem dX2_stateByLog_5 : decode cX2_stateByLog 5 = .ok (.aload_n 0, 1) := by decide +kernel
theorem dX2_stateByLog_6 : decode cX2_stateByLog 6 = .ok (.iload_n 2, 1) := by decide +kernel
theorem dX2_stateByLog_7 : decode cX2_stateByLog 7 = .ok (.invokevirtual 82, 3) := by decide +kernel
theorem dX2_stateByLog_10 : decode cX2_stateByLog 10 = .ok (.iconst 0, 1) := by decide +kernel
theorem dX2_stateByLog_11 : decode cX2_stateByLog 11 = .ok (.istore_n 3, 1) := by decide +kernel
theorem dX2_stateByLog_12 : decode cX2_stateByLog 12 = .ok (.iconst 0, 1) := by decide +kernel
theorem dX2_stateByLog_13 : decode cX2_stateByLog 13 = .ok (.istore 4, 2) := by decide +kernel
theorem dX2_stateByLog_15 : decode cX2_stateByLog 15 = .ok (.iload 4, 2) := by decide +kernel
theorem dX2_stateByLog_17 : decode cX2_stateByLog 17 = .ok (.aload_n 0, 1) := by decide +kernel
theorem dX2_stateByLog_18 : decode cX2_stateByLog 18 = .ok (.getfield 10, 3) := by decide +kernel
theorem dX2_stateByLog_21 : decode cX2_stateByLog 21 = .ok (.getfield 188, 3) := by decide +kernel
theorem dX2_stateByLog_24 : decode cX2_stateByLog 24 = .ok (.iload_n 1, 1) := by decide +kernel
theorem dX2_stateByLog_25 : decode cX2_stateByLog 25 = .ok (.iaload, 1) := by decide +kernel
theorem dX2_stateByLog_26 : decode cX2_stateByLog 26 = .ok (.if_icmp .ge 37, 3) := by decide +kernel
theorem dX2_stateByLog_29 : decode cX2_stateByLog 29 = .ok (.aload_n 0, 1) := by decide +kernel
theorem dX2_stateByLog_30 : decode cX2_stateByLog 30 = .ok (.getfield 10, 3) := by decide +kernel
theorem dX2_stateByLog_33 : decode cX2_stateByLog 33 = .ok (.iload_n 1, 1) := by decide +kernel
theorem dX2_stateByLog_34 : decode cX2_stateByLog 34 = .ok (.iload 4, 2) := by decide +kernel
theorem dX2_stateByLog_36 : decode cX2_stateByLog 36 = .ok (.invokevirtual 194, 3) := by decide +kernel
theorem dX2_stateByLog_39 : decode cX2_stateByLog 39 = .ok (.iload_n 2, 1) := by decide +kernel
theorem dX2_stateByLog_40 : decode cX2_stateByLog 40 = .ok (.if_icmp .ne 17, 3) := by decide +kernel
theorem dX2_stateByLog_43 : decode cX2_stateByLog 43 = .ok (.aload_n 0, 1) := by decide +kernel
theorem dX2_stateByLog_44 : decode cX2_stateByLog 44 = .ok (.getfield 10, 3) := by decide +kernel
theorem dX2_stateByLog_47 : decode cX2_stateByLog 47 = .ok (.iload_n 1, 1) := by decide +kernel
theorem dX2_stateByLog_48 : decode cX2_stateByLog 48 = .ok (.iload 4, 2) := by decide +kernel
theorem dX2_stateByLog_50 : decode cX2_stateByLog 50 = .ok (.invokevirtual 191, 3) := by decide +kernel
theorem dX2_stateByLog_53 : decode cX2_stateByLog 53 = .ok (.invokestatic 200, 3) := by decide +kernel
theorem dX2_stateByLog_56 : decode cX2_stateByLog 56 = .ok (.istore_n 3, 1) := by decide +kernel
theorem dX2_stateByLog_57 : decode cX2_stateByLog 57 = .ok (.iinc 4 1, 3) := by decide +kernel
theorem dX2_stateByLog_60 : decode cX2_stateByLog 60 = .ok (.goto (-45), 3) := by decide +kernel
theorem dX2_stateByLog_63 : decode cX2_stateByLog 63 = .ok (.iload_n 3, 1) := by decide +kernel
theorem dX2_stateByLog_64 : decode cX2_stateByLog 64 = .ok (.ireturn, 1) := by decide +kernel
theorem dX2_outcome_0 : decode cX2_outcome 0 = .ok (.aload_n 0, 1) := by decide +kernel
theorem dX2_outcome_1 : decode cX2_outcome 1 = .ok (.iload_n 1, 1) := by decide +kernel
theorem dX2_outcome_2 : decode cX2_outcome 2 = .ok (.invokevirtual 82, 3) := by decide +kernel
theorem dX2_outcome_5 : decode cX2_outcome 5 = .ok (.aload_n 0, 1) := by decide +kernel
theorem dX2_outcome_6 : decode cX2_outcome 6 = .ok (.getfield 10, 3) := by decide +kernel
theorem dX2_outcome_9 : decode cX2_outcome 9 = .ok (.iload_n 1, 1) := by decide +kernel
theorem dX2_outcome_10 : decode cX2_outcome 10 = .ok (.invokevirtual 203, 3) := by decide +kernel
theorem dX2_outcome_13 : decode cX2_outcome 13 = .ok (.ireturn, 1) := by decide +kernel
theorem dX2_outcomeByStores_0 : decode cX2_outcomeByStores 0 = .ok (.aload_n 0, 1) := by decide +kernel
theorem dX2_outcomeByStores_1 : decode cX2_outcomeByStores 1 = .ok (.iload_n 1, 1) := by decide +kernel
theorem dX2_outcomeByStores_2 : decode cX2_outcomeByStores 2 = .ok (.invokevirtual 82, 3) := by decide +kernel
theorem dX2_outcomeByStores_5 : decode cX2_outcomeByStores 5 = .ok (.iconst 0, 1) := by decide +kernel
theorem dX2_outcomeByStores_6 : decode cX2_outcomeByStores 6 = .ok (.istore_n 2, 1) := by decide +kernel
theorem dX2_outcomeByStores_7 : decode cX2_outcomeByStores 7 = .ok (.iconst 0, 1) := by decide +kernel
theorem dX2_outcomeByStores_8 : decode cX2_outcomeByStores 8 = .ok (.istore_n 3, 1) := by decide +kernel
theorem dX2_outcomeByStores_9 : decode cX2_outcomeByStores 9 = .ok (.iload_n 3, 1) := by decide +kernel
theorem dX2_outcomeByStores_10 : decode cX2_outcomeByStores 10 = .ok (.iconst 4, 1) := by decide +kernel
theorem dX2_outcomeByStores_11 : decode cX2_outcomeByStores 11 = .ok (.if_icmp .ge 43, 3) := by decide +kernel
theorem dX2_outcomeByStores_14 : decode cX2_outcomeByStores 14 = .ok (.aload_n 0, 1) := by decide +kernel
theorem dX2_outcomeByStores_15 : decode cX2_outcomeByStores 15 = .ok (.getfield 10, 3) := by decide +kernel
theorem dX2_outcomeByStores_18 : decode cX2_outcomeByStores 18 = .ok (.iload_n 3, 1) := by decide +kernel
theorem dX2_outcomeByStores_19 : decode cX2_outcomeByStores 19 = .ok (.iload_n 1, 1) := by decide +kernel
theorem dX2_outcomeByStores_20 : decode cX2_outcomeByStores 20 = .ok (.invokevirtual 197, 3) := by decide +kernel
theorem dX2_outcomeByStores_23 : decode cX2_outcomeByStores 23 = .ok (.istore 4, 2) := by decide +kernel
theorem dX2_outcomeByStores_25 : decode cX2_outcomeByStores 25 = .ok (.iload 4, 2) := by decide +kernel
theorem dX2_outcomeByStores_27 : decode cX2_outcomeByStores 27 = .ok (.iconst 2, 1) := by decide +kernel
theorem dX2_outcomeByStores_28 : decode cX2_outcomeByStores 28 = .ok (.if_icmp .ne 10, 3) := by decide +kernel
theorem dX2_outcomeByStores_31 : decode cX2_outcomeByStores 31 = .ok (.iload_n 2, 1) := by decide +kernel
theorem dX2_outcomeByStores_32 : decode cX2_outcomeByStores 32 = .ok (.iconst 1, 1) := by decide +kernel
theorem dX2_outcomeByStores_33 : decode cX2_outcomeByStores 33 = .ok (.ior, 1) := by decide +kernel
theorem dX2_outcomeByStores_34 : decode cX2_outcomeByStores 34 = .ok (.istore_n 2, 1) := by decide +kernel
theorem dX2_outcomeByStores_35 : decode cX2_outcomeByStores 35 = .ok (.goto 13, 3) := by decide +kernel
theorem dX2_outcomeByStores_38 : decode cX2_outcomeByStores 38 = .ok (.iload 4, 2) := by decide +kernel
theorem dX2_outcomeByStores_40 : decode cX2_outcomeByStores 40 = .ok (.iconst 3, 1) := by decide +kernel
theorem dX2_outcomeByStores_41 : decode cX2_outcomeByStores 41 = .ok (.if_icmp .ne 7, 3) := by decide +kernel
theorem dX2_outcomeByStores_44 : decode cX2_outcomeByStores 44 = .ok (.iload_n 2, 1) := by decide +kernel
theorem dX2_outcomeByStores_45 : decode cX2_outcomeByStores 45 = .ok (.iconst 2, 1) := by decide +kernel
theorem dX2_outcomeByStores_46 : decode cX2_outcomeByStores 46 = .ok (.ior, 1) := by decide +kernel
theorem dX2_outcomeByStores_47 : decode cX2_outcomeByStores 47 = .ok (.istore_n 2, 1) := by decide +kernel
theorem dX2_outcomeByStores_48 : decode cX2_outcomeByStores 48 = .ok (.iinc 3 1, 3) := by decide +kernel
theorem dX2_outcomeByStores_51 : decode cX2_outcomeByStores 51 = .ok (.goto (-42), 3) := by decide +kernel
theorem dX2_outcomeByStores_54 : decode cX2_outcomeByStores 54 = .ok (.iload_n 2, 1) := by decide +kernel
theorem dX2_outcomeByStores_55 : decode cX2_outcomeByStores 55 = .ok (.ireturn, 1) := by decide +kernel
theorem dX2_hasEnded_0 : decode cX2_hasEnded 0 = .ok (.aload_n 0, 1) := by decide +kernel
theorem dX2_hasEnded_1 : decode cX2_hasEnded 1 = .ok (.iload_n 1, 1) := by decide +kernel
theorem dX2_hasEnded_2 : decode cX2_hasEnded 2 = .ok (.invokevirtual 82, 3) := by decide +kernel
theorem dX2_hasEnded_5 : decode cX2_hasEnded 5 = .ok (.aload_n 0, 1) := by decide +kernel
theorem dX2_hasEnded_6 : decode cX2_hasEnded 6 = .ok (.getfield 10, 3) := by decide +kernel
theorem dX2_hasEnded_9 : decode cX2_hasEnded 9 = .ok (.iload_n 1, 1) := by decide +kernel
theorem dX2_hasEnded_10 : decode cX2_hasEnded 10 = .ok (.invokevirtual 206, 3) := by decide +kernel
theorem dX2_hasEnded_13 : decode cX2_hasEnded 13 = .ok (.ireturn, 1) := by decide +kernel
theorem dX2_saidYes_0 : decode cX2_saidYes 0 = .ok (.aload_n 0, 1) := by decide +kernel
theorem dX2_saidYes_1 : decode cX2_saidYes 1 = .ok (.iload_n 1, 1) := by decide +kernel
theorem dX2_saidYes_2 : decode cX2_saidYes 2 = .ok (.invokevirtual 82, 3) := by decide +kernel
theorem dX2_saidYes_5 : decode cX2_saidYes 5 = .ok (.aload_n 0, 1) := by decide +kernel
theorem dX2_saidYes_6 : decode cX2_saidYes 6 = .ok (.getfield 10, 3) := by decide +kernel
theorem dX2_saidYes_9 : decode cX2_saidYes 9 = .ok (.getfield 209, 3) := by decide +kernel
theorem dX2_saidYes_12 : decode cX2_saidYes 12 = .ok (.iload_n 1, 1) := by decide +kernel
theorem dX2_saidYes_13 : decode cX2_saidYes 13 = .ok (.iaload, 1) := by decide +kernel
theorem dX2_saidYes_14 : decode cX2_saidYes 14 = .ok (.ireturn, 1) := by decide +kernel
theorem dX2_saidDone_0 : decode cX2_saidDone 0 = .ok (.aload_n 0, 1) := by decide +kernel
theorem dX2_saidDone_1 : decode cX2_saidDone 1 = .ok (.iload_n 1, 1) := by decide +kernel
theorem dX2_saidDone_2 : decode cX2_saidDone 2 = .ok (.invokevirtual 82, 3) := by decide +kernel
theorem dX2_saidDone_5 : decode cX2_saidDone 5 = .ok (.aload_n 0, 1) := by decide +kernel
theorem dX2_saidDone_6 : decode cX2_saidDone 6 = .ok (.getfield 10, 3) := by decide +kernel
theorem dX2_saidDone_9 : decode cX2_saidDone 9 = .ok (.getfield 212, 3) := by decide +kernel
theorem dX2_saidDone_12 : decode cX2_saidDone 12 = .ok (.iload_n 1, 1) := by decide +kernel
theorem dX2_saidDone_13 : decode cX2_saidDone 13 = .ok (.iaload, 1) := by decide +kernel
theorem dX2_saidDone_14 : decode cX2_saidDone 14 = .ok (.ireturn, 1) := by decide +kernel
theorem dX2_total_0 : decode cX2_total 0 = .ok (.iconst 0, 1) := by decide +kernel
theorem dX2_total_1 : decode cX2_total 1 = .ok (.istore_n 1, 1) := by decide +kernel
theorem dX2_total_2 : decode cX2_total 2 = .ok (.iconst 0, 1) := by decide +kernel
theorem dX2_total_3 : decode cX2_total 3 = .ok (.istore_n 2, 1) := by decide +kernel
theorem dX2_total_4 : decode cX2_total 4 = .ok (.iload_n 2, 1) := by decide +kernel
theorem dX2_total_5 : decode cX2_total 5 = .ok (.iconst 4, 1) := by decide +kernel
theorem dX2_total_6 : decode cX2_total 6 = .ok (.if_icmp .ge 21, 3) := by decide +kernel
theorem dX2_total_9 : decode cX2_total 9 = .ok (.iload_n 1, 1) := by decide +kernel
theorem dX2_total_10 : decode cX2_total 10 = .ok (.aload_n 0, 1) := by decide +kernel
theorem dX2_total_11 : decode cX2_total 11 = .ok (.getfield 10, 3) := by decide +kernel
theorem dX2_total_14 : decode cX2_total 14 = .ok (.getfield 185, 3) := by decide +kernel
theorem dX2_total_17 : decode cX2_total 17 = .ok (.iload_n 2, 1) := by decide +kernel
theorem dX2_total_18 : decode cX2_total 18 = .ok (.iaload, 1) := by decide +kernel
theorem dX2_total_19 : decode cX2_total 19 = .ok (.iadd, 1) := by decide +kernel
theorem dX2_total_20 : decode cX2_total 20 = .ok (.istore_n 1, 1) := by decide +kernel
theorem dX2_total_21 : decode cX2_total 21 = .ok (.iinc 2 1, 3) := by decide +kernel
theorem dX2_total_24 : decode cX2_total 24 = .ok (.goto (-20), 3) := by decide +kernel
theorem dX2_total_27 : decode cX2_total 27 = .ok (.iload_n 1, 1) := by decide +kernel
theorem dX2_total_28 : decode cX2_total 28 = .ok (.ireturn, 1) := by decide +kernel
theorem dX2_onTheWay_0 : decode cX2_onTheWay 0 = .ok (.iconst 0, 1) := by decide +kernel
theorem dX2_onTheWay_1 : decode cX2_onTheWay 1 = .ok (.istore_n 1, 1) := by decide +kernel
theorem dX2_onTheWay_2 : decode cX2_onTheWay 2 = .ok (.iconst 0, 1) := by decide +kernel
theorem dX2_onTheWay_3 : decode cX2_onTheWay 3 = .ok (.istore_n 2, 1) := by decide +kernel
theorem dX2_onTheWay_4 : decode cX2_onTheWay 4 = .ok (.iload_n 2, 1) := by decide +kernel
theorem dX2_onTheWay_5 : decode cX2_onTheWay 5 = .ok (.aload_n 0, 1) := by decide +kernel
theorem dX2_onTheWay_6 : decode cX2_onTheWay 6 = .ok (.getfield 10, 3) := by decide +kernel
theorem dX2_onTheWay_9 : decode cX2_onTheWay 9 = .ok (.getfield 175, 3) := by decide +kernel
theorem dX2_onTheWay_12 : decode cX2_onTheWay 12 = .ok (.if_icmp .ge 33, 3) := by decide +kernel
theorem dX2_onTheWay_15 : decode cX2_onTheWay 15 = .ok (.aload_n 0, 1) := by decide +kernel
theorem dX2_onTheWay_16 : decode cX2_onTheWay 16 = .ok (.getfield 10, 3) := by decide +kernel
theorem dX2_onTheWay_19 : decode cX2_onTheWay 19 = .ok (.getfield 215, 3) := by decide +kernel
theorem dX2_onTheWay_22 : decode cX2_onTheWay 22 = .ok (.iload_n 2, 1) := by decide +kernel
theorem dX2_onTheWay_23 : decode cX2_onTheWay 23 = .ok (.iaload, 1) := by decide +kernel
theorem dX2_onTheWay_24 : decode cX2_onTheWay 24 = .ok (.iconst 1, 1) := by decide +kernel
theorem dX2_onTheWay_25 : decode cX2_onTheWay 25 = .ok (.if_icmp .ne 14, 3) := by decide +kernel
theorem dX2_onTheWay_28 : decode cX2_onTheWay 28 = .ok (.iload_n 1, 1) := by decide +kernel
theorem dX2_onTheWay_29 : decode cX2_onTheWay 29 = .ok (.aload_n 0, 1) := by decide +kernel
theorem dX2_onTheWay_30 : decode cX2_onTheWay 30 = .ok (.getfield 10, 3) := by decide +kernel
theorem dX2_onTheWay_33 : decode cX2_onTheWay 33 = .ok (.iload_n 2, 1) := by decide +kernel
theorem dX2_onTheWay_34 : decode cX2_onTheWay 34 = .ok (.invokevirtual 218, 3) := by decide +kernel
theorem dX2_onTheWay_37 : decode cX2_onTheWay 37 = .ok (.iadd, 1) := by decide +kernel
theorem dX2_onTheWay_38 : decode cX2_onTheWay 38 = .ok (.istore_n 1, 1) := by decide +kernel
theorem dX2_onTheWay_39 : decode cX2_onTheWay 39 = .ok (.iinc 2 1, 3) := by decide +kernel
theorem dX2_onTheWay_42 : decode cX2_onTheWay 42 = .ok (.goto (-38), 3) := by decide +kernel
theorem dX2_onTheWay_45 : decode cX2_onTheWay 45 = .ok (.iload_n 1, 1) := by decide +kernel
theorem dX2_onTheWay_46 : decode cX2_onTheWay 46 = .ok (.ireturn, 1) := by decide +kernel
theorem dX2_records_0 : decode cX2_records 0 = .ok (.aload_n 0, 1) := by decide +kernel
theorem dX2_records_1 : decode cX2_records 1 = .ok (.iload_n 1, 1) := by decide +kernel
theorem dX2_records_2 : decode cX2_records 2 = .ok (.invokevirtual 121, 3) := by decide +kernel
theorem dX2_records_5 : decode cX2_records 5 = .ok (.aload_n 0, 1) := by decide +kernel
theorem dX2_records_6 : decode cX2_records 6 = .ok (.getfield 10, 3) := by decide +kernel
theorem dX2_records_9 : decode cX2_records 9 = .ok (.getfield 188, 3) := by decide +kernel
theorem dX2_records_12 : decode cX2_records 12 = .ok (.iload_n 1, 1) := by decide +kernel
theorem dX2_records_13 : decode cX2_records 13 = .ok (.iaload, 1) := by decide +kernel
theorem dX2_records_14 : decode cX2_records 14 = .ok (.ireturn, 1) := by decide +kernel
theorem dX2_waiting_0 : decode cX2_waiting 0 = .ok (.aload_n 0, 1) := by decide +kernel
theorem dX2_waiting_1 : decode cX2_waiting 1 = .ok (.getfield 10, 3) := by decide +kernel
theorem dX2_waiting_4 : decode cX2_waiting 4 = .ok (.getfield 94, 3) := by decide +kernel
theorem dX2_waiting_7 : decode cX2_waiting 7 = .ok (.ireturn, 1) := by decide +kernel
theorem dX2_kindOf_0 : decode cX2_kindOf 0 = .ok (.aload_n 0, 1) := by decide +kernel
theorem dX2_kindOf_1 : decode cX2_kindOf 1 = .ok (.iload_n 1, 1) := by decide +kernel
theorem dX2_kindOf_2 : decode cX2_kindOf 2 = .ok (.invokevirtual 221, 3) := by decide +kernel
theorem dX2_kindOf_5 : decode cX2_kindOf 5 = .ok (.iload_n 1, 1) := by decide +kernel
theorem dX2_kindOf_6 : decode cX2_kindOf 6 = .ok (.aload_n 0, 1) := by decide +kernel
theorem dX2_kindOf_7 : decode cX2_kindOf 7 = .ok (.getfield 10, 3) := by decide +kernel
theorem dX2_kindOf_10 : decode cX2_kindOf 10 = .ok (.getfield 94, 3) := by decide +kernel
theorem dX2_kindOf_13 : decode cX2_kindOf 13 = .ok (.if_icmp .ge 18, 3) := by decide +kernel
theorem dX2_kindOf_16 : decode cX2_kindOf 16 = .ok (.aload_n 0, 1) := by decide +kernel
theorem dX2_kindOf_17 : decode cX2_kindOf 17 = .ok (.getfield 10, 3) := by decide +kernel
theorem dX2_kindOf_20 : decode cX2_kindOf 20 = .ok (.getfield 224, 3) := by decide +kernel
theorem dX2_kindOf_23 : decode cX2_kindOf 23 = .ok (.iload_n 1, 1) := by decide +kernel
theorem dX2_kindOf_24 : decode cX2_kindOf 24 = .ok (.iaload, 1) := by decide +kernel
theorem dX2_kindOf_25 : decode cX2_kindOf 25 = .ok (.invokestatic 227, 3) := by decide +kernel
theorem dX2_kindOf_28 : decode cX2_kindOf 28 = .ok (.goto 4, 3) := by decide +kernel
theorem dX2_kindOf_31 : decode cX2_kindOf 31 = .ok (.iconst (-1), 1) := by decide +kernel
theorem dX2_kindOf_32 : decode cX2_kindOf 32 = .ok (.ireturn, 1) := by decide +kernel
theorem dX2_transferOf_0 : decode cX2_transferOf 0 = .ok (.aload_n 0, 1) := by decide +kernel
theorem dX2_transferOf_1 : decode cX2_transferOf 1 = .ok (.iload_n 1, 1) := by decide +kernel
theorem dX2_transferOf_2 : decode cX2_transferOf 2 = .ok (.invokevirtual 221, 3) := by decide +kernel
theorem dX2_transferOf_5 : decode cX2_transferOf 5 = .ok (.iload_n 1, 1) := by decide +kernel
theorem dX2_transferOf_6 : decode cX2_transferOf 6 = .ok (.aload_n 0, 1) := by decide +kernel
theorem dX2_transferOf_7 : decode cX2_transferOf 7 = .ok (.getfield 10, 3) := by decide +kernel
theorem dX2_transferOf_10 : decode cX2_transferOf 10 = .ok (.getfield 94, 3) := by decide +kernel
theorem dX2_transferOf_13 : decode cX2_transferOf 13 = .ok (.if_icmp .ge 18, 3) := by decide +kernel
theorem dX2_transferOf_16 : decode cX2_transferOf 16 = .ok (.aload_n 0, 1) := by decide +kernel
theorem dX2_transferOf_17 : decode cX2_transferOf 17 = .ok (.getfield 10, 3) := by decide +kernel
theorem dX2_transferOf_20 : decode cX2_transferOf 20 = .ok (.getfield 224, 3) := by decide +kernel
theorem dX2_transferOf_23 : decode cX2_transferOf 23 = .ok (.iload_n 1, 1) := by decide +kernel
theorem dX2_transferOf_24 : decode cX2_transferOf 24 = .ok (.iaload, 1) := by decide +kernel
theorem dX2_transferOf_25 : decode cX2_transferOf 25 = .ok (.invokestatic 230, 3) := by decide +kernel
theorem dX2_transferOf_28 : decode cX2_transferOf 28 = .ok (.goto 4, 3) := by decide +kernel
theorem dX2_transferOf_31 : decode cX2_transferOf 31 = .ok (.iconst (-1), 1) := by decide +kernel
theorem dX2_transferOf_32 : decode cX2_transferOf 32 = .ok (.ireturn, 1) := by decide +kernel
theorem dX2_storeOf_0 : decode cX2_storeOf 0 = .ok (.aload_n 0, 1) := by decide +kernel
theorem dX2_storeOf_1 : decode cX2_storeOf 1 = .ok (.iload_n 1, 1) := by decide +kernel
theorem dX2_storeOf_2 : decode cX2_storeOf 2 = .ok (.invokevirtual 221, 3) := by decide +kernel
theorem dX2_storeOf_5 : decode cX2_storeOf 5 = .ok (.iload_n 1, 1) := by decide +kernel
theorem dX2_storeOf_6 : decode cX2_storeOf 6 = .ok (.aload_n 0, 1) := by decide +kernel
theorem dX2_storeOf_7 : decode cX2_storeOf 7 = .ok (.getfield 10, 3) := by decide +kernel
theorem dX2_storeOf_10 : decode cX2_storeOf 10 = .ok (.getfield 94, 3) := by decide +kernel
theorem dX2_storeOf_13 : decode cX2_storeOf 13 = .ok (.if_icmp .ge 18, 3) := by decide +kernel
theorem dX2_storeOf_16 : decode cX2_storeOf 16 = .ok (.aload_n 0, 1) := by decide +kernel
theorem dX2_storeOf_17 : decode cX2_storeOf 17 = .ok (.getfield 10, 3) := by decide +kernel
theorem dX2_storeOf_20 : decode cX2_storeOf 20 = .ok (.getfield 224, 3) := by decide +kernel
theorem dX2_storeOf_23 : decode cX2_storeOf 23 = .ok (.iload_n 1, 1) := by decide +kernel
theorem dX2_storeOf_24 : decode cX2_storeOf 24 = .ok (.iaload, 1) := by decide +kernel
theorem dX2_storeOf_25 : decode cX2_storeOf 25 = .ok (.invokestatic 233, 3) := by decide +kernel
theorem dX2_storeOf_28 : decode cX2_storeOf 28 = .ok (.goto 4, 3) := by decide +kernel
theorem dX2_storeOf_31 : decode cX2_storeOf 31 = .ok (.iconst (-1), 1) := by decide +kernel
theorem dX2_storeOf_32 : decode cX2_storeOf 32 = .ok (.ireturn, 1) := by decide +kernel
theorem dX2_sent_0 : decode cX2_sent 0 = .ok (.aload_n 0, 1) := by decide +kernel
theorem dX2_sent_1 : decode cX2_sent 1 = .ok (.getfield 10, 3) := by decide +kernel
theorem dX2_sent_4 : decode cX2_sent 4 = .ok (.getfield 236, 3) := by decide +kernel
theorem dX2_sent_7 : decode cX2_sent 7 = .ok (.ireturn, 1) := by decide +kernel
theorem dX2_sentByAccount_0 : decode cX2_sentByAccount 0 = .ok (.aload_n 0, 1) := by decide +kernel
theorem dX2_sentByAccount_1 : decode cX2_sentByAccount 1 = .ok (.getfield 10, 3) := by decide +kernel
theorem dX2_sentByAccount_4 : decode cX2_sentByAccount 4 = .ok (.getfield 239, 3) := by decide +kernel
theorem dX2_sentByAccount_7 : decode cX2_sentByAccount 7 = .ok (.aload_n 0, 1) := by decide +kernel
theorem dX2_sentByAccount_8 : decode cX2_sentByAccount 8 = .ok (.getfield 10, 3) := by decide +kernel
theorem dX2_sentByAccount_11 : decode cX2_sentByAccount 11 = .ok (.getfield 242, 3) := by decide +kernel
theorem dX2_sentByAccount_14 : decode cX2_sentByAccount 14 = .ok (.iadd, 1) := by decide +kernel
theorem dX2_sentByAccount_15 : decode cX2_sentByAccount 15 = .ok (.aload_n 0, 1) := by decide +kernel
theorem dX2_sentByAccount_16 : decode cX2_sentByAccount 16 = .ok (.getfield 10, 3) := by decide +kernel
theorem dX2_sentByAccount_19 : decode cX2_sentByAccount 19 = .ok (.getfield 94, 3) := by decide +kernel
theorem dX2_sentByAccount_22 : decode cX2_sentByAccount 22 = .ok (.iadd, 1) := by decide +kernel
theorem dX2_sentByAccount_23 : decode cX2_sentByAccount 23 = .ok (.ireturn, 1) := by decide +kernel
theorem dX2_lost_0 : decode cX2_lost 0 = .ok (.aload_n 0, 1) := by decide +kernel
theorem dX2_lost_1 : decode cX2_lost 1 = .ok (.getfield 10, 3) := by decide +kernel
theorem dX2_lost_4 : decode cX2_lost 4 = .ok (.getfield 242, 3) := by decide +kernel
theorem dX2_lost_7 : decode cX2_lost 7 = .ok (.ireturn, 1) := by decide +kernel
theorem dX2_messagesToSettle_0 : decode cX2_messagesToSettle 0 = .ok (.aload_n 0, 1) := by decide +kernel
theorem dX2_messagesToSettle_1 : decode cX2_messagesToSettle 1 = .ok (.invokevirtual 245, 3) := by decide +kernel
theorem dX2_messagesToSettle_4 : decode cX2_messagesToSettle 4 = .ok (.ireturn, 1) := by decide +kernel
theorem dX2_greatestSize_0 : decode cX2_greatestSize 0 = .ok (.aload_n 0, 1) := by decide +kernel
theorem dX2_greatestSize_1 : decode cX2_greatestSize 1 = .ok (.iload_n 1, 1) := by decide +kernel
theorem dX2_greatestSize_2 : decode cX2_greatestSize 2 = .ok (.invokevirtual 51, 3) := by decide +kernel
theorem dX2_greatestSize_5 : decode cX2_greatestSize 5 = .ok (.aload_n 0, 1) := by decide +kernel
theorem dX2_greatestSize_6 : decode cX2_greatestSize 6 = .ok (.iload_n 1, 1) := by decide +kernel
theorem dX2_greatestSize_7 : decode cX2_greatestSize 7 = .ok (.iload_n 2, 1) := by decide +kernel
theorem dX2_greatestSize_8 : decode cX2_greatestSize 8 = .ok (.invokevirtual 55, 3) := by decide +kernel
theorem dX2_greatestSize_11 : decode cX2_greatestSize 11 = .ok (.bipush 50, 2) := by decide +kernel
theorem dX2_greatestSize_13 : decode cX2_greatestSize 13 = .ok (.istore_n 3, 1) := by decide +kernel
theorem dX2_greatestSize_14 : decode cX2_greatestSize 14 = .ok (.iload_n 3, 1) := by decide +kernel
theorem dX2_greatestSize_15 : decode cX2_greatestSize 15 = .ok (.iconst 1, 1) := by decide +kernel
theorem dX2_greatestSize_16 : decode cX2_greatestSize 16 = .ok (.if_icmp .lt 24, 3) := by decide +kernel
theorem dX2_greatestSize_19 : decode cX2_greatestSize 19 = .ok (.aload_n 0, 1) := by decide +kernel
theorem dX2_greatestSize_20 : decode cX2_greatestSize 20 = .ok (.getfield 10, 3) := by decide +kernel
theorem dX2_greatestSize_23 : decode cX2_greatestSize 23 = .ok (.iload_n 1, 1) := by decide +kernel
theorem dX2_greatestSize_24 : decode cX2_greatestSize 24 = .ok (.iload_n 2, 1) := by decide +kernel
theorem dX2_greatestSize_25 : decode cX2_greatestSize 25 = .ok (.iload_n 3, 1) := by decide +kernel
theorem dX2_greatestSize_26 : decode cX2_greatestSize 26 = .ok (.invokevirtual 248, 3) := by decide +kernel
theorem dX2_greatestSize_29 : decode cX2_greatestSize 29 = .ok (.ifCond .eq 5, 3) := by decide +kernel
theorem dX2_greatestSize_32 : decode cX2_greatestSize 32 = .ok (.iload_n 3, 1) := by decide +kernel
theorem dX2_greatestSize_33 : decode cX2_greatestSize 33 = .ok (.ireturn, 1) := by decide +kernel
theorem dX2_greatestSize_34 : decode cX2_greatestSize 34 = .ok (.iinc 3 (-1), 3) := by decide +kernel
theorem dX2_greatestSize_37 : decode cX2_greatestSize 37 = .ok (.goto (-23), 3) := by decide +kernel
theorem dX2_greatestSize_40 : decode cX2_greatestSize 40 = .ok (.iconst 0, 1) := by decide +kernel
theorem dX2_greatestSize_41 : decode cX2_greatestSize 41 = .ok (.ireturn, 1) := by decide +kernel
theorem dX2_lostShare_0 : decode cX2_lostShare 0 = .ok (.aload_n 0, 1) := by decide +kernel
theorem dX2_lostShare_1 : decode cX2_lostShare 1 = .ok (.getfield 10, 3) := by decide +kernel
theorem dX2_lostShare_4 : decode cX2_lostShare 4 = .ok (.getfield 236, 3) := by decide +kernel
theorem dX2_lostShare_7 : decode cX2_lostShare 7 = .ok (.ifCond .ne 5, 3) := by decide +kernel
theorem dX2_lostShare_10 : decode cX2_lostShare 10 = .ok (.dconst 0, 1) := by decide +kernel
theorem dX2_lostShare_11 : decode cX2_lostShare 11 = .ok (.dreturn, 1) := by decide +kernel
theorem dX2_lostShare_12 : decode cX2_lostShare 12 = .ok (.aload_n 0, 1) := by decide +kernel
theorem dX2_lostShare_13 : decode cX2_lostShare 13 = .ok (.getfield 10, 3) := by decide +kernel
theorem dX2_lostShare_16 : decode cX2_lostShare 16 = .ok (.getfield 242, 3) := by decide +kernel
theorem dX2_lostShare_19 : decode cX2_lostShare 19 = .ok (.i2d, 1) := by decide +kernel
theorem dX2_lostShare_20 : decode cX2_lostShare 20 = .ok (.aload_n 0, 1) := by decide +kernel
theorem dX2_lostShare_21 : decode cX2_lostShare 21 = .ok (.getfield 10, 3) := by decide +kernel
theorem dX2_lostShare_24 : decode cX2_lostShare 24 = .ok (.getfield 236, 3) := by decide +kernel
theorem dX2_lostShare_27 : decode cX2_lostShare 27 = .ok (.i2d, 1) := by decide +kernel
theorem dX2_lostShare_28 : decode cX2_lostShare 28 = .ok (.ddiv, 1) := by decide +kernel
theorem dX2_lostShare_29 : decode cX2_lostShare 29 = .ok (.dreturn, 1) := by decide +kernel
theorem dX2_meanSize_0 : decode cX2_meanSize 0 = .ok (.aload_n 0, 1) := by decide +kernel
theorem dX2_meanSize_1 : decode cX2_meanSize 1 = .ok (.getfield 10, 3) := by decide +kernel
theorem dX2_meanSize_4 : decode cX2_meanSize 4 = .ok (.getfield 175, 3) := by decide +kernel
theorem dX2_meanSize_7 : decode cX2_meanSize 7 = .ok (.ifCond .ne 5, 3) := by decide +kernel
theorem dX2_meanSize_10 : decode cX2_meanSize 10 = .ok (.fconst 0, 1) := by decide +kernel
theorem dX2_meanSize_11 : decode cX2_meanSize 11 = .ok (.freturn, 1) := by decide +kernel
theorem dX2_meanSize_12 : decode cX2_meanSize 12 = .ok (.iconst 0, 1) := by decide +kernel
theorem dX2_meanSize_13 : decode cX2_meanSize 13 = .ok (.istore_n 1, 1) := by decide +kernel
theorem dX2_meanSize_14 : decode cX2_meanSize 14 = .ok (.iconst 0, 1) := by decide +kernel
theorem dX2_meanSize_15 : decode cX2_meanSize 15 = .ok (.istore_n 2, 1) := by decide +kernel
theorem dX2_meanSize_16 : decode cX2_meanSize 16 = .ok (.iload_n 2, 1) := by decide +kernel
theorem dX2_meanSize_17 : decode cX2_meanSize 17 = .ok (.aload_n 0, 1) := by decide +kernel
theorem dX2_meanSize_18 : decode cX2_meanSize 18 = .ok (.getfield 10, 3) := by decide +kernel
theorem dX2_meanSize_21 : decode cX2_meanSize 21 = .ok (.getfield 175, 3) := by decide +kernel
theorem dX2_meanSize_24 : decode cX2_meanSize 24 = .ok (.if_icmp .ge 21, 3) := by decide +kernel
theorem dX2_meanSize_27 : decode cX2_meanSize 27 = .ok (.iload_n 1, 1) := by decide +kernel
theorem dX2_meanSize_28 : decode cX2_meanSize 28 = .ok (.aload_n 0, 1) := by decide +kernel
theorem dX2_meanSize_29 : decode cX2_meanSize 29 = .ok (.getfield 10, 3) := by decide +kernel
theorem dX2_meanSize_32 : decode cX2_meanSize 32 = .ok (.getfield 252, 3) := by decide +kernel
theorem dX2_meanSize_35 : decode cX2_meanSize 35 = .ok (.iload_n 2, 1) := by decide +kernel
theorem dX2_meanSize_36 : decode cX2_meanSize 36 = .ok (.iaload, 1) := by decide +kernel
theorem dX2_meanSize_37 : decode cX2_meanSize 37 = .ok (.iadd, 1) := by decide +kernel
theorem dX2_meanSize_38 : decode cX2_meanSize 38 = .ok (.istore_n 1, 1) := by decide +kernel
theorem dX2_meanSize_39 : decode cX2_meanSize 39 = .ok (.iinc 2 1, 3) := by decide +kernel
theorem dX2_meanSize_42 : decode cX2_meanSize 42 = .ok (.goto (-26), 3) := by decide +kernel
theorem dX2_meanSize_45 : decode cX2_meanSize 45 = .ok (.iload_n 1, 1) := by decide +kernel
theorem dX2_meanSize_46 : decode cX2_meanSize 46 = .ok (.i2f, 1) := by decide +kernel
theorem dX2_meanSize_47 : decode cX2_meanSize 47 = .ok (.aload_n 0, 1) := by decide +kernel
theorem dX2_meanSize_48 : decode cX2_meanSize 48 = .ok (.getfield 10, 3) := by decide +kernel
theorem dX2_meanSize_51 : decode cX2_meanSize 51 = .ok (.getfield 175, 3) := by decide +kernel
theorem dX2_meanSize_54 : decode cX2_meanSize 54 = .ok (.i2f, 1) := by decide +kernel
theorem dX2_meanSize_55 : decode cX2_meanSize 55 = .ok (.fdiv, 1) := by decide +kernel
theorem dX2_meanSize_56 : decode cX2_meanSize 56 = .ok (.freturn, 1) := by decide +kernel
theorem dX2_requireStore_0 : decode cX2_requireStore 0 = .ok (.iload_n 1, 1) := by decide +kernel
theorem dX2_requireStore_1 : decode cX2_requireStore 1 = .ok (.ifCond .lt 8, 3) := by decide +kernel
theorem dX2_requireStore_4 : decode cX2_requireStore 4 = .ok (.iload_n 1, 1) := by decide +kernel
theorem dX2_requireStore_5 : decode cX2_requireStore 5 = .ok (.iconst 4, 1) := by decide +kernel
theorem dX2_requireStore_6 : decode cX2_requireStore 6 = .ok (.if_icmp .lt 14, 3) := by decide +kernel
theorem dX2_requireStore_9 : decode cX2_requireStore 9 = .ok (.new 306, 3) := by decide +kernel
theorem dX2_requireStore_12 : decode cX2_requireStore 12 = .ok (.dup, 1) := by decide +kernel
theorem dX2_requireStore_13 : decode cX2_requireStore 13 = .ok (.ldc_w 308, 3) := by decide +kernel
theorem dX2_requireStore_16 : decode cX2_requireStore 16 = .ok (.invokespecial 310, 3) := by decide +kernel
theorem dX2_requireStore_19 : decode cX2_requireStore 19 = .ok (.athrow, 1) := by decide +kernel
theorem dX2_requireStore_20 : decode cX2_requireStore 20 = .ok (.return_, 1) := by decide +kernel
theorem dX2_requireSite_0 : decode cX2_requireSite 0 = .ok (.iload_n 1, 1) := by decide +kernel
theorem dX2_requireSite_1 : decode cX2_requireSite 1 = .ok (.ifCond .lt 8, 3) := by decide +kernel
theorem dX2_requireSite_4 : decode cX2_requireSite 4 = .ok (.iload_n 1, 1) := by decide +kernel
theorem dX2_requireSite_5 : decode cX2_requireSite 5 = .ok (.iconst 5, 1) := by decide +kernel
theorem dX2_requireSite_6 : decode cX2_requireSite 6 = .ok (.if_icmp .lt 14, 3) := by decide +kernel
theorem dX2_requireSite_9 : decode cX2_requireSite 9 = .ok (.new 306, 3) := by decide +kernel
theorem dX2_requireSite_12 : decode cX2_requireSite 12 = .ok (.dup, 1) := by decide +kernel
theorem dX2_requireSite_13 : decode cX2_requireSite 13 = .ok (.ldc_w 311, 3) := by decide +kernel
theorem dX2_requireSite_16 : decode cX2_requireSite 16 = .ok (.invokespecial 310, 3) := by decide +kernel
theorem dX2_requireSite_19 : decode cX2_requireSite 19 = .ok (.athrow, 1) := by decide +kernel
theorem dX2_requireSite_20 : decode cX2_requireSite 20 = .ok (.return_, 1) := by decide +kernel
theorem dX2_requireTransfer_0 : decode cX2_requireTransfer 0 = .ok (.aload_n 0, 1) := by decide +kernel
theorem dX2_requireTransfer_1 : decode cX2_requireTransfer 1 = .ok (.getfield 10, 3) := by decide +kernel
theorem dX2_requireTransfer_4 : decode cX2_requireTransfer 4 = .ok (.iload_n 1, 1) := by decide +kernel
theorem dX2_requireTransfer_5 : decode cX2_requireTransfer 5 = .ok (.invokevirtual 313, 3) := by decide +kernel
theorem dX2_requireTransfer_8 : decode cX2_requireTransfer 8 = .ok (.ifCond .ne 14, 3) := by decide +kernel
theorem dX2_requireTransfer_11 : decode cX2_requireTransfer 11 = .ok (.new 306, 3) := by decide +kernel
theorem dX2_requireTransfer_14 : decode cX2_requireTransfer 14 = .ok (.dup, 1) := by decide +kernel
theorem dX2_requireTransfer_15 : decode cX2_requireTransfer 15 = .ok (.ldc_w 316, 3) := by decide +kernel
theorem dX2_requireTransfer_18 : decode cX2_requireTransfer 18 = .ok (.invokespecial 310, 3) := by decide +kernel
theorem dX2_requireTransfer_21 : decode cX2_requireTransfer 21 = .ok (.athrow, 1) := by decide +kernel
theorem dX2_requireTransfer_22 : decode cX2_requireTransfer 22 = .ok (.return_, 1) := by decide +kernel
theorem dX2_requireMessage_0 : decode cX2_requireMessage 0 = .ok (.aload_n 0, 1) := by decide +kernel
theorem dX2_requireMessage_1 : decode cX2_requireMessage 1 = .ok (.getfield 10, 3) := by decide +kernel
theorem dX2_requireMessage_4 : decode cX2_requireMessage 4 = .ok (.iload_n 1, 1) := by decide +kernel
theorem dX2_requireMessage_5 : decode cX2_requireMessage 5 = .ok (.invokevirtual 318, 3) := by decide +kernel
theorem dX2_requireMessage_8 : decode cX2_requireMessage 8 = .ok (.ifCond .ne 14, 3) := by decide +kernel
theorem dX2_requireMessage_11 : decode cX2_requireMessage 11 = .ok (.new 306, 3) := by decide +kernel
theorem dX2_requireMessage_14 : decode cX2_requireMessage 14 = .ok (.dup, 1) := by decide +kernel
theorem dX2_requireMessage_15 : decode cX2_requireMessage 15 = .ok (.ldc_w 321, 3) := by decide +kernel
theorem dX2_requireMessage_18 : decode cX2_requireMessage 18 = .ok (.invokespecial 310, 3) := by decide +kernel
theorem dX2_requireMessage_21 : decode cX2_requireMessage 21 = .ok (.athrow, 1) := by decide +kernel
theorem dX2_requireMessage_22 : decode cX2_requireMessage 22 = .ok (.return_, 1) := by decide +kernel
theorem dX2_requireNotBelowZero_0 : decode cX2_requireNotBelowZero 0 = .ok (.iload_n 1, 1) := by decide +kernel
theorem dX2_requireNotBelowZero_1 : decode cX2_requireNotBelowZero 1 = .ok (.ifCond .ge 14, 3) := by decide +kernel
theorem dX2_requireNotBelowZero_4 : decode cX2_requireNotBelowZero 4 = .ok (.new 306, 3) := by decide +kernel
theorem dX2_requireNotBelowZero_7 : decode cX2_requireNotBelowZero 7 = .ok (.dup, 1) := by decide +kernel
theorem dX2_requireNotBelowZero_8 : decode cX2_requireNotBelowZero 8 = .ok (.ldc_w 323, 3) := by decide +kernel
theorem dX2_requireNotBelowZero_11 : decode cX2_requireNotBelowZero 11 = .ok (.invokespecial 310, 3) := by decide +kernel
theorem dX2_requireNotBelowZero_14 : decode cX2_requireNotBelowZero 14 = .ok (.athrow, 1) := by decide +kernel
theorem dX2_requireNotBelowZero_15 : decode cX2_requireNotBelowZero 15 = .ok (.return_, 1) := by decide +kernel
theorem dX2_requireTakers_0 : decode cX2_requireTakers 0 = .ok (.iload_n 2, 1) := by decide +kernel
theorem dX2_requireTakers_1 : decode cX2_requireTakers 1 = .ok (.iconst 1, 1) := by decide +kernel
theorem dX2_requireTakers_2 : decode cX2_requireTakers 2 = .ok (.if_icmp .lt 18, 3) := by decide +kernel
theorem dX2_requireTakers_5 : decode cX2_requireTakers 5 = .ok (.iload_n 2, 1) := by decide +kernel
theorem dX2_requireTakers_6 : decode cX2_requireTakers 6 = .ok (.bipush 15, 2) := by decide +kernel
theorem dX2_requireTakers_8 : decode cX2_requireTakers 8 = .ok (.if_icmp .gt 12, 3) := by decide +kernel
theorem dX2_requireTakers_11 : decode cX2_requireTakers 11 = .ok (.iload_n 2, 1) := by decide +kernel
theorem dX2_requireTakers_12 : decode cX2_requireTakers 12 = .ok (.iload_n 1, 1) := by decide +kernel
theorem dX2_requireTakers_13 : decode cX2_requireTakers 13 = .ok (.ishr, 1) := by decide +kernel
theorem dX2_requireTakers_14 : decode cX2_requireTakers 14 = .ok (.iconst 1, 1) := by decide +kernel
theorem dX2_requireTakers_15 : decode cX2_requireTakers 15 = .ok (.iand, 1) := by decide +kernel
theorem dX2_requireTakers_16 : decode cX2_requireTakers 16 = .ok (.iconst 1, 1) := by decide +kernel
theorem dX2_requireTakers_17 : decode cX2_requireTakers 17 = .ok (.if_icmp .ne 14, 3) := by decide +kernel
theorem dX2_requireTakers_20 : decode cX2_requireTakers 20 = .ok (.new 59, 3) := by decide +kernel
theorem dX2_requireTakers_23 : decode cX2_requireTakers 23 = .ok (.dup, 1) := by decide +kernel
theorem dX2_requireTakers_24 : decode cX2_requireTakers 24 = .ok (.ldc_w 325, 3) := by decide +kernel
theorem dX2_requireTakers_27 : decode cX2_requireTakers 27 = .ok (.invokespecial 63, 3) := by decide +kernel
theorem dX2_requireTakers_30 : decode cX2_requireTakers 30 = .ok (.athrow, 1) := by decide +kernel
theorem dX2_requireTakers_31 : decode cX2_requireTakers 31 = .ok (.return_, 1) := by decide +kernel
theorem dX2_save_0 : decode cX2_save 0 = .ok (.aload_n 0, 1) := by decide +kernel
theorem dX2_save_1 : decode cX2_save 1 = .ok (.getfield 40, 3) := by decide +kernel
theorem dX2_save_4 : decode cX2_save 4 = .ok (.bipush 6, 2) := by decide +kernel
theorem dX2_save_6 : decode cX2_save 6 = .ok (.if_icmp .lt 50, 3) := by decide +kernel
theorem dX2_save_9 : decode cX2_save 9 = .ok (.aload_n 0, 1) := by decide +kernel
theorem dX2_save_10 : decode cX2_save 10 = .ok (.getfield 25, 3) := by decide +kernel
theorem dX2_save_13 : decode cX2_save 13 = .ok (.iconst 0, 1) := by decide +kernel
theorem dX2_save_14 : decode cX2_save 14 = .ok (.aaload, 1) := by decide +kernel
theorem dX2_save_15 : decode cX2_save 15 = .ok (.astore_n 1, 1) := by decide +kernel
theorem dX2_save_16 : decode cX2_save 16 = .ok (.iconst 1, 1) := by decide +kernel
theorem dX2_save_17 : decode cX2_save 17 = .ok (.istore_n 2, 1) := by decide +kernel
theorem dX2_save_18 : decode cX2_save 18 = .ok (.iload_n 2, 1) := by decide +kernel
theorem dX2_save_19 : decode cX2_save 19 = .ok (.bipush 6, 2) := by decide +kernel
theorem dX2_save_21 : decode cX2_save 21 = .ok (.if_icmp .ge 23, 3) := by decide +kernel
theorem dX2_save_24 : decode cX2_save 24 = .ok (.aload_n 0, 1) := by decide +kernel
theorem dX2_save_25 : decode cX2_save 25 = .ok (.getfield 25, 3) := by decide +kernel
theorem dX2_save_28 : decode cX2_save 28 = .ok (.iload_n 2, 1) := by decide +kernel
theorem dX2_save_29 : decode cX2_save 29 = .ok (.iconst 1, 1) := by decide +kernel
theorem dX2_save_30 : decode cX2_save 30 = .ok (.isub, 1) := by decide +kernel
theorem dX2_save_31 : decode cX2_save 31 = .ok (.aload_n 0, 1) := by decide +kernel
theorem dX2_save_32 : decode cX2_save 32 = .ok (.getfield 25, 3) := by decide +kernel
theorem dX2_save_35 : decode cX2_save 35 = .ok (.iload_n 2, 1) := by decide +kernel
theorem dX2_save_36 : decode cX2_save 36 = .ok (.aaload, 1) := by decide +kernel
theorem dX2_save_37 : decode cX2_save 37 = .ok (.aastore, 1) := by decide +kernel
theorem dX2_save_38 : decode cX2_save 38 = .ok (.iinc 2 1, 3) := by decide +kernel
theorem dX2_save_41 : decode cX2_save 41 = .ok (.goto (-23), 3) := by decide +kernel
theorem dX2_save_44 : decode cX2_save 44 = .ok (.aload_n 0, 1) := by decide +kernel
theorem dX2_save_45 : decode cX2_save 45 = .ok (.getfield 25, 3) := by decide +kernel
theorem dX2_save_48 : decode cX2_save 48 = .ok (.iconst 5, 1) := by decide +kernel
theorem dX2_save_49 : decode cX2_save 49 = .ok (.aload_n 1, 1) := by decide +kernel
theorem dX2_save_50 : decode cX2_save 50 = .ok (.aastore, 1) := by decide +kernel
theorem dX2_save_51 : decode cX2_save 51 = .ok (.aload_n 0, 1) := by decide +kernel
theorem dX2_save_52 : decode cX2_save 52 = .ok (.iconst 5, 1) := by decide +kernel
theorem dX2_save_53 : decode cX2_save 53 = .ok (.putfield 40, 3) := by decide +kernel
theorem dX2_save_56 : decode cX2_save 56 = .ok (.aload_n 0, 1) := by decide +kernel
theorem dX2_save_57 : decode cX2_save 57 = .ok (.getfield 25, 3) := by decide +kernel
theorem dX2_save_60 : decode cX2_save 60 = .ok (.aload_n 0, 1) := by decide +kernel
theorem dX2_save_61 : decode cX2_save 61 = .ok (.getfield 40, 3) := by decide +kernel
theorem dX2_save_64 : decode cX2_save 64 = .ok (.aaload, 1) := by decide +kernel
theorem dX2_save_65 : decode cX2_save 65 = .ok (.aload_n 0, 1) := by decide +kernel
theorem dX2_save_66 : decode cX2_save 66 = .ok (.getfield 10, 3) := by decide +kernel
theorem dX2_save_69 : decode cX2_save 69 = .ok (.invokevirtual 167, 3) := by decide +kernel
theorem dX2_save_72 : decode cX2_save 72 = .ok (.aload_n 0, 1) := by decide +kernel
theorem dX2_save_73 : decode cX2_save 73 = .ok (.dup, 1) := by decide +kernel
theorem dX2_save_74 : decode cX2_save 74 = .ok (.getfield 40, 3) := by decide +kernel
theorem dX2_save_77 : decode cX2_save 77 = .ok (.iconst 1, 1) := by decide +kernel
theorem dX2_save_78 : decode cX2_save 78 = .ok (.iadd, 1) := by decide +kernel
theorem dX2_save_79 : decode cX2_save 79 = .ok (.putfield 40, 3) := by decide +kernel
theorem dX2_save_82 : decode cX2_save 82 = .ok (.return_, 1) := by decide +kernel
theorem dX2_settle_0 : decode cX2_settle 0 = .ok (.aload_n 0, 1) := by decide +kernel
theorem dX2_settle_1 : decode cX2_settle 1 = .ok (.getfield 22, 3) := by decide +kernel
theorem dX2_settle_4 : decode cX2_settle 4 = .ok (.aload_n 0, 1) := by decide +kernel
theorem dX2_settle_5 : decode cX2_settle 5 = .ok (.getfield 10, 3) := by decide +kernel
theorem dX2_settle_8 : decode cX2_settle 8 = .ok (.invokevirtual 167, 3) := by decide +kernel
theorem dX2_settle_11 : decode cX2_settle 11 = .ok (.aload_n 0, 1) := by decide +kernel
theorem dX2_settle_12 : decode cX2_settle 12 = .ok (.getfield 22, 3) := by decide +kernel
theorem dX2_settle_15 : decode cX2_settle 15 = .ok (.iconst 4, 1) := by decide +kernel
theorem dX2_settle_16 : decode cX2_settle 16 = .ok (.invokevirtual 124, 3) := by decide +kernel
theorem dX2_settle_19 : decode cX2_settle 19 = .ok (.ifCond .ne 11, 3) := by decide +kernel
theorem dX2_settle_22 : decode cX2_settle 22 = .ok (.aload_n 0, 1) := by decide +kernel
theorem dX2_settle_23 : decode cX2_settle 23 = .ok (.getfield 22, 3) := by decide +kernel
theorem dX2_settle_26 : decode cX2_settle 26 = .ok (.iconst 4, 1) := by decide +kernel
theorem dX2_settle_27 : decode cX2_settle 27 = .ok (.invokevirtual 142, 3) := by decide +kernel
theorem dX2_settle_30 : decode cX2_settle 30 = .ok (.iconst 0, 1) := by decide +kernel
theorem dX2_settle_31 : decode cX2_settle 31 = .ok (.istore_n 1, 1) := by decide +kernel
theorem dX2_settle_32 : decode cX2_settle 32 = .ok (.iload_n 1, 1) := by decide +kernel
theorem dX2_settle_33 : decode cX2_settle 33 = .ok (.iconst 4, 1) := by decide +kernel
theorem dX2_settle_34 : decode cX2_settle 34 = .ok (.if_icmp .ge 28, 3) := by decide +kernel
theorem dX2_settle_37 : decode cX2_settle 37 = .ok (.aload_n 0, 1) := by decide +kernel
theorem dX2_settle_38 : decode cX2_settle 38 = .ok (.getfield 22, 3) := by decide +kernel
theorem dX2_settle_41 : decode cX2_settle 41 = .ok (.iload_n 1, 1) := by decide +kernel
theorem dX2_settle_42 : decode cX2_settle 42 = .ok (.invokevirtual 124, 3) := by decide +kernel
theorem dX2_settle_45 : decode cX2_settle 45 = .ok (.ifCond .ne 11, 3) := by decide +kernel
theorem dX2_settle_48 : decode cX2_settle 48 = .ok (.aload_n 0, 1) := by decide +kernel
theorem dX2_settle_49 : decode cX2_settle 49 = .ok (.getfield 22, 3) := by decide +kernel
theorem dX2_settle_52 : decode cX2_settle 52 = .ok (.iload_n 1, 1) := by decide +kernel
theorem dX2_settle_53 : decode cX2_settle 53 = .ok (.invokevirtual 142, 3) := by decide +kernel
theorem dX2_settle_56 : decode cX2_settle 56 = .ok (.iinc 1 1, 3) := by decide +kernel
theorem dX2_settle_59 : decode cX2_settle 59 = .ok (.goto (-27), 3) := by decide +kernel
theorem dX2_settle_62 : decode cX2_settle 62 = .ok (.aload_n 0, 1) := by decide +kernel
theorem dX2_settle_63 : decode cX2_settle 63 = .ok (.getfield 22, 3) := by decide +kernel
theorem dX2_settle_66 : decode cX2_settle 66 = .ok (.ldc 113, 2) := by decide +kernel
theorem dX2_settle_68 : decode cX2_settle 68 = .ok (.invokevirtual 114, 3) := by decide +kernel
theorem dX2_settle_71 : decode cX2_settle 71 = .ok (.ireturn, 1) := by decide +kernel
theorem dX2_stateAfterRecord_0 : decode cX2_stateAfterRecord 0 = .ok (.iload_n 0, 1) := by decide +kernel
theorem dX2_stateAfterRecord_1 : decode cX2_stateAfterRecord 1 = .ok (.tableswitch 37 1 4 #[33, 35, 37, 31], 31) := by decide +kernel
theorem dX2_stateAfterRecord_32 : decode cX2_stateAfterRecord 32 = .ok (.iconst 1, 1) := by decide +kernel
theorem dX2_stateAfterRecord_33 : decode cX2_stateAfterRecord 33 = .ok (.ireturn, 1) := by decide +kernel
theorem dX2_stateAfterRecord_34 : decode cX2_stateAfterRecord 34 = .ok (.iconst 2, 1) := by decide +kernel
theorem dX2_stateAfterRecord_35 : decode cX2_stateAfterRecord 35 = .ok (.ireturn, 1) := by decide +kernel
theorem dX2_stateAfterRecord_36 : decode cX2_stateAfterRecord 36 = .ok (.iconst 3, 1) := by decide +kernel
theorem dX2_stateAfterRecord_37 : decode cX2_stateAfterRecord 37 = .ok (.ireturn, 1) := by decide +kernel
theorem dX2_stateAfterRecord_38 : decode cX2_stateAfterRecord 38 = .ok (.iconst 0, 1) := by decide +kernel
theorem dX2_stateAfterRecord_39 : decode cX2_stateAfterRecord 39 = .ok (.ireturn, 1) := by decide +kernel
theorem dX2_shareIn_0 : decode cX2_shareIn 0 = .ok (.iload_n 3, 1) := by decide +kernel
theorem dX2_shareIn_1 : decode cX2_shareIn 1 = .ok (.iload_n 0, 1) := by decide +kernel
theorem dX2_shareIn_2 : decode cX2_shareIn 2 = .ok (.if_icmp .ne 11, 3) := by decide +kernel
theorem dX2_shareIn_5 : decode cX2_shareIn 5 = .ok (.iload_n 2, 1) := by decide +kernel
theorem dX2_shareIn_6 : decode cX2_shareIn 6 = .ok (.ineg, 1) := by decide +kernel
theorem dX2_shareIn_7 : decode cX2_shareIn 7 = .ok (.iload_n 1, 1) := by decide +kernel
theorem dX2_shareIn_8 : decode cX2_shareIn 8 = .ok (.invokestatic 135, 3) := by decide +kernel
theorem dX2_shareIn_11 : decode cX2_shareIn 11 = .ok (.imul, 1) := by decide +kernel
theorem dX2_shareIn_12 : decode cX2_shareIn 12 = .ok (.ireturn, 1) := by decide +kernel
theorem dX2_shareIn_13 : decode cX2_shareIn 13 = .ok (.iload_n 1, 1) := by decide +kernel
theorem dX2_shareIn_14 : decode cX2_shareIn 14 = .ok (.iload_n 3, 1) := by decide +kernel
theorem dX2_shareIn_15 : decode cX2_shareIn 15 = .ok (.ishr, 1) := by decide +kernel
theorem dX2_shareIn_16 : decode cX2_shareIn 16 = .ok (.iconst 1, 1) := by decide +kernel
theorem dX2_shareIn_17 : decode cX2_shareIn 17 = .ok (.iand, 1) := by decide +kernel
theorem dX2_shareIn_18 : decode cX2_shareIn 18 = .ok (.iconst 1, 1) := by decide +kernel
theorem dX2_shareIn_19 : decode cX2_shareIn 19 = .ok (.if_icmp .ne 7, 3) := by decide +kernel
theorem dX2_shareIn_22 : decode cX2_shareIn 22 = .ok (.iload_n 2, 1) := by decide +kernel
theorem dX2_shareIn_23 : decode cX2_shareIn 23 = .ok (.goto 4, 3) := by decide +kernel
theorem dX2_shareIn_26 : decode cX2_shareIn 26 = .ok (.iconst 0, 1) := by decide +kernel
theorem dX2_shareIn_27 : decode cX2_shareIn 27 = .ok (.ireturn, 1) := by decide +kernel
theorem dX2_kindIn_0 : decode cX2_kindIn 0 = .ok (.iload_n 0, 1) := by decide +kernel
theorem dX2_kindIn_1 : decode cX2_kindIn 1 = .ok (.iconst 5, 1) := by decide +kernel
theorem dX2_kindIn_2 : decode cX2_kindIn 2 = .ok (.ishr, 1) := by decide +kernel
theorem dX2_kindIn_3 : decode cX2_kindIn 3 = .ok (.ireturn, 1) := by decide +kernel
theorem dX2_transferIn_0 : decode cX2_transferIn 0 = .ok (.iload_n 0, 1) := by decide +kernel
theorem dX2_transferIn_1 : decode cX2_transferIn 1 = .ok (.iconst 2, 1) := by decide +kernel
theorem dX2_transferIn_2 : decode cX2_transferIn 2 = .ok (.ishr, 1) := by decide +kernel
theorem dX2_transferIn_3 : decode cX2_transferIn 3 = .ok (.bipush 7, 2) := by decide +kernel
theorem dX2_transferIn_5 : decode cX2_transferIn 5 = .ok (.iand, 1) := by decide +kernel
theorem dX2_transferIn_6 : decode cX2_transferIn 6 = .ok (.ireturn, 1) := by decide +kernel
theorem dX2_storeIn_0 : decode cX2_storeIn 0 = .ok (.iload_n 0, 1) := by decide +kernel
theorem dX2_storeIn_1 : decode cX2_storeIn 1 = .ok (.iconst 3, 1) := by decide +kernel
theorem dX2_storeIn_2 : decode cX2_storeIn 2 = .ok (.iand, 1) := by decide +kernel
theorem dX2_storeIn_3 : decode cX2_storeIn 3 = .ok (.ireturn, 1) := by decide +kernel
theorem dX2_goesToStore_0 : decode cX2_goesToStore 0 = .ok (.iload_n 0, 1) := by decide +kernel
theorem dX2_goesToStore_1 : decode cX2_goesToStore 1 = .ok (.ifCond .eq 13, 3) := by decide +kernel
theorem dX2_goesToStore_4 : decode cX2_goesToStore 4 = .ok (.iload_n 0, 1) := by decide +kernel
theorem dX2_goesToStore_5 : decode cX2_goesToStore 5 = .ok (.iconst 3, 1) := by decide +kernel
theorem dX2_goesToStore_6 : decode cX2_goesToStore 6 = .ok (.if_icmp .eq 8, 3) := by decide +kernel
theorem dX2_goesToStore_9 : decode cX2_goesToStore 9 = .ok (.iload_n 0, 1) := by decide +kernel
theorem dX2_goesToStore_10 : decode cX2_goesToStore 10 = .ok (.iconst 4, 1) := by decide +kernel
theorem dX2_goesToStore_11 : decode cX2_goesToStore 11 = .ok (.if_icmp .ne 7, 3) := by decide +kernel
theorem dX2_goesToStore_14 : decode cX2_goesToStore 14 = .ok (.iconst 1, 1) := by decide +kernel
theorem dX2_goesToStore_15 : decode cX2_goesToStore 15 = .ok (.goto 4, 3) := by decide +kernel
theorem dX2_goesToStore_18 : decode cX2_goesToStore 18 = .ok (.iconst 0, 1) := by decide +kernel
theorem dX2_goesToStore_19 : decode cX2_goesToStore 19 = .ok (.ireturn, 1) := by decide +kernel
theorem dJ6_bitCount_0f7a4_0 : decode cJ6_bitCount_0f7a4 0 = .ok (.iload_n 0, 1) := by decide +kernel
theorem dJ6_bitCount_0f7a4_1 : decode cJ6_bitCount_0f7a4 1 = .ok (.iload_n 0, 1) := by decide +kernel
theorem dJ6_bitCount_0f7a4_2 : decode cJ6_bitCount_0f7a4 2 = .ok (.iconst 1, 1) := by decide +kernel
theorem dJ6_bitCount_0f7a4_3 : decode cJ6_bitCount_0f7a4 3 = .ok (.iushr, 1) := by decide +kernel
theorem dJ6_bitCount_0f7a4_4 : decode cJ6_bitCount_0f7a4 4 = .ok (.ldc_w 265, 3) := by decide +kernel
theorem dJ6_bitCount_0f7a4_7 : decode cJ6_bitCount_0f7a4 7 = .ok (.iand, 1) := by decide +kernel
theorem dJ6_bitCount_0f7a4_8 : decode cJ6_bitCount_0f7a4 8 = .ok (.isub, 1) := by decide +kernel
theorem dJ6_bitCount_0f7a4_9 : decode cJ6_bitCount_0f7a4 9 = .ok (.istore_n 0, 1) := by decide +kernel
theorem dJ6_bitCount_0f7a4_10 : decode cJ6_bitCount_0f7a4 10 = .ok (.iload_n 0, 1) := by decide +kernel
theorem dJ6_bitCount_0f7a4_11 : decode cJ6_bitCount_0f7a4 11 = .ok (.ldc_w 266, 3) := by decide +kernel
theorem dJ6_bitCount_0f7a4_14 : decode cJ6_bitCount_0f7a4 14 = .ok (.iand, 1) := by decide +kernel
theorem dJ6_bitCount_0f7a4_15 : decode cJ6_bitCount_0f7a4 15 = .ok (.iload_n 0, 1) := by decide +kernel
theorem dJ6_bitCount_0f7a4_16 : decode cJ6_bitCount_0f7a4 16 = .ok (.iconst 2, 1) := by decide +kernel
theorem dJ6_bitCount_0f7a4_17 : decode cJ6_bitCount_0f7a4 17 = .ok (.iushr, 1) := by decide +kernel
theorem dJ6_bitCount_0f7a4_18 : decode cJ6_bitCount_0f7a4 18 = .ok (.ldc_w 266, 3) := by decide +kernel
theorem dJ6_bitCount_0f7a4_21 : decode cJ6_bitCount_0f7a4 21 = .ok (.iand, 1) := by decide +kernel
theorem dJ6_bitCount_0f7a4_22 : decode cJ6_bitCount_0f7a4 22 = .ok (.iadd, 1) := by decide +kernel
theorem dJ6_bitCount_0f7a4_23 : decode cJ6_bitCount_0f7a4 23 = .ok (.istore_n 0, 1) := by decide +kernel
theorem dJ6_bitCount_0f7a4_24 : decode cJ6_bitCount_0f7a4 24 = .ok (.iload_n 0, 1) := by decide +kernel
theorem dJ6_bitCount_0f7a4_25 : decode cJ6_bitCount_0f7a4 25 = .ok (.iload_n 0, 1) := by decide +kernel
theorem dJ6_bitCount_0f7a4_26 : decode cJ6_bitCount_0f7a4 26 = .ok (.iconst 4, 1) := by decide +kernel
theorem dJ6_bitCount_0f7a4_27 : decode cJ6_bitCount_0f7a4 27 = .ok (.iushr, 1) := by decide +kernel
theorem dJ6_bitCount_0f7a4_28 : decode cJ6_bitCount_0f7a4 28 = .ok (.iadd, 1) := by decide +kernel
theorem dJ6_bitCount_0f7a4_29 : decode cJ6_bitCount_0f7a4 29 = .ok (.ldc_w 267, 3) := by decide +kernel
theorem dJ6_bitCount_0f7a4_32 : decode cJ6_bitCount_0f7a4 32 = .ok (.iand, 1) := by decide +kernel
theorem dJ6_bitCount_0f7a4_33 : decode cJ6_bitCount_0f7a4 33 = .ok (.istore_n 0, 1) := by decide +kernel
theorem dJ6_bitCount_0f7a4_34 : decode cJ6_bitCount_0f7a4 34 = .ok (.iload_n 0, 1) := by decide +kernel
theorem dJ6_bitCount_0f7a4_35 : decode cJ6_bitCount_0f7a4 35 = .ok (.iload_n 0, 1) := by decide +kernel
theorem dJ6_bitCount_0f7a4_36 : decode cJ6_bitCount_0f7a4 36 = .ok (.bipush 8, 2) := by decide +kernel
theorem dJ6_bitCount_0f7a4_38 : decode cJ6_bitCount_0f7a4 38 = .ok (.iushr, 1) := by decide +kernel
theorem dJ6_bitCount_0f7a4_39 : decode cJ6_bitCount_0f7a4 39 = .ok (.iadd, 1) := by decide +kernel
theorem dJ6_bitCount_0f7a4_40 : decode cJ6_bitCount_0f7a4 40 = .ok (.istore_n 0, 1) := by decide +kernel
theorem dJ6_bitCount_0f7a4_41 : decode cJ6_bitCount_0f7a4 41 = .ok (.iload_n 0, 1) := by decide +kernel
theorem dJ6_bitCount_0f7a4_42 : decode cJ6_bitCount_0f7a4 42 = .ok (.iload_n 0, 1) := by decide +kernel
theorem dJ6_bitCount_0f7a4_43 : decode cJ6_bitCount_0f7a4 43 = .ok (.bipush 16, 2) := by decide +kernel
theorem dJ6_bitCount_0f7a4_45 : decode cJ6_bitCount_0f7a4 45 = .ok (.iushr, 1) := by decide +kernel
theorem dJ6_bitCount_0f7a4_46 : decode cJ6_bitCount_0f7a4 46 = .ok (.iadd, 1) := by decide +kernel
theorem dJ6_bitCount_0f7a4_47 : decode cJ6_bitCount_0f7a4 47 = .ok (.istore_n 0, 1) := by decide +kernel
theorem dJ6_bitCount_0f7a4_48 : decode cJ6_bitCount_0f7a4 48 = .ok (.iload_n 0, 1) := by decide +kernel
theorem dJ6_bitCount_0f7a4_49 : decode cJ6_bitCount_0f7a4 49 = .ok (.bipush 63, 2) := by decide +kernel
theorem dJ6_bitCount_0f7a4_51 : decode cJ6_bitCount_0f7a4 51 = .ok (.iand, 1) := by decide +kernel
theorem dJ6_bitCount_0f7a4_52 : decode cJ6_bitCount_0f7a4 52 = .ok (.ireturn, 1) := by decide +kernel
theorem dL_cell_0 : decode cL_cell 0 = .ok (.iload_n 1, 1) := by decide +kernel
theorem dL_cell_1 : decode cL_cell 1 = .ok (.aload_n 0, 1) := by decide +kernel
theorem dL_cell_2 : decode cL_cell 2 = .ok (.arraylength, 1) := by decide +kernel
theorem dL_cell_3 : decode cL_cell 3 = .ok (.if_icmp .ge 9, 3) := by decide +kernel
theorem dL_cell_6 : decode cL_cell 6 = .ok (.aload_n 0, 1) := by decide +kernel
theorem dL_cell_7 : decode cL_cell 7 = .ok (.iload_n 1, 1) := by decide +kernel
theorem dL_cell_8 : decode cL_cell 8 = .ok (.iaload, 1) := by decide +kernel
theorem dL_cell_9 : decode cL_cell 9 = .ok (.goto 15, 3) := by decide +kernel
theorem dL_cell_12 : decode cL_cell 12 = .ok (.sipush 7919, 3) := by decide +kernel
theorem dL_cell_15 : decode cL_cell 15 = .ok (.iload_n 1, 1) := by decide +kernel
theorem dL_cell_16 : decode cL_cell 16 = .ok (.iconst 3, 1) := by decide +kernel
theorem dL_cell_17 : decode cL_cell 17 = .ok (.iadd, 1) := by decide +kernel
theorem dL_cell_18 : decode cL_cell 18 = .ok (.imul, 1) := by decide +kernel
theorem dL_cell_19 : decode cL_cell 19 = .ok (.iload_n 1, 1) := by decide +kernel
theorem dL_cell_20 : decode cL_cell 20 = .ok (.bipush 11, 2) := by decide +kernel
theorem dL_cell_22 : decode cL_cell 22 = .ok (.iadd, 1) := by decide +kernel
theorem dL_cell_23 : decode cL_cell 23 = .ok (.imul, 1) := by decide +kernel
theorem dL_cell_24 : decode cL_cell 24 = .ok (.ireturn, 1) := by decide +kernel
theorem dL_low_0 : decode cL_low 0 = .ok (.iload_n 0, 1) := by decide +kernel
theorem dL_low_1 : decode cL_low 1 = .ok (.ldc 7, 2) := by decide +kernel
theorem dL_low_3 : decode cL_low 3 = .ok (.iand, 1) := by decide +kernel
theorem dL_low_4 : decode cL_low 4 = .ok (.iload_n 1, 1) := by decide +kernel
theorem dL_low_5 : decode cL_low 5 = .ok (.irem, 1) := by decide +kernel
theorem dL_low_6 : decode cL_low 6 = .ok (.ireturn, 1) := by decide +kernel
theorem dL_told_0 : decode cL_told 0 = .ok (.ldc2_w 8, 3) := by decide +kernel
theorem dL_told_3 : decode cL_told 3 = .ok (.lstore_n 1, 1) := by decide +kernel
theorem dL_told_4 : decode cL_told 4 = .ok (.ldc2_w 10, 3) := by decide +kernel
theorem dL_told_7 : decode cL_told 7 = .ok (.ldc2_w 10, 3) := by decide +kernel
theorem dL_told_10 : decode cL_told 10 = .ok (.ldc2_w 10, 3) := by decide +kernel
theorem dL_told_13 : decode cL_told 13 = .ok (.lload_n 1, 1) := by decide +kernel
theorem dL_told_14 : decode cL_told 14 = .ok (.lmul, 1) := by decide +kernel
theorem dL_told_15 : decode cL_told 15 = .ok (.aload_n 0, 1) := by decide +kernel
theorem dL_told_16 : decode cL_told 16 = .ok (.invokevirtual 12, 3) := by decide +kernel
theorem dL_told_19 : decode cL_told 19 = .ok (.i2l, 1) := by decide +kernel
theorem dL_told_20 : decode cL_told 20 = .ok (.ladd, 1) := by decide +kernel
theorem dL_told_21 : decode cL_told 21 = .ok (.lmul, 1) := by decide +kernel
theorem dL_told_22 : decode cL_told 22 = .ok (.aload_n 0, 1) := by decide +kernel
theorem dL_told_23 : decode cL_told 23 = .ok (.invokevirtual 18, 3) := by decide +kernel
theorem dL_told_26 : decode cL_told 26 = .ok (.i2l, 1) := by decide +kernel
theorem dL_told_27 : decode cL_told 27 = .ok (.ladd, 1) := by decide +kernel
theorem dL_told_28 : decode cL_told 28 = .ok (.lmul, 1) := by decide +kernel
theorem dL_told_29 : decode cL_told 29 = .ok (.aload_n 0, 1) := by decide +kernel
theorem dL_told_30 : decode cL_told 30 = .ok (.invokevirtual 21, 3) := by decide +kernel
theorem dL_told_33 : decode cL_told 33 = .ok (.i2l, 1) := by decide +kernel
theorem dL_told_34 : decode cL_told 34 = .ok (.ladd, 1) := by decide +kernel
theorem dL_told_35 : decode cL_told 35 = .ok (.lstore_n 1, 1) := by decide +kernel
theorem dL_told_36 : decode cL_told 36 = .ok (.ldc2_w 10, 3) := by decide +kernel
theorem dL_told_39 : decode cL_told 39 = .ok (.ldc2_w 10, 3) := by decide +kernel
theorem dL_told_42 : decode cL_told 42 = .ok (.lload_n 1, 1) := by decide +kernel
theorem dL_told_43 : decode cL_told 43 = .ok (.lmul, 1) := by decide +kernel
theorem dL_told_44 : decode cL_told 44 = .ok (.aload_n 0, 1) := by decide +kernel
theorem dL_told_45 : decode cL_told 45 = .ok (.invokevirtual 24, 3) := by decide +kernel
theorem dL_told_48 : decode cL_told 48 = .ok (.i2l, 1) := by decide +kernel
theorem dL_told_49 : decode cL_told 49 = .ok (.ladd, 1) := by decide +kernel
theorem dL_told_50 : decode cL_told 50 = .ok (.lmul, 1) := by decide +kernel
theorem dL_told_51 : decode cL_told 51 = .ok (.aload_n 0, 1) := by decide +kernel
theorem dL_told_52 : decode cL_told 52 = .ok (.invokevirtual 27, 3) := by decide +kernel
theorem dL_told_55 : decode cL_told 55 = .ok (.i2l, 1) := by decide +kernel
theorem dL_told_56 : decode cL_told 56 = .ok (.ladd, 1) := by decide +kernel
theorem dL_told_57 : decode cL_told 57 = .ok (.lstore_n 1, 1) := by decide +kernel
theorem dL_told_58 : decode cL_told 58 = .ok (.iconst 0, 1) := by decide +kernel
theorem dL_told_59 : decode cL_told 59 = .ok (.istore_n 3, 1) := by decide +kernel
theorem dL_told_60 : decode cL_told 60 = .ok (.iload_n 3, 1) := by decide +kernel
theorem dL_told_61 : decode cL_told 61 = .ok (.iconst 5, 1) := by decide +kernel
theorem dL_told_62 : decode cL_told 62 = .ok (.if_icmp .ge 41, 3) := by decide +kernel
theorem dL_told_65 : decode cL_told 65 = .ok (.ldc2_w 10, 3) := by decide +kernel
theorem dL_told_68 : decode cL_told 68 = .ok (.ldc2_w 10, 3) := by decide +kernel
theorem dL_told_71 : decode cL_told 71 = .ok (.lload_n 1, 1) := by decide +kernel
theorem dL_told_72 : decode cL_told 72 = .ok (.lmul, 1) := by decide +kernel
theorem dL_told_73 : decode cL_told 73 = .ok (.aload_n 0, 1) := by decide +kernel
theorem dL_told_74 : decode cL_told 74 = .ok (.iload_n 3, 1) := by decide +kernel
theorem dL_told_75 : decode cL_told 75 = .ok (.invokevirtual 30, 3) := by decide +kernel
theorem dL_told_78 : decode cL_told 78 = .ok (.ifCond .eq 7, 3) := by decide +kernel
theorem dL_told_81 : decode cL_told 81 = .ok (.iconst 1, 1) := by decide +kernel
theorem dL_told_82 : decode cL_told 82 = .ok (.goto 4, 3) := by decide +kernel
theorem dL_told_85 : decode cL_told 85 = .ok (.iconst 0, 1) := by decide +kernel
theorem dL_told_86 : decode cL_told 86 = .ok (.i2l, 1) := by decide +kernel
theorem dL_told_87 : decode cL_told 87 = .ok (.ladd, 1) := by decide +kernel
theorem dL_told_88 : decode cL_told 88 = .ok (.lmul, 1) := by decide +kernel
theorem dL_told_89 : decode cL_told 89 = .ok (.aload_n 0, 1) := by decide +kernel
theorem dL_told_90 : decode cL_told 90 = .ok (.iload_n 3, 1) := by decide +kernel
theorem dL_told_91 : decode cL_told 91 = .ok (.invokevirtual 34, 3) := by decide +kernel
theorem dL_told_94 : decode cL_told 94 = .ok (.i2l, 1) := by decide +kernel
theorem dL_told_95 : decode cL_told 95 = .ok (.ladd, 1) := by decide +kernel
theorem dL_told_96 : decode cL_told 96 = .ok (.lstore_n 1, 1) := by decide +kernel
theorem dL_told_97 : decode cL_told 97 = .ok (.iinc 3 1, 3) := by decide +kernel
theorem dL_told_100 : decode cL_told 100 = .ok (.goto (-40), 3) := by decide +kernel
theorem dL_told_103 : decode cL_told 103 = .ok (.iconst 0, 1) := by decide +kernel
theorem dL_told_104 : decode cL_told 104 = .ok (.istore_n 3, 1) := by decide +kernel
theorem dL_told_105 : decode cL_told 105 = .ok (.iload_n 3, 1) := by decide +kernel
theorem dL_told_106 : decode cL_told 106 = .ok (.aload_n 0, 1) := by decide +kernel
theorem dL_told_107 : decode cL_told 107 = .ok (.invokevirtual 12, 3) := by decide +kernel
theorem dL_told_110 : decode cL_told 110 = .ok (.if_icmp .ge 74, 3) := by decide +kernel
theorem dL_told_113 : decode cL_told 113 = .ok (.ldc2_w 10, 3) := by decide +kernel
theorem dL_told_116 : decode cL_told 116 = .ok (.ldc2_w 10, 3) := by decide +kernel
theorem dL_told_119 : decode cL_told 119 = .ok (.ldc2_w 10, 3) := by decide +kernel
theorem dL_told_122 : decode cL_told 122 = .ok (.lload_n 1, 1) := by decide +kernel
theorem dL_told_123 : decode cL_told 123 = .ok (.lmul, 1) := by decide +kernel
theorem dL_told_124 : decode cL_told 124 = .ok (.aload_n 0, 1) := by decide +kernel
theorem dL_told_125 : decode cL_told 125 = .ok (.iload_n 3, 1) := by decide +kernel
theorem dL_told_126 : decode cL_told 126 = .ok (.invokevirtual 38, 3) := by decide +kernel
theorem dL_told_129 : decode cL_told 129 = .ok (.i2l, 1) := by decide +kernel
theorem dL_told_130 : decode cL_told 130 = .ok (.ladd, 1) := by decide +kernel
theorem dL_told_131 : decode cL_told 131 = .ok (.lmul, 1) := by decide +kernel
theorem dL_told_132 : decode cL_told 132 = .ok (.aload_n 0, 1) := by decide +kernel
theorem dL_told_133 : decode cL_told 133 = .ok (.iload_n 3, 1) := by decide +kernel
theorem dL_told_134 : decode cL_told 134 = .ok (.invokevirtual 41, 3) := by decide +kernel
theorem dL_told_137 : decode cL_told 137 = .ok (.i2l, 1) := by decide +kernel
theorem dL_told_138 : decode cL_told 138 = .ok (.ladd, 1) := by decide +kernel
theorem dL_told_139 : decode cL_told 139 = .ok (.lmul, 1) := by decide +kernel
theorem dL_told_140 : decode cL_told 140 = .ok (.aload_n 0, 1) := by decide +kernel
theorem dL_told_141 : decode cL_told 141 = .ok (.iload_n 3, 1) := by decide +kernel
theorem dL_told_142 : decode cL_told 142 = .ok (.invokevirtual 44, 3) := by decide +kernel
theorem dL_told_145 : decode cL_told 145 = .ok (.i2l, 1) := by decide +kernel
theorem dL_told_146 : decode cL_told 146 = .ok (.ladd, 1) := by decide +kernel
theorem dL_told_147 : decode cL_told 147 = .ok (.lstore_n 1, 1) := by decide +kernel
theorem dL_told_148 : decode cL_told 148 = .ok (.iconst 0, 1) := by decide +kernel
theorem dL_told_149 : decode cL_told 149 = .ok (.istore 4, 2) := by decide +kernel
theorem dL_told_151 : decode cL_told 151 = .ok (.iload 4, 2) := by decide +kernel
theorem dL_told_153 : decode cL_told 153 = .ok (.iconst 4, 1) := by decide +kernel
theorem dL_told_154 : decode cL_told 154 = .ok (.if_icmp .ge 24, 3) := by decide +kernel
theorem dL_told_157 : decode cL_told 157 = .ok (.ldc2_w 10, 3) := by decide +kernel
theorem dL_told_160 : decode cL_told 160 = .ok (.lload_n 1, 1) := by decide +kernel
theorem dL_told_161 : decode cL_told 161 = .ok (.lmul, 1) := by decide +kernel
theorem dL_told_162 : decode cL_told 162 = .ok (.aload_n 0, 1) := by decide +kernel
theorem dL_told_163 : decode cL_told 163 = .ok (.iload 4, 2) := by decide +kernel
theorem dL_told_165 : decode cL_told 165 = .ok (.iload_n 3, 1) := by decide +kernel
theorem dL_told_166 : decode cL_told 166 = .ok (.invokevirtual 47, 3) := by decide +kernel
theorem dL_told_169 : decode cL_told 169 = .ok (.i2l, 1) := by decide +kernel
theorem dL_told_170 : decode cL_told 170 = .ok (.ladd, 1) := by decide +kernel
theorem dL_told_171 : decode cL_told 171 = .ok (.lstore_n 1, 1) := by decide +kernel
theorem dL_told_172 : decode cL_told 172 = .ok (.iinc 4 1, 3) := by decide +kernel
theorem dL_told_175 : decode cL_told 175 = .ok (.goto (-24), 3) := by decide +kernel
theorem dL_told_178 : decode cL_told 178 = .ok (.iinc 3 1, 3) := by decide +kernel
theorem dL_told_181 : decode cL_told 181 = .ok (.goto (-76), 3) := by decide +kernel
theorem dL_told_184 : decode cL_told 184 = .ok (.iconst 0, 1) := by decide +kernel
theorem dL_told_185 : decode cL_told 185 = .ok (.istore_n 3, 1) := by decide +kernel
theorem dL_told_186 : decode cL_told 186 = .ok (.iload_n 3, 1) := by decide +kernel
theorem dL_told_187 : decode cL_told 187 = .ok (.aload_n 0, 1) := by decide +kernel
theorem dL_told_188 : decode cL_told 188 = .ok (.invokevirtual 18, 3) := by decide +kernel
theorem dL_told_191 : decode cL_told 191 = .ok (.if_icmp .ge 44, 3) := by decide +kernel
theorem dL_told_194 : decode cL_told 194 = .ok (.ldc2_w 10, 3) := by decide +kernel
theorem dL_told_197 : decode cL_told 197 = .ok (.ldc2_w 10, 3) := by decide +kernel
theorem dL_told_200 : decode cL_told 200 = .ok (.ldc2_w 10, 3) := by decide +kernel
theorem dL_told_203 : decode cL_told 203 = .ok (.lload_n 1, 1) := by decide +kernel
theorem dL_told_204 : decode cL_told 204 = .ok (.lmul, 1) := by decide +kernel
theorem dL_told_205 : decode cL_told 205 = .ok (.aload_n 0, 1) := by decide +kernel
theorem dL_told_206 : decode cL_told 206 = .ok (.iload_n 3, 1) := by decide +kernel
theorem dL_told_207 : decode cL_told 207 = .ok (.invokevirtual 51, 3) := by decide +kernel
theorem dL_told_210 : decode cL_told 210 = .ok (.i2l, 1) := by decide +kernel
theorem dL_told_211 : decode cL_told 211 = .ok (.ladd, 1) := by decide +kernel
theorem dL_told_212 : decode cL_told 212 = .ok (.lmul, 1) := by decide +kernel
theorem dL_told_213 : decode cL_told 213 = .ok (.aload_n 0, 1) := by decide +kernel
theorem dL_told_214 : decode cL_told 214 = .ok (.iload_n 3, 1) := by decide +kernel
theorem dL_told_215 : decode cL_told 215 = .ok (.invokevirtual 54, 3) := by decide +kernel
theorem dL_told_218 : decode cL_told 218 = .ok (.i2l, 1) := by decide +kernel
theorem dL_told_219 : decode cL_told 219 = .ok (.ladd, 1) := by decide +kernel
theorem dL_told_220 : decode cL_told 220 = .ok (.lmul, 1) := by decide +kernel
theorem dL_told_221 : decode cL_told 221 = .ok (.aload_n 0, 1) := by decide +kernel
theorem dL_told_222 : decode cL_told 222 = .ok (.iload_n 3, 1) := by decide +kernel
theorem dL_told_223 : decode cL_told 223 = .ok (.invokevirtual 57, 3) := by decide +kernel
theorem dL_told_226 : decode cL_told 226 = .ok (.i2l, 1) := by decide +kernel
theorem dL_told_227 : decode cL_told 227 = .ok (.ladd, 1) := by decide +kernel
theorem dL_told_228 : decode cL_told 228 = .ok (.lstore_n 1, 1) := by decide +kernel
theorem dL_told_229 : decode cL_told 229 = .ok (.iinc 3 1, 3) := by decide +kernel
theorem dL_told_232 : decode cL_told 232 = .ok (.goto (-46), 3) := by decide +kernel
theorem dL_told_235 : decode cL_told 235 = .ok (.lload_n 1, 1) := by decide +kernel
theorem dL_told_236 : decode cL_told 236 = .ok (.lreturn, 1) := by decide +kernel
theorem dL_act_0 : decode cL_act 0 = .ok (.aload_n 0, 1) := by decide +kernel
theorem dL_act_1 : decode cL_act 1 = .ok (.invokevirtual 12, 3) := by decide +kernel
theorem dL_act_4 : decode cL_act 4 = .ok (.istore_n 3, 1) := by decide +kernel
theorem dL_act_5 : decode cL_act 5 = .ok (.iload_n 3, 1) := by decide +kernel
theorem dL_act_6 : decode cL_act 6 = .ok (.ifCond .ne 7, 3) := by decide +kernel
theorem dL_act_9 : decode cL_act 9 = .ok (.iconst (-1), 1) := by decide +kernel
theorem dL_act_10 : decode cL_act 10 = .ok (.goto 10, 3) := by decide +kernel
theorem dL_act_13 : decode cL_act 13 = .ok (.iload_n 1, 1) := by decide +kernel
theorem dL_act_14 : decode cL_act 14 = .ok (.iconst 4, 1) := by decide +kernel
theorem dL_act_15 : decode cL_act 15 = .ok (.ishr, 1) := by decide +kernel
theorem dL_act_16 : decode cL_act 16 = .ok (.iload_n 3, 1) := by decide +kernel
theorem dL_act_17 : decode cL_act 17 = .ok (.invokestatic 60, 3) := by decide +kernel
theorem dL_act_20 : decode cL_act 20 = .ok (.istore 4, 2) := by decide +kernel
theorem dL_act_22 : decode cL_act 22 = .ok (.iload_n 2, 1) := by decide +kernel
theorem dL_act_23 : decode cL_act 23 = .ok (.iconst 4, 1) := by decide +kernel
theorem dL_act_24 : decode cL_act 24 = .ok (.invokestatic 60, 3) := by decide +kernel
theorem dL_act_27 : decode cL_act 27 = .ok (.istore 5, 2) := by decide +kernel
theorem dL_act_29 : decode cL_act 29 = .ok (.iload_n 2, 1) := by decide +kernel
theorem dL_act_30 : decode cL_act 30 = .ok (.iconst 5, 1) := by decide +kernel
theorem dL_act_31 : decode cL_act 31 = .ok (.invokestatic 60, 3) := by decide +kernel
theorem dL_act_34 : decode cL_act 34 = .ok (.istore 6, 2) := by decide +kernel
theorem dL_act_36 : decode cL_act 36 = .ok (.iload_n 1, 1) := by decide +kernel
theorem dL_act_37 : decode cL_act 37 = .ok (.bipush 15, 2) := by decide +kernel
theorem dL_act_39 : decode cL_act 39 = .ok (.iand, 1) := by decide +kernel
theorem dL_act_40 : decode cL_act 40 = .ok (.tableswitch 273 0 8 #[52, 52, 114, 155, 194, 218, 246, 246, 266], 52) := by decide +kernel
theorem dL_act_92 : decode cL_act 92 = .ok (.iconst 1, 1) := by decide +kernel
theorem dL_act_93 : decode cL_act 93 = .ok (.iload_n 2, 1) := by decide +kernel
theorem dL_act_94 : decode cL_act 94 = .ok (.iconst 2, 1) := by decide +kernel
theorem dL_act_95 : decode cL_act 95 = .ok (.ishr, 1) := by decide +kernel
theorem dL_act_96 : decode cL_act 96 = .ok (.bipush 15, 2) := by decide +kernel
theorem dL_act_98 : decode cL_act 98 = .ok (.invokestatic 60, 3) := by decide +kernel
theorem dL_act_101 : decode cL_act 101 = .ok (.iadd, 1) := by decide +kernel
theorem dL_act_102 : decode cL_act 102 = .ok (.iconst 1, 1) := by decide +kernel
theorem dL_act_103 : decode cL_act 103 = .ok (.iload 5, 2) := by decide +kernel
theorem dL_act_105 : decode cL_act 105 = .ok (.ishl, 1) := by decide +kernel
theorem dL_act_106 : decode cL_act 106 = .ok (.iconst (-1), 1) := by decide +kernel
theorem dL_act_107 : decode cL_act 107 = .ok (.ixor, 1) := by decide +kernel
theorem dL_act_108 : decode cL_act 108 = .ok (.iand, 1) := by decide +kernel
theorem dL_act_109 : decode cL_act 109 = .ok (.istore 7, 2) := by decide +kernel
theorem dL_act_111 : decode cL_act 111 = .ok (.iload_n 3, 1) := by decide +kernel
theorem dL_act_112 : decode cL_act 112 = .ok (.bipush 8, 2) := by decide +kernel
theorem dL_act_114 : decode cL_act 114 = .ok (.if_icmp .eq 16, 3) := by decide +kernel
theorem dL_act_117 : decode cL_act 117 = .ok (.aload_n 0, 1) := by decide +kernel
theorem dL_act_118 : decode cL_act 118 = .ok (.iconst 4, 1) := by decide +kernel
theorem dL_act_119 : decode cL_act 119 = .ok (.invokevirtual 30, 3) := by decide +kernel
theorem dL_act_122 : decode cL_act 122 = .ok (.ifCond .eq 8, 3) := by decide +kernel
theorem dL_act_125 : decode cL_act 125 = .ok (.iload 7, 2) := by decide +kernel
theorem dL_act_127 : decode cL_act 127 = .ok (.ifCond .ne 5, 3) := by decide +kernel
theorem dL_act_130 : decode cL_act 130 = .ok (.iconst 0, 1) := by decide +kernel
theorem dL_act_131 : decode cL_act 131 = .ok (.ireturn, 1) := by decide +kernel
theorem dL_act_132 : decode cL_act 132 = .ok (.aload_n 0, 1) := by decide +kernel
theorem dL_act_133 : decode cL_act 133 = .ok (.iload 5, 2) := by decide +kernel
theorem dL_act_135 : decode cL_act 135 = .ok (.iload 7, 2) := by decide +kernel
theorem dL_act_137 : decode cL_act 137 = .ok (.iconst 1, 1) := by decide +kernel
theorem dL_act_138 : decode cL_act 138 = .ok (.iload_n 2, 1) := by decide +kernel
theorem dL_act_139 : decode cL_act 139 = .ok (.bipush 6, 2) := by decide +kernel
theorem dL_act_141 : decode cL_act 141 = .ok (.ishr, 1) := by decide +kernel
theorem dL_act_142 : decode cL_act 142 = .ok (.bipush 50, 2) := by decide +kernel
theorem dL_act_144 : decode cL_act 144 = .ok (.invokestatic 60, 3) := by decide +kernel
theorem dL_act_147 : decode cL_act 147 = .ok (.iadd, 1) := by decide +kernel
theorem dL_act_148 : decode cL_act 148 = .ok (.invokevirtual 65, 3) := by decide +kernel
theorem dL_act_151 : decode cL_act 151 = .ok (.pop, 1) := by decide +kernel
theorem dL_act_152 : decode cL_act 152 = .ok (.iconst 1, 1) := by decide +kernel
theorem dL_act_153 : decode cL_act 153 = .ok (.ireturn, 1) := by decide +kernel
theorem dL_act_154 : decode cL_act 154 = .ok (.iload 4, 2) := by decide +kernel
theorem dL_act_156 : decode cL_act 156 = .ok (.ifCond .lt 28, 3) := by decide +kernel
theorem dL_act_159 : decode cL_act 159 = .ok (.aload_n 0, 1) := by decide +kernel
theorem dL_act_160 : decode cL_act 160 = .ok (.iconst 4, 1) := by decide +kernel
theorem dL_act_161 : decode cL_act 161 = .ok (.invokevirtual 30, 3) := by decide +kernel
theorem dL_act_164 : decode cL_act 164 = .ok (.ifCond .eq 20, 3) := by decide +kernel
theorem dL_act_167 : decode cL_act 167 = .ok (.aload_n 0, 1) := by decide +kernel
theorem dL_act_168 : decode cL_act 168 = .ok (.iload 4, 2) := by decide +kernel
theorem dL_act_170 : decode cL_act 170 = .ok (.invokevirtual 38, 3) := by decide +kernel
theorem dL_act_173 : decode cL_act 173 = .ok (.ifCond .gt 11, 3) := by decide +kernel
theorem dL_act_176 : decode cL_act 176 = .ok (.iload_n 2, 1) := by decide +kernel
theorem dL_act_177 : decode cL_act 177 = .ok (.iconst 2, 1) := by decide +kernel
theorem dL_act_178 : decode cL_act 178 = .ok (.ishr, 1) := by decide +kernel
theorem dL_act_179 : decode cL_act 179 = .ok (.iconst 3, 1) := by decide +kernel
theorem dL_act_180 : decode cL_act 180 = .ok (.iand, 1) := by decide +kernel
theorem dL_act_181 : decode cL_act 181 = .ok (.ifCond .le 5, 3) := by decide +kernel
theorem dL_act_184 : decode cL_act 184 = .ok (.iconst 0, 1) := by decide +kernel
theorem dL_act_185 : decode cL_act 185 = .ok (.ireturn, 1) := by decide +kernel
theorem dL_act_186 : decode cL_act 186 = .ok (.aload_n 0, 1) := by decide +kernel
theorem dL_act_187 : decode cL_act 187 = .ok (.iload 4, 2) := by decide +kernel
theorem dL_act_189 : decode cL_act 189 = .ok (.invokevirtual 69, 3) := by decide +kernel
theorem dL_act_192 : decode cL_act 192 = .ok (.pop, 1) := by decide +kernel
theorem dL_act_193 : decode cL_act 193 = .ok (.iconst 1, 1) := by decide +kernel
theorem dL_act_194 : decode cL_act 194 = .ok (.ireturn, 1) := by decide +kernel
theorem dL_act_195 : decode cL_act 195 = .ok (.iload 4, 2) := by decide +kernel
theorem dL_act_197 : decode cL_act 197 = .ok (.ifCond .lt 24, 3) := by decide +kernel
theorem dL_act_200 : decode cL_act 200 = .ok (.aload_n 0, 1) := by decide +kernel
theorem dL_act_201 : decode cL_act 201 = .ok (.iload 5, 2) := by decide +kernel
theorem dL_act_203 : decode cL_act 203 = .ok (.invokevirtual 30, 3) := by decide +kernel
theorem dL_act_206 : decode cL_act 206 = .ok (.ifCond .eq 15, 3) := by decide +kernel
theorem dL_act_209 : decode cL_act 209 = .ok (.aload_n 0, 1) := by decide +kernel
theorem dL_act_210 : decode cL_act 210 = .ok (.iload 5, 2) := by decide +kernel
theorem dL_act_212 : decode cL_act 212 = .ok (.iload 4, 2) := by decide +kernel
theorem dL_act_214 : decode cL_act 214 = .ok (.invokevirtual 47, 3) := by decide +kernel
theorem dL_act_217 : decode cL_act 217 = .ok (.iconst 1, 1) := by decide +kernel
theorem dL_act_218 : decode cL_act 218 = .ok (.if_icmp .eq 5, 3) := by decide +kernel
theorem dL_act_221 : decode cL_act 221 = .ok (.iconst 0, 1) := by decide +kernel
theorem dL_act_222 : decode cL_act 222 = .ok (.ireturn, 1) := by decide +kernel
theorem dL_act_223 : decode cL_act 223 = .ok (.aload_n 0, 1) := by decide +kernel
theorem dL_act_224 : decode cL_act 224 = .ok (.iload 5, 2) := by decide +kernel
theorem dL_act_226 : decode cL_act 226 = .ok (.iload 4, 2) := by decide +kernel
theorem dL_act_228 : decode cL_act 228 = .ok (.invokevirtual 72, 3) := by decide +kernel
theorem dL_act_231 : decode cL_act 231 = .ok (.pop, 1) := by decide +kernel
theorem dL_act_232 : decode cL_act 232 = .ok (.iconst 1, 1) := by decide +kernel
theorem dL_act_233 : decode cL_act 233 = .ok (.ireturn, 1) := by decide +kernel
theorem dL_act_234 : decode cL_act 234 = .ok (.aload_n 0, 1) := by decide +kernel
theorem dL_act_235 : decode cL_act 235 = .ok (.invokevirtual 18, 3) := by decide +kernel
theorem dL_act_238 : decode cL_act 238 = .ok (.ifCond .ne 5, 3) := by decide +kernel
theorem dL_act_241 : decode cL_act 241 = .ok (.iconst 0, 1) := by decide +kernel
theorem dL_act_242 : decode cL_act 242 = .ok (.ireturn, 1) := by decide +kernel
theorem dL_act_243 : decode cL_act 243 = .ok (.aload_n 0, 1) := by decide +kernel
theorem dL_act_244 : decode cL_act 244 = .ok (.iload_n 2, 1) := by decide +kernel
theorem dL_act_245 : decode cL_act 245 = .ok (.aload_n 0, 1) := by decide +kernel
theorem dL_act_246 : decode cL_act 246 = .ok (.invokevirtual 18, 3) := by decide +kernel
theorem dL_act_249 : decode cL_act 249 = .ok (.invokestatic 60, 3) := by decide +kernel
theorem dL_act_252 : decode cL_act 252 = .ok (.invokevirtual 75, 3) := by decide +kernel
theorem dL_act_255 : decode cL_act 255 = .ok (.pop, 1) := by decide +kernel
theorem dL_act_256 : decode cL_act 256 = .ok (.iconst 1, 1) := by decide +kernel
theorem dL_act_257 : decode cL_act 257 = .ok (.ireturn, 1) := by decide +kernel
theorem dL_act_258 : decode cL_act 258 = .ok (.aload_n 0, 1) := by decide +kernel
theorem dL_act_259 : decode cL_act 259 = .ok (.iload 6, 2) := by decide +kernel
theorem dL_act_261 : decode cL_act 261 = .ok (.invokevirtual 30, 3) := by decide +kernel
theorem dL_act_264 : decode cL_act 264 = .ok (.ifCond .eq 13, 3) := by decide +kernel
theorem dL_act_267 : decode cL_act 267 = .ok (.aload_n 0, 1) := by decide +kernel
theorem dL_act_268 : decode cL_act 268 = .ok (.iload 6, 2) := by decide +kernel
theorem dL_act_270 : decode cL_act 270 = .ok (.invokevirtual 78, 3) := by decide +kernel
theorem dL_act_273 : decode cL_act 273 = .ok (.pop, 1) := by decide +kernel
theorem dL_act_274 : decode cL_act 274 = .ok (.goto 10, 3) := by decide +kernel
theorem dL_act_277 : decode cL_act 277 = .ok (.aload_n 0, 1) := by decide +kernel
theorem dL_act_278 : decode cL_act 278 = .ok (.iload 6, 2) := by decide +kernel
theorem dL_act_280 : decode cL_act 280 = .ok (.invokevirtual 81, 3) := by decide +kernel
theorem dL_act_283 : decode cL_act 283 = .ok (.pop, 1) := by decide +kernel
theorem dL_act_284 : decode cL_act 284 = .ok (.iconst 1, 1) := by decide +kernel
theorem dL_act_285 : decode cL_act 285 = .ok (.ireturn, 1) := by decide +kernel
theorem dL_act_286 : decode cL_act 286 = .ok (.aload_n 0, 1) := by decide +kernel
theorem dL_act_287 : decode cL_act 287 = .ok (.iload 6, 2) := by decide +kernel
theorem dL_act_289 : decode cL_act 289 = .ok (.invokevirtual 30, 3) := by decide +kernel
theorem dL_act_292 : decode cL_act 292 = .ok (.ifCond .eq 5, 3) := by decide +kernel
theorem dL_act_295 : decode cL_act 295 = .ok (.iconst 0, 1) := by decide +kernel
theorem dL_act_296 : decode cL_act 296 = .ok (.ireturn, 1) := by decide +kernel
theorem dL_act_297 : decode cL_act 297 = .ok (.aload_n 0, 1) := by decide +kernel
theorem dL_act_298 : decode cL_act 298 = .ok (.iload 6, 2) := by decide +kernel
theorem dL_act_300 : decode cL_act 300 = .ok (.invokevirtual 81, 3) := by decide +kernel
theorem dL_act_303 : decode cL_act 303 = .ok (.pop, 1) := by decide +kernel
theorem dL_act_304 : decode cL_act 304 = .ok (.iconst 1, 1) := by decide +kernel
theorem dL_act_305 : decode cL_act 305 = .ok (.ireturn, 1) := by decide +kernel
theorem dL_act_306 : decode cL_act 306 = .ok (.aload_n 0, 1) := by decide +kernel
theorem dL_act_307 : decode cL_act 307 = .ok (.invokevirtual 84, 3) := by decide +kernel
theorem dL_act_310 : decode cL_act 310 = .ok (.pop, 1) := by decide +kernel
theorem dL_act_311 : decode cL_act 311 = .ok (.iconst 1, 1) := by decide +kernel
theorem dL_act_312 : decode cL_act 312 = .ok (.ireturn, 1) := by decide +kernel
theorem dL_act_313 : decode cL_act 313 = .ok (.aload_n 0, 1) := by decide +kernel
theorem dL_act_314 : decode cL_act 314 = .ok (.invokevirtual 18, 3) := by decide +kernel
theorem dL_act_317 : decode cL_act 317 = .ok (.ifCond .ne 5, 3) := by decide +kernel
theorem dL_act_320 : decode cL_act 320 = .ok (.iconst 0, 1) := by decide +kernel
theorem dL_act_321 : decode cL_act 321 = .ok (.ireturn, 1) := by decide +kernel
theorem dL_act_322 : decode cL_act 322 = .ok (.aload_n 0, 1) := by decide +kernel
theorem dL_act_323 : decode cL_act 323 = .ok (.iload_n 2, 1) := by decide +kernel
theorem dL_act_324 : decode cL_act 324 = .ok (.iload_n 2, 1) := by decide +kernel
theorem dL_act_325 : decode cL_act 325 = .ok (.bipush 20, 2) := by decide +kernel
theorem dL_act_327 : decode cL_act 327 = .ok (.ishr, 1) := by decide +kernel
theorem dL_act_328 : decode cL_act 328 = .ok (.iconst 1, 1) := by decide +kernel
theorem dL_act_329 : decode cL_act 329 = .ok (.iand, 1) := by decide +kernel
theorem dL_act_330 : decode cL_act 330 = .ok (.ifCond .ne 7, 3) := by decide +kernel
theorem dL_act_333 : decode cL_act 333 = .ok (.iconst 1, 1) := by decide +kernel
theorem dL_act_334 : decode cL_act 334 = .ok (.goto 7, 3) := by decide +kernel
theorem dL_act_337 : decode cL_act 337 = .ok (.aload_n 0, 1) := by decide +kernel
theorem dL_act_338 : decode cL_act 338 = .ok (.invokevirtual 18, 3) := by decide +kernel
theorem dL_act_341 : decode cL_act 341 = .ok (.invokestatic 60, 3) := by decide +kernel
theorem dL_act_344 : decode cL_act 344 = .ok (.invokevirtual 87, 3) := by decide +kernel
theorem dL_act_347 : decode cL_act 347 = .ok (.pop, 1) := by decide +kernel
theorem dL_act_348 : decode cL_act 348 = .ok (.iconst 1, 1) := by decide +kernel
theorem dL_act_349 : decode cL_act 349 = .ok (.ireturn, 1) := by decide +kernel
theorem dL_holds_0 : decode cL_holds 0 = .ok (.iconst 0, 1) := by decide +kernel
theorem dL_holds_1 : decode cL_holds 1 = .ok (.istore_n 1, 1) := by decide +kernel
theorem dL_holds_2 : decode cL_holds 2 = .ok (.iload_n 1, 1) := by decide +kernel
theorem dL_holds_3 : decode cL_holds 3 = .ok (.aload_n 0, 1) := by decide +kernel
theorem dL_holds_4 : decode cL_holds 4 = .ok (.invokevirtual 12, 3) := by decide +kernel
theorem dL_holds_7 : decode cL_holds 7 = .ok (.if_icmp .ge 266, 3) := by decide +kernel
theorem dL_holds_10 : decode cL_holds 10 = .ok (.aload_n 0, 1) := by decide +kernel
theorem dL_holds_11 : decode cL_holds 11 = .ok (.iload_n 1, 1) := by decide +kernel
theorem dL_holds_12 : decode cL_holds 12 = .ok (.invokevirtual 38, 3) := by decide +kernel
theorem dL_holds_15 : decode cL_holds 15 = .ok (.istore_n 2, 1) := by decide +kernel
theorem dL_holds_16 : decode cL_holds 16 = .ok (.aload_n 0, 1) := by decide +kernel
theorem dL_holds_17 : decode cL_holds 17 = .ok (.iload_n 1, 1) := by decide +kernel
theorem dL_holds_18 : decode cL_holds 18 = .ok (.invokevirtual 90, 3) := by decide +kernel
theorem dL_holds_21 : decode cL_holds 21 = .ok (.istore_n 3, 1) := by decide +kernel
theorem dL_holds_22 : decode cL_holds 22 = .ok (.iconst 0, 1) := by decide +kernel
theorem dL_holds_23 : decode cL_holds 23 = .ok (.istore 4, 2) := by decide +kernel
theorem dL_holds_25 : decode cL_holds 25 = .ok (.iconst 0, 1) := by decide +kernel
theorem dL_holds_26 : decode cL_holds 26 = .ok (.istore 5, 2) := by decide +kernel
theorem dL_holds_28 : decode cL_holds 28 = .ok (.iconst 0, 1) := by decide +kernel
theorem dL_holds_29 : decode cL_holds 29 = .ok (.istore 6, 2) := by decide +kernel
theorem dL_holds_31 : decode cL_holds 31 = .ok (.iload 6, 2) := by decide +kernel
theorem dL_holds_33 : decode cL_holds 33 = .ok (.iconst 4, 1) := by decide +kernel
theorem dL_holds_34 : decode cL_holds 34 = .ok (.if_icmp .ge 162, 3) := by decide +kernel
theorem dL_holds_37 : decode cL_holds 37 = .ok (.aload_n 0, 1) := by decide +kernel
theorem dL_holds_38 : decode cL_holds 38 = .ok (.iload 6, 2) := by decide +kernel
theorem dL_holds_40 : decode cL_holds 40 = .ok (.iload_n 1, 1) := by decide +kernel
theorem dL_holds_41 : decode cL_holds 41 = .ok (.invokevirtual 47, 3) := by decide +kernel
theorem dL_holds_44 : decode cL_holds 44 = .ok (.istore 7, 2) := by decide +kernel
theorem dL_holds_46 : decode cL_holds 46 = .ok (.aload_n 0, 1) := by decide +kernel
theorem dL_holds_47 : decode cL_holds 47 = .ok (.iload_n 1, 1) := by decide +kernel
theorem dL_holds_48 : decode cL_holds 48 = .ok (.invokevirtual 93, 3) := by decide +kernel
theorem dL_holds_51 : decode cL_holds 51 = .ok (.iload 6, 2) := by decide +kernel
theorem dL_holds_53 : decode cL_holds 53 = .ok (.ishr, 1) := by decide +kernel
theorem dL_holds_54 : decode cL_holds 54 = .ok (.iconst 1, 1) := by decide +kernel
theorem dL_holds_55 : decode cL_holds 55 = .ok (.iand, 1) := by decide +kernel
theorem dL_holds_56 : decode cL_holds 56 = .ok (.iconst 1, 1) := by decide +kernel
theorem dL_holds_57 : decode cL_holds 57 = .ok (.if_icmp .ne 7, 3) := by decide +kernel
theorem dL_holds_60 : decode cL_holds 60 = .ok (.iconst 1, 1) := by decide +kernel
theorem dL_holds_61 : decode cL_holds 61 = .ok (.goto 4, 3) := by decide +kernel
theorem dL_holds_64 : decode cL_holds 64 = .ok (.iconst 0, 1) := by decide +kernel
theorem dL_holds_65 : decode cL_holds 65 = .ok (.istore 8, 2) := by decide +kernel
theorem dL_holds_67 : decode cL_holds 67 = .ok (.iload 4, 2) := by decide +kernel
theorem dL_holds_69 : decode cL_holds 69 = .ok (.aload_n 0, 1) := by decide +kernel
theorem dL_holds_70 : decode cL_holds 70 = .ok (.iload_n 1, 1) := by decide +kernel
theorem dL_holds_71 : decode cL_holds 71 = .ok (.iload 6, 2) := by decide +kernel
theorem dL_holds_73 : decode cL_holds 73 = .ok (.invokevirtual 96, 3) := by decide +kernel
theorem dL_holds_76 : decode cL_holds 76 = .ok (.iadd, 1) := by decide +kernel
theorem dL_holds_77 : decode cL_holds 77 = .ok (.istore 4, 2) := by decide +kernel
theorem dL_holds_79 : decode cL_holds 79 = .ok (.iload 5, 2) := by decide +kernel
theorem dL_holds_81 : decode cL_holds 81 = .ok (.ifCond .ne 14, 3) := by decide +kernel
theorem dL_holds_84 : decode cL_holds 84 = .ok (.iload 8, 2) := by decide +kernel
theorem dL_holds_86 : decode cL_holds 86 = .ok (.ifCond .eq 13, 3) := by decide +kernel
theorem dL_holds_89 : decode cL_holds 89 = .ok (.iload 7, 2) := by decide +kernel
theorem dL_holds_91 : decode cL_holds 91 = .ok (.iconst 2, 1) := by decide +kernel
theorem dL_holds_92 : decode cL_holds 92 = .ok (.if_icmp .ge 7, 3) := by decide +kernel
theorem dL_holds_95 : decode cL_holds 95 = .ok (.iconst 1, 1) := by decide +kernel
theorem dL_holds_96 : decode cL_holds 96 = .ok (.goto 4, 3) := by decide +kernel
theorem dL_holds_99 : decode cL_holds 99 = .ok (.iconst 0, 1) := by decide +kernel
theorem dL_holds_100 : decode cL_holds 100 = .ok (.istore 5, 2) := by decide +kernel
theorem dL_holds_102 : decode cL_holds 102 = .ok (.iload 7, 2) := by decide +kernel
theorem dL_holds_104 : decode cL_holds 104 = .ok (.aload_n 0, 1) := by decide +kernel
theorem dL_holds_105 : decode cL_holds 105 = .ok (.iload 6, 2) := by decide +kernel
theorem dL_holds_107 : decode cL_holds 107 = .ok (.iload_n 1, 1) := by decide +kernel
theorem dL_holds_108 : decode cL_holds 108 = .ok (.invokevirtual 99, 3) := by decide +kernel
theorem dL_holds_111 : decode cL_holds 111 = .ok (.if_icmp .ne 69, 3) := by decide +kernel
theorem dL_holds_114 : decode cL_holds 114 = .ok (.iload 8, 2) := by decide +kernel
theorem dL_holds_116 : decode cL_holds 116 = .ok (.ifCond .ne 8, 3) := by decide +kernel
theorem dL_holds_119 : decode cL_holds 119 = .ok (.iload 7, 2) := by decide +kernel
theorem dL_holds_121 : decode cL_holds 121 = .ok (.ifCond .ne 59, 3) := by decide +kernel
theorem dL_holds_124 : decode cL_holds 124 = .ok (.iload 8, 2) := by decide +kernel
theorem dL_holds_126 : decode cL_holds 126 = .ok (.aload_n 0, 1) := by decide +kernel
theorem dL_holds_127 : decode cL_holds 127 = .ok (.iload_n 1, 1) := by decide +kernel
theorem dL_holds_128 : decode cL_holds 128 = .ok (.iload 6, 2) := by decide +kernel
theorem dL_holds_130 : decode cL_holds 130 = .ok (.invokevirtual 96, 3) := by decide +kernel
theorem dL_holds_133 : decode cL_holds 133 = .ok (.ifCond .eq 7, 3) := by decide +kernel
theorem dL_holds_136 : decode cL_holds 136 = .ok (.iconst 1, 1) := by decide +kernel
theorem dL_holds_137 : decode cL_holds 137 = .ok (.goto 4, 3) := by decide +kernel
theorem dL_holds_140 : decode cL_holds 140 = .ok (.iconst 0, 1) := by decide +kernel
theorem dL_holds_141 : decode cL_holds 141 = .ok (.if_icmp .ne 39, 3) := by decide +kernel
theorem dL_holds_144 : decode cL_holds 144 = .ok (.iload_n 2, 1) := by decide +kernel
theorem dL_holds_145 : decode cL_holds 145 = .ok (.iconst 1, 1) := by decide +kernel
theorem dL_holds_146 : decode cL_holds 146 = .ok (.if_icmp .ne 19, 3) := by decide +kernel
theorem dL_holds_149 : decode cL_holds 149 = .ok (.iload 7, 2) := by decide +kernel
theorem dL_holds_151 : decode cL_holds 151 = .ok (.iconst 3, 1) := by decide +kernel
theorem dL_holds_152 : decode cL_holds 152 = .ok (.if_icmp .eq 28, 3) := by decide +kernel
theorem dL_holds_155 : decode cL_holds 155 = .ok (.iload 8, 2) := by decide +kernel
theorem dL_holds_157 : decode cL_holds 157 = .ok (.ifCond .eq 8, 3) := by decide +kernel
theorem dL_holds_160 : decode cL_holds 160 = .ok (.iload 7, 2) := by decide +kernel
theorem dL_holds_162 : decode cL_holds 162 = .ok (.ifCond .le 18, 3) := by decide +kernel
theorem dL_holds_165 : decode cL_holds 165 = .ok (.iload_n 2, 1) := by decide +kernel
theorem dL_holds_166 : decode cL_holds 166 = .ok (.iconst 2, 1) := by decide +kernel
theorem dL_holds_167 : decode cL_holds 167 = .ok (.if_icmp .ne 9, 3) := by decide +kernel
theorem dL_holds_170 : decode cL_holds 170 = .ok (.iload 7, 2) := by decide +kernel
theorem dL_holds_172 : decode cL_holds 172 = .ok (.iconst 2, 1) := by decide +kernel
theorem dL_holds_173 : decode cL_holds 173 = .ok (.if_icmp .eq 7, 3) := by decide +kernel
theorem dL_holds_176 : decode cL_holds 176 = .ok (.iconst 1, 1) := by decide +kernel
theorem dL_holds_177 : decode cL_holds 177 = .ok (.goto 4, 3) := by decide +kernel
theorem dL_holds_180 : decode cL_holds 180 = .ok (.iconst 0, 1) := by decide +kernel
theorem dL_holds_181 : decode cL_holds 181 = .ok (.istore 9, 2) := by decide +kernel
theorem dL_holds_183 : decode cL_holds 183 = .ok (.iload 9, 2) := by decide +kernel
theorem dL_holds_185 : decode cL_holds 185 = .ok (.ifCond .ne 5, 3) := by decide +kernel
theorem dL_holds_188 : decode cL_holds 188 = .ok (.iconst 0, 1) := by decide +kernel
theorem dL_holds_189 : decode cL_holds 189 = .ok (.ireturn, 1) := by decide +kernel
theorem dL_holds_190 : decode cL_holds 190 = .ok (.iinc 6 1, 3) := by decide +kernel
theorem dL_holds_193 : decode cL_holds 193 = .ok (.goto (-162), 3) := by decide +kernel
theorem dL_holds_196 : decode cL_holds 196 = .ok (.iload_n 3, 1) := by decide +kernel
theorem dL_holds_197 : decode cL_holds 197 = .ok (.iconst 3, 1) := by decide +kernel
theorem dL_holds_198 : decode cL_holds 198 = .ok (.if_icmp .eq 67, 3) := by decide +kernel
theorem dL_holds_201 : decode cL_holds 201 = .ok (.iload_n 3, 1) := by decide +kernel
theorem dL_holds_202 : decode cL_holds 202 = .ok (.iconst 1, 1) := by decide +kernel
theorem dL_holds_203 : decode cL_holds 203 = .ok (.if_icmp .ne 8, 3) := by decide +kernel
theorem dL_holds_206 : decode cL_holds 206 = .ok (.iload_n 2, 1) := by decide +kernel
theorem dL_holds_207 : decode cL_holds 207 = .ok (.iconst 1, 1) := by decide +kernel
theorem dL_holds_208 : decode cL_holds 208 = .ok (.if_icmp .ne 57, 3) := by decide +kernel
theorem dL_holds_211 : decode cL_holds 211 = .ok (.iload 4, 2) := by decide +kernel
theorem dL_holds_213 : decode cL_holds 213 = .ok (.ifCond .ne 52, 3) := by decide +kernel
theorem dL_holds_216 : decode cL_holds 216 = .ok (.aload_n 0, 1) := by decide +kernel
theorem dL_holds_217 : decode cL_holds 217 = .ok (.iload_n 1, 1) := by decide +kernel
theorem dL_holds_218 : decode cL_holds 218 = .ok (.invokevirtual 102, 3) := by decide +kernel
theorem dL_holds_221 : decode cL_holds 221 = .ok (.ifCond .eq 12, 3) := by decide +kernel
theorem dL_holds_224 : decode cL_holds 224 = .ok (.iload_n 2, 1) := by decide +kernel
theorem dL_holds_225 : decode cL_holds 225 = .ok (.ifCond .eq 40, 3) := by decide +kernel
theorem dL_holds_228 : decode cL_holds 228 = .ok (.iload 5, 2) := by decide +kernel
theorem dL_holds_230 : decode cL_holds 230 = .ok (.ifCond .ne 35, 3) := by decide +kernel
theorem dL_holds_233 : decode cL_holds 233 = .ok (.aload_n 0, 1) := by decide +kernel
theorem dL_holds_234 : decode cL_holds 234 = .ok (.iload_n 1, 1) := by decide +kernel
theorem dL_holds_235 : decode cL_holds 235 = .ok (.invokevirtual 41, 3) := by decide +kernel
theorem dL_holds_238 : decode cL_holds 238 = .ok (.aload_n 0, 1) := by decide +kernel
theorem dL_holds_239 : decode cL_holds 239 = .ok (.iload_n 1, 1) := by decide +kernel
theorem dL_holds_240 : decode cL_holds 240 = .ok (.invokevirtual 93, 3) := by decide +kernel
theorem dL_holds_243 : decode cL_holds 243 = .ok (.iconst (-1), 1) := by decide +kernel
theorem dL_holds_244 : decode cL_holds 244 = .ok (.ixor, 1) := by decide +kernel
theorem dL_holds_245 : decode cL_holds 245 = .ok (.iand, 1) := by decide +kernel
theorem dL_holds_246 : decode cL_holds 246 = .ok (.ifCond .ne 19, 3) := by decide +kernel
theorem dL_holds_249 : decode cL_holds 249 = .ok (.aload_n 0, 1) := by decide +kernel
theorem dL_holds_250 : decode cL_holds 250 = .ok (.iload_n 1, 1) := by decide +kernel
theorem dL_holds_251 : decode cL_holds 251 = .ok (.invokevirtual 44, 3) := by decide +kernel
theorem dL_holds_254 : decode cL_holds 254 = .ok (.aload_n 0, 1) := by decide +kernel
theorem dL_holds_255 : decode cL_holds 255 = .ok (.iload_n 1, 1) := by decide +kernel
theorem dL_holds_256 : decode cL_holds 256 = .ok (.invokevirtual 93, 3) := by decide +kernel
theorem dL_holds_259 : decode cL_holds 259 = .ok (.iconst (-1), 1) := by decide +kernel
theorem dL_holds_260 : decode cL_holds 260 = .ok (.ixor, 1) := by decide +kernel
theorem dL_holds_261 : decode cL_holds 261 = .ok (.iand, 1) := by decide +kernel
theorem dL_holds_262 : decode cL_holds 262 = .ok (.ifCond .eq 5, 3) := by decide +kernel
theorem dL_holds_265 : decode cL_holds 265 = .ok (.iconst 0, 1) := by decide +kernel
theorem dL_holds_266 : decode cL_holds 266 = .ok (.ireturn, 1) := by decide +kernel
theorem dL_holds_267 : decode cL_holds 267 = .ok (.iinc 1 1, 3) := by decide +kernel
theorem dL_holds_270 : decode cL_holds 270 = .ok (.goto (-268), 3) := by decide +kernel
theorem dL_holds_273 : decode cL_holds 273 = .ok (.iconst 0, 1) := by decide +kernel
theorem dL_holds_274 : decode cL_holds 274 = .ok (.istore_n 1, 1) := by decide +kernel
theorem dL_holds_275 : decode cL_holds 275 = .ok (.iload_n 1, 1) := by decide +kernel
theorem dL_holds_276 : decode cL_holds 276 = .ok (.iconst 4, 1) := by decide +kernel
theorem dL_holds_277 : decode cL_holds 277 = .ok (.if_icmp .ge 53, 3) := by decide +kernel
theorem dL_holds_280 : decode cL_holds 280 = .ok (.aload_n 0, 1) := by decide +kernel
theorem dL_holds_281 : decode cL_holds 281 = .ok (.iload_n 1, 1) := by decide +kernel
theorem dL_holds_282 : decode cL_holds 282 = .ok (.invokevirtual 105, 3) := by decide +kernel
theorem dL_holds_285 : decode cL_holds 285 = .ok (.aload_n 0, 1) := by decide +kernel
theorem dL_holds_286 : decode cL_holds 286 = .ok (.iload_n 1, 1) := by decide +kernel
theorem dL_holds_287 : decode cL_holds 287 = .ok (.invokevirtual 108, 3) := by decide +kernel
theorem dL_holds_290 : decode cL_holds 290 = .ok (.if_icmp .ne 32, 3) := by decide +kernel
theorem dL_holds_293 : decode cL_holds 293 = .ok (.aload_n 0, 1) := by decide +kernel
theorem dL_holds_294 : decode cL_holds 294 = .ok (.iload_n 1, 1) := by decide +kernel
theorem dL_holds_295 : decode cL_holds 295 = .ok (.invokevirtual 105, 3) := by decide +kernel
theorem dL_holds_298 : decode cL_holds 298 = .ok (.ifCond .lt 24, 3) := by decide +kernel
theorem dL_holds_301 : decode cL_holds 301 = .ok (.aload_n 0, 1) := by decide +kernel
theorem dL_holds_302 : decode cL_holds 302 = .ok (.iload_n 1, 1) := by decide +kernel
theorem dL_holds_303 : decode cL_holds 303 = .ok (.invokevirtual 105, 3) := by decide +kernel
theorem dL_holds_306 : decode cL_holds 306 = .ok (.sipush 999, 3) := by decide +kernel
theorem dL_holds_309 : decode cL_holds 309 = .ok (.if_icmp .gt 13, 3) := by decide +kernel
theorem dL_holds_312 : decode cL_holds 312 = .ok (.aload_n 0, 1) := by decide +kernel
theorem dL_holds_313 : decode cL_holds 313 = .ok (.iload_n 1, 1) := by decide +kernel
theorem dL_holds_314 : decode cL_holds 314 = .ok (.invokevirtual 34, 3) := by decide +kernel
theorem dL_holds_317 : decode cL_holds 317 = .ok (.bipush 16, 2) := by decide +kernel
theorem dL_holds_319 : decode cL_holds 319 = .ok (.if_icmp .le 5, 3) := by decide +kernel
theorem dL_holds_322 : decode cL_holds 322 = .ok (.iconst 0, 1) := by decide +kernel
theorem dL_holds_323 : decode cL_holds 323 = .ok (.ireturn, 1) := by decide +kernel
theorem dL_holds_324 : decode cL_holds 324 = .ok (.iinc 1 1, 3) := by decide +kernel
theorem dL_holds_327 : decode cL_holds 327 = .ok (.goto (-52), 3) := by decide +kernel
theorem dL_holds_330 : decode cL_holds 330 = .ok (.aload_n 0, 1) := by decide +kernel
theorem dL_holds_331 : decode cL_holds 331 = .ok (.invokevirtual 27, 3) := by decide +kernel
theorem dL_holds_334 : decode cL_holds 334 = .ok (.aload_n 0, 1) := by decide +kernel
theorem dL_holds_335 : decode cL_holds 335 = .ok (.invokevirtual 111, 3) := by decide +kernel
theorem dL_holds_338 : decode cL_holds 338 = .ok (.iadd, 1) := by decide +kernel
theorem dL_holds_339 : decode cL_holds 339 = .ok (.sipush 400, 3) := by decide +kernel
theorem dL_holds_342 : decode cL_holds 342 = .ok (.if_icmp .ne 53, 3) := by decide +kernel
theorem dL_holds_345 : decode cL_holds 345 = .ok (.aload_n 0, 1) := by decide +kernel
theorem dL_holds_346 : decode cL_holds 346 = .ok (.invokevirtual 21, 3) := by decide +kernel
theorem dL_holds_349 : decode cL_holds 349 = .ok (.aload_n 0, 1) := by decide +kernel
theorem dL_holds_350 : decode cL_holds 350 = .ok (.invokevirtual 114, 3) := by decide +kernel
theorem dL_holds_353 : decode cL_holds 353 = .ok (.if_icmp .ne 42, 3) := by decide +kernel
theorem dL_holds_356 : decode cL_holds 356 = .ok (.aload_n 0, 1) := by decide +kernel
theorem dL_holds_357 : decode cL_holds 357 = .ok (.invokevirtual 24, 3) := by decide +kernel
theorem dL_holds_360 : decode cL_holds 360 = .ok (.aload_n 0, 1) := by decide +kernel
theorem dL_holds_361 : decode cL_holds 361 = .ok (.invokevirtual 18, 3) := by decide +kernel
theorem dL_holds_364 : decode cL_holds 364 = .ok (.iadd, 1) := by decide +kernel
theorem dL_holds_365 : decode cL_holds 365 = .ok (.aload_n 0, 1) := by decide +kernel
theorem dL_holds_366 : decode cL_holds 366 = .ok (.invokevirtual 21, 3) := by decide +kernel
theorem dL_holds_369 : decode cL_holds 369 = .ok (.if_icmp .gt 26, 3) := by decide +kernel
theorem dL_holds_372 : decode cL_holds 372 = .ok (.aload_n 0, 1) := by decide +kernel
theorem dL_holds_373 : decode cL_holds 373 = .ok (.invokevirtual 18, 3) := by decide +kernel
theorem dL_holds_376 : decode cL_holds 376 = .ok (.bipush 60, 2) := by decide +kernel
theorem dL_holds_378 : decode cL_holds 378 = .ok (.if_icmp .gt 17, 3) := by decide +kernel
theorem dL_holds_381 : decode cL_holds 381 = .ok (.aload_n 0, 1) := by decide +kernel
theorem dL_holds_382 : decode cL_holds 382 = .ok (.iconst 4, 1) := by decide +kernel
theorem dL_holds_383 : decode cL_holds 383 = .ok (.invokevirtual 34, 3) := by decide +kernel
theorem dL_holds_386 : decode cL_holds 386 = .ok (.bipush 24, 2) := by decide +kernel
theorem dL_holds_388 : decode cL_holds 388 = .ok (.if_icmp .gt 7, 3) := by decide +kernel
theorem dL_holds_391 : decode cL_holds 391 = .ok (.iconst 1, 1) := by decide +kernel
theorem dL_holds_392 : decode cL_holds 392 = .ok (.goto 4, 3) := by decide +kernel
theorem dL_holds_395 : decode cL_holds 395 = .ok (.iconst 0, 1) := by decide +kernel
theorem dL_holds_396 : decode cL_holds 396 = .ok (.istore_n 1, 1) := by decide +kernel
theorem dL_holds_397 : decode cL_holds 397 = .ok (.iload_n 1, 1) := by decide +kernel
theorem dL_holds_398 : decode cL_holds 398 = .ok (.ifCond .eq 63, 3) := by decide +kernel
theorem dL_holds_401 : decode cL_holds 401 = .ok (.aload_n 0, 1) := by decide +kernel
theorem dL_holds_402 : decode cL_holds 402 = .ok (.invokevirtual 117, 3) := by decide +kernel
theorem dL_holds_405 : decode cL_holds 405 = .ok (.dconst 0, 1) := by decide +kernel
theorem dL_holds_406 : decode cL_holds 406 = .ok (.dcmp .l, 1) := by decide +kernel
theorem dL_holds_407 : decode cL_holds 407 = .ok (.ifCond .lt 54, 3) := by decide +kernel
theorem dL_holds_410 : decode cL_holds 410 = .ok (.aload_n 0, 1) := by decide +kernel
theorem dL_holds_411 : decode cL_holds 411 = .ok (.invokevirtual 117, 3) := by decide +kernel
theorem dL_holds_414 : decode cL_holds 414 = .ok (.dconst 1, 1) := by decide +kernel
theorem dL_holds_415 : decode cL_holds 415 = .ok (.dcmp .g, 1) := by decide +kernel
theorem dL_holds_416 : decode cL_holds 416 = .ok (.ifCond .gt 45, 3) := by decide +kernel
theorem dL_holds_419 : decode cL_holds 419 = .ok (.aload_n 0, 1) := by decide +kernel
theorem dL_holds_420 : decode cL_holds 420 = .ok (.invokevirtual 12, 3) := by decide +kernel
theorem dL_holds_423 : decode cL_holds 423 = .ok (.ifCond .ne 15, 3) := by decide +kernel
theorem dL_holds_426 : decode cL_holds 426 = .ok (.aload_n 0, 1) := by decide +kernel
theorem dL_holds_427 : decode cL_holds 427 = .ok (.invokevirtual 121, 3) := by decide +kernel
theorem dL_holds_430 : decode cL_holds 430 = .ok (.fconst 0, 1) := by decide +kernel
theorem dL_holds_431 : decode cL_holds 431 = .ok (.fcmp .l, 1) := by decide +kernel
theorem dL_holds_432 : decode cL_holds 432 = .ok (.ifCond .ne 29, 3) := by decide +kernel
theorem dL_holds_435 : decode cL_holds 435 = .ok (.goto 22, 3) := by decide +kernel
theorem dL_holds_438 : decode cL_holds 438 = .ok (.aload_n 0, 1) := by decide +kernel
theorem dL_holds_439 : decode cL_holds 439 = .ok (.invokevirtual 121, 3) := by decide +kernel
theorem dL_holds_442 : decode cL_holds 442 = .ok (.fconst 1, 1) := by decide +kernel
theorem dL_holds_443 : decode cL_holds 443 = .ok (.fcmp .l, 1) := by decide +kernel
theorem dL_holds_444 : decode cL_holds 444 = .ok (.ifCond .lt 17, 3) := by decide +kernel
theorem dL_holds_447 : decode cL_holds 447 = .ok (.aload_n 0, 1) := by decide +kernel
theorem dL_holds_448 : decode cL_holds 448 = .ok (.invokevirtual 121, 3) := by decide +kernel
theorem dL_holds_451 : decode cL_holds 451 = .ok (.ldc 125, 2) := by decide +kernel
theorem dL_holds_453 : decode cL_holds 453 = .ok (.fcmp .g, 1) := by decide +kernel
theorem dL_holds_454 : decode cL_holds 454 = .ok (.ifCond .gt 7, 3) := by decide +kernel
theorem dL_holds_457 : decode cL_holds 457 = .ok (.iconst 1, 1) := by decide +kernel
theorem dL_holds_458 : decode cL_holds 458 = .ok (.goto 4, 3) := by decide +kernel
theorem dL_holds_461 : decode cL_holds 461 = .ok (.iconst 0, 1) := by decide +kernel
theorem dL_holds_462 : decode cL_holds 462 = .ok (.ireturn, 1) := by decide +kernel
theorem dL_law_0 : decode cL_law 0 = .ok (.new 13, 3) := by decide +kernel
theorem dL_law_3 : decode cL_law 3 = .ok (.dup, 1) := by decide +kernel
theorem dL_law_4 : decode cL_law 4 = .ok (.invokespecial 126, 3) := by decide +kernel
theorem dL_law_7 : decode cL_law 7 = .ok (.astore_n 1, 1) := by decide +kernel
theorem dL_law_8 : decode cL_law 8 = .ok (.aload_n 1, 1) := by decide +kernel
theorem dL_law_9 : decode cL_law 9 = .ok (.invokevirtual 12, 3) := by decide +kernel
theorem dL_law_12 : decode cL_law 12 = .ok (.ifCond .ne 46, 3) := by decide +kernel
theorem dL_law_15 : decode cL_law 15 = .ok (.aload_n 1, 1) := by decide +kernel
theorem dL_law_16 : decode cL_law 16 = .ok (.invokevirtual 18, 3) := by decide +kernel
theorem dL_law_19 : decode cL_law 19 = .ok (.ifCond .ne 39, 3) := by decide +kernel
theorem dL_law_22 : decode cL_law 22 = .ok (.aload_n 1, 1) := by decide +kernel
theorem dL_law_23 : decode cL_law 23 = .ok (.invokevirtual 27, 3) := by decide +kernel
theorem dL_law_26 : decode cL_law 26 = .ok (.sipush 400, 3) := by decide +kernel
theorem dL_law_29 : decode cL_law 29 = .ok (.if_icmp .ne 29, 3) := by decide +kernel
theorem dL_law_32 : decode cL_law 32 = .ok (.aload_n 1, 1) := by decide +kernel
theorem dL_law_33 : decode cL_law 33 = .ok (.iconst 4, 1) := by decide +kernel
theorem dL_law_34 : decode cL_law 34 = .ok (.invokevirtual 30, 3) := by decide +kernel
theorem dL_law_37 : decode cL_law 37 = .ok (.ifCond .eq 21, 3) := by decide +kernel
theorem dL_law_40 : decode cL_law 40 = .ok (.aload_n 1, 1) := by decide +kernel
theorem dL_law_41 : decode cL_law 41 = .ok (.iconst 0, 1) := by decide +kernel
theorem dL_law_42 : decode cL_law 42 = .ok (.iconst 2, 1) := by decide +kernel
theorem dL_law_43 : decode cL_law 43 = .ok (.invokevirtual 127, 3) := by decide +kernel
theorem dL_law_46 : decode cL_law 46 = .ok (.bipush 50, 2) := by decide +kernel
theorem dL_law_48 : decode cL_law 48 = .ok (.if_icmp .ne 10, 3) := by decide +kernel
theorem dL_law_51 : decode cL_law 51 = .ok (.aload_n 1, 1) := by decide +kernel
theorem dL_law_52 : decode cL_law 52 = .ok (.invokevirtual 130, 3) := by decide +kernel
theorem dL_law_55 : decode cL_law 55 = .ok (.ifCond .eq 5, 3) := by decide +kernel
theorem dL_law_58 : decode cL_law 58 = .ok (.iconst 0, 1) := by decide +kernel
theorem dL_law_59 : decode cL_law 59 = .ok (.ireturn, 1) := by decide +kernel
theorem dL_law_60 : decode cL_law 60 = .ok (.iconst 0, 1) := by decide +kernel
theorem dL_law_61 : decode cL_law 61 = .ok (.istore_n 2, 1) := by decide +kernel
theorem dL_law_62 : decode cL_law 62 = .ok (.iload_n 2, 1) := by decide +kernel
theorem dL_law_63 : decode cL_law 63 = .ok (.bipush 42, 2) := by decide +kernel
theorem dL_law_65 : decode cL_law 65 = .ok (.if_icmp .ge 138, 3) := by decide +kernel
theorem dL_law_68 : decode cL_law 68 = .ok (.aload_n 0, 1) := by decide +kernel
theorem dL_law_69 : decode cL_law 69 = .ok (.iconst 2, 1) := by decide +kernel
theorem dL_law_70 : decode cL_law 70 = .ok (.iload_n 2, 1) := by decide +kernel
theorem dL_law_71 : decode cL_law 71 = .ok (.imul, 1) := by decide +kernel
theorem dL_law_72 : decode cL_law 72 = .ok (.invokestatic 133, 3) := by decide +kernel
theorem dL_law_75 : decode cL_law 75 = .ok (.istore_n 3, 1) := by decide +kernel
theorem dL_law_76 : decode cL_law 76 = .ok (.iload_n 2, 1) := by decide +kernel
theorem dL_law_77 : decode cL_law 77 = .ok (.iconst 2, 1) := by decide +kernel
theorem dL_law_78 : decode cL_law 78 = .ok (.if_icmp .ge 10, 3) := by decide +kernel
theorem dL_law_81 : decode cL_law 81 = .ok (.iload_n 3, 1) := by decide +kernel
theorem dL_law_82 : decode cL_law 82 = .ok (.bipush (-16), 2) := by decide +kernel
theorem dL_law_84 : decode cL_law 84 = .ok (.iand, 1) := by decide +kernel
theorem dL_law_85 : decode cL_law 85 = .ok (.goto 4, 3) := by decide +kernel
theorem dL_law_88 : decode cL_law 88 = .ok (.iload_n 3, 1) := by decide +kernel
theorem dL_law_89 : decode cL_law 89 = .ok (.istore_n 3, 1) := by decide +kernel
theorem dL_law_90 : decode cL_law 90 = .ok (.aload_n 0, 1) := by decide +kernel
theorem dL_law_91 : decode cL_law 91 = .ok (.iconst 2, 1) := by decide +kernel
theorem dL_law_92 : decode cL_law 92 = .ok (.iload_n 2, 1) := by decide +kernel
theorem dL_law_93 : decode cL_law 93 = .ok (.imul, 1) := by decide +kernel
theorem dL_law_94 : decode cL_law 94 = .ok (.iconst 1, 1) := by decide +kernel
theorem dL_law_95 : decode cL_law 95 = .ok (.iadd, 1) := by decide +kernel
theorem dL_law_96 : decode cL_law 96 = .ok (.invokestatic 133, 3) := by decide +kernel
theorem dL_law_99 : decode cL_law 99 = .ok (.istore 4, 2) := by decide +kernel
theorem dL_law_101 : decode cL_law 101 = .ok (.aload_n 1, 1) := by decide +kernel
theorem dL_law_102 : decode cL_law 102 = .ok (.invokestatic 137, 3) := by decide +kernel
theorem dL_law_105 : decode cL_law 105 = .ok (.lstore 5, 2) := by decide +kernel
theorem dL_law_107 : decode cL_law 107 = .ok (.aload_n 1, 1) := by decide +kernel
theorem dL_law_108 : decode cL_law 108 = .ok (.iload_n 3, 1) := by decide +kernel
theorem dL_law_109 : decode cL_law 109 = .ok (.iload 4, 2) := by decide +kernel
theorem dL_law_111 : decode cL_law 111 = .ok (.invokestatic 141, 3) := by decide +kernel
theorem dL_law_114 : decode cL_law 114 = .ok (.istore 7, 2) := by decide +kernel
theorem dL_law_116 : decode cL_law 116 = .ok (.aload_n 1, 1) := by decide +kernel
theorem dL_law_117 : decode cL_law 117 = .ok (.invokestatic 137, 3) := by decide +kernel
theorem dL_law_120 : decode cL_law 120 = .ok (.lstore 8, 2) := by decide +kernel
theorem dL_law_122 : decode cL_law 122 = .ok (.iload 7, 2) := by decide +kernel
theorem dL_law_124 : decode cL_law 124 = .ok (.ifCond .ne 13, 3) := by decide +kernel
theorem dL_law_127 : decode cL_law 127 = .ok (.lload 8, 2) := by decide +kernel
theorem dL_law_129 : decode cL_law 129 = .ok (.lload 5, 2) := by decide +kernel
theorem dL_law_131 : decode cL_law 131 = .ok (.lcmp, 1) := by decide +kernel
theorem dL_law_132 : decode cL_law 132 = .ok (.ifCond .eq 5, 3) := by decide +kernel
theorem dL_law_135 : decode cL_law 135 = .ok (.iconst 0, 1) := by decide +kernel
theorem dL_law_136 : decode cL_law 136 = .ok (.ireturn, 1) := by decide +kernel
theorem dL_law_137 : decode cL_law 137 = .ok (.iload 7, 2) := by decide +kernel
theorem dL_law_139 : decode cL_law 139 = .ok (.ifCond .eq 49, 3) := by decide +kernel
theorem dL_law_142 : decode cL_law 142 = .ok (.iload_n 3, 1) := by decide +kernel
theorem dL_law_143 : decode cL_law 143 = .ok (.bipush 20, 2) := by decide +kernel
theorem dL_law_145 : decode cL_law 145 = .ok (.ishr, 1) := by decide +kernel
theorem dL_law_146 : decode cL_law 146 = .ok (.iconst 1, 1) := by decide +kernel
theorem dL_law_147 : decode cL_law 147 = .ok (.iand, 1) := by decide +kernel
theorem dL_law_148 : decode cL_law 148 = .ok (.ifCond .ne 40, 3) := by decide +kernel
theorem dL_law_151 : decode cL_law 151 = .ok (.aload_n 1, 1) := by decide +kernel
theorem dL_law_152 : decode cL_law 152 = .ok (.invokevirtual 145, 3) := by decide +kernel
theorem dL_law_155 : decode cL_law 155 = .ok (.pop, 1) := by decide +kernel
theorem dL_law_156 : decode cL_law 156 = .ok (.aload_n 1, 1) := by decide +kernel
theorem dL_law_157 : decode cL_law 157 = .ok (.invokestatic 137, 3) := by decide +kernel
theorem dL_law_160 : decode cL_law 160 = .ok (.lload 5, 2) := by decide +kernel
theorem dL_law_162 : decode cL_law 162 = .ok (.lcmp, 1) := by decide +kernel
theorem dL_law_163 : decode cL_law 163 = .ok (.ifCond .ne 23, 3) := by decide +kernel
theorem dL_law_166 : decode cL_law 166 = .ok (.aload_n 1, 1) := by decide +kernel
theorem dL_law_167 : decode cL_law 167 = .ok (.iload_n 3, 1) := by decide +kernel
theorem dL_law_168 : decode cL_law 168 = .ok (.iload 4, 2) := by decide +kernel
theorem dL_law_170 : decode cL_law 170 = .ok (.invokestatic 141, 3) := by decide +kernel
theorem dL_law_173 : decode cL_law 173 = .ok (.ifCond .eq 13, 3) := by decide +kernel
theorem dL_law_176 : decode cL_law 176 = .ok (.aload_n 1, 1) := by decide +kernel
theorem dL_law_177 : decode cL_law 177 = .ok (.invokestatic 137, 3) := by decide +kernel
theorem dL_law_180 : decode cL_law 180 = .ok (.lload 8, 2) := by decide +kernel
theorem dL_law_182 : decode cL_law 182 = .ok (.lcmp, 1) := by decide +kernel
theorem dL_law_183 : decode cL_law 183 = .ok (.ifCond .eq 5, 3) := by decide +kernel
theorem dL_law_186 : decode cL_law 186 = .ok (.iconst 0, 1) := by decide +kernel
theorem dL_law_187 : decode cL_law 187 = .ok (.ireturn, 1) := by decide +kernel
theorem dL_law_188 : decode cL_law 188 = .ok (.aload_n 1, 1) := by decide +kernel
theorem dL_law_189 : decode cL_law 189 = .ok (.invokestatic 148, 3) := by decide +kernel
theorem dL_law_192 : decode cL_law 192 = .ok (.ifCond .ne 5, 3) := by decide +kernel
theorem dL_law_195 : decode cL_law 195 = .ok (.iconst 0, 1) := by decide +kernel
theorem dL_law_196 : decode cL_law 196 = .ok (.ireturn, 1) := by decide +kernel
theorem dL_law_197 : decode cL_law 197 = .ok (.iinc 2 1, 3) := by decide +kernel
theorem dL_law_200 : decode cL_law 200 = .ok (.goto (-138), 3) := by decide +kernel
theorem dL_law_203 : decode cL_law 203 = .ok (.iconst 1, 1) := by decide +kernel
theorem dL_law_204 : decode cL_law 204 = .ok (.ireturn, 1) := by decide +kernel
