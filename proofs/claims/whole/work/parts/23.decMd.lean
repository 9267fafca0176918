theorem d_Md_init_0 : decode k_Md_init.1 0 = .ok (.aload_n 0, 1) := by decide +kernel
theorem d_Md_init_1 : decode k_Md_init.1 1 = .ok (.invokespecial 1, 3) := by decide +kernel
theorem d_Md_init_4 : decode k_Md_init.1 4 = .ok (.aload_n 0, 1) := by decide +kernel
theorem d_Md_init_5 : decode k_Md_init.1 5 = .ok (.bipush 16, 2) := by decide +kernel
theorem d_Md_init_7 : decode k_Md_init.1 7 = .ok (.newarray .boolean, 2) := by decide +kernel
theorem d_Md_init_9 : decode k_Md_init.1 9 = .ok (.putfield 7, 3) := by decide +kernel
theorem d_Md_init_12 : decode k_Md_init.1 12 = .ok (.aload_n 0, 1) := by decide +kernel
theorem d_Md_init_13 : decode k_Md_init.1 13 = .ok (.bipush 16, 2) := by decide +kernel
theorem d_Md_init_15 : decode k_Md_init.1 15 = .ok (.newarray .boolean, 2) := by decide +kernel
theorem d_Md_init_17 : decode k_Md_init.1 17 = .ok (.putfield 13, 3) := by decide +kernel
theorem d_Md_init_20 : decode k_Md_init.1 20 = .ok (.aload_n 0, 1) := by decide +kernel
theorem d_Md_init_21 : decode k_Md_init.1 21 = .ok (.bipush 16, 2) := by decide +kernel
theorem d_Md_init_23 : decode k_Md_init.1 23 = .ok (.newarray .int, 2) := by decide +kernel
theorem d_Md_init_25 : decode k_Md_init.1 25 = .ok (.putfield 16, 3) := by decide +kernel
theorem d_Md_init_28 : decode k_Md_init.1 28 = .ok (.aload_n 0, 1) := by decide +kernel
theorem d_Md_init_29 : decode k_Md_init.1 29 = .ok (.sipush 960, 3) := by decide +kernel
theorem d_Md_init_32 : decode k_Md_init.1 32 = .ok (.newarray .int, 2) := by decide +kernel
theorem d_Md_init_34 : decode k_Md_init.1 34 = .ok (.putfield 20, 3) := by decide +kernel
theorem d_Md_init_37 : decode k_Md_init.1 37 = .ok (.aload_n 0, 1) := by decide +kernel
theorem d_Md_init_38 : decode k_Md_init.1 38 = .ok (.bipush 16, 2) := by decide +kernel
theorem d_Md_init_40 : decode k_Md_init.1 40 = .ok (.newarray .int, 2) := by decide +kernel
theorem d_Md_init_42 : decode k_Md_init.1 42 = .ok (.putfield 23, 3) := by decide +kernel
theorem d_Md_init_45 : decode k_Md_init.1 45 = .ok (.aload_n 0, 1) := by decide +kernel
theorem d_Md_init_46 : decode k_Md_init.1 46 = .ok (.bipush 16, 2) := by decide +kernel
theorem d_Md_init_48 : decode k_Md_init.1 48 = .ok (.newarray .boolean, 2) := by decide +kernel
theorem d_Md_init_50 : decode k_Md_init.1 50 = .ok (.putfield 26, 3) := by decide +kernel
theorem d_Md_init_53 : decode k_Md_init.1 53 = .ok (.aload_n 0, 1) := by decide +kernel
theorem d_Md_init_54 : decode k_Md_init.1 54 = .ok (.bipush 8, 2) := by decide +kernel
theorem d_Md_init_56 : decode k_Md_init.1 56 = .ok (.newarray .int, 2) := by decide +kernel
theorem d_Md_init_58 : decode k_Md_init.1 58 = .ok (.putfield 29, 3) := by decide +kernel
theorem d_Md_init_61 : decode k_Md_init.1 61 = .ok (.aload_n 0, 1) := by decide +kernel
theorem d_Md_init_62 : decode k_Md_init.1 62 = .ok (.bipush 8, 2) := by decide +kernel
theorem d_Md_init_64 : decode k_Md_init.1 64 = .ok (.newarray .int, 2) := by decide +kernel
theorem d_Md_init_66 : decode k_Md_init.1 66 = .ok (.putfield 32, 3) := by decide +kernel
theorem d_Md_init_69 : decode k_Md_init.1 69 = .ok (.aload_n 0, 1) := by decide +kernel
theorem d_Md_init_70 : decode k_Md_init.1 70 = .ok (.bipush 16, 2) := by decide +kernel
theorem d_Md_init_72 : decode k_Md_init.1 72 = .ok (.newarray .boolean, 2) := by decide +kernel
theorem d_Md_init_74 : decode k_Md_init.1 74 = .ok (.putfield 35, 3) := by decide +kernel
theorem d_Md_init_77 : decode k_Md_init.1 77 = .ok (.aload_n 0, 1) := by decide +kernel
theorem d_Md_init_78 : decode k_Md_init.1 78 = .ok (.bipush 16, 2) := by decide +kernel
theorem d_Md_init_80 : decode k_Md_init.1 80 = .ok (.newarray .int, 2) := by decide +kernel
theorem d_Md_init_82 : decode k_Md_init.1 82 = .ok (.putfield 38, 3) := by decide +kernel
theorem d_Md_init_85 : decode k_Md_init.1 85 = .ok (.aload_n 0, 1) := by decide +kernel
theorem d_Md_init_86 : decode k_Md_init.1 86 = .ok (.sipush 480, 3) := by decide +kernel
theorem d_Md_init_89 : decode k_Md_init.1 89 = .ok (.newarray .long, 2) := by decide +kernel
theorem d_Md_init_91 : decode k_Md_init.1 91 = .ok (.putfield 41, 3) := by decide +kernel
theorem d_Md_init_94 : decode k_Md_init.1 94 = .ok (.aload_n 0, 1) := by decide +kernel
theorem d_Md_init_95 : decode k_Md_init.1 95 = .ok (.sipush 480, 3) := by decide +kernel
theorem d_Md_init_98 : decode k_Md_init.1 98 = .ok (.newarray .int, 2) := by decide +kernel
theorem d_Md_init_100 : decode k_Md_init.1 100 = .ok (.putfield 45, 3) := by decide +kernel
theorem d_Md_init_103 : decode k_Md_init.1 103 = .ok (.aload_n 0, 1) := by decide +kernel
theorem d_Md_init_104 : decode k_Md_init.1 104 = .ok (.sipush 480, 3) := by decide +kernel
theorem d_Md_init_107 : decode k_Md_init.1 107 = .ok (.newarray .int, 2) := by decide +kernel
theorem d_Md_init_109 : decode k_Md_init.1 109 = .ok (.putfield 48, 3) := by decide +kernel
theorem d_Md_init_112 : decode k_Md_init.1 112 = .ok (.aload_n 0, 1) := by decide +kernel
theorem d_Md_init_113 : decode k_Md_init.1 113 = .ok (.bipush 40, 2) := by decide +kernel
theorem d_Md_init_115 : decode k_Md_init.1 115 = .ok (.newarray .int, 2) := by decide +kernel
theorem d_Md_init_117 : decode k_Md_init.1 117 = .ok (.putfield 51, 3) := by decide +kernel
theorem d_Md_init_120 : decode k_Md_init.1 120 = .ok (.aload_n 0, 1) := by decide +kernel
theorem d_Md_init_121 : decode k_Md_init.1 121 = .ok (.bipush 40, 2) := by decide +kernel
theorem d_Md_init_123 : decode k_Md_init.1 123 = .ok (.newarray .int, 2) := by decide +kernel
theorem d_Md_init_125 : decode k_Md_init.1 125 = .ok (.putfield 54, 3) := by decide +kernel
theorem d_Md_init_128 : decode k_Md_init.1 128 = .ok (.aload_n 0, 1) := by decide +kernel
theorem d_Md_init_129 : decode k_Md_init.1 129 = .ok (.bipush 40, 2) := by decide +kernel
theorem d_Md_init_131 : decode k_Md_init.1 131 = .ok (.newarray .boolean, 2) := by decide +kernel
theorem d_Md_init_133 : decode k_Md_init.1 133 = .ok (.putfield 57, 3) := by decide +kernel
theorem d_Md_init_136 : decode k_Md_init.1 136 = .ok (.aload_n 0, 1) := by decide +kernel
theorem d_Md_init_137 : decode k_Md_init.1 137 = .ok (.bipush 40, 2) := by decide +kernel
theorem d_Md_init_139 : decode k_Md_init.1 139 = .ok (.newarray .int, 2) := by decide +kernel
theorem d_Md_init_141 : decode k_Md_init.1 141 = .ok (.putfield 60, 3) := by decide +kernel
theorem d_Md_init_144 : decode k_Md_init.1 144 = .ok (.aload_n 0, 1) := by decide +kernel
theorem d_Md_init_145 : decode k_Md_init.1 145 = .ok (.bipush 40, 2) := by decide +kernel
theorem d_Md_init_147 : decode k_Md_init.1 147 = .ok (.newarray .int, 2) := by decide +kernel
theorem d_Md_init_149 : decode k_Md_init.1 149 = .ok (.putfield 63, 3) := by decide +kernel
theorem d_Md_init_152 : decode k_Md_init.1 152 = .ok (.aload_n 0, 1) := by decide +kernel
theorem d_Md_init_153 : decode k_Md_init.1 153 = .ok (.bipush 40, 2) := by decide +kernel
theorem d_Md_init_155 : decode k_Md_init.1 155 = .ok (.newarray .int, 2) := by decide +kernel
theorem d_Md_init_157 : decode k_Md_init.1 157 = .ok (.putfield 66, 3) := by decide +kernel
theorem d_Md_init_160 : decode k_Md_init.1 160 = .ok (.aload_n 0, 1) := by decide +kernel
theorem d_Md_init_161 : decode k_Md_init.1 161 = .ok (.bipush 60, 2) := by decide +kernel
theorem d_Md_init_163 : decode k_Md_init.1 163 = .ok (.newarray .long, 2) := by decide +kernel
theorem d_Md_init_165 : decode k_Md_init.1 165 = .ok (.putfield 69, 3) := by decide +kernel
theorem d_Md_init_168 : decode k_Md_init.1 168 = .ok (.aload_n 0, 1) := by decide +kernel
theorem d_Md_init_169 : decode k_Md_init.1 169 = .ok (.bipush 60, 2) := by decide +kernel
theorem d_Md_init_171 : decode k_Md_init.1 171 = .ok (.newarray .int, 2) := by decide +kernel
theorem d_Md_init_173 : decode k_Md_init.1 173 = .ok (.putfield 72, 3) := by decide +kernel
theorem d_Md_init_176 : decode k_Md_init.1 176 = .ok (.aload_n 0, 1) := by decide +kernel
theorem d_Md_init_177 : decode k_Md_init.1 177 = .ok (.iconst (-1), 1) := by decide +kernel
theorem d_Md_init_178 : decode k_Md_init.1 178 = .ok (.putfield 75, 3) := by decide +kernel
theorem d_Md_init_181 : decode k_Md_init.1 181 = .ok (.aload_n 0, 1) := by decide +kernel
theorem d_Md_init_182 : decode k_Md_init.1 182 = .ok (.bipush 16, 2) := by decide +kernel
theorem d_Md_init_184 : decode k_Md_init.1 184 = .ok (.newarray .int, 2) := by decide +kernel
theorem d_Md_init_186 : decode k_Md_init.1 186 = .ok (.putfield 79, 3) := by decide +kernel
theorem d_Md_init_189 : decode k_Md_init.1 189 = .ok (.aload_n 0, 1) := by decide +kernel
theorem d_Md_init_190 : decode k_Md_init.1 190 = .ok (.bipush 16, 2) := by decide +kernel
theorem d_Md_init_192 : decode k_Md_init.1 192 = .ok (.newarray .int, 2) := by decide +kernel
theorem d_Md_init_194 : decode k_Md_init.1 194 = .ok (.putfield 82, 3) := by decide +kernel
theorem d_Md_init_197 : decode k_Md_init.1 197 = .ok (.aload_n 0, 1) := by decide +kernel
theorem d_Md_init_198 : decode k_Md_init.1 198 = .ok (.getfield 7, 3) := by decide +kernel
theorem d_Md_init_201 : decode k_Md_init.1 201 = .ok (.iconst 0, 1) := by decide +kernel
theorem d_Md_init_202 : decode k_Md_init.1 202 = .ok (.iconst 1, 1) := by decide +kernel
theorem d_Md_init_203 : decode k_Md_init.1 203 = .ok (.bastore, 1) := by decide +kernel
theorem d_Md_init_204 : decode k_Md_init.1 204 = .ok (.aload_n 0, 1) := by decide +kernel
theorem d_Md_init_205 : decode k_Md_init.1 205 = .ok (.getfield 13, 3) := by decide +kernel
theorem d_Md_init_208 : decode k_Md_init.1 208 = .ok (.iconst 0, 1) := by decide +kernel
theorem d_Md_init_209 : decode k_Md_init.1 209 = .ok (.iconst 1, 1) := by decide +kernel
theorem d_Md_init_210 : decode k_Md_init.1 210 = .ok (.bastore, 1) := by decide +kernel
theorem d_Md_init_211 : decode k_Md_init.1 211 = .ok (.aload_n 0, 1) := by decide +kernel
theorem d_Md_init_212 : decode k_Md_init.1 212 = .ok (.getfield 16, 3) := by decide +kernel
theorem d_Md_init_215 : decode k_Md_init.1 215 = .ok (.iconst 0, 1) := by decide +kernel
theorem d_Md_init_216 : decode k_Md_init.1 216 = .ok (.iconst (-1), 1) := by decide +kernel
theorem d_Md_init_217 : decode k_Md_init.1 217 = .ok (.iastore, 1) := by decide +kernel
theorem d_Md_init_218 : decode k_Md_init.1 218 = .ok (.return_, 1) := by decide +kernel
theorem d_Md_thrown_0 : decode k_Md_thrown.1 0 = .ok (.aload_n 0, 1) := by decide +kernel
theorem d_Md_thrown_1 : decode k_Md_thrown.1 1 = .ok (.getfield 85, 3) := by decide +kernel
theorem d_Md_thrown_4 : decode k_Md_thrown.1 4 = .ok (.ireturn, 1) := by decide +kernel
theorem d_Md_make_0 : decode k_Md_make.1 0 = .ok (.aload_n 0, 1) := by decide +kernel
theorem d_Md_make_1 : decode k_Md_make.1 1 = .ok (.iconst 0, 1) := by decide +kernel
theorem d_Md_make_2 : decode k_Md_make.1 2 = .ok (.putfield 85, 3) := by decide +kernel
theorem d_Md_make_5 : decode k_Md_make.1 5 = .ok (.iload_n 1, 1) := by decide +kernel
theorem d_Md_make_6 : decode k_Md_make.1 6 = .ok (.iconst 1, 1) := by decide +kernel
theorem d_Md_make_7 : decode k_Md_make.1 7 = .ok (.bipush 15, 2) := by decide +kernel
theorem d_Md_make_9 : decode k_Md_make.1 9 = .ok (.invokestatic 88, 3) := by decide +kernel
theorem d_Md_make_12 : decode k_Md_make.1 12 = .ok (.ifCond .eq 13, 3) := by decide +kernel
theorem d_Md_make_15 : decode k_Md_make.1 15 = .ok (.iload_n 2, 1) := by decide +kernel
theorem d_Md_make_16 : decode k_Md_make.1 16 = .ok (.iconst 0, 1) := by decide +kernel
theorem d_Md_make_17 : decode k_Md_make.1 17 = .ok (.bipush 15, 2) := by decide +kernel
theorem d_Md_make_19 : decode k_Md_make.1 19 = .ok (.invokestatic 88, 3) := by decide +kernel
theorem d_Md_make_22 : decode k_Md_make.1 22 = .ok (.ifCond .ne 9, 3) := by decide +kernel
theorem d_Md_make_25 : decode k_Md_make.1 25 = .ok (.aload_n 0, 1) := by decide +kernel
theorem d_Md_make_26 : decode k_Md_make.1 26 = .ok (.iconst 1, 1) := by decide +kernel
theorem d_Md_make_27 : decode k_Md_make.1 27 = .ok (.invokevirtual 107, 3) := by decide +kernel
theorem d_Md_make_30 : decode k_Md_make.1 30 = .ok (.ireturn, 1) := by decide +kernel
theorem d_Md_make_31 : decode k_Md_make.1 31 = .ok (.aload_n 0, 1) := by decide +kernel
theorem d_Md_make_32 : decode k_Md_make.1 32 = .ok (.getfield 7, 3) := by decide +kernel
theorem d_Md_make_35 : decode k_Md_make.1 35 = .ok (.iload_n 1, 1) := by decide +kernel
theorem d_Md_make_36 : decode k_Md_make.1 36 = .ok (.baload, 1) := by decide +kernel
theorem d_Md_make_37 : decode k_Md_make.1 37 = .ok (.ifCond .ne 11, 3) := by decide +kernel
theorem d_Md_make_40 : decode k_Md_make.1 40 = .ok (.aload_n 0, 1) := by decide +kernel
theorem d_Md_make_41 : decode k_Md_make.1 41 = .ok (.iload_n 2, 1) := by decide +kernel
theorem d_Md_make_42 : decode k_Md_make.1 42 = .ok (.invokevirtual 111, 3) := by decide +kernel
theorem d_Md_make_45 : decode k_Md_make.1 45 = .ok (.ifCond .ne 9, 3) := by decide +kernel
theorem d_Md_make_48 : decode k_Md_make.1 48 = .ok (.aload_n 0, 1) := by decide +kernel
theorem d_Md_make_49 : decode k_Md_make.1 49 = .ok (.iconst 2, 1) := by decide +kernel
theorem d_Md_make_50 : decode k_Md_make.1 50 = .ok (.invokevirtual 107, 3) := by decide +kernel
theorem d_Md_make_53 : decode k_Md_make.1 53 = .ok (.ireturn, 1) := by decide +kernel
theorem d_Md_make_54 : decode k_Md_make.1 54 = .ok (.aload_n 0, 1) := by decide +kernel
theorem d_Md_make_55 : decode k_Md_make.1 55 = .ok (.getfield 7, 3) := by decide +kernel
theorem d_Md_make_58 : decode k_Md_make.1 58 = .ok (.iload_n 1, 1) := by decide +kernel
theorem d_Md_make_59 : decode k_Md_make.1 59 = .ok (.iconst 1, 1) := by decide +kernel
theorem d_Md_make_60 : decode k_Md_make.1 60 = .ok (.bastore, 1) := by decide +kernel
theorem d_Md_make_61 : decode k_Md_make.1 61 = .ok (.aload_n 0, 1) := by decide +kernel
theorem d_Md_make_62 : decode k_Md_make.1 62 = .ok (.getfield 13, 3) := by decide +kernel
theorem d_Md_make_65 : decode k_Md_make.1 65 = .ok (.iload_n 1, 1) := by decide +kernel
theorem d_Md_make_66 : decode k_Md_make.1 66 = .ok (.iload_n 3, 1) := by decide +kernel
theorem d_Md_make_67 : decode k_Md_make.1 67 = .ok (.bastore, 1) := by decide +kernel
theorem d_Md_make_68 : decode k_Md_make.1 68 = .ok (.aload_n 0, 1) := by decide +kernel
theorem d_Md_make_69 : decode k_Md_make.1 69 = .ok (.getfield 16, 3) := by decide +kernel
theorem d_Md_make_72 : decode k_Md_make.1 72 = .ok (.iload_n 1, 1) := by decide +kernel
theorem d_Md_make_73 : decode k_Md_make.1 73 = .ok (.iload_n 2, 1) := by decide +kernel
theorem d_Md_make_74 : decode k_Md_make.1 74 = .ok (.iastore, 1) := by decide +kernel
theorem d_Md_make_75 : decode k_Md_make.1 75 = .ok (.aload_n 0, 1) := by decide +kernel
theorem d_Md_make_76 : decode k_Md_make.1 76 = .ok (.getfield 23, 3) := by decide +kernel
theorem d_Md_make_79 : decode k_Md_make.1 79 = .ok (.iload_n 1, 1) := by decide +kernel
theorem d_Md_make_80 : decode k_Md_make.1 80 = .ok (.iconst 0, 1) := by decide +kernel
theorem d_Md_make_81 : decode k_Md_make.1 81 = .ok (.iastore, 1) := by decide +kernel
theorem d_Md_make_82 : decode k_Md_make.1 82 = .ok (.iload_n 3, 1) := by decide +kernel
theorem d_Md_make_83 : decode k_Md_make.1 83 = .ok (.ifCond .ne 9, 3) := by decide +kernel
theorem d_Md_make_86 : decode k_Md_make.1 86 = .ok (.aload_n 0, 1) := by decide +kernel
theorem d_Md_make_87 : decode k_Md_make.1 87 = .ok (.iconst 1, 1) := by decide +kernel
theorem d_Md_make_88 : decode k_Md_make.1 88 = .ok (.iload_n 1, 1) := by decide +kernel
theorem d_Md_make_89 : decode k_Md_make.1 89 = .ok (.invokevirtual 115, 3) := by decide +kernel
theorem d_Md_make_92 : decode k_Md_make.1 92 = .ok (.iconst 1, 1) := by decide +kernel
theorem d_Md_make_93 : decode k_Md_make.1 93 = .ok (.ireturn, 1) := by decide +kernel
theorem d_Md_in_0 : decode k_Md_in.1 0 = .ok (.iload_n 0, 1) := by decide +kernel
theorem d_Md_in_1 : decode k_Md_in.1 1 = .ok (.iload_n 1, 1) := by decide +kernel
theorem d_Md_in_2 : decode k_Md_in.1 2 = .ok (.if_icmp .lt 12, 3) := by decide +kernel
theorem d_Md_in_5 : decode k_Md_in.1 5 = .ok (.iload_n 0, 1) := by decide +kernel
theorem d_Md_in_6 : decode k_Md_in.1 6 = .ok (.iload_n 2, 1) := by decide +kernel
theorem d_Md_in_7 : decode k_Md_in.1 7 = .ok (.if_icmp .gt 7, 3) := by decide +kernel
theorem d_Md_in_10 : decode k_Md_in.1 10 = .ok (.iconst 1, 1) := by decide +kernel
theorem d_Md_in_11 : decode k_Md_in.1 11 = .ok (.goto 4, 3) := by decide +kernel
theorem d_Md_in_14 : decode k_Md_in.1 14 = .ok (.iconst 0, 1) := by decide +kernel
theorem d_Md_in_15 : decode k_Md_in.1 15 = .ok (.ireturn, 1) := by decide +kernel
theorem d_Md_raise_0 : decode k_Md_raise.1 0 = .ok (.aload_n 0, 1) := by decide +kernel
theorem d_Md_raise_1 : decode k_Md_raise.1 1 = .ok (.iload_n 1, 1) := by decide +kernel
theorem d_Md_raise_2 : decode k_Md_raise.1 2 = .ok (.putfield 85, 3) := by decide +kernel
theorem d_Md_raise_5 : decode k_Md_raise.1 5 = .ok (.iconst 0, 1) := by decide +kernel
theorem d_Md_raise_6 : decode k_Md_raise.1 6 = .ok (.ireturn, 1) := by decide +kernel
theorem d_Md_isFolder_0 : decode k_Md_isFolder.1 0 = .ok (.iload_n 1, 1) := by decide +kernel
theorem d_Md_isFolder_1 : decode k_Md_isFolder.1 1 = .ok (.iconst 0, 1) := by decide +kernel
theorem d_Md_isFolder_2 : decode k_Md_isFolder.1 2 = .ok (.bipush 15, 2) := by decide +kernel
theorem d_Md_isFolder_4 : decode k_Md_isFolder.1 4 = .ok (.invokestatic 88, 3) := by decide +kernel
theorem d_Md_isFolder_7 : decode k_Md_isFolder.1 7 = .ok (.ifCond .eq 25, 3) := by decide +kernel
theorem d_Md_isFolder_10 : decode k_Md_isFolder.1 10 = .ok (.aload_n 0, 1) := by decide +kernel
theorem d_Md_isFolder_11 : decode k_Md_isFolder.1 11 = .ok (.getfield 7, 3) := by decide +kernel
theorem d_Md_isFolder_14 : decode k_Md_isFolder.1 14 = .ok (.iload_n 1, 1) := by decide +kernel
theorem d_Md_isFolder_15 : decode k_Md_isFolder.1 15 = .ok (.baload, 1) := by decide +kernel
theorem d_Md_isFolder_16 : decode k_Md_isFolder.1 16 = .ok (.ifCond .eq 16, 3) := by decide +kernel
theorem d_Md_isFolder_19 : decode k_Md_isFolder.1 19 = .ok (.aload_n 0, 1) := by decide +kernel
theorem d_Md_isFolder_20 : decode k_Md_isFolder.1 20 = .ok (.getfield 13, 3) := by decide +kernel
theorem d_Md_isFolder_23 : decode k_Md_isFolder.1 23 = .ok (.iload_n 1, 1) := by decide +kernel
theorem d_Md_isFolder_24 : decode k_Md_isFolder.1 24 = .ok (.baload, 1) := by decide +kernel
theorem d_Md_isFolder_25 : decode k_Md_isFolder.1 25 = .ok (.ifCond .eq 7, 3) := by decide +kernel
theorem d_Md_isFolder_28 : decode k_Md_isFolder.1 28 = .ok (.iconst 1, 1) := by decide +kernel
theorem d_Md_isFolder_29 : decode k_Md_isFolder.1 29 = .ok (.goto 4, 3) := by decide +kernel
theorem d_Md_isFolder_32 : decode k_Md_isFolder.1 32 = .ok (.iconst 0, 1) := by decide +kernel
theorem d_Md_isFolder_33 : decode k_Md_isFolder.1 33 = .ok (.ireturn, 1) := by decide +kernel
theorem d_Md_tell_0 : decode k_Md_tell.1 0 = .ok (.aload_n 0, 1) := by decide +kernel
theorem d_Md_tell_1 : decode k_Md_tell.1 1 = .ok (.getfield 95, 3) := by decide +kernel
theorem d_Md_tell_4 : decode k_Md_tell.1 4 = .ok (.ifCond .eq 4, 3) := by decide +kernel
theorem d_Md_tell_7 : decode k_Md_tell.1 7 = .ok (.return_, 1) := by decide +kernel
theorem d_Md_tell_8 : decode k_Md_tell.1 8 = .ok (.iconst 0, 1) := by decide +kernel
theorem d_Md_tell_9 : decode k_Md_tell.1 9 = .ok (.istore_n 3, 1) := by decide +kernel
theorem d_Md_tell_10 : decode k_Md_tell.1 10 = .ok (.iload_n 3, 1) := by decide +kernel
theorem d_Md_tell_11 : decode k_Md_tell.1 11 = .ok (.aload_n 0, 1) := by decide +kernel
theorem d_Md_tell_12 : decode k_Md_tell.1 12 = .ok (.getfield 92, 3) := by decide +kernel
theorem d_Md_tell_15 : decode k_Md_tell.1 15 = .ok (.if_icmp .ge 53, 3) := by decide +kernel
theorem d_Md_tell_18 : decode k_Md_tell.1 18 = .ok (.aload_n 0, 1) := by decide +kernel
theorem d_Md_tell_19 : decode k_Md_tell.1 19 = .ok (.getfield 32, 3) := by decide +kernel
theorem d_Md_tell_22 : decode k_Md_tell.1 22 = .ok (.iload_n 3, 1) := by decide +kernel
theorem d_Md_tell_23 : decode k_Md_tell.1 23 = .ok (.iaload, 1) := by decide +kernel
theorem d_Md_tell_24 : decode k_Md_tell.1 24 = .ok (.iload_n 2, 1) := by decide +kernel
theorem d_Md_tell_25 : decode k_Md_tell.1 25 = .ok (.if_icmp .eq 6, 3) := by decide +kernel
theorem d_Md_tell_28 : decode k_Md_tell.1 28 = .ok (.goto 34, 3) := by decide +kernel
theorem d_Md_tell_31 : decode k_Md_tell.1 31 = .ok (.aload_n 0, 1) := by decide +kernel
theorem d_Md_tell_32 : decode k_Md_tell.1 32 = .ok (.getfield 29, 3) := by decide +kernel
theorem d_Md_tell_35 : decode k_Md_tell.1 35 = .ok (.iload_n 3, 1) := by decide +kernel
theorem d_Md_tell_36 : decode k_Md_tell.1 36 = .ok (.aload_n 0, 1) := by decide +kernel
theorem d_Md_tell_37 : decode k_Md_tell.1 37 = .ok (.getfield 29, 3) := by decide +kernel
theorem d_Md_tell_40 : decode k_Md_tell.1 40 = .ok (.iload_n 3, 1) := by decide +kernel
theorem d_Md_tell_41 : decode k_Md_tell.1 41 = .ok (.iaload, 1) := by decide +kernel
theorem d_Md_tell_42 : decode k_Md_tell.1 42 = .ok (.iload_n 1, 1) := by decide +kernel
theorem d_Md_tell_43 : decode k_Md_tell.1 43 = .ok (.invokestatic 99, 3) := by decide +kernel
theorem d_Md_tell_46 : decode k_Md_tell.1 46 = .ok (.iastore, 1) := by decide +kernel
theorem d_Md_tell_47 : decode k_Md_tell.1 47 = .ok (.aload_n 0, 1) := by decide +kernel
theorem d_Md_tell_48 : decode k_Md_tell.1 48 = .ok (.getfield 29, 3) := by decide +kernel
theorem d_Md_tell_51 : decode k_Md_tell.1 51 = .ok (.iload_n 3, 1) := by decide +kernel
theorem d_Md_tell_52 : decode k_Md_tell.1 52 = .ok (.iaload, 1) := by decide +kernel
theorem d_Md_tell_53 : decode k_Md_tell.1 53 = .ok (.ifCond .ne 8, 3) := by decide +kernel
theorem d_Md_tell_56 : decode k_Md_tell.1 56 = .ok (.aload_n 0, 1) := by decide +kernel
theorem d_Md_tell_57 : decode k_Md_tell.1 57 = .ok (.iload_n 3, 1) := by decide +kernel
theorem d_Md_tell_58 : decode k_Md_tell.1 58 = .ok (.invokevirtual 103, 3) := by decide +kernel
theorem d_Md_tell_61 : decode k_Md_tell.1 61 = .ok (.return_, 1) := by decide +kernel
theorem d_Md_tell_62 : decode k_Md_tell.1 62 = .ok (.iinc 3 1, 3) := by decide +kernel
theorem d_Md_tell_65 : decode k_Md_tell.1 65 = .ok (.goto (-55), 3) := by decide +kernel
theorem d_Md_tell_68 : decode k_Md_tell.1 68 = .ok (.aload_n 0, 1) := by decide +kernel
theorem d_Md_tell_69 : decode k_Md_tell.1 69 = .ok (.getfield 92, 3) := by decide +kernel
theorem d_Md_tell_72 : decode k_Md_tell.1 72 = .ok (.bipush 8, 2) := by decide +kernel
theorem d_Md_tell_74 : decode k_Md_tell.1 74 = .ok (.if_icmp .ne 14, 3) := by decide +kernel
theorem d_Md_tell_77 : decode k_Md_tell.1 77 = .ok (.aload_n 0, 1) := by decide +kernel
theorem d_Md_tell_78 : decode k_Md_tell.1 78 = .ok (.iconst 0, 1) := by decide +kernel
theorem d_Md_tell_79 : decode k_Md_tell.1 79 = .ok (.putfield 92, 3) := by decide +kernel
theorem d_Md_tell_82 : decode k_Md_tell.1 82 = .ok (.aload_n 0, 1) := by decide +kernel
theorem d_Md_tell_83 : decode k_Md_tell.1 83 = .ok (.iconst 1, 1) := by decide +kernel
theorem d_Md_tell_84 : decode k_Md_tell.1 84 = .ok (.putfield 95, 3) := by decide +kernel
theorem d_Md_tell_87 : decode k_Md_tell.1 87 = .ok (.return_, 1) := by decide +kernel
theorem d_Md_tell_88 : decode k_Md_tell.1 88 = .ok (.aload_n 0, 1) := by decide +kernel
theorem d_Md_tell_89 : decode k_Md_tell.1 89 = .ok (.getfield 29, 3) := by decide +kernel
theorem d_Md_tell_92 : decode k_Md_tell.1 92 = .ok (.aload_n 0, 1) := by decide +kernel
theorem d_Md_tell_93 : decode k_Md_tell.1 93 = .ok (.getfield 92, 3) := by decide +kernel
theorem d_Md_tell_96 : decode k_Md_tell.1 96 = .ok (.iload_n 1, 1) := by decide +kernel
theorem d_Md_tell_97 : decode k_Md_tell.1 97 = .ok (.iastore, 1) := by decide +kernel
theorem d_Md_tell_98 : decode k_Md_tell.1 98 = .ok (.aload_n 0, 1) := by decide +kernel
theorem d_Md_tell_99 : decode k_Md_tell.1 99 = .ok (.getfield 32, 3) := by decide +kernel
theorem d_Md_tell_102 : decode k_Md_tell.1 102 = .ok (.aload_n 0, 1) := by decide +kernel
theorem d_Md_tell_103 : decode k_Md_tell.1 103 = .ok (.getfield 92, 3) := by decide +kernel
theorem d_Md_tell_106 : decode k_Md_tell.1 106 = .ok (.iload_n 2, 1) := by decide +kernel
theorem d_Md_tell_107 : decode k_Md_tell.1 107 = .ok (.iastore, 1) := by decide +kernel
theorem d_Md_tell_108 : decode k_Md_tell.1 108 = .ok (.aload_n 0, 1) := by decide +kernel
theorem d_Md_tell_109 : decode k_Md_tell.1 109 = .ok (.dup, 1) := by decide +kernel
theorem d_Md_tell_110 : decode k_Md_tell.1 110 = .ok (.getfield 92, 3) := by decide +kernel
theorem d_Md_tell_113 : decode k_Md_tell.1 113 = .ok (.iconst 1, 1) := by decide +kernel
theorem d_Md_tell_114 : decode k_Md_tell.1 114 = .ok (.iadd, 1) := by decide +kernel
theorem d_Md_tell_115 : decode k_Md_tell.1 115 = .ok (.putfield 92, 3) := by decide +kernel
theorem d_Md_tell_118 : decode k_Md_tell.1 118 = .ok (.return_, 1) := by decide +kernel
theorem d_Md_together_0 : decode k_Md_together.1 0 = .ok (.iload_n 0, 1) := by decide +kernel
theorem d_Md_together_1 : decode k_Md_together.1 1 = .ok (.iconst 1, 1) := by decide +kernel
theorem d_Md_together_2 : decode k_Md_together.1 2 = .ok (.if_icmp .ne 14, 3) := by decide +kernel
theorem d_Md_together_5 : decode k_Md_together.1 5 = .ok (.iload_n 1, 1) := by decide +kernel
theorem d_Md_together_6 : decode k_Md_together.1 6 = .ok (.iconst 2, 1) := by decide +kernel
theorem d_Md_together_7 : decode k_Md_together.1 7 = .ok (.if_icmp .ne 7, 3) := by decide +kernel
theorem d_Md_together_10 : decode k_Md_together.1 10 = .ok (.iconst 1, 1) := by decide +kernel
theorem d_Md_together_11 : decode k_Md_together.1 11 = .ok (.goto 4, 3) := by decide +kernel
theorem d_Md_together_14 : decode k_Md_together.1 14 = .ok (.iconst 0, 1) := by decide +kernel
theorem d_Md_together_15 : decode k_Md_together.1 15 = .ok (.ireturn, 1) := by decide +kernel
theorem d_Md_together_16 : decode k_Md_together.1 16 = .ok (.iload_n 0, 1) := by decide +kernel
theorem d_Md_together_17 : decode k_Md_together.1 17 = .ok (.iconst 2, 1) := by decide +kernel
theorem d_Md_together_18 : decode k_Md_together.1 18 = .ok (.if_icmp .ne 5, 3) := by decide +kernel
theorem d_Md_together_21 : decode k_Md_together.1 21 = .ok (.iload_n 1, 1) := by decide +kernel
theorem d_Md_together_22 : decode k_Md_together.1 22 = .ok (.ireturn, 1) := by decide +kernel
theorem d_Md_together_23 : decode k_Md_together.1 23 = .ok (.iconst 2, 1) := by decide +kernel
theorem d_Md_together_24 : decode k_Md_together.1 24 = .ok (.ireturn, 1) := by decide +kernel
theorem d_Md_drop_0 : decode k_Md_drop.1 0 = .ok (.aload_n 0, 1) := by decide +kernel
theorem d_Md_drop_1 : decode k_Md_drop.1 1 = .ok (.dup, 1) := by decide +kernel
theorem d_Md_drop_2 : decode k_Md_drop.1 2 = .ok (.getfield 92, 3) := by decide +kernel
theorem d_Md_drop_5 : decode k_Md_drop.1 5 = .ok (.iconst 1, 1) := by decide +kernel
theorem d_Md_drop_6 : decode k_Md_drop.1 6 = .ok (.isub, 1) := by decide +kernel
theorem d_Md_drop_7 : decode k_Md_drop.1 7 = .ok (.putfield 92, 3) := by decide +kernel
theorem d_Md_drop_10 : decode k_Md_drop.1 10 = .ok (.iload_n 1, 1) := by decide +kernel
theorem d_Md_drop_11 : decode k_Md_drop.1 11 = .ok (.istore_n 2, 1) := by decide +kernel
theorem d_Md_drop_12 : decode k_Md_drop.1 12 = .ok (.iload_n 2, 1) := by decide +kernel
theorem d_Md_drop_13 : decode k_Md_drop.1 13 = .ok (.aload_n 0, 1) := by decide +kernel
theorem d_Md_drop_14 : decode k_Md_drop.1 14 = .ok (.getfield 92, 3) := by decide +kernel
theorem d_Md_drop_17 : decode k_Md_drop.1 17 = .ok (.if_icmp .ge 37, 3) := by decide +kernel
theorem d_Md_drop_20 : decode k_Md_drop.1 20 = .ok (.aload_n 0, 1) := by decide +kernel
theorem d_Md_drop_21 : decode k_Md_drop.1 21 = .ok (.getfield 29, 3) := by decide +kernel
theorem d_Md_drop_24 : decode k_Md_drop.1 24 = .ok (.iload_n 2, 1) := by decide +kernel
theorem d_Md_drop_25 : decode k_Md_drop.1 25 = .ok (.aload_n 0, 1) := by decide +kernel
theorem d_Md_drop_26 : decode k_Md_drop.1 26 = .ok (.getfield 29, 3) := by decide +kernel
theorem d_Md_drop_29 : decode k_Md_drop.1 29 = .ok (.iload_n 2, 1) := by decide +kernel
theorem d_Md_drop_30 : decode k_Md_drop.1 30 = .ok (.iconst 1, 1) := by decide +kernel
theorem d_Md_drop_31 : decode k_Md_drop.1 31 = .ok (.iadd, 1) := by decide +kernel
theorem d_Md_drop_32 : decode k_Md_drop.1 32 = .ok (.iaload, 1) := by decide +kernel
theorem d_Md_drop_33 : decode k_Md_drop.1 33 = .ok (.iastore, 1) := by decide +kernel
theorem d_Md_drop_34 : decode k_Md_drop.1 34 = .ok (.aload_n 0, 1) := by decide +kernel
theorem d_Md_drop_35 : decode k_Md_drop.1 35 = .ok (.getfield 32, 3) := by decide +kernel
theorem d_Md_drop_38 : decode k_Md_drop.1 38 = .ok (.iload_n 2, 1) := by decide +kernel
theorem d_Md_drop_39 : decode k_Md_drop.1 39 = .ok (.aload_n 0, 1) := by decide +kernel
theorem d_Md_drop_40 : decode k_Md_drop.1 40 = .ok (.getfield 32, 3) := by decide +kernel
theorem d_Md_drop_43 : decode k_Md_drop.1 43 = .ok (.iload_n 2, 1) := by decide +kernel
theorem d_Md_drop_44 : decode k_Md_drop.1 44 = .ok (.iconst 1, 1) := by decide +kernel
theorem d_Md_drop_45 : decode k_Md_drop.1 45 = .ok (.iadd, 1) := by decide +kernel
theorem d_Md_drop_46 : decode k_Md_drop.1 46 = .ok (.iaload, 1) := by decide +kernel
theorem d_Md_drop_47 : decode k_Md_drop.1 47 = .ok (.iastore, 1) := by decide +kernel
theorem d_Md_drop_48 : decode k_Md_drop.1 48 = .ok (.iinc 2 1, 3) := by decide +kernel
theorem d_Md_drop_51 : decode k_Md_drop.1 51 = .ok (.goto (-39), 3) := by decide +kernel
theorem d_Md_drop_54 : decode k_Md_drop.1 54 = .ok (.return_, 1) := by decide +kernel
theorem d_Md_write_0 : decode k_Md_write.1 0 = .ok (.aload_n 0, 1) := by decide +kernel
theorem d_Md_write_1 : decode k_Md_write.1 1 = .ok (.iconst 0, 1) := by decide +kernel
theorem d_Md_write_2 : decode k_Md_write.1 2 = .ok (.putfield 85, 3) := by decide +kernel
theorem d_Md_write_5 : decode k_Md_write.1 5 = .ok (.aload_n 0, 1) := by decide +kernel
theorem d_Md_write_6 : decode k_Md_write.1 6 = .ok (.iload_n 1, 1) := by decide +kernel
theorem d_Md_write_7 : decode k_Md_write.1 7 = .ok (.invokevirtual 119, 3) := by decide +kernel
theorem d_Md_write_10 : decode k_Md_write.1 10 = .ok (.ifCond .ne 9, 3) := by decide +kernel
theorem d_Md_write_13 : decode k_Md_write.1 13 = .ok (.aload_n 0, 1) := by decide +kernel
theorem d_Md_write_14 : decode k_Md_write.1 14 = .ok (.iconst 1, 1) := by decide +kernel
theorem d_Md_write_15 : decode k_Md_write.1 15 = .ok (.invokevirtual 107, 3) := by decide +kernel
theorem d_Md_write_18 : decode k_Md_write.1 18 = .ok (.ireturn, 1) := by decide +kernel
theorem d_Md_write_19 : decode k_Md_write.1 19 = .ok (.iload 4, 2) := by decide +kernel
theorem d_Md_write_21 : decode k_Md_write.1 21 = .ok (.iconst 1, 1) := by decide +kernel
theorem d_Md_write_22 : decode k_Md_write.1 22 = .ok (.bipush 8, 2) := by decide +kernel
theorem d_Md_write_24 : decode k_Md_write.1 24 = .ok (.invokestatic 88, 3) := by decide +kernel
theorem d_Md_write_27 : decode k_Md_write.1 27 = .ok (.ifCond .ne 9, 3) := by decide +kernel
theorem d_Md_write_30 : decode k_Md_write.1 30 = .ok (.aload_n 0, 1) := by decide +kernel
theorem d_Md_write_31 : decode k_Md_write.1 31 = .ok (.iconst 2, 1) := by decide +kernel
theorem d_Md_write_32 : decode k_Md_write.1 32 = .ok (.invokevirtual 107, 3) := by decide +kernel
theorem d_Md_write_35 : decode k_Md_write.1 35 = .ok (.ireturn, 1) := by decide +kernel
theorem d_Md_write_36 : decode k_Md_write.1 36 = .ok (.iconst 0, 1) := by decide +kernel
theorem d_Md_write_37 : decode k_Md_write.1 37 = .ok (.istore 5, 2) := by decide +kernel
theorem d_Md_write_39 : decode k_Md_write.1 39 = .ok (.iload 5, 2) := by decide +kernel
theorem d_Md_write_41 : decode k_Md_write.1 41 = .ok (.iload 4, 2) := by decide +kernel
theorem d_Md_write_43 : decode k_Md_write.1 43 = .ok (.if_icmp .ge 37, 3) := by decide +kernel
theorem d_Md_write_46 : decode k_Md_write.1 46 = .ok (.lload_n 2, 1) := by decide +kernel
theorem d_Md_write_47 : decode k_Md_write.1 47 = .ok (.bipush 8, 2) := by decide +kernel
theorem d_Md_write_49 : decode k_Md_write.1 49 = .ok (.iload 5, 2) := by decide +kernel
theorem d_Md_write_51 : decode k_Md_write.1 51 = .ok (.imul, 1) := by decide +kernel
theorem d_Md_write_52 : decode k_Md_write.1 52 = .ok (.lshr, 1) := by decide +kernel
theorem d_Md_write_53 : decode k_Md_write.1 53 = .ok (.l2i, 1) := by decide +kernel
theorem d_Md_write_54 : decode k_Md_write.1 54 = .ok (.sipush 255, 3) := by decide +kernel
theorem d_Md_write_57 : decode k_Md_write.1 57 = .ok (.iand, 1) := by decide +kernel
theorem d_Md_write_58 : decode k_Md_write.1 58 = .ok (.bipush 32, 2) := by decide +kernel
theorem d_Md_write_60 : decode k_Md_write.1 60 = .ok (.bipush 126, 2) := by decide +kernel
theorem d_Md_write_62 : decode k_Md_write.1 62 = .ok (.invokestatic 88, 3) := by decide +kernel
theorem d_Md_write_65 : decode k_Md_write.1 65 = .ok (.ifCond .ne 9, 3) := by decide +kernel
theorem d_Md_write_68 : decode k_Md_write.1 68 = .ok (.aload_n 0, 1) := by decide +kernel
theorem d_Md_write_69 : decode k_Md_write.1 69 = .ok (.iconst 2, 1) := by decide +kernel
theorem d_Md_write_70 : decode k_Md_write.1 70 = .ok (.invokevirtual 107, 3) := by decide +kernel
theorem d_Md_write_73 : decode k_Md_write.1 73 = .ok (.ireturn, 1) := by decide +kernel
theorem d_Md_write_74 : decode k_Md_write.1 74 = .ok (.iinc 5 1, 3) := by decide +kernel
theorem d_Md_write_77 : decode k_Md_write.1 77 = .ok (.goto (-38), 3) := by decide +kernel
theorem d_Md_write_80 : decode k_Md_write.1 80 = .ok (.aload_n 0, 1) := by decide +kernel
theorem d_Md_write_81 : decode k_Md_write.1 81 = .ok (.getfield 23, 3) := by decide +kernel
theorem d_Md_write_84 : decode k_Md_write.1 84 = .ok (.iload_n 1, 1) := by decide +kernel
theorem d_Md_write_85 : decode k_Md_write.1 85 = .ok (.iaload, 1) := by decide +kernel
theorem d_Md_write_86 : decode k_Md_write.1 86 = .ok (.iload 4, 2) := by decide +kernel
theorem d_Md_write_88 : decode k_Md_write.1 88 = .ok (.iadd, 1) := by decide +kernel
theorem d_Md_write_89 : decode k_Md_write.1 89 = .ok (.bipush 60, 2) := by decide +kernel
theorem d_Md_write_91 : decode k_Md_write.1 91 = .ok (.if_icmp .le 9, 3) := by decide +kernel
theorem d_Md_write_94 : decode k_Md_write.1 94 = .ok (.aload_n 0, 1) := by decide +kernel
theorem d_Md_write_95 : decode k_Md_write.1 95 = .ok (.iconst 3, 1) := by decide +kernel
theorem d_Md_write_96 : decode k_Md_write.1 96 = .ok (.invokevirtual 107, 3) := by decide +kernel
theorem d_Md_write_99 : decode k_Md_write.1 99 = .ok (.ireturn, 1) := by decide +kernel
theorem d_Md_write_100 : decode k_Md_write.1 100 = .ok (.iload 4, 2) := by decide +kernel
theorem d_Md_write_102 : decode k_Md_write.1 102 = .ok (.iconst 1, 1) := by decide +kernel
theorem d_Md_write_103 : decode k_Md_write.1 103 = .ok (.isub, 1) := by decide +kernel
theorem d_Md_write_104 : decode k_Md_write.1 104 = .ok (.istore 5, 2) := by decide +kernel
theorem d_Md_write_106 : decode k_Md_write.1 106 = .ok (.iload 5, 2) := by decide +kernel
theorem d_Md_write_108 : decode k_Md_write.1 108 = .ok (.ifCond .lt 47, 3) := by decide +kernel
theorem d_Md_write_111 : decode k_Md_write.1 111 = .ok (.aload_n 0, 1) := by decide +kernel
theorem d_Md_write_112 : decode k_Md_write.1 112 = .ok (.getfield 20, 3) := by decide +kernel
theorem d_Md_write_115 : decode k_Md_write.1 115 = .ok (.bipush 60, 2) := by decide +kernel
theorem d_Md_write_117 : decode k_Md_write.1 117 = .ok (.iload_n 1, 1) := by decide +kernel
theorem d_Md_write_118 : decode k_Md_write.1 118 = .ok (.imul, 1) := by decide +kernel
theorem d_Md_write_119 : decode k_Md_write.1 119 = .ok (.aload_n 0, 1) := by decide +kernel
theorem d_Md_write_120 : decode k_Md_write.1 120 = .ok (.getfield 23, 3) := by decide +kernel
theorem d_Md_write_123 : decode k_Md_write.1 123 = .ok (.iload_n 1, 1) := by decide +kernel
theorem d_Md_write_124 : decode k_Md_write.1 124 = .ok (.iaload, 1) := by decide +kernel
theorem d_Md_write_125 : decode k_Md_write.1 125 = .ok (.iadd, 1) := by decide +kernel
theorem d_Md_write_126 : decode k_Md_write.1 126 = .ok (.lload_n 2, 1) := by decide +kernel
theorem d_Md_write_127 : decode k_Md_write.1 127 = .ok (.bipush 8, 2) := by decide +kernel
theorem d_Md_write_129 : decode k_Md_write.1 129 = .ok (.iload 5, 2) := by decide +kernel
theorem d_Md_write_131 : decode k_Md_write.1 131 = .ok (.imul, 1) := by decide +kernel
theorem d_Md_write_132 : decode k_Md_write.1 132 = .ok (.lshr, 1) := by decide +kernel
theorem d_Md_write_133 : decode k_Md_write.1 133 = .ok (.l2i, 1) := by decide +kernel
theorem d_Md_write_134 : decode k_Md_write.1 134 = .ok (.sipush 255, 3) := by decide +kernel
theorem d_Md_write_137 : decode k_Md_write.1 137 = .ok (.iand, 1) := by decide +kernel
theorem d_Md_write_138 : decode k_Md_write.1 138 = .ok (.iastore, 1) := by decide +kernel
theorem d_Md_write_139 : decode k_Md_write.1 139 = .ok (.aload_n 0, 1) := by decide +kernel
theorem d_Md_write_140 : decode k_Md_write.1 140 = .ok (.getfield 23, 3) := by decide +kernel
theorem d_Md_write_143 : decode k_Md_write.1 143 = .ok (.iload_n 1, 1) := by decide +kernel
theorem d_Md_write_144 : decode k_Md_write.1 144 = .ok (.dup2, 1) := by decide +kernel
theorem d_Md_write_145 : decode k_Md_write.1 145 = .ok (.iaload, 1) := by decide +kernel
theorem d_Md_write_146 : decode k_Md_write.1 146 = .ok (.iconst 1, 1) := by decide +kernel
theorem d_Md_write_147 : decode k_Md_write.1 147 = .ok (.iadd, 1) := by decide +kernel
theorem d_Md_write_148 : decode k_Md_write.1 148 = .ok (.iastore, 1) := by decide +kernel
theorem d_Md_write_149 : decode k_Md_write.1 149 = .ok (.iinc 5 (-1), 3) := by decide +kernel
theorem d_Md_write_152 : decode k_Md_write.1 152 = .ok (.goto (-46), 3) := by decide +kernel
theorem d_Md_write_155 : decode k_Md_write.1 155 = .ok (.aload_n 0, 1) := by decide +kernel
theorem d_Md_write_156 : decode k_Md_write.1 156 = .ok (.iconst 2, 1) := by decide +kernel
theorem d_Md_write_157 : decode k_Md_write.1 157 = .ok (.iload_n 1, 1) := by decide +kernel
theorem d_Md_write_158 : decode k_Md_write.1 158 = .ok (.invokevirtual 115, 3) := by decide +kernel
theorem d_Md_write_161 : decode k_Md_write.1 161 = .ok (.aload_n 0, 1) := by decide +kernel
theorem d_Md_write_162 : decode k_Md_write.1 162 = .ok (.getfield 23, 3) := by decide +kernel
theorem d_Md_write_165 : decode k_Md_write.1 165 = .ok (.iload_n 1, 1) := by decide +kernel
theorem d_Md_write_166 : decode k_Md_write.1 166 = .ok (.iaload, 1) := by decide +kernel
theorem d_Md_write_167 : decode k_Md_write.1 167 = .ok (.ireturn, 1) := by decide +kernel
theorem d_Md_isFile_0 : decode k_Md_isFile.1 0 = .ok (.iload_n 1, 1) := by decide +kernel
theorem d_Md_isFile_1 : decode k_Md_isFile.1 1 = .ok (.iconst 0, 1) := by decide +kernel
theorem d_Md_isFile_2 : decode k_Md_isFile.1 2 = .ok (.bipush 15, 2) := by decide +kernel
theorem d_Md_isFile_4 : decode k_Md_isFile.1 4 = .ok (.invokestatic 88, 3) := by decide +kernel
theorem d_Md_isFile_7 : decode k_Md_isFile.1 7 = .ok (.ifCond .eq 25, 3) := by decide +kernel
theorem d_Md_isFile_10 : decode k_Md_isFile.1 10 = .ok (.aload_n 0, 1) := by decide +kernel
theorem d_Md_isFile_11 : decode k_Md_isFile.1 11 = .ok (.getfield 7, 3) := by decide +kernel
theorem d_Md_isFile_14 : decode k_Md_isFile.1 14 = .ok (.iload_n 1, 1) := by decide +kernel
theorem d_Md_isFile_15 : decode k_Md_isFile.1 15 = .ok (.baload, 1) := by decide +kernel
theorem d_Md_isFile_16 : decode k_Md_isFile.1 16 = .ok (.ifCond .eq 16, 3) := by decide +kernel
theorem d_Md_isFile_19 : decode k_Md_isFile.1 19 = .ok (.aload_n 0, 1) := by decide +kernel
theorem d_Md_isFile_20 : decode k_Md_isFile.1 20 = .ok (.getfield 13, 3) := by decide +kernel
theorem d_Md_isFile_23 : decode k_Md_isFile.1 23 = .ok (.iload_n 1, 1) := by decide +kernel
theorem d_Md_isFile_24 : decode k_Md_isFile.1 24 = .ok (.baload, 1) := by decide +kernel
theorem d_Md_isFile_25 : decode k_Md_isFile.1 25 = .ok (.ifCond .ne 7, 3) := by decide +kernel
theorem d_Md_isFile_28 : decode k_Md_isFile.1 28 = .ok (.iconst 1, 1) := by decide +kernel
theorem d_Md_isFile_29 : decode k_Md_isFile.1 29 = .ok (.goto 4, 3) := by decide +kernel
theorem d_Md_isFile_32 : decode k_Md_isFile.1 32 = .ok (.iconst 0, 1) := by decide +kernel
theorem d_Md_isFile_33 : decode k_Md_isFile.1 33 = .ok (.ireturn, 1) := by decide +kernel
theorem d_Md_cut_0 : decode k_Md_cut.1 0 = .ok (.aload_n 0, 1) := by decide +kernel
theorem d_Md_cut_1 : decode k_Md_cut.1 1 = .ok (.iconst 0, 1) := by decide +kernel
theorem d_Md_cut_2 : decode k_Md_cut.1 2 = .ok (.putfield 85, 3) := by decide +kernel
theorem d_Md_cut_5 : decode k_Md_cut.1 5 = .ok (.aload_n 0, 1) := by decide +kernel
theorem d_Md_cut_6 : decode k_Md_cut.1 6 = .ok (.iload_n 1, 1) := by decide +kernel
theorem d_Md_cut_7 : decode k_Md_cut.1 7 = .ok (.invokevirtual 119, 3) := by decide +kernel
theorem d_Md_cut_10 : decode k_Md_cut.1 10 = .ok (.ifCond .ne 9, 3) := by decide +kernel
theorem d_Md_cut_13 : decode k_Md_cut.1 13 = .ok (.aload_n 0, 1) := by decide +kernel
theorem d_Md_cut_14 : decode k_Md_cut.1 14 = .ok (.iconst 1, 1) := by decide +kernel
theorem d_Md_cut_15 : decode k_Md_cut.1 15 = .ok (.invokevirtual 107, 3) := by decide +kernel
theorem d_Md_cut_18 : decode k_Md_cut.1 18 = .ok (.ireturn, 1) := by decide +kernel
theorem d_Md_cut_19 : decode k_Md_cut.1 19 = .ok (.iload_n 2, 1) := by decide +kernel
theorem d_Md_cut_20 : decode k_Md_cut.1 20 = .ok (.iconst 0, 1) := by decide +kernel
theorem d_Md_cut_21 : decode k_Md_cut.1 21 = .ok (.aload_n 0, 1) := by decide +kernel
theorem d_Md_cut_22 : decode k_Md_cut.1 22 = .ok (.getfield 23, 3) := by decide +kernel
theorem d_Md_cut_25 : decode k_Md_cut.1 25 = .ok (.iload_n 1, 1) := by decide +kernel
theorem d_Md_cut_26 : decode k_Md_cut.1 26 = .ok (.iaload, 1) := by decide +kernel
theorem d_Md_cut_27 : decode k_Md_cut.1 27 = .ok (.invokestatic 88, 3) := by decide +kernel
theorem d_Md_cut_30 : decode k_Md_cut.1 30 = .ok (.ifCond .ne 9, 3) := by decide +kernel
theorem d_Md_cut_33 : decode k_Md_cut.1 33 = .ok (.aload_n 0, 1) := by decide +kernel
theorem d_Md_cut_34 : decode k_Md_cut.1 34 = .ok (.iconst 2, 1) := by decide +kernel
theorem d_Md_cut_35 : decode k_Md_cut.1 35 = .ok (.invokevirtual 107, 3) := by decide +kernel
theorem d_Md_cut_38 : decode k_Md_cut.1 38 = .ok (.ireturn, 1) := by decide +kernel
theorem d_Md_cut_39 : decode k_Md_cut.1 39 = .ok (.aload_n 0, 1) := by decide +kernel
theorem d_Md_cut_40 : decode k_Md_cut.1 40 = .ok (.getfield 23, 3) := by decide +kernel
theorem d_Md_cut_43 : decode k_Md_cut.1 43 = .ok (.iload_n 1, 1) := by decide +kernel
theorem d_Md_cut_44 : decode k_Md_cut.1 44 = .ok (.iaload, 1) := by decide +kernel
theorem d_Md_cut_45 : decode k_Md_cut.1 45 = .ok (.iload_n 2, 1) := by decide +kernel
theorem d_Md_cut_46 : decode k_Md_cut.1 46 = .ok (.isub, 1) := by decide +kernel
theorem d_Md_cut_47 : decode k_Md_cut.1 47 = .ok (.istore_n 3, 1) := by decide +kernel
theorem d_Md_cut_48 : decode k_Md_cut.1 48 = .ok (.aload_n 0, 1) := by decide +kernel
theorem d_Md_cut_49 : decode k_Md_cut.1 49 = .ok (.getfield 23, 3) := by decide +kernel
theorem d_Md_cut_52 : decode k_Md_cut.1 52 = .ok (.iload_n 1, 1) := by decide +kernel
theorem d_Md_cut_53 : decode k_Md_cut.1 53 = .ok (.iload_n 2, 1) := by decide +kernel
theorem d_Md_cut_54 : decode k_Md_cut.1 54 = .ok (.iastore, 1) := by decide +kernel
theorem d_Md_cut_55 : decode k_Md_cut.1 55 = .ok (.iload_n 3, 1) := by decide +kernel
theorem d_Md_cut_56 : decode k_Md_cut.1 56 = .ok (.ifCond .le 9, 3) := by decide +kernel
theorem d_Md_cut_59 : decode k_Md_cut.1 59 = .ok (.aload_n 0, 1) := by decide +kernel
theorem d_Md_cut_60 : decode k_Md_cut.1 60 = .ok (.iconst 2, 1) := by decide +kernel
theorem d_Md_cut_61 : decode k_Md_cut.1 61 = .ok (.iload_n 1, 1) := by decide +kernel
theorem d_Md_cut_62 : decode k_Md_cut.1 62 = .ok (.invokevirtual 115, 3) := by decide +kernel
theorem d_Md_cut_65 : decode k_Md_cut.1 65 = .ok (.iload_n 3, 1) := by decide +kernel
theorem d_Md_cut_66 : decode k_Md_cut.1 66 = .ok (.ireturn, 1) := by decide +kernel
theorem d_Md_remove_0 : decode k_Md_remove.1 0 = .ok (.aload_n 0, 1) := by decide +kernel
theorem d_Md_remove_1 : decode k_Md_remove.1 1 = .ok (.iconst 0, 1) := by decide +kernel
theorem d_Md_remove_2 : decode k_Md_remove.1 2 = .ok (.putfield 85, 3) := by decide +kernel
theorem d_Md_remove_5 : decode k_Md_remove.1 5 = .ok (.iload_n 1, 1) := by decide +kernel
theorem d_Md_remove_6 : decode k_Md_remove.1 6 = .ok (.iconst 1, 1) := by decide +kernel
theorem d_Md_remove_7 : decode k_Md_remove.1 7 = .ok (.bipush 15, 2) := by decide +kernel
theorem d_Md_remove_9 : decode k_Md_remove.1 9 = .ok (.invokestatic 88, 3) := by decide +kernel
theorem d_Md_remove_12 : decode k_Md_remove.1 12 = .ok (.ifCond .ne 9, 3) := by decide +kernel
theorem d_Md_remove_15 : decode k_Md_remove.1 15 = .ok (.aload_n 0, 1) := by decide +kernel
theorem d_Md_remove_16 : decode k_Md_remove.1 16 = .ok (.iconst 1, 1) := by decide +kernel
theorem d_Md_remove_17 : decode k_Md_remove.1 17 = .ok (.invokevirtual 107, 3) := by decide +kernel
theorem d_Md_remove_20 : decode k_Md_remove.1 20 = .ok (.ireturn, 1) := by decide +kernel
theorem d_Md_remove_21 : decode k_Md_remove.1 21 = .ok (.aload_n 0, 1) := by decide +kernel
theorem d_Md_remove_22 : decode k_Md_remove.1 22 = .ok (.getfield 7, 3) := by decide +kernel
theorem d_Md_remove_25 : decode k_Md_remove.1 25 = .ok (.iload_n 1, 1) := by decide +kernel
theorem d_Md_remove_26 : decode k_Md_remove.1 26 = .ok (.baload, 1) := by decide +kernel
theorem d_Md_remove_27 : decode k_Md_remove.1 27 = .ok (.ifCond .ne 9, 3) := by decide +kernel
theorem d_Md_remove_30 : decode k_Md_remove.1 30 = .ok (.aload_n 0, 1) := by decide +kernel
theorem d_Md_remove_31 : decode k_Md_remove.1 31 = .ok (.iconst 2, 1) := by decide +kernel
theorem d_Md_remove_32 : decode k_Md_remove.1 32 = .ok (.invokevirtual 107, 3) := by decide +kernel
theorem d_Md_remove_35 : decode k_Md_remove.1 35 = .ok (.ireturn, 1) := by decide +kernel
theorem d_Md_remove_36 : decode k_Md_remove.1 36 = .ok (.aload_n 0, 1) := by decide +kernel
theorem d_Md_remove_37 : decode k_Md_remove.1 37 = .ok (.iload_n 1, 1) := by decide +kernel
theorem d_Md_remove_38 : decode k_Md_remove.1 38 = .ok (.invokevirtual 122, 3) := by decide +kernel
theorem d_Md_remove_41 : decode k_Md_remove.1 41 = .ok (.iconst 0, 1) := by decide +kernel
theorem d_Md_remove_42 : decode k_Md_remove.1 42 = .ok (.istore_n 2, 1) := by decide +kernel
theorem d_Md_remove_43 : decode k_Md_remove.1 43 = .ok (.iconst 0, 1) := by decide +kernel
theorem d_Md_remove_44 : decode k_Md_remove.1 44 = .ok (.istore_n 3, 1) := by decide +kernel
theorem d_Md_remove_45 : decode k_Md_remove.1 45 = .ok (.iload_n 3, 1) := by decide +kernel
theorem d_Md_remove_46 : decode k_Md_remove.1 46 = .ok (.bipush 16, 2) := by decide +kernel
theorem d_Md_remove_48 : decode k_Md_remove.1 48 = .ok (.if_icmp .ge 46, 3) := by decide +kernel
theorem d_Md_remove_51 : decode k_Md_remove.1 51 = .ok (.aload_n 0, 1) := by decide +kernel
theorem d_Md_remove_52 : decode k_Md_remove.1 52 = .ok (.getfield 26, 3) := by decide +kernel
theorem d_Md_remove_55 : decode k_Md_remove.1 55 = .ok (.iload_n 3, 1) := by decide +kernel
theorem d_Md_remove_56 : decode k_Md_remove.1 56 = .ok (.baload, 1) := by decide +kernel
theorem d_Md_remove_57 : decode k_Md_remove.1 57 = .ok (.ifCond .ne 6, 3) := by decide +kernel
theorem d_Md_remove_60 : decode k_Md_remove.1 60 = .ok (.goto 28, 3) := by decide +kernel
theorem d_Md_remove_63 : decode k_Md_remove.1 63 = .ok (.aload_n 0, 1) := by decide +kernel
theorem d_Md_remove_64 : decode k_Md_remove.1 64 = .ok (.getfield 7, 3) := by decide +kernel
theorem d_Md_remove_67 : decode k_Md_remove.1 67 = .ok (.iload_n 3, 1) := by decide +kernel
theorem d_Md_remove_68 : decode k_Md_remove.1 68 = .ok (.iconst 0, 1) := by decide +kernel
theorem d_Md_remove_69 : decode k_Md_remove.1 69 = .ok (.bastore, 1) := by decide +kernel
theorem d_Md_remove_70 : decode k_Md_remove.1 70 = .ok (.iinc 2 1, 3) := by decide +kernel
theorem d_Md_remove_73 : decode k_Md_remove.1 73 = .ok (.aload_n 0, 1) := by decide +kernel
theorem d_Md_remove_74 : decode k_Md_remove.1 74 = .ok (.getfield 13, 3) := by decide +kernel
theorem d_Md_remove_77 : decode k_Md_remove.1 77 = .ok (.iload_n 3, 1) := by decide +kernel
theorem d_Md_remove_78 : decode k_Md_remove.1 78 = .ok (.baload, 1) := by decide +kernel
theorem d_Md_remove_79 : decode k_Md_remove.1 79 = .ok (.ifCond .ne 9, 3) := by decide +kernel
theorem d_Md_remove_82 : decode k_Md_remove.1 82 = .ok (.aload_n 0, 1) := by decide +kernel
theorem d_Md_remove_83 : decode k_Md_remove.1 83 = .ok (.iconst 3, 1) := by decide +kernel
theorem d_Md_remove_84 : decode k_Md_remove.1 84 = .ok (.iload_n 3, 1) := by decide +kernel
theorem d_Md_remove_85 : decode k_Md_remove.1 85 = .ok (.invokevirtual 115, 3) := by decide +kernel
theorem d_Md_remove_88 : decode k_Md_remove.1 88 = .ok (.iinc 3 1, 3) := by decide +kernel
theorem d_Md_remove_91 : decode k_Md_remove.1 91 = .ok (.goto (-46), 3) := by decide +kernel
theorem d_Md_remove_94 : decode k_Md_remove.1 94 = .ok (.iload_n 2, 1) := by decide +kernel
theorem d_Md_remove_95 : decode k_Md_remove.1 95 = .ok (.ireturn, 1) := by decide +kernel
theorem d_Md_mark_0 : decode k_Md_mark.1 0 = .ok (.iconst 0, 1) := by decide +kernel
theorem d_Md_mark_1 : decode k_Md_mark.1 1 = .ok (.istore_n 2, 1) := by decide +kernel
theorem d_Md_mark_2 : decode k_Md_mark.1 2 = .ok (.iload_n 2, 1) := by decide +kernel
theorem d_Md_mark_3 : decode k_Md_mark.1 3 = .ok (.bipush 16, 2) := by decide +kernel
theorem d_Md_mark_5 : decode k_Md_mark.1 5 = .ok (.if_icmp .ge 34, 3) := by decide +kernel
theorem d_Md_mark_8 : decode k_Md_mark.1 8 = .ok (.aload_n 0, 1) := by decide +kernel
theorem d_Md_mark_9 : decode k_Md_mark.1 9 = .ok (.getfield 26, 3) := by decide +kernel
theorem d_Md_mark_12 : decode k_Md_mark.1 12 = .ok (.iload_n 2, 1) := by decide +kernel
theorem d_Md_mark_13 : decode k_Md_mark.1 13 = .ok (.iload_n 2, 1) := by decide +kernel
theorem d_Md_mark_14 : decode k_Md_mark.1 14 = .ok (.iload_n 1, 1) := by decide +kernel
theorem d_Md_mark_15 : decode k_Md_mark.1 15 = .ok (.if_icmp .eq 12, 3) := by decide +kernel
theorem d_Md_mark_18 : decode k_Md_mark.1 18 = .ok (.aload_n 0, 1) := by decide +kernel
theorem d_Md_mark_19 : decode k_Md_mark.1 19 = .ok (.iload_n 2, 1) := by decide +kernel
theorem d_Md_mark_20 : decode k_Md_mark.1 20 = .ok (.iload_n 1, 1) := by decide +kernel
theorem d_Md_mark_21 : decode k_Md_mark.1 21 = .ok (.invokevirtual 125, 3) := by decide +kernel
theorem d_Md_mark_24 : decode k_Md_mark.1 24 = .ok (.ifCond .eq 7, 3) := by decide +kernel
theorem d_Md_mark_27 : decode k_Md_mark.1 27 = .ok (.iconst 1, 1) := by decide +kernel
theorem d_Md_mark_28 : decode k_Md_mark.1 28 = .ok (.goto 4, 3) := by decide +kernel
theorem d_Md_mark_31 : decode k_Md_mark.1 31 = .ok (.iconst 0, 1) := by decide +kernel
theorem d_Md_mark_32 : decode k_Md_mark.1 32 = .ok (.bastore, 1) := by decide +kernel
theorem d_Md_mark_33 : decode k_Md_mark.1 33 = .ok (.iinc 2 1, 3) := by decide +kernel
theorem d_Md_mark_36 : decode k_Md_mark.1 36 = .ok (.goto (-34), 3) := by decide +kernel
theorem d_Md_mark_39 : decode k_Md_mark.1 39 = .ok (.return_, 1) := by decide +kernel
theorem d_Md_within_0 : decode k_Md_within.1 0 = .ok (.aload_n 0, 1) := by decide +kernel
theorem d_Md_within_1 : decode k_Md_within.1 1 = .ok (.getfield 7, 3) := by decide +kernel
theorem d_Md_within_4 : decode k_Md_within.1 4 = .ok (.iload_n 1, 1) := by decide +kernel
theorem d_Md_within_5 : decode k_Md_within.1 5 = .ok (.baload, 1) := by decide +kernel
theorem d_Md_within_6 : decode k_Md_within.1 6 = .ok (.ifCond .eq 12, 3) := by decide +kernel
theorem d_Md_within_9 : decode k_Md_within.1 9 = .ok (.aload_n 0, 1) := by decide +kernel
theorem d_Md_within_10 : decode k_Md_within.1 10 = .ok (.getfield 16, 3) := by decide +kernel
theorem d_Md_within_13 : decode k_Md_within.1 13 = .ok (.iload_n 1, 1) := by decide +kernel
theorem d_Md_within_14 : decode k_Md_within.1 14 = .ok (.iaload, 1) := by decide +kernel
theorem d_Md_within_15 : decode k_Md_within.1 15 = .ok (.goto 4, 3) := by decide +kernel
theorem d_Md_within_18 : decode k_Md_within.1 18 = .ok (.iconst (-1), 1) := by decide +kernel
theorem d_Md_within_19 : decode k_Md_within.1 19 = .ok (.istore_n 3, 1) := by decide +kernel
theorem d_Md_within_20 : decode k_Md_within.1 20 = .ok (.iload_n 3, 1) := by decide +kernel
theorem d_Md_within_21 : decode k_Md_within.1 21 = .ok (.ifCond .lt 18, 3) := by decide +kernel
theorem d_Md_within_24 : decode k_Md_within.1 24 = .ok (.iload_n 3, 1) := by decide +kernel
theorem d_Md_within_25 : decode k_Md_within.1 25 = .ok (.iload_n 2, 1) := by decide +kernel
theorem d_Md_within_26 : decode k_Md_within.1 26 = .ok (.if_icmp .eq 13, 3) := by decide +kernel
theorem d_Md_within_29 : decode k_Md_within.1 29 = .ok (.aload_n 0, 1) := by decide +kernel
theorem d_Md_within_30 : decode k_Md_within.1 30 = .ok (.getfield 16, 3) := by decide +kernel
theorem d_Md_within_33 : decode k_Md_within.1 33 = .ok (.iload_n 3, 1) := by decide +kernel
theorem d_Md_within_34 : decode k_Md_within.1 34 = .ok (.iaload, 1) := by decide +kernel
theorem d_Md_within_35 : decode k_Md_within.1 35 = .ok (.istore_n 3, 1) := by decide +kernel
theorem d_Md_within_36 : decode k_Md_within.1 36 = .ok (.goto (-16), 3) := by decide +kernel
theorem d_Md_within_39 : decode k_Md_within.1 39 = .ok (.iload_n 3, 1) := by decide +kernel
theorem d_Md_within_40 : decode k_Md_within.1 40 = .ok (.ifCond .lt 7, 3) := by decide +kernel
theorem d_Md_within_43 : decode k_Md_within.1 43 = .ok (.iconst 1, 1) := by decide +kernel
theorem d_Md_within_44 : decode k_Md_within.1 44 = .ok (.goto 4, 3) := by decide +kernel
theorem d_Md_within_47 : decode k_Md_within.1 47 = .ok (.iconst 0, 1) := by decide +kernel
theorem d_Md_within_48 : decode k_Md_within.1 48 = .ok (.ireturn, 1) := by decide +kernel
theorem d_Md_move_0 : decode k_Md_move.1 0 = .ok (.aload_n 0, 1) := by decide +kernel
theorem d_Md_move_1 : decode k_Md_move.1 1 = .ok (.iconst 0, 1) := by decide +kernel
theorem d_Md_move_2 : decode k_Md_move.1 2 = .ok (.putfield 85, 3) := by decide +kernel
theorem d_Md_move_5 : decode k_Md_move.1 5 = .ok (.iload_n 1, 1) := by decide +kernel
theorem d_Md_move_6 : decode k_Md_move.1 6 = .ok (.iconst 1, 1) := by decide +kernel
theorem d_Md_move_7 : decode k_Md_move.1 7 = .ok (.bipush 15, 2) := by decide +kernel
theorem d_Md_move_9 : decode k_Md_move.1 9 = .ok (.invokestatic 88, 3) := by decide +kernel
theorem d_Md_move_12 : decode k_Md_move.1 12 = .ok (.ifCond .eq 13, 3) := by decide +kernel
theorem d_Md_move_15 : decode k_Md_move.1 15 = .ok (.iload_n 2, 1) := by decide +kernel
theorem d_Md_move_16 : decode k_Md_move.1 16 = .ok (.iconst 0, 1) := by decide +kernel
theorem d_Md_move_17 : decode k_Md_move.1 17 = .ok (.bipush 15, 2) := by decide +kernel
theorem d_Md_move_19 : decode k_Md_move.1 19 = .ok (.invokestatic 88, 3) := by decide +kernel
theorem d_Md_move_22 : decode k_Md_move.1 22 = .ok (.ifCond .ne 9, 3) := by decide +kernel
theorem d_Md_move_25 : decode k_Md_move.1 25 = .ok (.aload_n 0, 1) := by decide +kernel
theorem d_Md_move_26 : decode k_Md_move.1 26 = .ok (.iconst 1, 1) := by decide +kernel
theorem d_Md_move_27 : decode k_Md_move.1 27 = .ok (.invokevirtual 107, 3) := by decide +kernel
theorem d_Md_move_30 : decode k_Md_move.1 30 = .ok (.ireturn, 1) := by decide +kernel
theorem d_Md_move_31 : decode k_Md_move.1 31 = .ok (.aload_n 0, 1) := by decide +kernel
theorem d_Md_move_32 : decode k_Md_move.1 32 = .ok (.getfield 7, 3) := by decide +kernel
theorem d_Md_move_35 : decode k_Md_move.1 35 = .ok (.iload_n 1, 1) := by decide +kernel
theorem d_Md_move_36 : decode k_Md_move.1 36 = .ok (.baload, 1) := by decide +kernel
theorem d_Md_move_37 : decode k_Md_move.1 37 = .ok (.ifCond .eq 11, 3) := by decide +kernel
theorem d_Md_move_40 : decode k_Md_move.1 40 = .ok (.aload_n 0, 1) := by decide +kernel
theorem d_Md_move_41 : decode k_Md_move.1 41 = .ok (.iload_n 2, 1) := by decide +kernel
theorem d_Md_move_42 : decode k_Md_move.1 42 = .ok (.invokevirtual 111, 3) := by decide +kernel
theorem d_Md_move_45 : decode k_Md_move.1 45 = .ok (.ifCond .ne 9, 3) := by decide +kernel
theorem d_Md_move_48 : decode k_Md_move.1 48 = .ok (.aload_n 0, 1) := by decide +kernel
theorem d_Md_move_49 : decode k_Md_move.1 49 = .ok (.iconst 2, 1) := by decide +kernel
theorem d_Md_move_50 : decode k_Md_move.1 50 = .ok (.invokevirtual 107, 3) := by decide +kernel
theorem d_Md_move_53 : decode k_Md_move.1 53 = .ok (.ireturn, 1) := by decide +kernel
theorem d_Md_move_54 : decode k_Md_move.1 54 = .ok (.iload_n 2, 1) := by decide +kernel
theorem d_Md_move_55 : decode k_Md_move.1 55 = .ok (.iload_n 1, 1) := by decide +kernel
theorem d_Md_move_56 : decode k_Md_move.1 56 = .ok (.if_icmp .eq 12, 3) := by decide +kernel
theorem d_Md_move_59 : decode k_Md_move.1 59 = .ok (.aload_n 0, 1) := by decide +kernel
theorem d_Md_move_60 : decode k_Md_move.1 60 = .ok (.iload_n 2, 1) := by decide +kernel
theorem d_Md_move_61 : decode k_Md_move.1 61 = .ok (.iload_n 1, 1) := by decide +kernel
theorem d_Md_move_62 : decode k_Md_move.1 62 = .ok (.invokevirtual 125, 3) := by decide +kernel
theorem d_Md_move_65 : decode k_Md_move.1 65 = .ok (.ifCond .eq 9, 3) := by decide +kernel
theorem d_Md_move_68 : decode k_Md_move.1 68 = .ok (.aload_n 0, 1) := by decide +kernel
theorem d_Md_move_69 : decode k_Md_move.1 69 = .ok (.iconst 3, 1) := by decide +kernel
theorem d_Md_move_70 : decode k_Md_move.1 70 = .ok (.invokevirtual 107, 3) := by decide +kernel
theorem d_Md_move_73 : decode k_Md_move.1 73 = .ok (.ireturn, 1) := by decide +kernel
theorem d_Md_move_74 : decode k_Md_move.1 74 = .ok (.aload_n 0, 1) := by decide +kernel
theorem d_Md_move_75 : decode k_Md_move.1 75 = .ok (.getfield 16, 3) := by decide +kernel
theorem d_Md_move_78 : decode k_Md_move.1 78 = .ok (.iload_n 1, 1) := by decide +kernel
theorem d_Md_move_79 : decode k_Md_move.1 79 = .ok (.iaload, 1) := by decide +kernel
theorem d_Md_move_80 : decode k_Md_move.1 80 = .ok (.istore_n 3, 1) := by decide +kernel
theorem d_Md_move_81 : decode k_Md_move.1 81 = .ok (.aload_n 0, 1) := by decide +kernel
theorem d_Md_move_82 : decode k_Md_move.1 82 = .ok (.getfield 16, 3) := by decide +kernel
theorem d_Md_move_85 : decode k_Md_move.1 85 = .ok (.iload_n 1, 1) := by decide +kernel
theorem d_Md_move_86 : decode k_Md_move.1 86 = .ok (.iload_n 2, 1) := by decide +kernel
theorem d_Md_move_87 : decode k_Md_move.1 87 = .ok (.iastore, 1) := by decide +kernel
theorem d_Md_move_88 : decode k_Md_move.1 88 = .ok (.iload_n 3, 1) := by decide +kernel
theorem d_Md_move_89 : decode k_Md_move.1 89 = .ok (.iload_n 2, 1) := by decide +kernel
theorem d_Md_move_90 : decode k_Md_move.1 90 = .ok (.if_icmp .eq 7, 3) := by decide +kernel
theorem d_Md_move_93 : decode k_Md_move.1 93 = .ok (.iconst 1, 1) := by decide +kernel
theorem d_Md_move_94 : decode k_Md_move.1 94 = .ok (.goto 4, 3) := by decide +kernel
theorem d_Md_move_97 : decode k_Md_move.1 97 = .ok (.iconst 0, 1) := by decide +kernel
theorem d_Md_move_98 : decode k_Md_move.1 98 = .ok (.ireturn, 1) := by decide +kernel
theorem d_Md_work_0 : decode k_Md_work.1 0 = .ok (.aload_n 0, 1) := by decide +kernel
theorem d_Md_work_1 : decode k_Md_work.1 1 = .ok (.iconst 0, 1) := by decide +kernel
theorem d_Md_work_2 : decode k_Md_work.1 2 = .ok (.putfield 85, 3) := by decide +kernel
theorem d_Md_work_5 : decode k_Md_work.1 5 = .ok (.iload_n 1, 1) := by decide +kernel
theorem d_Md_work_6 : decode k_Md_work.1 6 = .ok (.iconst 1, 1) := by decide +kernel
theorem d_Md_work_7 : decode k_Md_work.1 7 = .ok (.bipush 8, 2) := by decide +kernel
theorem d_Md_work_9 : decode k_Md_work.1 9 = .ok (.invokestatic 88, 3) := by decide +kernel
theorem d_Md_work_12 : decode k_Md_work.1 12 = .ok (.ifCond .ne 9, 3) := by decide +kernel
theorem d_Md_work_15 : decode k_Md_work.1 15 = .ok (.aload_n 0, 1) := by decide +kernel
theorem d_Md_work_16 : decode k_Md_work.1 16 = .ok (.iconst 1, 1) := by decide +kernel
theorem d_Md_work_17 : decode k_Md_work.1 17 = .ok (.invokevirtual 107, 3) := by decide +kernel
theorem d_Md_work_20 : decode k_Md_work.1 20 = .ok (.ireturn, 1) := by decide +kernel
theorem d_Md_work_21 : decode k_Md_work.1 21 = .ok (.aload_n 0, 1) := by decide +kernel
theorem d_Md_work_22 : decode k_Md_work.1 22 = .ok (.getfield 95, 3) := by decide +kernel
theorem d_Md_work_25 : decode k_Md_work.1 25 = .ok (.ifCond .eq 9, 3) := by decide +kernel
theorem d_Md_work_28 : decode k_Md_work.1 28 = .ok (.aload_n 0, 1) := by decide +kernel
theorem d_Md_work_29 : decode k_Md_work.1 29 = .ok (.iconst 2, 1) := by decide +kernel
theorem d_Md_work_30 : decode k_Md_work.1 30 = .ok (.invokevirtual 107, 3) := by decide +kernel
theorem d_Md_work_33 : decode k_Md_work.1 33 = .ok (.ireturn, 1) := by decide +kernel
theorem d_Md_work_34 : decode k_Md_work.1 34 = .ok (.iconst 0, 1) := by decide +kernel
theorem d_Md_work_35 : decode k_Md_work.1 35 = .ok (.istore_n 2, 1) := by decide +kernel
theorem d_Md_work_36 : decode k_Md_work.1 36 = .ok (.iload_n 2, 1) := by decide +kernel
theorem d_Md_work_37 : decode k_Md_work.1 37 = .ok (.iload_n 1, 1) := by decide +kernel
theorem d_Md_work_38 : decode k_Md_work.1 38 = .ok (.if_icmp .ge 53, 3) := by decide +kernel
theorem d_Md_work_41 : decode k_Md_work.1 41 = .ok (.aload_n 0, 1) := by decide +kernel
theorem d_Md_work_42 : decode k_Md_work.1 42 = .ok (.getfield 92, 3) := by decide +kernel
theorem d_Md_work_45 : decode k_Md_work.1 45 = .ok (.ifCond .le 46, 3) := by decide +kernel
theorem d_Md_work_48 : decode k_Md_work.1 48 = .ok (.aload_n 0, 1) := by decide +kernel
theorem d_Md_work_49 : decode k_Md_work.1 49 = .ok (.getfield 32, 3) := by decide +kernel
theorem d_Md_work_52 : decode k_Md_work.1 52 = .ok (.iconst 0, 1) := by decide +kernel
theorem d_Md_work_53 : decode k_Md_work.1 53 = .ok (.iaload, 1) := by decide +kernel
theorem d_Md_work_54 : decode k_Md_work.1 54 = .ok (.istore_n 3, 1) := by decide +kernel
theorem d_Md_work_55 : decode k_Md_work.1 55 = .ok (.aload_n 0, 1) := by decide +kernel
theorem d_Md_work_56 : decode k_Md_work.1 56 = .ok (.getfield 29, 3) := by decide +kernel
theorem d_Md_work_59 : decode k_Md_work.1 59 = .ok (.iconst 0, 1) := by decide +kernel
theorem d_Md_work_60 : decode k_Md_work.1 60 = .ok (.iaload, 1) := by decide +kernel
theorem d_Md_work_61 : decode k_Md_work.1 61 = .ok (.iconst 3, 1) := by decide +kernel
theorem d_Md_work_62 : decode k_Md_work.1 62 = .ok (.if_icmp .ne 13, 3) := by decide +kernel
theorem d_Md_work_65 : decode k_Md_work.1 65 = .ok (.aload_n 0, 1) := by decide +kernel
theorem d_Md_work_66 : decode k_Md_work.1 66 = .ok (.getfield 35, 3) := by decide +kernel
theorem d_Md_work_69 : decode k_Md_work.1 69 = .ok (.iload_n 3, 1) := by decide +kernel
theorem d_Md_work_70 : decode k_Md_work.1 70 = .ok (.iconst 0, 1) := by decide +kernel
theorem d_Md_work_71 : decode k_Md_work.1 71 = .ok (.bastore, 1) := by decide +kernel
theorem d_Md_work_72 : decode k_Md_work.1 72 = .ok (.goto 8, 3) := by decide +kernel
theorem d_Md_work_75 : decode k_Md_work.1 75 = .ok (.aload_n 0, 1) := by decide +kernel
theorem d_Md_work_76 : decode k_Md_work.1 76 = .ok (.iload_n 3, 1) := by decide +kernel
theorem d_Md_work_77 : decode k_Md_work.1 77 = .ok (.invokevirtual 135, 3) := by decide +kernel
theorem d_Md_work_80 : decode k_Md_work.1 80 = .ok (.aload_n 0, 1) := by decide +kernel
theorem d_Md_work_81 : decode k_Md_work.1 81 = .ok (.iconst 0, 1) := by decide +kernel
theorem d_Md_work_82 : decode k_Md_work.1 82 = .ok (.invokevirtual 103, 3) := by decide +kernel
theorem d_Md_work_85 : decode k_Md_work.1 85 = .ok (.iinc 2 1, 3) := by decide +kernel
theorem d_Md_work_88 : decode k_Md_work.1 88 = .ok (.goto (-52), 3) := by decide +kernel
theorem d_Md_work_91 : decode k_Md_work.1 91 = .ok (.iload_n 2, 1) := by decide +kernel
theorem d_Md_work_92 : decode k_Md_work.1 92 = .ok (.ireturn, 1) := by decide +kernel
theorem d_Md_read_0 : decode k_Md_read.1 0 = .ok (.bipush 60, 2) := by decide +kernel
theorem d_Md_read_2 : decode k_Md_read.1 2 = .ok (.iload_n 1, 1) := by decide +kernel
theorem d_Md_read_3 : decode k_Md_read.1 3 = .ok (.imul, 1) := by decide +kernel
theorem d_Md_read_4 : decode k_Md_read.1 4 = .ok (.istore_n 2, 1) := by decide +kernel
theorem d_Md_read_5 : decode k_Md_read.1 5 = .ok (.iload_n 2, 1) := by decide +kernel
theorem d_Md_read_6 : decode k_Md_read.1 6 = .ok (.aload_n 0, 1) := by decide +kernel
theorem d_Md_read_7 : decode k_Md_read.1 7 = .ok (.getfield 23, 3) := by decide +kernel
theorem d_Md_read_10 : decode k_Md_read.1 10 = .ok (.iload_n 1, 1) := by decide +kernel
theorem d_Md_read_11 : decode k_Md_read.1 11 = .ok (.iaload, 1) := by decide +kernel
theorem d_Md_read_12 : decode k_Md_read.1 12 = .ok (.iadd, 1) := by decide +kernel
theorem d_Md_read_13 : decode k_Md_read.1 13 = .ok (.istore_n 3, 1) := by decide +kernel
theorem d_Md_read_14 : decode k_Md_read.1 14 = .ok (.iload_n 2, 1) := by decide +kernel
theorem d_Md_read_15 : decode k_Md_read.1 15 = .ok (.istore 4, 2) := by decide +kernel
theorem d_Md_read_17 : decode k_Md_read.1 17 = .ok (.aload_n 0, 1) := by decide +kernel
theorem d_Md_read_18 : decode k_Md_read.1 18 = .ok (.getfield 23, 3) := by decide +kernel
theorem d_Md_read_21 : decode k_Md_read.1 21 = .ok (.iload_n 1, 1) := by decide +kernel
theorem d_Md_read_22 : decode k_Md_read.1 22 = .ok (.iaload, 1) := by decide +kernel
theorem d_Md_read_23 : decode k_Md_read.1 23 = .ok (.ifCond .le 38, 3) := by decide +kernel
theorem d_Md_read_26 : decode k_Md_read.1 26 = .ok (.aload_n 0, 1) := by decide +kernel
theorem d_Md_read_27 : decode k_Md_read.1 27 = .ok (.getfield 20, 3) := by decide +kernel
theorem d_Md_read_30 : decode k_Md_read.1 30 = .ok (.iload_n 2, 1) := by decide +kernel
theorem d_Md_read_31 : decode k_Md_read.1 31 = .ok (.iaload, 1) := by decide +kernel
theorem d_Md_read_32 : decode k_Md_read.1 32 = .ok (.bipush 35, 2) := by decide +kernel
theorem d_Md_read_34 : decode k_Md_read.1 34 = .ok (.if_icmp .ne 27, 3) := by decide +kernel
theorem d_Md_read_37 : decode k_Md_read.1 37 = .ok (.iload 4, 2) := by decide +kernel
theorem d_Md_read_39 : decode k_Md_read.1 39 = .ok (.iload_n 3, 1) := by decide +kernel
theorem d_Md_read_40 : decode k_Md_read.1 40 = .ok (.if_icmp .ge 21, 3) := by decide +kernel
theorem d_Md_read_43 : decode k_Md_read.1 43 = .ok (.aload_n 0, 1) := by decide +kernel
theorem d_Md_read_44 : decode k_Md_read.1 44 = .ok (.getfield 20, 3) := by decide +kernel
theorem d_Md_read_47 : decode k_Md_read.1 47 = .ok (.iload 4, 2) := by decide +kernel
theorem d_Md_read_49 : decode k_Md_read.1 49 = .ok (.iaload, 1) := by decide +kernel
theorem d_Md_read_50 : decode k_Md_read.1 50 = .ok (.bipush 59, 2) := by decide +kernel
theorem d_Md_read_52 : decode k_Md_read.1 52 = .ok (.if_icmp .eq 9, 3) := by decide +kernel
theorem d_Md_read_55 : decode k_Md_read.1 55 = .ok (.iinc 4 1, 3) := by decide +kernel
theorem d_Md_read_58 : decode k_Md_read.1 58 = .ok (.goto (-21), 3) := by decide +kernel
theorem d_Md_read_61 : decode k_Md_read.1 61 = .ok (.iconst 0, 1) := by decide +kernel
theorem d_Md_read_62 : decode k_Md_read.1 62 = .ok (.istore 5, 2) := by decide +kernel
theorem d_Md_read_64 : decode k_Md_read.1 64 = .ok (.iload_n 2, 1) := by decide +kernel
theorem d_Md_read_65 : decode k_Md_read.1 65 = .ok (.istore 6, 2) := by decide +kernel
theorem d_Md_read_67 : decode k_Md_read.1 67 = .ok (.iload 6, 2) := by decide +kernel
theorem d_Md_read_69 : decode k_Md_read.1 69 = .ok (.iload_n 3, 1) := by decide +kernel
theorem d_Md_read_70 : decode k_Md_read.1 70 = .ok (.if_icmp .ge 136, 3) := by decide +kernel
theorem d_Md_read_73 : decode k_Md_read.1 73 = .ok (.iload 6, 2) := by decide +kernel
theorem d_Md_read_75 : decode k_Md_read.1 75 = .ok (.istore 7, 2) := by decide +kernel
theorem d_Md_read_77 : decode k_Md_read.1 77 = .ok (.lconst 0, 1) := by decide +kernel
theorem d_Md_read_78 : decode k_Md_read.1 78 = .ok (.lstore 8, 2) := by decide +kernel
theorem d_Md_read_80 : decode k_Md_read.1 80 = .ok (.iconst 0, 1) := by decide +kernel
theorem d_Md_read_81 : decode k_Md_read.1 81 = .ok (.istore 10, 2) := by decide +kernel
theorem d_Md_read_83 : decode k_Md_read.1 83 = .ok (.iload 6, 2) := by decide +kernel
theorem d_Md_read_85 : decode k_Md_read.1 85 = .ok (.iload_n 3, 1) := by decide +kernel
theorem d_Md_read_86 : decode k_Md_read.1 86 = .ok (.if_icmp .ge 51, 3) := by decide +kernel
theorem d_Md_read_89 : decode k_Md_read.1 89 = .ok (.aload_n 0, 1) := by decide +kernel
theorem d_Md_read_90 : decode k_Md_read.1 90 = .ok (.getfield 20, 3) := by decide +kernel
theorem d_Md_read_93 : decode k_Md_read.1 93 = .ok (.iload 6, 2) := by decide +kernel
theorem d_Md_read_95 : decode k_Md_read.1 95 = .ok (.iaload, 1) := by decide +kernel
theorem d_Md_read_96 : decode k_Md_read.1 96 = .ok (.invokestatic 129, 3) := by decide +kernel
theorem d_Md_read_99 : decode k_Md_read.1 99 = .ok (.ifCond .le 38, 3) := by decide +kernel
theorem d_Md_read_102 : decode k_Md_read.1 102 = .ok (.iload 10, 2) := by decide +kernel
theorem d_Md_read_104 : decode k_Md_read.1 104 = .ok (.bipush 8, 2) := by decide +kernel
theorem d_Md_read_106 : decode k_Md_read.1 106 = .ok (.if_icmp .ge 25, 3) := by decide +kernel
theorem d_Md_read_109 : decode k_Md_read.1 109 = .ok (.lload 8, 2) := by decide +kernel
theorem d_Md_read_111 : decode k_Md_read.1 111 = .ok (.bipush 8, 2) := by decide +kernel
theorem d_Md_read_113 : decode k_Md_read.1 113 = .ok (.lshl, 1) := by decide +kernel
theorem d_Md_read_114 : decode k_Md_read.1 114 = .ok (.aload_n 0, 1) := by decide +kernel
theorem d_Md_read_115 : decode k_Md_read.1 115 = .ok (.getfield 20, 3) := by decide +kernel
theorem d_Md_read_118 : decode k_Md_read.1 118 = .ok (.iload 6, 2) := by decide +kernel
theorem d_Md_read_120 : decode k_Md_read.1 120 = .ok (.iaload, 1) := by decide +kernel
theorem d_Md_read_121 : decode k_Md_read.1 121 = .ok (.invokestatic 129, 3) := by decide +kernel
theorem d_Md_read_124 : decode k_Md_read.1 124 = .ok (.i2l, 1) := by decide +kernel
theorem d_Md_read_125 : decode k_Md_read.1 125 = .ok (.lor, 1) := by decide +kernel
theorem d_Md_read_126 : decode k_Md_read.1 126 = .ok (.lstore 8, 2) := by decide +kernel
theorem d_Md_read_128 : decode k_Md_read.1 128 = .ok (.iinc 10 1, 3) := by decide +kernel
theorem d_Md_read_131 : decode k_Md_read.1 131 = .ok (.iinc 6 1, 3) := by decide +kernel
theorem d_Md_read_134 : decode k_Md_read.1 134 = .ok (.goto (-51), 3) := by decide +kernel
theorem d_Md_read_137 : decode k_Md_read.1 137 = .ok (.iload 10, 2) := by decide +kernel
theorem d_Md_read_139 : decode k_Md_read.1 139 = .ok (.ifCond .ne 9, 3) := by decide +kernel
theorem d_Md_read_142 : decode k_Md_read.1 142 = .ok (.iinc 6 1, 3) := by decide +kernel
theorem d_Md_read_145 : decode k_Md_read.1 145 = .ok (.goto (-78), 3) := by decide +kernel
theorem d_Md_read_148 : decode k_Md_read.1 148 = .ok (.aload_n 0, 1) := by decide +kernel
theorem d_Md_read_149 : decode k_Md_read.1 149 = .ok (.getfield 41, 3) := by decide +kernel
theorem d_Md_read_152 : decode k_Md_read.1 152 = .ok (.bipush 30, 2) := by decide +kernel
theorem d_Md_read_154 : decode k_Md_read.1 154 = .ok (.iload_n 1, 1) := by decide +kernel
theorem d_Md_read_155 : decode k_Md_read.1 155 = .ok (.imul, 1) := by decide +kernel
theorem d_Md_read_156 : decode k_Md_read.1 156 = .ok (.iload 5, 2) := by decide +kernel
theorem d_Md_read_158 : decode k_Md_read.1 158 = .ok (.iadd, 1) := by decide +kernel
theorem d_Md_read_159 : decode k_Md_read.1 159 = .ok (.lload 8, 2) := by decide +kernel
theorem d_Md_read_161 : decode k_Md_read.1 161 = .ok (.lastore, 1) := by decide +kernel
theorem d_Md_read_162 : decode k_Md_read.1 162 = .ok (.aload_n 0, 1) := by decide +kernel
theorem d_Md_read_163 : decode k_Md_read.1 163 = .ok (.getfield 45, 3) := by decide +kernel
theorem d_Md_read_166 : decode k_Md_read.1 166 = .ok (.bipush 30, 2) := by decide +kernel
theorem d_Md_read_168 : decode k_Md_read.1 168 = .ok (.iload_n 1, 1) := by decide +kernel
theorem d_Md_read_169 : decode k_Md_read.1 169 = .ok (.imul, 1) := by decide +kernel
theorem d_Md_read_170 : decode k_Md_read.1 170 = .ok (.iload 5, 2) := by decide +kernel
theorem d_Md_read_172 : decode k_Md_read.1 172 = .ok (.iadd, 1) := by decide +kernel
theorem d_Md_read_173 : decode k_Md_read.1 173 = .ok (.iload 10, 2) := by decide +kernel
theorem d_Md_read_175 : decode k_Md_read.1 175 = .ok (.iastore, 1) := by decide +kernel
theorem d_Md_read_176 : decode k_Md_read.1 176 = .ok (.aload_n 0, 1) := by decide +kernel
theorem d_Md_read_177 : decode k_Md_read.1 177 = .ok (.getfield 48, 3) := by decide +kernel
theorem d_Md_read_180 : decode k_Md_read.1 180 = .ok (.bipush 30, 2) := by decide +kernel
theorem d_Md_read_182 : decode k_Md_read.1 182 = .ok (.iload_n 1, 1) := by decide +kernel
theorem d_Md_read_183 : decode k_Md_read.1 183 = .ok (.imul, 1) := by decide +kernel
theorem d_Md_read_184 : decode k_Md_read.1 184 = .ok (.iload 5, 2) := by decide +kernel
theorem d_Md_read_186 : decode k_Md_read.1 186 = .ok (.iadd, 1) := by decide +kernel
theorem d_Md_read_187 : decode k_Md_read.1 187 = .ok (.iload 7, 2) := by decide +kernel
theorem d_Md_read_189 : decode k_Md_read.1 189 = .ok (.iload 4, 2) := by decide +kernel
theorem d_Md_read_191 : decode k_Md_read.1 191 = .ok (.if_icmp .ge 7, 3) := by decide +kernel
theorem d_Md_read_194 : decode k_Md_read.1 194 = .ok (.iconst 3, 1) := by decide +kernel
theorem d_Md_read_195 : decode k_Md_read.1 195 = .ok (.goto 4, 3) := by decide +kernel
theorem d_Md_read_198 : decode k_Md_read.1 198 = .ok (.iconst 1, 1) := by decide +kernel
theorem d_Md_read_199 : decode k_Md_read.1 199 = .ok (.iastore, 1) := by decide +kernel
theorem d_Md_read_200 : decode k_Md_read.1 200 = .ok (.iinc 5 1, 3) := by decide +kernel
theorem d_Md_read_203 : decode k_Md_read.1 203 = .ok (.goto (-136), 3) := by decide +kernel
theorem d_Md_read_206 : decode k_Md_read.1 206 = .ok (.aload_n 0, 1) := by decide +kernel
theorem d_Md_read_207 : decode k_Md_read.1 207 = .ok (.getfield 38, 3) := by decide +kernel
theorem d_Md_read_210 : decode k_Md_read.1 210 = .ok (.iload_n 1, 1) := by decide +kernel
theorem d_Md_read_211 : decode k_Md_read.1 211 = .ok (.iload 5, 2) := by decide +kernel
theorem d_Md_read_213 : decode k_Md_read.1 213 = .ok (.iastore, 1) := by decide +kernel
theorem d_Md_read_214 : decode k_Md_read.1 214 = .ok (.aload_n 0, 1) := by decide +kernel
theorem d_Md_read_215 : decode k_Md_read.1 215 = .ok (.getfield 35, 3) := by decide +kernel
theorem d_Md_read_218 : decode k_Md_read.1 218 = .ok (.iload_n 1, 1) := by decide +kernel
theorem d_Md_read_219 : decode k_Md_read.1 219 = .ok (.iconst 1, 1) := by decide +kernel
theorem d_Md_read_220 : decode k_Md_read.1 220 = .ok (.bastore, 1) := by decide +kernel
theorem d_Md_read_221 : decode k_Md_read.1 221 = .ok (.aload_n 0, 1) := by decide +kernel
theorem d_Md_read_222 : decode k_Md_read.1 222 = .ok (.dup, 1) := by decide +kernel
theorem d_Md_read_223 : decode k_Md_read.1 223 = .ok (.getfield 132, 3) := by decide +kernel
theorem d_Md_read_226 : decode k_Md_read.1 226 = .ok (.iconst 1, 1) := by decide +kernel
theorem d_Md_read_227 : decode k_Md_read.1 227 = .ok (.iadd, 1) := by decide +kernel
theorem d_Md_read_228 : decode k_Md_read.1 228 = .ok (.putfield 132, 3) := by decide +kernel
theorem d_Md_read_231 : decode k_Md_read.1 231 = .ok (.return_, 1) := by decide +kernel
theorem d_Md_letter_0 : decode k_Md_letter.1 0 = .ok (.iload_n 0, 1) := by decide +kernel
theorem d_Md_letter_1 : decode k_Md_letter.1 1 = .ok (.bipush 97, 2) := by decide +kernel
theorem d_Md_letter_3 : decode k_Md_letter.1 3 = .ok (.if_icmp .lt 11, 3) := by decide +kernel
theorem d_Md_letter_6 : decode k_Md_letter.1 6 = .ok (.iload_n 0, 1) := by decide +kernel
theorem d_Md_letter_7 : decode k_Md_letter.1 7 = .ok (.bipush 122, 2) := by decide +kernel
theorem d_Md_letter_9 : decode k_Md_letter.1 9 = .ok (.if_icmp .gt 5, 3) := by decide +kernel
theorem d_Md_letter_12 : decode k_Md_letter.1 12 = .ok (.iload_n 0, 1) := by decide +kernel
theorem d_Md_letter_13 : decode k_Md_letter.1 13 = .ok (.ireturn, 1) := by decide +kernel
theorem d_Md_letter_14 : decode k_Md_letter.1 14 = .ok (.iload_n 0, 1) := by decide +kernel
theorem d_Md_letter_15 : decode k_Md_letter.1 15 = .ok (.bipush 65, 2) := by decide +kernel
theorem d_Md_letter_17 : decode k_Md_letter.1 17 = .ok (.if_icmp .lt 16, 3) := by decide +kernel
theorem d_Md_letter_20 : decode k_Md_letter.1 20 = .ok (.iload_n 0, 1) := by decide +kernel
theorem d_Md_letter_21 : decode k_Md_letter.1 21 = .ok (.bipush 90, 2) := by decide +kernel
theorem d_Md_letter_23 : decode k_Md_letter.1 23 = .ok (.if_icmp .gt 10, 3) := by decide +kernel
theorem d_Md_letter_26 : decode k_Md_letter.1 26 = .ok (.iload_n 0, 1) := by decide +kernel
theorem d_Md_letter_27 : decode k_Md_letter.1 27 = .ok (.bipush 32, 2) := by decide +kernel
theorem d_Md_letter_29 : decode k_Md_letter.1 29 = .ok (.iadd, 1) := by decide +kernel
theorem d_Md_letter_30 : decode k_Md_letter.1 30 = .ok (.goto 4, 3) := by decide +kernel
theorem d_Md_letter_33 : decode k_Md_letter.1 33 = .ok (.iconst 0, 1) := by decide +kernel
theorem d_Md_letter_34 : decode k_Md_letter.1 34 = .ok (.ireturn, 1) := by decide +kernel
theorem d_Md_rescan_0 : decode k_Md_rescan.1 0 = .ok (.aload_n 0, 1) := by decide +kernel
theorem d_Md_rescan_1 : decode k_Md_rescan.1 1 = .ok (.iconst 0, 1) := by decide +kernel
theorem d_Md_rescan_2 : decode k_Md_rescan.1 2 = .ok (.putfield 85, 3) := by decide +kernel
theorem d_Md_rescan_5 : decode k_Md_rescan.1 5 = .ok (.iconst 0, 1) := by decide +kernel
theorem d_Md_rescan_6 : decode k_Md_rescan.1 6 = .ok (.istore_n 1, 1) := by decide +kernel
theorem d_Md_rescan_7 : decode k_Md_rescan.1 7 = .ok (.iconst 0, 1) := by decide +kernel
theorem d_Md_rescan_8 : decode k_Md_rescan.1 8 = .ok (.istore_n 2, 1) := by decide +kernel
theorem d_Md_rescan_9 : decode k_Md_rescan.1 9 = .ok (.iload_n 2, 1) := by decide +kernel
theorem d_Md_rescan_10 : decode k_Md_rescan.1 10 = .ok (.bipush 16, 2) := by decide +kernel
theorem d_Md_rescan_12 : decode k_Md_rescan.1 12 = .ok (.if_icmp .ge 35, 3) := by decide +kernel
theorem d_Md_rescan_15 : decode k_Md_rescan.1 15 = .ok (.aload_n 0, 1) := by decide +kernel
theorem d_Md_rescan_16 : decode k_Md_rescan.1 16 = .ok (.getfield 35, 3) := by decide +kernel
theorem d_Md_rescan_19 : decode k_Md_rescan.1 19 = .ok (.iload_n 2, 1) := by decide +kernel
theorem d_Md_rescan_20 : decode k_Md_rescan.1 20 = .ok (.iconst 0, 1) := by decide +kernel
theorem d_Md_rescan_21 : decode k_Md_rescan.1 21 = .ok (.bastore, 1) := by decide +kernel
theorem d_Md_rescan_22 : decode k_Md_rescan.1 22 = .ok (.aload_n 0, 1) := by decide +kernel
theorem d_Md_rescan_23 : decode k_Md_rescan.1 23 = .ok (.iload_n 2, 1) := by decide +kernel
theorem d_Md_rescan_24 : decode k_Md_rescan.1 24 = .ok (.invokevirtual 119, 3) := by decide +kernel
theorem d_Md_rescan_27 : decode k_Md_rescan.1 27 = .ok (.ifCond .ne 6, 3) := by decide +kernel
theorem d_Md_rescan_30 : decode k_Md_rescan.1 30 = .ok (.goto 11, 3) := by decide +kernel
theorem d_Md_rescan_33 : decode k_Md_rescan.1 33 = .ok (.aload_n 0, 1) := by decide +kernel
theorem d_Md_rescan_34 : decode k_Md_rescan.1 34 = .ok (.iload_n 2, 1) := by decide +kernel
theorem d_Md_rescan_35 : decode k_Md_rescan.1 35 = .ok (.invokevirtual 135, 3) := by decide +kernel
theorem d_Md_rescan_38 : decode k_Md_rescan.1 38 = .ok (.iinc 1 1, 3) := by decide +kernel
theorem d_Md_rescan_41 : decode k_Md_rescan.1 41 = .ok (.iinc 2 1, 3) := by decide +kernel
theorem d_Md_rescan_44 : decode k_Md_rescan.1 44 = .ok (.goto (-35), 3) := by decide +kernel
theorem d_Md_rescan_47 : decode k_Md_rescan.1 47 = .ok (.aload_n 0, 1) := by decide +kernel
theorem d_Md_rescan_48 : decode k_Md_rescan.1 48 = .ok (.iconst 0, 1) := by decide +kernel
theorem d_Md_rescan_49 : decode k_Md_rescan.1 49 = .ok (.putfield 95, 3) := by decide +kernel
theorem d_Md_rescan_52 : decode k_Md_rescan.1 52 = .ok (.aload_n 0, 1) := by decide +kernel
theorem d_Md_rescan_53 : decode k_Md_rescan.1 53 = .ok (.iconst 0, 1) := by decide +kernel
theorem d_Md_rescan_54 : decode k_Md_rescan.1 54 = .ok (.putfield 92, 3) := by decide +kernel
theorem d_Md_rescan_57 : decode k_Md_rescan.1 57 = .ok (.iload_n 1, 1) := by decide +kernel
theorem d_Md_rescan_58 : decode k_Md_rescan.1 58 = .ok (.ireturn, 1) := by decide +kernel
theorem d_Md_type_0 : decode k_Md_type.1 0 = .ok (.aload_n 0, 1) := by decide +kernel
theorem d_Md_type_1 : decode k_Md_type.1 1 = .ok (.iconst 0, 1) := by decide +kernel
theorem d_Md_type_2 : decode k_Md_type.1 2 = .ok (.putfield 85, 3) := by decide +kernel
theorem d_Md_type_5 : decode k_Md_type.1 5 = .ok (.iload_n 1, 1) := by decide +kernel
theorem d_Md_type_6 : decode k_Md_type.1 6 = .ok (.bipush 32, 2) := by decide +kernel
theorem d_Md_type_8 : decode k_Md_type.1 8 = .ok (.bipush 126, 2) := by decide +kernel
theorem d_Md_type_10 : decode k_Md_type.1 10 = .ok (.invokestatic 88, 3) := by decide +kernel
theorem d_Md_type_13 : decode k_Md_type.1 13 = .ok (.ifCond .ne 9, 3) := by decide +kernel
theorem d_Md_type_16 : decode k_Md_type.1 16 = .ok (.aload_n 0, 1) := by decide +kernel
theorem d_Md_type_17 : decode k_Md_type.1 17 = .ok (.iconst 1, 1) := by decide +kernel
theorem d_Md_type_18 : decode k_Md_type.1 18 = .ok (.invokevirtual 107, 3) := by decide +kernel
theorem d_Md_type_21 : decode k_Md_type.1 21 = .ok (.ireturn, 1) := by decide +kernel
theorem d_Md_type_22 : decode k_Md_type.1 22 = .ok (.aload_n 0, 1) := by decide +kernel
theorem d_Md_type_23 : decode k_Md_type.1 23 = .ok (.getfield 138, 3) := by decide +kernel
theorem d_Md_type_26 : decode k_Md_type.1 26 = .ok (.bipush 40, 2) := by decide +kernel
theorem d_Md_type_28 : decode k_Md_type.1 28 = .ok (.if_icmp .ne 9, 3) := by decide +kernel
theorem d_Md_type_31 : decode k_Md_type.1 31 = .ok (.aload_n 0, 1) := by decide +kernel
theorem d_Md_type_32 : decode k_Md_type.1 32 = .ok (.iconst 2, 1) := by decide +kernel
theorem d_Md_type_33 : decode k_Md_type.1 33 = .ok (.invokevirtual 107, 3) := by decide +kernel
theorem d_Md_type_36 : decode k_Md_type.1 36 = .ok (.ireturn, 1) := by decide +kernel
theorem d_Md_type_37 : decode k_Md_type.1 37 = .ok (.aload_n 0, 1) := by decide +kernel
theorem d_Md_type_38 : decode k_Md_type.1 38 = .ok (.getfield 51, 3) := by decide +kernel
theorem d_Md_type_41 : decode k_Md_type.1 41 = .ok (.aload_n 0, 1) := by decide +kernel
theorem d_Md_type_42 : decode k_Md_type.1 42 = .ok (.getfield 138, 3) := by decide +kernel
theorem d_Md_type_45 : decode k_Md_type.1 45 = .ok (.iload_n 1, 1) := by decide +kernel
theorem d_Md_type_46 : decode k_Md_type.1 46 = .ok (.iastore, 1) := by decide +kernel
theorem d_Md_type_47 : decode k_Md_type.1 47 = .ok (.aload_n 0, 1) := by decide +kernel
theorem d_Md_type_48 : decode k_Md_type.1 48 = .ok (.dup, 1) := by decide +kernel
theorem d_Md_type_49 : decode k_Md_type.1 49 = .ok (.getfield 138, 3) := by decide +kernel
theorem d_Md_type_52 : decode k_Md_type.1 52 = .ok (.iconst 1, 1) := by decide +kernel
theorem d_Md_type_53 : decode k_Md_type.1 53 = .ok (.iadd, 1) := by decide +kernel
theorem d_Md_type_54 : decode k_Md_type.1 54 = .ok (.putfield 138, 3) := by decide +kernel
theorem d_Md_type_57 : decode k_Md_type.1 57 = .ok (.aload_n 0, 1) := by decide +kernel
theorem d_Md_type_58 : decode k_Md_type.1 58 = .ok (.getfield 138, 3) := by decide +kernel
theorem d_Md_type_61 : decode k_Md_type.1 61 = .ok (.ireturn, 1) := by decide +kernel
theorem d_Md_search_0 : decode k_Md_search.1 0 = .ok (.aload_n 0, 1) := by decide +kernel
theorem d_Md_search_1 : decode k_Md_search.1 1 = .ok (.iconst 0, 1) := by decide +kernel
theorem d_Md_search_2 : decode k_Md_search.1 2 = .ok (.putfield 85, 3) := by decide +kernel
theorem d_Md_search_5 : decode k_Md_search.1 5 = .ok (.aload_n 0, 1) := by decide +kernel
theorem d_Md_search_6 : decode k_Md_search.1 6 = .ok (.iload_n 1, 1) := by decide +kernel
theorem d_Md_search_7 : decode k_Md_search.1 7 = .ok (.invokevirtual 111, 3) := by decide +kernel
theorem d_Md_search_10 : decode k_Md_search.1 10 = .ok (.ifCond .ne 9, 3) := by decide +kernel
theorem d_Md_search_13 : decode k_Md_search.1 13 = .ok (.aload_n 0, 1) := by decide +kernel
theorem d_Md_search_14 : decode k_Md_search.1 14 = .ok (.iconst 1, 1) := by decide +kernel
theorem d_Md_search_15 : decode k_Md_search.1 15 = .ok (.invokevirtual 107, 3) := by decide +kernel
theorem d_Md_search_18 : decode k_Md_search.1 18 = .ok (.ireturn, 1) := by decide +kernel
theorem d_Md_search_19 : decode k_Md_search.1 19 = .ok (.aload_n 0, 1) := by decide +kernel
theorem d_Md_search_20 : decode k_Md_search.1 20 = .ok (.invokevirtual 181, 3) := by decide +kernel
theorem d_Md_search_23 : decode k_Md_search.1 23 = .ok (.istore_n 2, 1) := by decide +kernel
theorem d_Md_search_24 : decode k_Md_search.1 24 = .ok (.aload_n 0, 1) := by decide +kernel
theorem d_Md_search_25 : decode k_Md_search.1 25 = .ok (.iconst 0, 1) := by decide +kernel
theorem d_Md_search_26 : decode k_Md_search.1 26 = .ok (.putfield 138, 3) := by decide +kernel
theorem d_Md_search_29 : decode k_Md_search.1 29 = .ok (.aload_n 0, 1) := by decide +kernel
theorem d_Md_search_30 : decode k_Md_search.1 30 = .ok (.iconst 0, 1) := by decide +kernel
theorem d_Md_search_31 : decode k_Md_search.1 31 = .ok (.putfield 178, 3) := by decide +kernel
theorem d_Md_search_34 : decode k_Md_search.1 34 = .ok (.aload_n 0, 1) := by decide +kernel
theorem d_Md_search_35 : decode k_Md_search.1 35 = .ok (.aload_n 0, 1) := by decide +kernel
theorem d_Md_search_36 : decode k_Md_search.1 36 = .ok (.getfield 148, 3) := by decide +kernel
theorem d_Md_search_39 : decode k_Md_search.1 39 = .ok (.putfield 75, 3) := by decide +kernel
theorem d_Md_search_42 : decode k_Md_search.1 42 = .ok (.aload_n 0, 1) := by decide +kernel
theorem d_Md_search_43 : decode k_Md_search.1 43 = .ok (.getfield 148, 3) := by decide +kernel
theorem d_Md_search_46 : decode k_Md_search.1 46 = .ok (.ifCond .lt 9, 3) := by decide +kernel
theorem d_Md_search_49 : decode k_Md_search.1 49 = .ok (.aload_n 0, 1) := by decide +kernel
theorem d_Md_search_50 : decode k_Md_search.1 50 = .ok (.iconst 2, 1) := by decide +kernel
theorem d_Md_search_51 : decode k_Md_search.1 51 = .ok (.invokevirtual 107, 3) := by decide +kernel
theorem d_Md_search_54 : decode k_Md_search.1 54 = .ok (.ireturn, 1) := by decide +kernel
theorem d_Md_search_55 : decode k_Md_search.1 55 = .ok (.iconst 0, 1) := by decide +kernel
theorem d_Md_search_56 : decode k_Md_search.1 56 = .ok (.istore_n 3, 1) := by decide +kernel
theorem d_Md_search_57 : decode k_Md_search.1 57 = .ok (.iload_n 3, 1) := by decide +kernel
theorem d_Md_search_58 : decode k_Md_search.1 58 = .ok (.bipush 16, 2) := by decide +kernel
theorem d_Md_search_60 : decode k_Md_search.1 60 = .ok (.if_icmp .ge 95, 3) := by decide +kernel
theorem d_Md_search_63 : decode k_Md_search.1 63 = .ok (.aload_n 0, 1) := by decide +kernel
theorem d_Md_search_64 : decode k_Md_search.1 64 = .ok (.getfield 35, 3) := by decide +kernel
theorem d_Md_search_67 : decode k_Md_search.1 67 = .ok (.iload_n 3, 1) := by decide +kernel
theorem d_Md_search_68 : decode k_Md_search.1 68 = .ok (.baload, 1) := by decide +kernel
theorem d_Md_search_69 : decode k_Md_search.1 69 = .ok (.ifCond .eq 80, 3) := by decide +kernel
theorem d_Md_search_72 : decode k_Md_search.1 72 = .ok (.iload_n 1, 1) := by decide +kernel
theorem d_Md_search_73 : decode k_Md_search.1 73 = .ok (.ifCond .le 15, 3) := by decide +kernel
theorem d_Md_search_76 : decode k_Md_search.1 76 = .ok (.aload_n 0, 1) := by decide +kernel
theorem d_Md_search_77 : decode k_Md_search.1 77 = .ok (.iload_n 3, 1) := by decide +kernel
theorem d_Md_search_78 : decode k_Md_search.1 78 = .ok (.iload_n 1, 1) := by decide +kernel
theorem d_Md_search_79 : decode k_Md_search.1 79 = .ok (.invokevirtual 125, 3) := by decide +kernel
theorem d_Md_search_82 : decode k_Md_search.1 82 = .ok (.ifCond .ne 6, 3) := by decide +kernel
theorem d_Md_search_85 : decode k_Md_search.1 85 = .ok (.goto 64, 3) := by decide +kernel
theorem d_Md_search_88 : decode k_Md_search.1 88 = .ok (.iconst (-1), 1) := by decide +kernel
theorem d_Md_search_89 : decode k_Md_search.1 89 = .ok (.istore 4, 2) := by decide +kernel
theorem d_Md_search_91 : decode k_Md_search.1 91 = .ok (.iconst 0, 1) := by decide +kernel
theorem d_Md_search_92 : decode k_Md_search.1 92 = .ok (.istore 5, 2) := by decide +kernel
theorem d_Md_search_94 : decode k_Md_search.1 94 = .ok (.iload 5, 2) := by decide +kernel
theorem d_Md_search_96 : decode k_Md_search.1 96 = .ok (.iload_n 2, 1) := by decide +kernel
theorem d_Md_search_97 : decode k_Md_search.1 97 = .ok (.if_icmp .ge 40, 3) := by decide +kernel
theorem d_Md_search_100 : decode k_Md_search.1 100 = .ok (.aload_n 0, 1) := by decide +kernel
theorem d_Md_search_101 : decode k_Md_search.1 101 = .ok (.iload 5, 2) := by decide +kernel
theorem d_Md_search_103 : decode k_Md_search.1 103 = .ok (.iload_n 3, 1) := by decide +kernel
theorem d_Md_search_104 : decode k_Md_search.1 104 = .ok (.invokevirtual 184, 3) := by decide +kernel
theorem d_Md_search_107 : decode k_Md_search.1 107 = .ok (.istore 6, 2) := by decide +kernel
theorem d_Md_search_109 : decode k_Md_search.1 109 = .ok (.iload 6, 2) := by decide +kernel
theorem d_Md_search_111 : decode k_Md_search.1 111 = .ok (.ifCond .lt 20, 3) := by decide +kernel
theorem d_Md_search_114 : decode k_Md_search.1 114 = .ok (.iload 4, 2) := by decide +kernel
theorem d_Md_search_116 : decode k_Md_search.1 116 = .ok (.ifCond .ge 8, 3) := by decide +kernel
theorem d_Md_search_119 : decode k_Md_search.1 119 = .ok (.iload 6, 2) := by decide +kernel
theorem d_Md_search_121 : decode k_Md_search.1 121 = .ok (.goto 8, 3) := by decide +kernel
theorem d_Md_search_124 : decode k_Md_search.1 124 = .ok (.iload 4, 2) := by decide +kernel
theorem d_Md_search_126 : decode k_Md_search.1 126 = .ok (.iload 6, 2) := by decide +kernel
theorem d_Md_search_128 : decode k_Md_search.1 128 = .ok (.iadd, 1) := by decide +kernel
theorem d_Md_search_129 : decode k_Md_search.1 129 = .ok (.istore 4, 2) := by decide +kernel
theorem d_Md_search_131 : decode k_Md_search.1 131 = .ok (.iinc 5 1, 3) := by decide +kernel
theorem d_Md_search_134 : decode k_Md_search.1 134 = .ok (.goto (-40), 3) := by decide +kernel
theorem d_Md_search_137 : decode k_Md_search.1 137 = .ok (.iload 4, 2) := by decide +kernel
theorem d_Md_search_139 : decode k_Md_search.1 139 = .ok (.ifCond .lt 10, 3) := by decide +kernel
theorem d_Md_search_142 : decode k_Md_search.1 142 = .ok (.aload_n 0, 1) := by decide +kernel
theorem d_Md_search_143 : decode k_Md_search.1 143 = .ok (.iload_n 3, 1) := by decide +kernel
theorem d_Md_search_144 : decode k_Md_search.1 144 = .ok (.iload 4, 2) := by decide +kernel
theorem d_Md_search_146 : decode k_Md_search.1 146 = .ok (.invokevirtual 187, 3) := by decide +kernel
theorem d_Md_search_149 : decode k_Md_search.1 149 = .ok (.iinc 3 1, 3) := by decide +kernel
theorem d_Md_search_152 : decode k_Md_search.1 152 = .ok (.goto (-95), 3) := by decide +kernel
theorem d_Md_search_155 : decode k_Md_search.1 155 = .ok (.aload_n 0, 1) := by decide +kernel
theorem d_Md_search_156 : decode k_Md_search.1 156 = .ok (.getfield 178, 3) := by decide +kernel
theorem d_Md_search_159 : decode k_Md_search.1 159 = .ok (.ireturn, 1) := by decide +kernel
theorem d_Md_parse_0 : decode k_Md_parse.1 0 = .ok (.aload_n 0, 1) := by decide +kernel
theorem d_Md_parse_1 : decode k_Md_parse.1 1 = .ok (.iconst 0, 1) := by decide +kernel
theorem d_Md_parse_2 : decode k_Md_parse.1 2 = .ok (.putfield 163, 3) := by decide +kernel
theorem d_Md_parse_5 : decode k_Md_parse.1 5 = .ok (.aload_n 0, 1) := by decide +kernel
theorem d_Md_parse_6 : decode k_Md_parse.1 6 = .ok (.iconst 0, 1) := by decide +kernel
theorem d_Md_parse_7 : decode k_Md_parse.1 7 = .ok (.putfield 154, 3) := by decide +kernel
theorem d_Md_parse_10 : decode k_Md_parse.1 10 = .ok (.aload_n 0, 1) := by decide +kernel
theorem d_Md_parse_11 : decode k_Md_parse.1 11 = .ok (.iconst 0, 1) := by decide +kernel
theorem d_Md_parse_12 : decode k_Md_parse.1 12 = .ok (.putfield 141, 3) := by decide +kernel
theorem d_Md_parse_15 : decode k_Md_parse.1 15 = .ok (.aload_n 0, 1) := by decide +kernel
theorem d_Md_parse_16 : decode k_Md_parse.1 16 = .ok (.iconst (-1), 1) := by decide +kernel
theorem d_Md_parse_17 : decode k_Md_parse.1 17 = .ok (.putfield 148, 3) := by decide +kernel
theorem d_Md_parse_20 : decode k_Md_parse.1 20 = .ok (.iconst 0, 1) := by decide +kernel
theorem d_Md_parse_21 : decode k_Md_parse.1 21 = .ok (.istore_n 1, 1) := by decide +kernel
theorem d_Md_parse_22 : decode k_Md_parse.1 22 = .ok (.iconst 0, 1) := by decide +kernel
theorem d_Md_parse_23 : decode k_Md_parse.1 23 = .ok (.istore_n 2, 1) := by decide +kernel
theorem d_Md_parse_24 : decode k_Md_parse.1 24 = .ok (.iconst 1, 1) := by decide +kernel
theorem d_Md_parse_25 : decode k_Md_parse.1 25 = .ok (.istore_n 3, 1) := by decide +kernel
theorem d_Md_parse_26 : decode k_Md_parse.1 26 = .ok (.iload_n 3, 1) := by decide +kernel
theorem d_Md_parse_27 : decode k_Md_parse.1 27 = .ok (.ifCond .eq 90, 3) := by decide +kernel
theorem d_Md_parse_30 : decode k_Md_parse.1 30 = .ok (.aload_n 0, 1) := by decide +kernel
theorem d_Md_parse_31 : decode k_Md_parse.1 31 = .ok (.getfield 148, 3) := by decide +kernel
theorem d_Md_parse_34 : decode k_Md_parse.1 34 = .ok (.ifCond .ge 83, 3) := by decide +kernel
theorem d_Md_parse_37 : decode k_Md_parse.1 37 = .ok (.aload_n 0, 1) := by decide +kernel
theorem d_Md_parse_38 : decode k_Md_parse.1 38 = .ok (.invokevirtual 157, 3) := by decide +kernel
theorem d_Md_parse_41 : decode k_Md_parse.1 41 = .ok (.aload_n 0, 1) := by decide +kernel
theorem d_Md_parse_42 : decode k_Md_parse.1 42 = .ok (.invokevirtual 144, 3) := by decide +kernel
theorem d_Md_parse_45 : decode k_Md_parse.1 45 = .ok (.ifCond .lt 20, 3) := by decide +kernel
theorem d_Md_parse_48 : decode k_Md_parse.1 48 = .ok (.aload_n 0, 1) := by decide +kernel
theorem d_Md_parse_49 : decode k_Md_parse.1 49 = .ok (.invokevirtual 144, 3) := by decide +kernel
theorem d_Md_parse_52 : decode k_Md_parse.1 52 = .ok (.bipush 124, 2) := by decide +kernel
theorem d_Md_parse_54 : decode k_Md_parse.1 54 = .ok (.if_icmp .eq 11, 3) := by decide +kernel
theorem d_Md_parse_57 : decode k_Md_parse.1 57 = .ok (.aload_n 0, 1) := by decide +kernel
theorem d_Md_parse_58 : decode k_Md_parse.1 58 = .ok (.iload_n 1, 1) := by decide +kernel
theorem d_Md_parse_59 : decode k_Md_parse.1 59 = .ok (.invokevirtual 169, 3) := by decide +kernel
theorem d_Md_parse_62 : decode k_Md_parse.1 62 = .ok (.goto (-36), 3) := by decide +kernel
theorem d_Md_parse_65 : decode k_Md_parse.1 65 = .ok (.aload_n 0, 1) := by decide +kernel
theorem d_Md_parse_66 : decode k_Md_parse.1 66 = .ok (.getfield 163, 3) := by decide +kernel
theorem d_Md_parse_69 : decode k_Md_parse.1 69 = .ok (.iload_n 2, 1) := by decide +kernel
theorem d_Md_parse_70 : decode k_Md_parse.1 70 = .ok (.if_icmp .ne 7, 3) := by decide +kernel
theorem d_Md_parse_73 : decode k_Md_parse.1 73 = .ok (.aload_n 0, 1) := by decide +kernel
theorem d_Md_parse_74 : decode k_Md_parse.1 74 = .ok (.invokevirtual 151, 3) := by decide +kernel
theorem d_Md_parse_77 : decode k_Md_parse.1 77 = .ok (.aload_n 0, 1) := by decide +kernel
theorem d_Md_parse_78 : decode k_Md_parse.1 78 = .ok (.getfield 163, 3) := by decide +kernel
theorem d_Md_parse_81 : decode k_Md_parse.1 81 = .ok (.istore_n 2, 1) := by decide +kernel
theorem d_Md_parse_82 : decode k_Md_parse.1 82 = .ok (.iinc 1 1, 3) := by decide +kernel
theorem d_Md_parse_85 : decode k_Md_parse.1 85 = .ok (.aload_n 0, 1) := by decide +kernel
theorem d_Md_parse_86 : decode k_Md_parse.1 86 = .ok (.invokevirtual 144, 3) := by decide +kernel
theorem d_Md_parse_89 : decode k_Md_parse.1 89 = .ok (.bipush 124, 2) := by decide +kernel
theorem d_Md_parse_91 : decode k_Md_parse.1 91 = .ok (.if_icmp .ne 7, 3) := by decide +kernel
theorem d_Md_parse_94 : decode k_Md_parse.1 94 = .ok (.iconst 1, 1) := by decide +kernel
theorem d_Md_parse_95 : decode k_Md_parse.1 95 = .ok (.goto 4, 3) := by decide +kernel
theorem d_Md_parse_98 : decode k_Md_parse.1 98 = .ok (.iconst 0, 1) := by decide +kernel
theorem d_Md_parse_99 : decode k_Md_parse.1 99 = .ok (.istore_n 3, 1) := by decide +kernel
theorem d_Md_parse_100 : decode k_Md_parse.1 100 = .ok (.iload_n 3, 1) := by decide +kernel
theorem d_Md_parse_101 : decode k_Md_parse.1 101 = .ok (.ifCond .eq (-75), 3) := by decide +kernel
theorem d_Md_parse_104 : decode k_Md_parse.1 104 = .ok (.aload_n 0, 1) := by decide +kernel
theorem d_Md_parse_105 : decode k_Md_parse.1 105 = .ok (.dup, 1) := by decide +kernel
theorem d_Md_parse_106 : decode k_Md_parse.1 106 = .ok (.getfield 141, 3) := by decide +kernel
theorem d_Md_parse_109 : decode k_Md_parse.1 109 = .ok (.iconst 1, 1) := by decide +kernel
theorem d_Md_parse_110 : decode k_Md_parse.1 110 = .ok (.iadd, 1) := by decide +kernel
theorem d_Md_parse_111 : decode k_Md_parse.1 111 = .ok (.putfield 141, 3) := by decide +kernel
theorem d_Md_parse_114 : decode k_Md_parse.1 114 = .ok (.goto (-88), 3) := by decide +kernel
theorem d_Md_parse_117 : decode k_Md_parse.1 117 = .ok (.iload_n 1, 1) := by decide +kernel
theorem d_Md_parse_118 : decode k_Md_parse.1 118 = .ok (.ireturn, 1) := by decide +kernel
theorem d_Md_blanks_0 : decode k_Md_blanks.1 0 = .ok (.aload_n 0, 1) := by decide +kernel
theorem d_Md_blanks_1 : decode k_Md_blanks.1 1 = .ok (.invokevirtual 144, 3) := by decide +kernel
theorem d_Md_blanks_4 : decode k_Md_blanks.1 4 = .ok (.bipush 32, 2) := by decide +kernel
theorem d_Md_blanks_6 : decode k_Md_blanks.1 6 = .ok (.if_icmp .ne 16, 3) := by decide +kernel
theorem d_Md_blanks_9 : decode k_Md_blanks.1 9 = .ok (.aload_n 0, 1) := by decide +kernel
theorem d_Md_blanks_10 : decode k_Md_blanks.1 10 = .ok (.dup, 1) := by decide +kernel
theorem d_Md_blanks_11 : decode k_Md_blanks.1 11 = .ok (.getfield 141, 3) := by decide +kernel
theorem d_Md_blanks_14 : decode k_Md_blanks.1 14 = .ok (.iconst 1, 1) := by decide +kernel
theorem d_Md_blanks_15 : decode k_Md_blanks.1 15 = .ok (.iadd, 1) := by decide +kernel
theorem d_Md_blanks_16 : decode k_Md_blanks.1 16 = .ok (.putfield 141, 3) := by decide +kernel
theorem d_Md_blanks_19 : decode k_Md_blanks.1 19 = .ok (.goto (-19), 3) := by decide +kernel
theorem d_Md_blanks_22 : decode k_Md_blanks.1 22 = .ok (.return_, 1) := by decide +kernel
theorem d_Md_now_0 : decode k_Md_now.1 0 = .ok (.aload_n 0, 1) := by decide +kernel
theorem d_Md_now_1 : decode k_Md_now.1 1 = .ok (.getfield 141, 3) := by decide +kernel
theorem d_Md_now_4 : decode k_Md_now.1 4 = .ok (.aload_n 0, 1) := by decide +kernel
theorem d_Md_now_5 : decode k_Md_now.1 5 = .ok (.getfield 138, 3) := by decide +kernel
theorem d_Md_now_8 : decode k_Md_now.1 8 = .ok (.if_icmp .ge 15, 3) := by decide +kernel
theorem d_Md_now_11 : decode k_Md_now.1 11 = .ok (.aload_n 0, 1) := by decide +kernel
theorem d_Md_now_12 : decode k_Md_now.1 12 = .ok (.getfield 51, 3) := by decide +kernel
theorem d_Md_now_15 : decode k_Md_now.1 15 = .ok (.aload_n 0, 1) := by decide +kernel
theorem d_Md_now_16 : decode k_Md_now.1 16 = .ok (.getfield 141, 3) := by decide +kernel
theorem d_Md_now_19 : decode k_Md_now.1 19 = .ok (.iaload, 1) := by decide +kernel
theorem d_Md_now_20 : decode k_Md_now.1 20 = .ok (.goto 4, 3) := by decide +kernel
theorem d_Md_now_23 : decode k_Md_now.1 23 = .ok (.iconst (-1), 1) := by decide +kernel
theorem d_Md_now_24 : decode k_Md_now.1 24 = .ok (.ireturn, 1) := by decide +kernel
theorem d_Md_takeTerm_0 : decode k_Md_takeTerm.1 0 = .ok (.aload_n 0, 1) := by decide +kernel
theorem d_Md_takeTerm_1 : decode k_Md_takeTerm.1 1 = .ok (.getfield 57, 3) := by decide +kernel
theorem d_Md_takeTerm_4 : decode k_Md_takeTerm.1 4 = .ok (.aload_n 0, 1) := by decide +kernel
theorem d_Md_takeTerm_5 : decode k_Md_takeTerm.1 5 = .ok (.getfield 163, 3) := by decide +kernel
theorem d_Md_takeTerm_8 : decode k_Md_takeTerm.1 8 = .ok (.aload_n 0, 1) := by decide +kernel
theorem d_Md_takeTerm_9 : decode k_Md_takeTerm.1 9 = .ok (.invokevirtual 144, 3) := by decide +kernel
theorem d_Md_takeTerm_12 : decode k_Md_takeTerm.1 12 = .ok (.bipush 45, 2) := by decide +kernel
theorem d_Md_takeTerm_14 : decode k_Md_takeTerm.1 14 = .ok (.if_icmp .ne 7, 3) := by decide +kernel
theorem d_Md_takeTerm_17 : decode k_Md_takeTerm.1 17 = .ok (.iconst 1, 1) := by decide +kernel
theorem d_Md_takeTerm_18 : decode k_Md_takeTerm.1 18 = .ok (.goto 4, 3) := by decide +kernel
theorem d_Md_takeTerm_21 : decode k_Md_takeTerm.1 21 = .ok (.iconst 0, 1) := by decide +kernel
theorem d_Md_takeTerm_22 : decode k_Md_takeTerm.1 22 = .ok (.bastore, 1) := by decide +kernel
theorem d_Md_takeTerm_23 : decode k_Md_takeTerm.1 23 = .ok (.aload_n 0, 1) := by decide +kernel
theorem d_Md_takeTerm_24 : decode k_Md_takeTerm.1 24 = .ok (.getfield 57, 3) := by decide +kernel
theorem d_Md_takeTerm_27 : decode k_Md_takeTerm.1 27 = .ok (.aload_n 0, 1) := by decide +kernel
theorem d_Md_takeTerm_28 : decode k_Md_takeTerm.1 28 = .ok (.getfield 163, 3) := by decide +kernel
theorem d_Md_takeTerm_31 : decode k_Md_takeTerm.1 31 = .ok (.baload, 1) := by decide +kernel
theorem d_Md_takeTerm_32 : decode k_Md_takeTerm.1 32 = .ok (.ifCond .eq 13, 3) := by decide +kernel
theorem d_Md_takeTerm_35 : decode k_Md_takeTerm.1 35 = .ok (.aload_n 0, 1) := by decide +kernel
theorem d_Md_takeTerm_36 : decode k_Md_takeTerm.1 36 = .ok (.dup, 1) := by decide +kernel
theorem d_Md_takeTerm_37 : decode k_Md_takeTerm.1 37 = .ok (.getfield 141, 3) := by decide +kernel
theorem d_Md_takeTerm_40 : decode k_Md_takeTerm.1 40 = .ok (.iconst 1, 1) := by decide +kernel
theorem d_Md_takeTerm_41 : decode k_Md_takeTerm.1 41 = .ok (.iadd, 1) := by decide +kernel
theorem d_Md_takeTerm_42 : decode k_Md_takeTerm.1 42 = .ok (.putfield 141, 3) := by decide +kernel
theorem d_Md_takeTerm_45 : decode k_Md_takeTerm.1 45 = .ok (.aload_n 0, 1) := by decide +kernel
theorem d_Md_takeTerm_46 : decode k_Md_takeTerm.1 46 = .ok (.getfield 54, 3) := by decide +kernel
theorem d_Md_takeTerm_49 : decode k_Md_takeTerm.1 49 = .ok (.aload_n 0, 1) := by decide +kernel
theorem d_Md_takeTerm_50 : decode k_Md_takeTerm.1 50 = .ok (.getfield 163, 3) := by decide +kernel
theorem d_Md_takeTerm_53 : decode k_Md_takeTerm.1 53 = .ok (.iload_n 1, 1) := by decide +kernel
theorem d_Md_takeTerm_54 : decode k_Md_takeTerm.1 54 = .ok (.iastore, 1) := by decide +kernel
theorem d_Md_takeTerm_55 : decode k_Md_takeTerm.1 55 = .ok (.aload_n 0, 1) := by decide +kernel
theorem d_Md_takeTerm_56 : decode k_Md_takeTerm.1 56 = .ok (.getfield 63, 3) := by decide +kernel
theorem d_Md_takeTerm_59 : decode k_Md_takeTerm.1 59 = .ok (.aload_n 0, 1) := by decide +kernel
theorem d_Md_takeTerm_60 : decode k_Md_takeTerm.1 60 = .ok (.getfield 163, 3) := by decide +kernel
theorem d_Md_takeTerm_63 : decode k_Md_takeTerm.1 63 = .ok (.aload_n 0, 1) := by decide +kernel
theorem d_Md_takeTerm_64 : decode k_Md_takeTerm.1 64 = .ok (.getfield 154, 3) := by decide +kernel
theorem d_Md_takeTerm_67 : decode k_Md_takeTerm.1 67 = .ok (.iastore, 1) := by decide +kernel
theorem d_Md_takeTerm_68 : decode k_Md_takeTerm.1 68 = .ok (.aload_n 0, 1) := by decide +kernel
theorem d_Md_takeTerm_69 : decode k_Md_takeTerm.1 69 = .ok (.getfield 60, 3) := by decide +kernel
theorem d_Md_takeTerm_72 : decode k_Md_takeTerm.1 72 = .ok (.aload_n 0, 1) := by decide +kernel
theorem d_Md_takeTerm_73 : decode k_Md_takeTerm.1 73 = .ok (.getfield 163, 3) := by decide +kernel
theorem d_Md_takeTerm_76 : decode k_Md_takeTerm.1 76 = .ok (.aload_n 0, 1) := by decide +kernel
theorem d_Md_takeTerm_77 : decode k_Md_takeTerm.1 77 = .ok (.invokevirtual 144, 3) := by decide +kernel
theorem d_Md_takeTerm_80 : decode k_Md_takeTerm.1 80 = .ok (.bipush 34, 2) := by decide +kernel
theorem d_Md_takeTerm_82 : decode k_Md_takeTerm.1 82 = .ok (.if_icmp .ne 7, 3) := by decide +kernel
theorem d_Md_takeTerm_85 : decode k_Md_takeTerm.1 85 = .ok (.iconst 2, 1) := by decide +kernel
theorem d_Md_takeTerm_86 : decode k_Md_takeTerm.1 86 = .ok (.goto 4, 3) := by decide +kernel
theorem d_Md_takeTerm_89 : decode k_Md_takeTerm.1 89 = .ok (.iconst 0, 1) := by decide +kernel
theorem d_Md_takeTerm_90 : decode k_Md_takeTerm.1 90 = .ok (.iastore, 1) := by decide +kernel
theorem d_Md_takeTerm_91 : decode k_Md_takeTerm.1 91 = .ok (.aload_n 0, 1) := by decide +kernel
theorem d_Md_takeTerm_92 : decode k_Md_takeTerm.1 92 = .ok (.getfield 60, 3) := by decide +kernel
theorem d_Md_takeTerm_95 : decode k_Md_takeTerm.1 95 = .ok (.aload_n 0, 1) := by decide +kernel
theorem d_Md_takeTerm_96 : decode k_Md_takeTerm.1 96 = .ok (.getfield 163, 3) := by decide +kernel
theorem d_Md_takeTerm_99 : decode k_Md_takeTerm.1 99 = .ok (.iaload, 1) := by decide +kernel
theorem d_Md_takeTerm_100 : decode k_Md_takeTerm.1 100 = .ok (.iconst 2, 1) := by decide +kernel
theorem d_Md_takeTerm_101 : decode k_Md_takeTerm.1 101 = .ok (.if_icmp .ne 10, 3) := by decide +kernel
theorem d_Md_takeTerm_104 : decode k_Md_takeTerm.1 104 = .ok (.aload_n 0, 1) := by decide +kernel
theorem d_Md_takeTerm_105 : decode k_Md_takeTerm.1 105 = .ok (.invokevirtual 166, 3) := by decide +kernel
theorem d_Md_takeTerm_108 : decode k_Md_takeTerm.1 108 = .ok (.goto 7, 3) := by decide +kernel
theorem d_Md_takeTerm_111 : decode k_Md_takeTerm.1 111 = .ok (.aload_n 0, 1) := by decide +kernel
theorem d_Md_takeTerm_112 : decode k_Md_takeTerm.1 112 = .ok (.invokevirtual 160, 3) := by decide +kernel
theorem d_Md_takeTerm_115 : decode k_Md_takeTerm.1 115 = .ok (.aload_n 0, 1) := by decide +kernel
theorem d_Md_takeTerm_116 : decode k_Md_takeTerm.1 116 = .ok (.getfield 148, 3) := by decide +kernel
theorem d_Md_takeTerm_119 : decode k_Md_takeTerm.1 119 = .ok (.ifCond .lt 4, 3) := by decide +kernel
theorem d_Md_takeTerm_122 : decode k_Md_takeTerm.1 122 = .ok (.return_, 1) := by decide +kernel
theorem d_Md_takeTerm_123 : decode k_Md_takeTerm.1 123 = .ok (.aload_n 0, 1) := by decide +kernel
theorem d_Md_takeTerm_124 : decode k_Md_takeTerm.1 124 = .ok (.getfield 60, 3) := by decide +kernel
theorem d_Md_takeTerm_127 : decode k_Md_takeTerm.1 127 = .ok (.aload_n 0, 1) := by decide +kernel
theorem d_Md_takeTerm_128 : decode k_Md_takeTerm.1 128 = .ok (.getfield 163, 3) := by decide +kernel
theorem d_Md_takeTerm_131 : decode k_Md_takeTerm.1 131 = .ok (.iaload, 1) := by decide +kernel
theorem d_Md_takeTerm_132 : decode k_Md_takeTerm.1 132 = .ok (.ifCond .ne 32, 3) := by decide +kernel
theorem d_Md_takeTerm_135 : decode k_Md_takeTerm.1 135 = .ok (.aload_n 0, 1) := by decide +kernel
theorem d_Md_takeTerm_136 : decode k_Md_takeTerm.1 136 = .ok (.invokevirtual 144, 3) := by decide +kernel
theorem d_Md_takeTerm_139 : decode k_Md_takeTerm.1 139 = .ok (.bipush 42, 2) := by decide +kernel
theorem d_Md_takeTerm_141 : decode k_Md_takeTerm.1 141 = .ok (.if_icmp .ne 23, 3) := by decide +kernel
theorem d_Md_takeTerm_144 : decode k_Md_takeTerm.1 144 = .ok (.aload_n 0, 1) := by decide +kernel
theorem d_Md_takeTerm_145 : decode k_Md_takeTerm.1 145 = .ok (.getfield 60, 3) := by decide +kernel
theorem d_Md_takeTerm_148 : decode k_Md_takeTerm.1 148 = .ok (.aload_n 0, 1) := by decide +kernel
theorem d_Md_takeTerm_149 : decode k_Md_takeTerm.1 149 = .ok (.getfield 163, 3) := by decide +kernel
theorem d_Md_takeTerm_152 : decode k_Md_takeTerm.1 152 = .ok (.iconst 1, 1) := by decide +kernel
theorem d_Md_takeTerm_153 : decode k_Md_takeTerm.1 153 = .ok (.iastore, 1) := by decide +kernel
theorem d_Md_takeTerm_154 : decode k_Md_takeTerm.1 154 = .ok (.aload_n 0, 1) := by decide +kernel
theorem d_Md_takeTerm_155 : decode k_Md_takeTerm.1 155 = .ok (.dup, 1) := by decide +kernel
theorem d_Md_takeTerm_156 : decode k_Md_takeTerm.1 156 = .ok (.getfield 141, 3) := by decide +kernel
theorem d_Md_takeTerm_159 : decode k_Md_takeTerm.1 159 = .ok (.iconst 1, 1) := by decide +kernel
theorem d_Md_takeTerm_160 : decode k_Md_takeTerm.1 160 = .ok (.iadd, 1) := by decide +kernel
theorem d_Md_takeTerm_161 : decode k_Md_takeTerm.1 161 = .ok (.putfield 141, 3) := by decide +kernel
theorem d_Md_takeTerm_164 : decode k_Md_takeTerm.1 164 = .ok (.aload_n 0, 1) := by decide +kernel
theorem d_Md_takeTerm_165 : decode k_Md_takeTerm.1 165 = .ok (.getfield 66, 3) := by decide +kernel
theorem d_Md_takeTerm_168 : decode k_Md_takeTerm.1 168 = .ok (.aload_n 0, 1) := by decide +kernel
theorem d_Md_takeTerm_169 : decode k_Md_takeTerm.1 169 = .ok (.getfield 163, 3) := by decide +kernel
theorem d_Md_takeTerm_172 : decode k_Md_takeTerm.1 172 = .ok (.aload_n 0, 1) := by decide +kernel
theorem d_Md_takeTerm_173 : decode k_Md_takeTerm.1 173 = .ok (.getfield 154, 3) := by decide +kernel
theorem d_Md_takeTerm_176 : decode k_Md_takeTerm.1 176 = .ok (.aload_n 0, 1) := by decide +kernel
theorem d_Md_takeTerm_177 : decode k_Md_takeTerm.1 177 = .ok (.getfield 63, 3) := by decide +kernel
theorem d_Md_takeTerm_180 : decode k_Md_takeTerm.1 180 = .ok (.aload_n 0, 1) := by decide +kernel
theorem d_Md_takeTerm_181 : decode k_Md_takeTerm.1 181 = .ok (.getfield 163, 3) := by decide +kernel
theorem d_Md_takeTerm_184 : decode k_Md_takeTerm.1 184 = .ok (.iaload, 1) := by decide +kernel
theorem d_Md_takeTerm_185 : decode k_Md_takeTerm.1 185 = .ok (.isub, 1) := by decide +kernel
theorem d_Md_takeTerm_186 : decode k_Md_takeTerm.1 186 = .ok (.iastore, 1) := by decide +kernel
theorem d_Md_takeTerm_187 : decode k_Md_takeTerm.1 187 = .ok (.aload_n 0, 1) := by decide +kernel
theorem d_Md_takeTerm_188 : decode k_Md_takeTerm.1 188 = .ok (.dup, 1) := by decide +kernel
theorem d_Md_takeTerm_189 : decode k_Md_takeTerm.1 189 = .ok (.getfield 163, 3) := by decide +kernel
theorem d_Md_takeTerm_192 : decode k_Md_takeTerm.1 192 = .ok (.iconst 1, 1) := by decide +kernel
theorem d_Md_takeTerm_193 : decode k_Md_takeTerm.1 193 = .ok (.iadd, 1) := by decide +kernel
theorem d_Md_takeTerm_194 : decode k_Md_takeTerm.1 194 = .ok (.putfield 163, 3) := by decide +kernel
theorem d_Md_takeTerm_197 : decode k_Md_takeTerm.1 197 = .ok (.aload_n 0, 1) := by decide +kernel
theorem d_Md_takeTerm_198 : decode k_Md_takeTerm.1 198 = .ok (.invokevirtual 144, 3) := by decide +kernel
theorem d_Md_takeTerm_201 : decode k_Md_takeTerm.1 201 = .ok (.ifCond .lt 25, 3) := by decide +kernel
theorem d_Md_takeTerm_204 : decode k_Md_takeTerm.1 204 = .ok (.aload_n 0, 1) := by decide +kernel
theorem d_Md_takeTerm_205 : decode k_Md_takeTerm.1 205 = .ok (.invokevirtual 144, 3) := by decide +kernel
theorem d_Md_takeTerm_208 : decode k_Md_takeTerm.1 208 = .ok (.bipush 32, 2) := by decide +kernel
theorem d_Md_takeTerm_210 : decode k_Md_takeTerm.1 210 = .ok (.if_icmp .eq 16, 3) := by decide +kernel
theorem d_Md_takeTerm_213 : decode k_Md_takeTerm.1 213 = .ok (.aload_n 0, 1) := by decide +kernel
theorem d_Md_takeTerm_214 : decode k_Md_takeTerm.1 214 = .ok (.invokevirtual 144, 3) := by decide +kernel
theorem d_Md_takeTerm_217 : decode k_Md_takeTerm.1 217 = .ok (.bipush 124, 2) := by decide +kernel
theorem d_Md_takeTerm_219 : decode k_Md_takeTerm.1 219 = .ok (.if_icmp .eq 7, 3) := by decide +kernel
theorem d_Md_takeTerm_222 : decode k_Md_takeTerm.1 222 = .ok (.aload_n 0, 1) := by decide +kernel
theorem d_Md_takeTerm_223 : decode k_Md_takeTerm.1 223 = .ok (.invokevirtual 151, 3) := by decide +kernel
theorem d_Md_takeTerm_226 : decode k_Md_takeTerm.1 226 = .ok (.return_, 1) := by decide +kernel
theorem d_Md_takePhrase_0 : decode k_Md_takePhrase.1 0 = .ok (.aload_n 0, 1) := by decide +kernel
theorem d_Md_takePhrase_1 : decode k_Md_takePhrase.1 1 = .ok (.dup, 1) := by decide +kernel
theorem d_Md_takePhrase_2 : decode k_Md_takePhrase.1 2 = .ok (.getfield 141, 3) := by decide +kernel
theorem d_Md_takePhrase_5 : decode k_Md_takePhrase.1 5 = .ok (.iconst 1, 1) := by decide +kernel
theorem d_Md_takePhrase_6 : decode k_Md_takePhrase.1 6 = .ok (.iadd, 1) := by decide +kernel
theorem d_Md_takePhrase_7 : decode k_Md_takePhrase.1 7 = .ok (.putfield 141, 3) := by decide +kernel
theorem d_Md_takePhrase_10 : decode k_Md_takePhrase.1 10 = .ok (.aload_n 0, 1) := by decide +kernel
theorem d_Md_takePhrase_11 : decode k_Md_takePhrase.1 11 = .ok (.invokevirtual 157, 3) := by decide +kernel
theorem d_Md_takePhrase_14 : decode k_Md_takePhrase.1 14 = .ok (.iconst 0, 1) := by decide +kernel
theorem d_Md_takePhrase_15 : decode k_Md_takePhrase.1 15 = .ok (.istore_n 1, 1) := by decide +kernel
theorem d_Md_takePhrase_16 : decode k_Md_takePhrase.1 16 = .ok (.aload_n 0, 1) := by decide +kernel
theorem d_Md_takePhrase_17 : decode k_Md_takePhrase.1 17 = .ok (.getfield 148, 3) := by decide +kernel
theorem d_Md_takePhrase_20 : decode k_Md_takePhrase.1 20 = .ok (.ifCond .ge 71, 3) := by decide +kernel
theorem d_Md_takePhrase_23 : decode k_Md_takePhrase.1 23 = .ok (.aload_n 0, 1) := by decide +kernel
theorem d_Md_takePhrase_24 : decode k_Md_takePhrase.1 24 = .ok (.invokevirtual 144, 3) := by decide +kernel
theorem d_Md_takePhrase_27 : decode k_Md_takePhrase.1 27 = .ok (.bipush 34, 2) := by decide +kernel
theorem d_Md_takePhrase_29 : decode k_Md_takePhrase.1 29 = .ok (.if_icmp .ne 7, 3) := by decide +kernel
theorem d_Md_takePhrase_32 : decode k_Md_takePhrase.1 32 = .ok (.iload_n 1, 1) := by decide +kernel
theorem d_Md_takePhrase_33 : decode k_Md_takePhrase.1 33 = .ok (.ifCond .ne 58, 3) := by decide +kernel
theorem d_Md_takePhrase_36 : decode k_Md_takePhrase.1 36 = .ok (.iload_n 1, 1) := by decide +kernel
theorem d_Md_takePhrase_37 : decode k_Md_takePhrase.1 37 = .ok (.iconst 4, 1) := by decide +kernel
theorem d_Md_takePhrase_38 : decode k_Md_takePhrase.1 38 = .ok (.if_icmp .ne 10, 3) := by decide +kernel
theorem d_Md_takePhrase_41 : decode k_Md_takePhrase.1 41 = .ok (.aload_n 0, 1) := by decide +kernel
theorem d_Md_takePhrase_42 : decode k_Md_takePhrase.1 42 = .ok (.invokevirtual 151, 3) := by decide +kernel
theorem d_Md_takePhrase_45 : decode k_Md_takePhrase.1 45 = .ok (.goto 7, 3) := by decide +kernel
theorem d_Md_takePhrase_48 : decode k_Md_takePhrase.1 48 = .ok (.aload_n 0, 1) := by decide +kernel
theorem d_Md_takePhrase_49 : decode k_Md_takePhrase.1 49 = .ok (.invokevirtual 160, 3) := by decide +kernel
theorem d_Md_takePhrase_52 : decode k_Md_takePhrase.1 52 = .ok (.iinc 1 1, 3) := by decide +kernel
theorem d_Md_takePhrase_55 : decode k_Md_takePhrase.1 55 = .ok (.aload_n 0, 1) := by decide +kernel
theorem d_Md_takePhrase_56 : decode k_Md_takePhrase.1 56 = .ok (.getfield 148, 3) := by decide +kernel
theorem d_Md_takePhrase_59 : decode k_Md_takePhrase.1 59 = .ok (.ifCond .ge 25, 3) := by decide +kernel
theorem d_Md_takePhrase_62 : decode k_Md_takePhrase.1 62 = .ok (.aload_n 0, 1) := by decide +kernel
theorem d_Md_takePhrase_63 : decode k_Md_takePhrase.1 63 = .ok (.invokevirtual 144, 3) := by decide +kernel
theorem d_Md_takePhrase_66 : decode k_Md_takePhrase.1 66 = .ok (.bipush 32, 2) := by decide +kernel
theorem d_Md_takePhrase_68 : decode k_Md_takePhrase.1 68 = .ok (.if_icmp .eq 16, 3) := by decide +kernel
theorem d_Md_takePhrase_71 : decode k_Md_takePhrase.1 71 = .ok (.aload_n 0, 1) := by decide +kernel
theorem d_Md_takePhrase_72 : decode k_Md_takePhrase.1 72 = .ok (.invokevirtual 144, 3) := by decide +kernel
theorem d_Md_takePhrase_75 : decode k_Md_takePhrase.1 75 = .ok (.bipush 34, 2) := by decide +kernel
theorem d_Md_takePhrase_77 : decode k_Md_takePhrase.1 77 = .ok (.if_icmp .eq 7, 3) := by decide +kernel
theorem d_Md_takePhrase_80 : decode k_Md_takePhrase.1 80 = .ok (.aload_n 0, 1) := by decide +kernel
theorem d_Md_takePhrase_81 : decode k_Md_takePhrase.1 81 = .ok (.invokevirtual 151, 3) := by decide +kernel
theorem d_Md_takePhrase_84 : decode k_Md_takePhrase.1 84 = .ok (.aload_n 0, 1) := by decide +kernel
theorem d_Md_takePhrase_85 : decode k_Md_takePhrase.1 85 = .ok (.invokevirtual 157, 3) := by decide +kernel
theorem d_Md_takePhrase_88 : decode k_Md_takePhrase.1 88 = .ok (.goto (-72), 3) := by decide +kernel
theorem d_Md_takePhrase_91 : decode k_Md_takePhrase.1 91 = .ok (.aload_n 0, 1) := by decide +kernel
theorem d_Md_takePhrase_92 : decode k_Md_takePhrase.1 92 = .ok (.getfield 148, 3) := by decide +kernel
theorem d_Md_takePhrase_95 : decode k_Md_takePhrase.1 95 = .ok (.ifCond .ge 13, 3) := by decide +kernel
theorem d_Md_takePhrase_98 : decode k_Md_takePhrase.1 98 = .ok (.aload_n 0, 1) := by decide +kernel
theorem d_Md_takePhrase_99 : decode k_Md_takePhrase.1 99 = .ok (.dup, 1) := by decide +kernel
theorem d_Md_takePhrase_100 : decode k_Md_takePhrase.1 100 = .ok (.getfield 141, 3) := by decide +kernel
theorem d_Md_takePhrase_103 : decode k_Md_takePhrase.1 103 = .ok (.iconst 1, 1) := by decide +kernel
theorem d_Md_takePhrase_104 : decode k_Md_takePhrase.1 104 = .ok (.iadd, 1) := by decide +kernel
theorem d_Md_takePhrase_105 : decode k_Md_takePhrase.1 105 = .ok (.putfield 141, 3) := by decide +kernel
theorem d_Md_takePhrase_108 : decode k_Md_takePhrase.1 108 = .ok (.return_, 1) := by decide +kernel
theorem d_Md_blame_0 : decode k_Md_blame.1 0 = .ok (.aload_n 0, 1) := by decide +kernel
theorem d_Md_blame_1 : decode k_Md_blame.1 1 = .ok (.getfield 148, 3) := by decide +kernel
theorem d_Md_blame_4 : decode k_Md_blame.1 4 = .ok (.ifCond .ge 11, 3) := by decide +kernel
theorem d_Md_blame_7 : decode k_Md_blame.1 7 = .ok (.aload_n 0, 1) := by decide +kernel
theorem d_Md_blame_8 : decode k_Md_blame.1 8 = .ok (.aload_n 0, 1) := by decide +kernel
theorem d_Md_blame_9 : decode k_Md_blame.1 9 = .ok (.getfield 141, 3) := by decide +kernel
theorem d_Md_blame_12 : decode k_Md_blame.1 12 = .ok (.putfield 148, 3) := by decide +kernel
theorem d_Md_blame_15 : decode k_Md_blame.1 15 = .ok (.return_, 1) := by decide +kernel
theorem d_Md_takeWord_0 : decode k_Md_takeWord.1 0 = .ok (.lconst 0, 1) := by decide +kernel
theorem d_Md_takeWord_1 : decode k_Md_takeWord.1 1 = .ok (.lstore_n 1, 1) := by decide +kernel
theorem d_Md_takeWord_2 : decode k_Md_takeWord.1 2 = .ok (.iconst 0, 1) := by decide +kernel
theorem d_Md_takeWord_3 : decode k_Md_takeWord.1 3 = .ok (.istore_n 3, 1) := by decide +kernel
theorem d_Md_takeWord_4 : decode k_Md_takeWord.1 4 = .ok (.iload_n 3, 1) := by decide +kernel
theorem d_Md_takeWord_5 : decode k_Md_takeWord.1 5 = .ok (.bipush 8, 2) := by decide +kernel
theorem d_Md_takeWord_7 : decode k_Md_takeWord.1 7 = .ok (.if_icmp .ge 50, 3) := by decide +kernel
theorem d_Md_takeWord_10 : decode k_Md_takeWord.1 10 = .ok (.aload_n 0, 1) := by decide +kernel
theorem d_Md_takeWord_11 : decode k_Md_takeWord.1 11 = .ok (.invokevirtual 144, 3) := by decide +kernel
theorem d_Md_takeWord_14 : decode k_Md_takeWord.1 14 = .ok (.ifCond .lt 43, 3) := by decide +kernel
theorem d_Md_takeWord_17 : decode k_Md_takeWord.1 17 = .ok (.aload_n 0, 1) := by decide +kernel
theorem d_Md_takeWord_18 : decode k_Md_takeWord.1 18 = .ok (.invokevirtual 144, 3) := by decide +kernel
theorem d_Md_takeWord_21 : decode k_Md_takeWord.1 21 = .ok (.invokestatic 129, 3) := by decide +kernel
theorem d_Md_takeWord_24 : decode k_Md_takeWord.1 24 = .ok (.ifCond .le 33, 3) := by decide +kernel
theorem d_Md_takeWord_27 : decode k_Md_takeWord.1 27 = .ok (.lload_n 1, 1) := by decide +kernel
theorem d_Md_takeWord_28 : decode k_Md_takeWord.1 28 = .ok (.bipush 8, 2) := by decide +kernel
theorem d_Md_takeWord_30 : decode k_Md_takeWord.1 30 = .ok (.lshl, 1) := by decide +kernel
theorem d_Md_takeWord_31 : decode k_Md_takeWord.1 31 = .ok (.aload_n 0, 1) := by decide +kernel
theorem d_Md_takeWord_32 : decode k_Md_takeWord.1 32 = .ok (.invokevirtual 144, 3) := by decide +kernel
theorem d_Md_takeWord_35 : decode k_Md_takeWord.1 35 = .ok (.invokestatic 129, 3) := by decide +kernel
theorem d_Md_takeWord_38 : decode k_Md_takeWord.1 38 = .ok (.i2l, 1) := by decide +kernel
theorem d_Md_takeWord_39 : decode k_Md_takeWord.1 39 = .ok (.lor, 1) := by decide +kernel
theorem d_Md_takeWord_40 : decode k_Md_takeWord.1 40 = .ok (.lstore_n 1, 1) := by decide +kernel
theorem d_Md_takeWord_41 : decode k_Md_takeWord.1 41 = .ok (.iinc 3 1, 3) := by decide +kernel
theorem d_Md_takeWord_44 : decode k_Md_takeWord.1 44 = .ok (.aload_n 0, 1) := by decide +kernel
theorem d_Md_takeWord_45 : decode k_Md_takeWord.1 45 = .ok (.dup, 1) := by decide +kernel
theorem d_Md_takeWord_46 : decode k_Md_takeWord.1 46 = .ok (.getfield 141, 3) := by decide +kernel
theorem d_Md_takeWord_49 : decode k_Md_takeWord.1 49 = .ok (.iconst 1, 1) := by decide +kernel
theorem d_Md_takeWord_50 : decode k_Md_takeWord.1 50 = .ok (.iadd, 1) := by decide +kernel
theorem d_Md_takeWord_51 : decode k_Md_takeWord.1 51 = .ok (.putfield 141, 3) := by decide +kernel
theorem d_Md_takeWord_54 : decode k_Md_takeWord.1 54 = .ok (.goto (-50), 3) := by decide +kernel
theorem d_Md_takeWord_57 : decode k_Md_takeWord.1 57 = .ok (.iload_n 3, 1) := by decide +kernel
theorem d_Md_takeWord_58 : decode k_Md_takeWord.1 58 = .ok (.ifCond .eq 20, 3) := by decide +kernel
theorem d_Md_takeWord_61 : decode k_Md_takeWord.1 61 = .ok (.aload_n 0, 1) := by decide +kernel
theorem d_Md_takeWord_62 : decode k_Md_takeWord.1 62 = .ok (.invokevirtual 144, 3) := by decide +kernel
theorem d_Md_takeWord_65 : decode k_Md_takeWord.1 65 = .ok (.ifCond .lt 18, 3) := by decide +kernel
theorem d_Md_takeWord_68 : decode k_Md_takeWord.1 68 = .ok (.aload_n 0, 1) := by decide +kernel
theorem d_Md_takeWord_69 : decode k_Md_takeWord.1 69 = .ok (.invokevirtual 144, 3) := by decide +kernel
theorem d_Md_takeWord_72 : decode k_Md_takeWord.1 72 = .ok (.invokestatic 129, 3) := by decide +kernel
theorem d_Md_takeWord_75 : decode k_Md_takeWord.1 75 = .ok (.ifCond .le 8, 3) := by decide +kernel
theorem d_Md_takeWord_78 : decode k_Md_takeWord.1 78 = .ok (.aload_n 0, 1) := by decide +kernel
theorem d_Md_takeWord_79 : decode k_Md_takeWord.1 79 = .ok (.invokevirtual 151, 3) := by decide +kernel
theorem d_Md_takeWord_82 : decode k_Md_takeWord.1 82 = .ok (.return_, 1) := by decide +kernel
theorem d_Md_takeWord_83 : decode k_Md_takeWord.1 83 = .ok (.aload_n 0, 1) := by decide +kernel
theorem d_Md_takeWord_84 : decode k_Md_takeWord.1 84 = .ok (.getfield 69, 3) := by decide +kernel
theorem d_Md_takeWord_87 : decode k_Md_takeWord.1 87 = .ok (.aload_n 0, 1) := by decide +kernel
theorem d_Md_takeWord_88 : decode k_Md_takeWord.1 88 = .ok (.getfield 154, 3) := by decide +kernel
theorem d_Md_takeWord_91 : decode k_Md_takeWord.1 91 = .ok (.lload_n 1, 1) := by decide +kernel
theorem d_Md_takeWord_92 : decode k_Md_takeWord.1 92 = .ok (.lastore, 1) := by decide +kernel
theorem d_Md_takeWord_93 : decode k_Md_takeWord.1 93 = .ok (.aload_n 0, 1) := by decide +kernel
theorem d_Md_takeWord_94 : decode k_Md_takeWord.1 94 = .ok (.getfield 72, 3) := by decide +kernel
theorem d_Md_takeWord_97 : decode k_Md_takeWord.1 97 = .ok (.aload_n 0, 1) := by decide +kernel
theorem d_Md_takeWord_98 : decode k_Md_takeWord.1 98 = .ok (.getfield 154, 3) := by decide +kernel
theorem d_Md_takeWord_101 : decode k_Md_takeWord.1 101 = .ok (.iload_n 3, 1) := by decide +kernel
theorem d_Md_takeWord_102 : decode k_Md_takeWord.1 102 = .ok (.iastore, 1) := by decide +kernel
theorem d_Md_takeWord_103 : decode k_Md_takeWord.1 103 = .ok (.aload_n 0, 1) := by decide +kernel
theorem d_Md_takeWord_104 : decode k_Md_takeWord.1 104 = .ok (.dup, 1) := by decide +kernel
theorem d_Md_takeWord_105 : decode k_Md_takeWord.1 105 = .ok (.getfield 154, 3) := by decide +kernel
theorem d_Md_takeWord_108 : decode k_Md_takeWord.1 108 = .ok (.iconst 1, 1) := by decide +kernel
theorem d_Md_takeWord_109 : decode k_Md_takeWord.1 109 = .ok (.iadd, 1) := by decide +kernel
theorem d_Md_takeWord_110 : decode k_Md_takeWord.1 110 = .ok (.putfield 154, 3) := by decide +kernel
theorem d_Md_takeWord_113 : decode k_Md_takeWord.1 113 = .ok (.return_, 1) := by decide +kernel
theorem d_Md_score_0 : decode k_Md_score.1 0 = .ok (.iconst 0, 1) := by decide +kernel
theorem d_Md_score_1 : decode k_Md_score.1 1 = .ok (.istore_n 3, 1) := by decide +kernel
theorem d_Md_score_2 : decode k_Md_score.1 2 = .ok (.iconst 0, 1) := by decide +kernel
theorem d_Md_score_3 : decode k_Md_score.1 3 = .ok (.istore 4, 2) := by decide +kernel
theorem d_Md_score_5 : decode k_Md_score.1 5 = .ok (.iload 4, 2) := by decide +kernel
theorem d_Md_score_7 : decode k_Md_score.1 7 = .ok (.aload_n 0, 1) := by decide +kernel
theorem d_Md_score_8 : decode k_Md_score.1 8 = .ok (.getfield 163, 3) := by decide +kernel
theorem d_Md_score_11 : decode k_Md_score.1 11 = .ok (.if_icmp .ge 72, 3) := by decide +kernel
theorem d_Md_score_14 : decode k_Md_score.1 14 = .ok (.aload_n 0, 1) := by decide +kernel
theorem d_Md_score_15 : decode k_Md_score.1 15 = .ok (.getfield 54, 3) := by decide +kernel
theorem d_Md_score_18 : decode k_Md_score.1 18 = .ok (.iload 4, 2) := by decide +kernel
theorem d_Md_score_20 : decode k_Md_score.1 20 = .ok (.iaload, 1) := by decide +kernel
theorem d_Md_score_21 : decode k_Md_score.1 21 = .ok (.iload_n 1, 1) := by decide +kernel
theorem d_Md_score_22 : decode k_Md_score.1 22 = .ok (.if_icmp .eq 6, 3) := by decide +kernel
theorem d_Md_score_25 : decode k_Md_score.1 25 = .ok (.goto 52, 3) := by decide +kernel
theorem d_Md_score_28 : decode k_Md_score.1 28 = .ok (.aload_n 0, 1) := by decide +kernel
theorem d_Md_score_29 : decode k_Md_score.1 29 = .ok (.iload 4, 2) := by decide +kernel
theorem d_Md_score_31 : decode k_Md_score.1 31 = .ok (.iload_n 2, 1) := by decide +kernel
theorem d_Md_score_32 : decode k_Md_score.1 32 = .ok (.invokevirtual 175, 3) := by decide +kernel
theorem d_Md_score_35 : decode k_Md_score.1 35 = .ok (.istore 5, 2) := by decide +kernel
theorem d_Md_score_37 : decode k_Md_score.1 37 = .ok (.aload_n 0, 1) := by decide +kernel
theorem d_Md_score_38 : decode k_Md_score.1 38 = .ok (.getfield 57, 3) := by decide +kernel
theorem d_Md_score_41 : decode k_Md_score.1 41 = .ok (.iload 4, 2) := by decide +kernel
theorem d_Md_score_43 : decode k_Md_score.1 43 = .ok (.baload, 1) := by decide +kernel
theorem d_Md_score_44 : decode k_Md_score.1 44 = .ok (.ifCond .eq 11, 3) := by decide +kernel
theorem d_Md_score_47 : decode k_Md_score.1 47 = .ok (.iload 5, 2) := by decide +kernel
theorem d_Md_score_49 : decode k_Md_score.1 49 = .ok (.ifCond .lt 13, 3) := by decide +kernel
theorem d_Md_score_52 : decode k_Md_score.1 52 = .ok (.goto 8, 3) := by decide +kernel
theorem d_Md_score_55 : decode k_Md_score.1 55 = .ok (.iload 5, 2) := by decide +kernel
theorem d_Md_score_57 : decode k_Md_score.1 57 = .ok (.ifCond .ge 5, 3) := by decide +kernel
theorem d_Md_score_60 : decode k_Md_score.1 60 = .ok (.iconst (-1), 1) := by decide +kernel
theorem d_Md_score_61 : decode k_Md_score.1 61 = .ok (.ireturn, 1) := by decide +kernel
theorem d_Md_score_62 : decode k_Md_score.1 62 = .ok (.aload_n 0, 1) := by decide +kernel
theorem d_Md_score_63 : decode k_Md_score.1 63 = .ok (.getfield 57, 3) := by decide +kernel
theorem d_Md_score_66 : decode k_Md_score.1 66 = .ok (.iload 4, 2) := by decide +kernel
theorem d_Md_score_68 : decode k_Md_score.1 68 = .ok (.baload, 1) := by decide +kernel
theorem d_Md_score_69 : decode k_Md_score.1 69 = .ok (.ifCond .ne 8, 3) := by decide +kernel
theorem d_Md_score_72 : decode k_Md_score.1 72 = .ok (.iload_n 3, 1) := by decide +kernel
theorem d_Md_score_73 : decode k_Md_score.1 73 = .ok (.iload 5, 2) := by decide +kernel
theorem d_Md_score_75 : decode k_Md_score.1 75 = .ok (.iadd, 1) := by decide +kernel
theorem d_Md_score_76 : decode k_Md_score.1 76 = .ok (.istore_n 3, 1) := by decide +kernel
theorem d_Md_score_77 : decode k_Md_score.1 77 = .ok (.iinc 4 1, 3) := by decide +kernel
theorem d_Md_score_80 : decode k_Md_score.1 80 = .ok (.goto (-75), 3) := by decide +kernel
theorem d_Md_score_83 : decode k_Md_score.1 83 = .ok (.iload_n 3, 1) := by decide +kernel
theorem d_Md_score_84 : decode k_Md_score.1 84 = .ok (.ireturn, 1) := by decide +kernel
theorem d_Md_hits_0 : decode k_Md_hits.1 0 = .ok (.iconst 0, 1) := by decide +kernel
theorem d_Md_hits_1 : decode k_Md_hits.1 1 = .ok (.istore_n 3, 1) := by decide +kernel
theorem d_Md_hits_2 : decode k_Md_hits.1 2 = .ok (.iconst 0, 1) := by decide +kernel
theorem d_Md_hits_3 : decode k_Md_hits.1 3 = .ok (.istore 4, 2) := by decide +kernel
theorem d_Md_hits_5 : decode k_Md_hits.1 5 = .ok (.iconst 0, 1) := by decide +kernel
theorem d_Md_hits_6 : decode k_Md_hits.1 6 = .ok (.istore 5, 2) := by decide +kernel
theorem d_Md_hits_8 : decode k_Md_hits.1 8 = .ok (.iload 5, 2) := by decide +kernel
theorem d_Md_hits_10 : decode k_Md_hits.1 10 = .ok (.aload_n 0, 1) := by decide +kernel
theorem d_Md_hits_11 : decode k_Md_hits.1 11 = .ok (.getfield 66, 3) := by decide +kernel
theorem d_Md_hits_14 : decode k_Md_hits.1 14 = .ok (.iload_n 1, 1) := by decide +kernel
theorem d_Md_hits_15 : decode k_Md_hits.1 15 = .ok (.iaload, 1) := by decide +kernel
theorem d_Md_hits_16 : decode k_Md_hits.1 16 = .ok (.iadd, 1) := by decide +kernel
theorem d_Md_hits_17 : decode k_Md_hits.1 17 = .ok (.aload_n 0, 1) := by decide +kernel
theorem d_Md_hits_18 : decode k_Md_hits.1 18 = .ok (.getfield 38, 3) := by decide +kernel
theorem d_Md_hits_21 : decode k_Md_hits.1 21 = .ok (.iload_n 2, 1) := by decide +kernel
theorem d_Md_hits_22 : decode k_Md_hits.1 22 = .ok (.iaload, 1) := by decide +kernel
theorem d_Md_hits_23 : decode k_Md_hits.1 23 = .ok (.if_icmp .gt 105, 3) := by decide +kernel
theorem d_Md_hits_26 : decode k_Md_hits.1 26 = .ok (.aload_n 0, 1) := by decide +kernel
theorem d_Md_hits_27 : decode k_Md_hits.1 27 = .ok (.iload_n 1, 1) := by decide +kernel
theorem d_Md_hits_28 : decode k_Md_hits.1 28 = .ok (.bipush 30, 2) := by decide +kernel
theorem d_Md_hits_30 : decode k_Md_hits.1 30 = .ok (.iload_n 2, 1) := by decide +kernel
theorem d_Md_hits_31 : decode k_Md_hits.1 31 = .ok (.imul, 1) := by decide +kernel
theorem d_Md_hits_32 : decode k_Md_hits.1 32 = .ok (.iload 5, 2) := by decide +kernel
theorem d_Md_hits_34 : decode k_Md_hits.1 34 = .ok (.iadd, 1) := by decide +kernel
theorem d_Md_hits_35 : decode k_Md_hits.1 35 = .ok (.invokevirtual 172, 3) := by decide +kernel
theorem d_Md_hits_38 : decode k_Md_hits.1 38 = .ok (.istore 6, 2) := by decide +kernel
theorem d_Md_hits_40 : decode k_Md_hits.1 40 = .ok (.iconst 1, 1) := by decide +kernel
theorem d_Md_hits_41 : decode k_Md_hits.1 41 = .ok (.istore 7, 2) := by decide +kernel
theorem d_Md_hits_43 : decode k_Md_hits.1 43 = .ok (.iload 7, 2) := by decide +kernel
theorem d_Md_hits_45 : decode k_Md_hits.1 45 = .ok (.aload_n 0, 1) := by decide +kernel
theorem d_Md_hits_46 : decode k_Md_hits.1 46 = .ok (.getfield 66, 3) := by decide +kernel
theorem d_Md_hits_49 : decode k_Md_hits.1 49 = .ok (.iload_n 1, 1) := by decide +kernel
theorem d_Md_hits_50 : decode k_Md_hits.1 50 = .ok (.iaload, 1) := by decide +kernel
theorem d_Md_hits_51 : decode k_Md_hits.1 51 = .ok (.if_icmp .ge 45, 3) := by decide +kernel
theorem d_Md_hits_54 : decode k_Md_hits.1 54 = .ok (.aload_n 0, 1) := by decide +kernel
theorem d_Md_hits_55 : decode k_Md_hits.1 55 = .ok (.getfield 41, 3) := by decide +kernel
theorem d_Md_hits_58 : decode k_Md_hits.1 58 = .ok (.bipush 30, 2) := by decide +kernel
theorem d_Md_hits_60 : decode k_Md_hits.1 60 = .ok (.iload_n 2, 1) := by decide +kernel
theorem d_Md_hits_61 : decode k_Md_hits.1 61 = .ok (.imul, 1) := by decide +kernel
theorem d_Md_hits_62 : decode k_Md_hits.1 62 = .ok (.iload 5, 2) := by decide +kernel
theorem d_Md_hits_64 : decode k_Md_hits.1 64 = .ok (.iadd, 1) := by decide +kernel
theorem d_Md_hits_65 : decode k_Md_hits.1 65 = .ok (.iload 7, 2) := by decide +kernel
theorem d_Md_hits_67 : decode k_Md_hits.1 67 = .ok (.iadd, 1) := by decide +kernel
theorem d_Md_hits_68 : decode k_Md_hits.1 68 = .ok (.laload, 1) := by decide +kernel
theorem d_Md_hits_69 : decode k_Md_hits.1 69 = .ok (.aload_n 0, 1) := by decide +kernel
theorem d_Md_hits_70 : decode k_Md_hits.1 70 = .ok (.getfield 69, 3) := by decide +kernel
theorem d_Md_hits_73 : decode k_Md_hits.1 73 = .ok (.aload_n 0, 1) := by decide +kernel
theorem d_Md_hits_74 : decode k_Md_hits.1 74 = .ok (.getfield 63, 3) := by decide +kernel
theorem d_Md_hits_77 : decode k_Md_hits.1 77 = .ok (.iload_n 1, 1) := by decide +kernel
theorem d_Md_hits_78 : decode k_Md_hits.1 78 = .ok (.iaload, 1) := by decide +kernel
theorem d_Md_hits_79 : decode k_Md_hits.1 79 = .ok (.iload 7, 2) := by decide +kernel
theorem d_Md_hits_81 : decode k_Md_hits.1 81 = .ok (.iadd, 1) := by decide +kernel
theorem d_Md_hits_82 : decode k_Md_hits.1 82 = .ok (.laload, 1) := by decide +kernel
theorem d_Md_hits_83 : decode k_Md_hits.1 83 = .ok (.lcmp, 1) := by decide +kernel
theorem d_Md_hits_84 : decode k_Md_hits.1 84 = .ok (.ifCond .eq 6, 3) := by decide +kernel
theorem d_Md_hits_87 : decode k_Md_hits.1 87 = .ok (.iconst 0, 1) := by decide +kernel
theorem d_Md_hits_88 : decode k_Md_hits.1 88 = .ok (.istore 6, 2) := by decide +kernel
theorem d_Md_hits_90 : decode k_Md_hits.1 90 = .ok (.iinc 7 1, 3) := by decide +kernel
theorem d_Md_hits_93 : decode k_Md_hits.1 93 = .ok (.goto (-50), 3) := by decide +kernel
theorem d_Md_hits_96 : decode k_Md_hits.1 96 = .ok (.iload 6, 2) := by decide +kernel
theorem d_Md_hits_98 : decode k_Md_hits.1 98 = .ok (.ifCond .ne 6, 3) := by decide +kernel
theorem d_Md_hits_101 : decode k_Md_hits.1 101 = .ok (.goto 21, 3) := by decide +kernel
theorem d_Md_hits_104 : decode k_Md_hits.1 104 = .ok (.iconst 1, 1) := by decide +kernel
theorem d_Md_hits_105 : decode k_Md_hits.1 105 = .ok (.istore 4, 2) := by decide +kernel
theorem d_Md_hits_107 : decode k_Md_hits.1 107 = .ok (.iload_n 3, 1) := by decide +kernel
theorem d_Md_hits_108 : decode k_Md_hits.1 108 = .ok (.aload_n 0, 1) := by decide +kernel
theorem d_Md_hits_109 : decode k_Md_hits.1 109 = .ok (.getfield 48, 3) := by decide +kernel
theorem d_Md_hits_112 : decode k_Md_hits.1 112 = .ok (.bipush 30, 2) := by decide +kernel
theorem d_Md_hits_114 : decode k_Md_hits.1 114 = .ok (.iload_n 2, 1) := by decide +kernel
theorem d_Md_hits_115 : decode k_Md_hits.1 115 = .ok (.imul, 1) := by decide +kernel
theorem d_Md_hits_116 : decode k_Md_hits.1 116 = .ok (.iload 5, 2) := by decide +kernel
theorem d_Md_hits_118 : decode k_Md_hits.1 118 = .ok (.iadd, 1) := by decide +kernel
theorem d_Md_hits_119 : decode k_Md_hits.1 119 = .ok (.iaload, 1) := by decide +kernel
theorem d_Md_hits_120 : decode k_Md_hits.1 120 = .ok (.iadd, 1) := by decide +kernel
theorem d_Md_hits_121 : decode k_Md_hits.1 121 = .ok (.istore_n 3, 1) := by decide +kernel
theorem d_Md_hits_122 : decode k_Md_hits.1 122 = .ok (.iinc 5 1, 3) := by decide +kernel
theorem d_Md_hits_125 : decode k_Md_hits.1 125 = .ok (.goto (-117), 3) := by decide +kernel
theorem d_Md_hits_128 : decode k_Md_hits.1 128 = .ok (.iload 4, 2) := by decide +kernel
theorem d_Md_hits_130 : decode k_Md_hits.1 130 = .ok (.ifCond .eq 7, 3) := by decide +kernel
theorem d_Md_hits_133 : decode k_Md_hits.1 133 = .ok (.iload_n 3, 1) := by decide +kernel
theorem d_Md_hits_134 : decode k_Md_hits.1 134 = .ok (.goto 4, 3) := by decide +kernel
theorem d_Md_hits_137 : decode k_Md_hits.1 137 = .ok (.iconst (-1), 1) := by decide +kernel
theorem d_Md_hits_138 : decode k_Md_hits.1 138 = .ok (.ireturn, 1) := by decide +kernel
theorem d_Md_hit_0 : decode k_Md_hit.1 0 = .ok (.aload_n 0, 1) := by decide +kernel
theorem d_Md_hit_1 : decode k_Md_hit.1 1 = .ok (.getfield 63, 3) := by decide +kernel
theorem d_Md_hit_4 : decode k_Md_hit.1 4 = .ok (.iload_n 1, 1) := by decide +kernel
theorem d_Md_hit_5 : decode k_Md_hit.1 5 = .ok (.iaload, 1) := by decide +kernel
theorem d_Md_hit_6 : decode k_Md_hit.1 6 = .ok (.istore_n 3, 1) := by decide +kernel
theorem d_Md_hit_7 : decode k_Md_hit.1 7 = .ok (.aload_n 0, 1) := by decide +kernel
theorem d_Md_hit_8 : decode k_Md_hit.1 8 = .ok (.getfield 60, 3) := by decide +kernel
theorem d_Md_hit_11 : decode k_Md_hit.1 11 = .ok (.iload_n 1, 1) := by decide +kernel
theorem d_Md_hit_12 : decode k_Md_hit.1 12 = .ok (.iaload, 1) := by decide +kernel
theorem d_Md_hit_13 : decode k_Md_hit.1 13 = .ok (.iconst 1, 1) := by decide +kernel
theorem d_Md_hit_14 : decode k_Md_hit.1 14 = .ok (.if_icmp .ne 57, 3) := by decide +kernel
theorem d_Md_hit_17 : decode k_Md_hit.1 17 = .ok (.aload_n 0, 1) := by decide +kernel
theorem d_Md_hit_18 : decode k_Md_hit.1 18 = .ok (.getfield 45, 3) := by decide +kernel
theorem d_Md_hit_21 : decode k_Md_hit.1 21 = .ok (.iload_n 2, 1) := by decide +kernel
theorem d_Md_hit_22 : decode k_Md_hit.1 22 = .ok (.iaload, 1) := by decide +kernel
theorem d_Md_hit_23 : decode k_Md_hit.1 23 = .ok (.aload_n 0, 1) := by decide +kernel
theorem d_Md_hit_24 : decode k_Md_hit.1 24 = .ok (.getfield 72, 3) := by decide +kernel
theorem d_Md_hit_27 : decode k_Md_hit.1 27 = .ok (.iload_n 3, 1) := by decide +kernel
theorem d_Md_hit_28 : decode k_Md_hit.1 28 = .ok (.iaload, 1) := by decide +kernel
theorem d_Md_hit_29 : decode k_Md_hit.1 29 = .ok (.if_icmp .lt 40, 3) := by decide +kernel
theorem d_Md_hit_32 : decode k_Md_hit.1 32 = .ok (.aload_n 0, 1) := by decide +kernel
theorem d_Md_hit_33 : decode k_Md_hit.1 33 = .ok (.getfield 41, 3) := by decide +kernel
theorem d_Md_hit_36 : decode k_Md_hit.1 36 = .ok (.iload_n 2, 1) := by decide +kernel
theorem d_Md_hit_37 : decode k_Md_hit.1 37 = .ok (.laload, 1) := by decide +kernel
theorem d_Md_hit_38 : decode k_Md_hit.1 38 = .ok (.bipush 8, 2) := by decide +kernel
theorem d_Md_hit_40 : decode k_Md_hit.1 40 = .ok (.aload_n 0, 1) := by decide +kernel
theorem d_Md_hit_41 : decode k_Md_hit.1 41 = .ok (.getfield 45, 3) := by decide +kernel
theorem d_Md_hit_44 : decode k_Md_hit.1 44 = .ok (.iload_n 2, 1) := by decide +kernel
theorem d_Md_hit_45 : decode k_Md_hit.1 45 = .ok (.iaload, 1) := by decide +kernel
theorem d_Md_hit_46 : decode k_Md_hit.1 46 = .ok (.aload_n 0, 1) := by decide +kernel
theorem d_Md_hit_47 : decode k_Md_hit.1 47 = .ok (.getfield 72, 3) := by decide +kernel
theorem d_Md_hit_50 : decode k_Md_hit.1 50 = .ok (.iload_n 3, 1) := by decide +kernel
theorem d_Md_hit_51 : decode k_Md_hit.1 51 = .ok (.iaload, 1) := by decide +kernel
theorem d_Md_hit_52 : decode k_Md_hit.1 52 = .ok (.isub, 1) := by decide +kernel
theorem d_Md_hit_53 : decode k_Md_hit.1 53 = .ok (.imul, 1) := by decide +kernel
theorem d_Md_hit_54 : decode k_Md_hit.1 54 = .ok (.lshr, 1) := by decide +kernel
theorem d_Md_hit_55 : decode k_Md_hit.1 55 = .ok (.aload_n 0, 1) := by decide +kernel
theorem d_Md_hit_56 : decode k_Md_hit.1 56 = .ok (.getfield 69, 3) := by decide +kernel
theorem d_Md_hit_59 : decode k_Md_hit.1 59 = .ok (.iload_n 3, 1) := by decide +kernel
theorem d_Md_hit_60 : decode k_Md_hit.1 60 = .ok (.laload, 1) := by decide +kernel
theorem d_Md_hit_61 : decode k_Md_hit.1 61 = .ok (.lcmp, 1) := by decide +kernel
theorem d_Md_hit_62 : decode k_Md_hit.1 62 = .ok (.ifCond .ne 7, 3) := by decide +kernel
theorem d_Md_hit_65 : decode k_Md_hit.1 65 = .ok (.iconst 1, 1) := by decide +kernel
theorem d_Md_hit_66 : decode k_Md_hit.1 66 = .ok (.goto 4, 3) := by decide +kernel
theorem d_Md_hit_69 : decode k_Md_hit.1 69 = .ok (.iconst 0, 1) := by decide +kernel
theorem d_Md_hit_70 : decode k_Md_hit.1 70 = .ok (.ireturn, 1) := by decide +kernel
theorem d_Md_hit_71 : decode k_Md_hit.1 71 = .ok (.aload_n 0, 1) := by decide +kernel
theorem d_Md_hit_72 : decode k_Md_hit.1 72 = .ok (.getfield 41, 3) := by decide +kernel
theorem d_Md_hit_75 : decode k_Md_hit.1 75 = .ok (.iload_n 2, 1) := by decide +kernel
theorem d_Md_hit_76 : decode k_Md_hit.1 76 = .ok (.laload, 1) := by decide +kernel
theorem d_Md_hit_77 : decode k_Md_hit.1 77 = .ok (.aload_n 0, 1) := by decide +kernel
theorem d_Md_hit_78 : decode k_Md_hit.1 78 = .ok (.getfield 69, 3) := by decide +kernel
theorem d_Md_hit_81 : decode k_Md_hit.1 81 = .ok (.iload_n 3, 1) := by decide +kernel
theorem d_Md_hit_82 : decode k_Md_hit.1 82 = .ok (.laload, 1) := by decide +kernel
theorem d_Md_hit_83 : decode k_Md_hit.1 83 = .ok (.lcmp, 1) := by decide +kernel
theorem d_Md_hit_84 : decode k_Md_hit.1 84 = .ok (.ifCond .ne 7, 3) := by decide +kernel
theorem d_Md_hit_87 : decode k_Md_hit.1 87 = .ok (.iconst 1, 1) := by decide +kernel
theorem d_Md_hit_88 : decode k_Md_hit.1 88 = .ok (.goto 4, 3) := by decide +kernel
theorem d_Md_hit_91 : decode k_Md_hit.1 91 = .ok (.iconst 0, 1) := by decide +kernel
theorem d_Md_hit_92 : decode k_Md_hit.1 92 = .ok (.ireturn, 1) := by decide +kernel
theorem d_Md_place_0 : decode k_Md_place.1 0 = .ok (.aload_n 0, 1) := by decide +kernel
theorem d_Md_place_1 : decode k_Md_place.1 1 = .ok (.getfield 178, 3) := by decide +kernel
theorem d_Md_place_4 : decode k_Md_place.1 4 = .ok (.istore_n 3, 1) := by decide +kernel
theorem d_Md_place_5 : decode k_Md_place.1 5 = .ok (.iload_n 3, 1) := by decide +kernel
theorem d_Md_place_6 : decode k_Md_place.1 6 = .ok (.ifCond .le 49, 3) := by decide +kernel
theorem d_Md_place_9 : decode k_Md_place.1 9 = .ok (.aload_n 0, 1) := by decide +kernel
theorem d_Md_place_10 : decode k_Md_place.1 10 = .ok (.getfield 82, 3) := by decide +kernel
theorem d_Md_place_13 : decode k_Md_place.1 13 = .ok (.iload_n 3, 1) := by decide +kernel
theorem d_Md_place_14 : decode k_Md_place.1 14 = .ok (.iconst 1, 1) := by decide +kernel
theorem d_Md_place_15 : decode k_Md_place.1 15 = .ok (.isub, 1) := by decide +kernel
theorem d_Md_place_16 : decode k_Md_place.1 16 = .ok (.iaload, 1) := by decide +kernel
theorem d_Md_place_17 : decode k_Md_place.1 17 = .ok (.iload_n 2, 1) := by decide +kernel
theorem d_Md_place_18 : decode k_Md_place.1 18 = .ok (.if_icmp .ge 37, 3) := by decide +kernel
theorem d_Md_place_21 : decode k_Md_place.1 21 = .ok (.aload_n 0, 1) := by decide +kernel
theorem d_Md_place_22 : decode k_Md_place.1 22 = .ok (.getfield 79, 3) := by decide +kernel
theorem d_Md_place_25 : decode k_Md_place.1 25 = .ok (.iload_n 3, 1) := by decide +kernel
theorem d_Md_place_26 : decode k_Md_place.1 26 = .ok (.aload_n 0, 1) := by decide +kernel
theorem d_Md_place_27 : decode k_Md_place.1 27 = .ok (.getfield 79, 3) := by decide +kernel
theorem d_Md_place_30 : decode k_Md_place.1 30 = .ok (.iload_n 3, 1) := by decide +kernel
theorem d_Md_place_31 : decode k_Md_place.1 31 = .ok (.iconst 1, 1) := by decide +kernel
theorem d_Md_place_32 : decode k_Md_place.1 32 = .ok (.isub, 1) := by decide +kernel
theorem d_Md_place_33 : decode k_Md_place.1 33 = .ok (.iaload, 1) := by decide +kernel
theorem d_Md_place_34 : decode k_Md_place.1 34 = .ok (.iastore, 1) := by decide +kernel
theorem d_Md_place_35 : decode k_Md_place.1 35 = .ok (.aload_n 0, 1) := by decide +kernel
theorem d_Md_place_36 : decode k_Md_place.1 36 = .ok (.getfield 82, 3) := by decide +kernel
theorem d_Md_place_39 : decode k_Md_place.1 39 = .ok (.iload_n 3, 1) := by decide +kernel
theorem d_Md_place_40 : decode k_Md_place.1 40 = .ok (.aload_n 0, 1) := by decide +kernel
theorem d_Md_place_41 : decode k_Md_place.1 41 = .ok (.getfield 82, 3) := by decide +kernel
theorem d_Md_place_44 : decode k_Md_place.1 44 = .ok (.iload_n 3, 1) := by decide +kernel
theorem d_Md_place_45 : decode k_Md_place.1 45 = .ok (.iconst 1, 1) := by decide +kernel
theorem d_Md_place_46 : decode k_Md_place.1 46 = .ok (.isub, 1) := by decide +kernel
theorem d_Md_place_47 : decode k_Md_place.1 47 = .ok (.iaload, 1) := by decide +kernel
theorem d_Md_place_48 : decode k_Md_place.1 48 = .ok (.iastore, 1) := by decide +kernel
theorem d_Md_place_49 : decode k_Md_place.1 49 = .ok (.iinc 3 (-1), 3) := by decide +kernel
theorem d_Md_place_52 : decode k_Md_place.1 52 = .ok (.goto (-47), 3) := by decide +kernel
theorem d_Md_place_55 : decode k_Md_place.1 55 = .ok (.aload_n 0, 1) := by decide +kernel
theorem d_Md_place_56 : decode k_Md_place.1 56 = .ok (.getfield 79, 3) := by decide +kernel
theorem d_Md_place_59 : decode k_Md_place.1 59 = .ok (.iload_n 3, 1) := by decide +kernel
theorem d_Md_place_60 : decode k_Md_place.1 60 = .ok (.iload_n 1, 1) := by decide +kernel
theorem d_Md_place_61 : decode k_Md_place.1 61 = .ok (.iastore, 1) := by decide +kernel
theorem d_Md_place_62 : decode k_Md_place.1 62 = .ok (.aload_n 0, 1) := by decide +kernel
theorem d_Md_place_63 : decode k_Md_place.1 63 = .ok (.getfield 82, 3) := by decide +kernel
theorem d_Md_place_66 : decode k_Md_place.1 66 = .ok (.iload_n 3, 1) := by decide +kernel
theorem d_Md_place_67 : decode k_Md_place.1 67 = .ok (.iload_n 2, 1) := by decide +kernel
theorem d_Md_place_68 : decode k_Md_place.1 68 = .ok (.iastore, 1) := by decide +kernel
theorem d_Md_place_69 : decode k_Md_place.1 69 = .ok (.aload_n 0, 1) := by decide +kernel
theorem d_Md_place_70 : decode k_Md_place.1 70 = .ok (.dup, 1) := by decide +kernel
theorem d_Md_place_71 : decode k_Md_place.1 71 = .ok (.getfield 178, 3) := by decide +kernel
theorem d_Md_place_74 : decode k_Md_place.1 74 = .ok (.iconst 1, 1) := by decide +kernel
theorem d_Md_place_75 : decode k_Md_place.1 75 = .ok (.iadd, 1) := by decide +kernel
theorem d_Md_place_76 : decode k_Md_place.1 76 = .ok (.putfield 178, 3) := by decide +kernel
theorem d_Md_place_79 : decode k_Md_place.1 79 = .ok (.return_, 1) := by decide +kernel
theorem d_Md_fault_0 : decode k_Md_fault.1 0 = .ok (.aload_n 0, 1) := by decide +kernel
theorem d_Md_fault_1 : decode k_Md_fault.1 1 = .ok (.iconst 0, 1) := by decide +kernel
theorem d_Md_fault_2 : decode k_Md_fault.1 2 = .ok (.putfield 85, 3) := by decide +kernel
theorem d_Md_fault_5 : decode k_Md_fault.1 5 = .ok (.aload_n 0, 1) := by decide +kernel
theorem d_Md_fault_6 : decode k_Md_fault.1 6 = .ok (.getfield 75, 3) := by decide +kernel
theorem d_Md_fault_9 : decode k_Md_fault.1 9 = .ok (.ireturn, 1) := by decide +kernel
theorem d_Md_result_0 : decode k_Md_result.1 0 = .ok (.aload_n 0, 1) := by decide +kernel
theorem d_Md_result_1 : decode k_Md_result.1 1 = .ok (.iconst 0, 1) := by decide +kernel
theorem d_Md_result_2 : decode k_Md_result.1 2 = .ok (.putfield 85, 3) := by decide +kernel
theorem d_Md_result_5 : decode k_Md_result.1 5 = .ok (.iload_n 1, 1) := by decide +kernel
theorem d_Md_result_6 : decode k_Md_result.1 6 = .ok (.iconst 0, 1) := by decide +kernel
theorem d_Md_result_7 : decode k_Md_result.1 7 = .ok (.aload_n 0, 1) := by decide +kernel
theorem d_Md_result_8 : decode k_Md_result.1 8 = .ok (.getfield 178, 3) := by decide +kernel
theorem d_Md_result_11 : decode k_Md_result.1 11 = .ok (.iconst 1, 1) := by decide +kernel
theorem d_Md_result_12 : decode k_Md_result.1 12 = .ok (.isub, 1) := by decide +kernel
theorem d_Md_result_13 : decode k_Md_result.1 13 = .ok (.invokestatic 88, 3) := by decide +kernel
theorem d_Md_result_16 : decode k_Md_result.1 16 = .ok (.ifCond .ne 9, 3) := by decide +kernel
theorem d_Md_result_19 : decode k_Md_result.1 19 = .ok (.aload_n 0, 1) := by decide +kernel
theorem d_Md_result_20 : decode k_Md_result.1 20 = .ok (.iconst 1, 1) := by decide +kernel
theorem d_Md_result_21 : decode k_Md_result.1 21 = .ok (.invokevirtual 107, 3) := by decide +kernel
theorem d_Md_result_24 : decode k_Md_result.1 24 = .ok (.ireturn, 1) := by decide +kernel
theorem d_Md_result_25 : decode k_Md_result.1 25 = .ok (.iload_n 2, 1) := by decide +kernel
theorem d_Md_result_26 : decode k_Md_result.1 26 = .ok (.iconst 0, 1) := by decide +kernel
theorem d_Md_result_27 : decode k_Md_result.1 27 = .ok (.iconst 1, 1) := by decide +kernel
theorem d_Md_result_28 : decode k_Md_result.1 28 = .ok (.invokestatic 88, 3) := by decide +kernel
theorem d_Md_result_31 : decode k_Md_result.1 31 = .ok (.ifCond .ne 9, 3) := by decide +kernel
theorem d_Md_result_34 : decode k_Md_result.1 34 = .ok (.aload_n 0, 1) := by decide +kernel
theorem d_Md_result_35 : decode k_Md_result.1 35 = .ok (.iconst 2, 1) := by decide +kernel
theorem d_Md_result_36 : decode k_Md_result.1 36 = .ok (.invokevirtual 107, 3) := by decide +kernel
theorem d_Md_result_39 : decode k_Md_result.1 39 = .ok (.ireturn, 1) := by decide +kernel
theorem d_Md_result_40 : decode k_Md_result.1 40 = .ok (.iload_n 2, 1) := by decide +kernel
theorem d_Md_result_41 : decode k_Md_result.1 41 = .ok (.ifCond .ne 12, 3) := by decide +kernel
theorem d_Md_result_44 : decode k_Md_result.1 44 = .ok (.aload_n 0, 1) := by decide +kernel
theorem d_Md_result_45 : decode k_Md_result.1 45 = .ok (.getfield 79, 3) := by decide +kernel
theorem d_Md_result_48 : decode k_Md_result.1 48 = .ok (.iload_n 1, 1) := by decide +kernel
theorem d_Md_result_49 : decode k_Md_result.1 49 = .ok (.iaload, 1) := by decide +kernel
theorem d_Md_result_50 : decode k_Md_result.1 50 = .ok (.goto 9, 3) := by decide +kernel
theorem d_Md_result_53 : decode k_Md_result.1 53 = .ok (.aload_n 0, 1) := by decide +kernel
theorem d_Md_result_54 : decode k_Md_result.1 54 = .ok (.getfield 82, 3) := by decide +kernel
theorem d_Md_result_57 : decode k_Md_result.1 57 = .ok (.iload_n 1, 1) := by decide +kernel
theorem d_Md_result_58 : decode k_Md_result.1 58 = .ok (.iaload, 1) := by decide +kernel
theorem d_Md_result_59 : decode k_Md_result.1 59 = .ok (.ireturn, 1) := by decide +kernel
theorem d_Md_words_0 : decode k_Md_words.1 0 = .ok (.aload_n 0, 1) := by decide +kernel
theorem d_Md_words_1 : decode k_Md_words.1 1 = .ok (.iconst 0, 1) := by decide +kernel
theorem d_Md_words_2 : decode k_Md_words.1 2 = .ok (.putfield 85, 3) := by decide +kernel
theorem d_Md_words_5 : decode k_Md_words.1 5 = .ok (.iload_n 1, 1) := by decide +kernel
theorem d_Md_words_6 : decode k_Md_words.1 6 = .ok (.iconst 0, 1) := by decide +kernel
theorem d_Md_words_7 : decode k_Md_words.1 7 = .ok (.bipush 15, 2) := by decide +kernel
theorem d_Md_words_9 : decode k_Md_words.1 9 = .ok (.invokestatic 88, 3) := by decide +kernel
theorem d_Md_words_12 : decode k_Md_words.1 12 = .ok (.ifCond .eq 21, 3) := by decide +kernel
theorem d_Md_words_15 : decode k_Md_words.1 15 = .ok (.aload_n 0, 1) := by decide +kernel
theorem d_Md_words_16 : decode k_Md_words.1 16 = .ok (.getfield 35, 3) := by decide +kernel
theorem d_Md_words_19 : decode k_Md_words.1 19 = .ok (.iload_n 1, 1) := by decide +kernel
theorem d_Md_words_20 : decode k_Md_words.1 20 = .ok (.baload, 1) := by decide +kernel
theorem d_Md_words_21 : decode k_Md_words.1 21 = .ok (.ifCond .eq 12, 3) := by decide +kernel
theorem d_Md_words_24 : decode k_Md_words.1 24 = .ok (.aload_n 0, 1) := by decide +kernel
theorem d_Md_words_25 : decode k_Md_words.1 25 = .ok (.getfield 38, 3) := by decide +kernel
theorem d_Md_words_28 : decode k_Md_words.1 28 = .ok (.iload_n 1, 1) := by decide +kernel
theorem d_Md_words_29 : decode k_Md_words.1 29 = .ok (.iaload, 1) := by decide +kernel
theorem d_Md_words_30 : decode k_Md_words.1 30 = .ok (.goto 8, 3) := by decide +kernel
theorem d_Md_words_33 : decode k_Md_words.1 33 = .ok (.aload_n 0, 1) := by decide +kernel
theorem d_Md_words_34 : decode k_Md_words.1 34 = .ok (.iconst 1, 1) := by decide +kernel
theorem d_Md_words_35 : decode k_Md_words.1 35 = .ok (.invokevirtual 107, 3) := by decide +kernel
theorem d_Md_words_38 : decode k_Md_words.1 38 = .ok (.ireturn, 1) := by decide +kernel
theorem d_Md_event_0 : decode k_Md_event.1 0 = .ok (.aload_n 0, 1) := by decide +kernel
theorem d_Md_event_1 : decode k_Md_event.1 1 = .ok (.iconst 0, 1) := by decide +kernel
theorem d_Md_event_2 : decode k_Md_event.1 2 = .ok (.putfield 85, 3) := by decide +kernel
theorem d_Md_event_5 : decode k_Md_event.1 5 = .ok (.iload_n 1, 1) := by decide +kernel
theorem d_Md_event_6 : decode k_Md_event.1 6 = .ok (.iconst 0, 1) := by decide +kernel
theorem d_Md_event_7 : decode k_Md_event.1 7 = .ok (.aload_n 0, 1) := by decide +kernel
theorem d_Md_event_8 : decode k_Md_event.1 8 = .ok (.getfield 92, 3) := by decide +kernel
theorem d_Md_event_11 : decode k_Md_event.1 11 = .ok (.iconst 1, 1) := by decide +kernel
theorem d_Md_event_12 : decode k_Md_event.1 12 = .ok (.isub, 1) := by decide +kernel
theorem d_Md_event_13 : decode k_Md_event.1 13 = .ok (.invokestatic 88, 3) := by decide +kernel
theorem d_Md_event_16 : decode k_Md_event.1 16 = .ok (.ifCond .eq 22, 3) := by decide +kernel
theorem d_Md_event_19 : decode k_Md_event.1 19 = .ok (.bipush 16, 2) := by decide +kernel
theorem d_Md_event_21 : decode k_Md_event.1 21 = .ok (.aload_n 0, 1) := by decide +kernel
theorem d_Md_event_22 : decode k_Md_event.1 22 = .ok (.getfield 29, 3) := by decide +kernel
theorem d_Md_event_25 : decode k_Md_event.1 25 = .ok (.iload_n 1, 1) := by decide +kernel
theorem d_Md_event_26 : decode k_Md_event.1 26 = .ok (.iaload, 1) := by decide +kernel
theorem d_Md_event_27 : decode k_Md_event.1 27 = .ok (.imul, 1) := by decide +kernel
theorem d_Md_event_28 : decode k_Md_event.1 28 = .ok (.aload_n 0, 1) := by decide +kernel
theorem d_Md_event_29 : decode k_Md_event.1 29 = .ok (.getfield 32, 3) := by decide +kernel
theorem d_Md_event_32 : decode k_Md_event.1 32 = .ok (.iload_n 1, 1) := by decide +kernel
theorem d_Md_event_33 : decode k_Md_event.1 33 = .ok (.iaload, 1) := by decide +kernel
theorem d_Md_event_34 : decode k_Md_event.1 34 = .ok (.iadd, 1) := by decide +kernel
theorem d_Md_event_35 : decode k_Md_event.1 35 = .ok (.goto 8, 3) := by decide +kernel
theorem d_Md_event_38 : decode k_Md_event.1 38 = .ok (.aload_n 0, 1) := by decide +kernel
theorem d_Md_event_39 : decode k_Md_event.1 39 = .ok (.iconst 1, 1) := by decide +kernel
theorem d_Md_event_40 : decode k_Md_event.1 40 = .ok (.invokevirtual 107, 3) := by decide +kernel
theorem d_Md_event_43 : decode k_Md_event.1 43 = .ok (.ireturn, 1) := by decide +kernel
theorem d_Md_count_0 : decode k_Md_count.1 0 = .ok (.aload_n 0, 1) := by decide +kernel
theorem d_Md_count_1 : decode k_Md_count.1 1 = .ok (.iconst 0, 1) := by decide +kernel
theorem d_Md_count_2 : decode k_Md_count.1 2 = .ok (.putfield 85, 3) := by decide +kernel
theorem d_Md_count_5 : decode k_Md_count.1 5 = .ok (.iconst 0, 1) := by decide +kernel
theorem d_Md_count_6 : decode k_Md_count.1 6 = .ok (.istore_n 2, 1) := by decide +kernel
theorem d_Md_count_7 : decode k_Md_count.1 7 = .ok (.iload_n 1, 1) := by decide +kernel
theorem d_Md_count_8 : decode k_Md_count.1 8 = .ok (.tableswitch 132 0 6 #[44, 44, 44, 104, 109, 122, 127], 44) := by decide +kernel
theorem d_Md_count_52 : decode k_Md_count.1 52 = .ok (.iconst 0, 1) := by decide +kernel
theorem d_Md_count_53 : decode k_Md_count.1 53 = .ok (.istore_n 3, 1) := by decide +kernel
theorem d_Md_count_54 : decode k_Md_count.1 54 = .ok (.iload_n 3, 1) := by decide +kernel
theorem d_Md_count_55 : decode k_Md_count.1 55 = .ok (.bipush 16, 2) := by decide +kernel
theorem d_Md_count_57 : decode k_Md_count.1 57 = .ok (.if_icmp .ge 53, 3) := by decide +kernel
theorem d_Md_count_60 : decode k_Md_count.1 60 = .ok (.iload_n 1, 1) := by decide +kernel
theorem d_Md_count_61 : decode k_Md_count.1 61 = .ok (.ifCond .ne 15, 3) := by decide +kernel
theorem d_Md_count_64 : decode k_Md_count.1 64 = .ok (.aload_n 0, 1) := by decide +kernel
theorem d_Md_count_65 : decode k_Md_count.1 65 = .ok (.getfield 7, 3) := by decide +kernel
theorem d_Md_count_68 : decode k_Md_count.1 68 = .ok (.iload_n 3, 1) := by decide +kernel
theorem d_Md_count_69 : decode k_Md_count.1 69 = .ok (.baload, 1) := by decide +kernel
theorem d_Md_count_70 : decode k_Md_count.1 70 = .ok (.ifCond .eq 34, 3) := by decide +kernel
theorem d_Md_count_73 : decode k_Md_count.1 73 = .ok (.goto 28, 3) := by decide +kernel
theorem d_Md_count_76 : decode k_Md_count.1 76 = .ok (.iload_n 1, 1) := by decide +kernel
theorem d_Md_count_77 : decode k_Md_count.1 77 = .ok (.iconst 1, 1) := by decide +kernel
theorem d_Md_count_78 : decode k_Md_count.1 78 = .ok (.if_icmp .ne 14, 3) := by decide +kernel
theorem d_Md_count_81 : decode k_Md_count.1 81 = .ok (.aload_n 0, 1) := by decide +kernel
theorem d_Md_count_82 : decode k_Md_count.1 82 = .ok (.iload_n 3, 1) := by decide +kernel
theorem d_Md_count_83 : decode k_Md_count.1 83 = .ok (.invokevirtual 119, 3) := by decide +kernel
theorem d_Md_count_86 : decode k_Md_count.1 86 = .ok (.ifCond .eq 18, 3) := by decide +kernel
theorem d_Md_count_89 : decode k_Md_count.1 89 = .ok (.goto 12, 3) := by decide +kernel
theorem d_Md_count_92 : decode k_Md_count.1 92 = .ok (.aload_n 0, 1) := by decide +kernel
theorem d_Md_count_93 : decode k_Md_count.1 93 = .ok (.getfield 35, 3) := by decide +kernel
theorem d_Md_count_96 : decode k_Md_count.1 96 = .ok (.iload_n 3, 1) := by decide +kernel
theorem d_Md_count_97 : decode k_Md_count.1 97 = .ok (.baload, 1) := by decide +kernel
theorem d_Md_count_98 : decode k_Md_count.1 98 = .ok (.ifCond .eq 6, 3) := by decide +kernel
theorem d_Md_count_101 : decode k_Md_count.1 101 = .ok (.iinc 2 1, 3) := by decide +kernel
theorem d_Md_count_104 : decode k_Md_count.1 104 = .ok (.iinc 3 1, 3) := by decide +kernel
theorem d_Md_count_107 : decode k_Md_count.1 107 = .ok (.goto (-53), 3) := by decide +kernel
theorem d_Md_count_110 : decode k_Md_count.1 110 = .ok (.iload_n 2, 1) := by decide +kernel
theorem d_Md_count_111 : decode k_Md_count.1 111 = .ok (.ireturn, 1) := by decide +kernel
theorem d_Md_count_112 : decode k_Md_count.1 112 = .ok (.aload_n 0, 1) := by decide +kernel
theorem d_Md_count_113 : decode k_Md_count.1 113 = .ok (.getfield 92, 3) := by decide +kernel
theorem d_Md_count_116 : decode k_Md_count.1 116 = .ok (.ireturn, 1) := by decide +kernel
theorem d_Md_count_117 : decode k_Md_count.1 117 = .ok (.aload_n 0, 1) := by decide +kernel
theorem d_Md_count_118 : decode k_Md_count.1 118 = .ok (.getfield 95, 3) := by decide +kernel
theorem d_Md_count_121 : decode k_Md_count.1 121 = .ok (.ifCond .eq 7, 3) := by decide +kernel
theorem d_Md_count_124 : decode k_Md_count.1 124 = .ok (.iconst 1, 1) := by decide +kernel
theorem d_Md_count_125 : decode k_Md_count.1 125 = .ok (.goto 4, 3) := by decide +kernel
theorem d_Md_count_128 : decode k_Md_count.1 128 = .ok (.iconst 0, 1) := by decide +kernel
theorem d_Md_count_129 : decode k_Md_count.1 129 = .ok (.ireturn, 1) := by decide +kernel
theorem d_Md_count_130 : decode k_Md_count.1 130 = .ok (.aload_n 0, 1) := by decide +kernel
theorem d_Md_count_131 : decode k_Md_count.1 131 = .ok (.getfield 138, 3) := by decide +kernel
theorem d_Md_count_134 : decode k_Md_count.1 134 = .ok (.ireturn, 1) := by decide +kernel
theorem d_Md_count_135 : decode k_Md_count.1 135 = .ok (.aload_n 0, 1) := by decide +kernel
theorem d_Md_count_136 : decode k_Md_count.1 136 = .ok (.getfield 132, 3) := by decide +kernel
theorem d_Md_count_139 : decode k_Md_count.1 139 = .ok (.ireturn, 1) := by decide +kernel
theorem d_Md_count_140 : decode k_Md_count.1 140 = .ok (.aload_n 0, 1) := by decide +kernel
theorem d_Md_count_141 : decode k_Md_count.1 141 = .ok (.iconst 1, 1) := by decide +kernel
theorem d_Md_count_142 : decode k_Md_count.1 142 = .ok (.invokevirtual 107, 3) := by decide +kernel
theorem d_Md_count_145 : decode k_Md_count.1 145 = .ok (.ireturn, 1) := by decide +kernel
