theorem dX0_init_0 : decode cX0_init 0 = .ok (.aload_n 0, 1) := by decide +kernel
theorem dX0_init_1 : decode cX0_init 1 = .ok (.invokespecial 3, 3) := by decide +kernel
theorem dX0_init_4 : decode cX0_init 4 = .ok (.aload_n 0, 1) := by decide +kernel
theorem dX0_init_5 : decode cX0_init 5 = .ok (.bipush 8, 2) := by decide +kernel
theorem dX0_init_7 : decode cX0_init 7 = .ok (.newarray .int, 2) := by decide +kernel
theorem dX0_init_9 : decode cX0_init 9 = .ok (.putfield 9, 3) := by decide +kernel
theorem dX0_init_12 : decode cX0_init 12 = .ok (.aload_n 0, 1) := by decide +kernel
theorem dX0_init_13 : decode cX0_init 13 = .ok (.bipush 8, 2) := by decide +kernel
theorem dX0_init_15 : decode cX0_init 15 = .ok (.newarray .int, 2) := by decide +kernel
theorem dX0_init_17 : decode cX0_init 17 = .ok (.putfield 15, 3) := by decide +kernel
theorem dX0_init_20 : decode cX0_init 20 = .ok (.aload_n 0, 1) := by decide +kernel
theorem dX0_init_21 : decode cX0_init 21 = .ok (.bipush 8, 2) := by decide +kernel
theorem dX0_init_23 : decode cX0_init 23 = .ok (.newarray .int, 2) := by decide +kernel
theorem dX0_init_25 : decode cX0_init 25 = .ok (.putfield 18, 3) := by decide +kernel
theorem dX0_init_28 : decode cX0_init 28 = .ok (.aload_n 0, 1) := by decide +kernel
theorem dX0_init_29 : decode cX0_init 29 = .ok (.bipush 8, 2) := by decide +kernel
theorem dX0_init_31 : decode cX0_init 31 = .ok (.newarray .int, 2) := by decide +kernel
theorem dX0_init_33 : decode cX0_init 33 = .ok (.putfield 21, 3) := by decide +kernel
theorem dX0_init_36 : decode cX0_init 36 = .ok (.aload_n 0, 1) := by decide +kernel
theorem dX0_init_37 : decode cX0_init 37 = .ok (.bipush 8, 2) := by decide +kernel
theorem dX0_init_39 : decode cX0_init 39 = .ok (.newarray .int, 2) := by decide +kernel
theorem dX0_init_41 : decode cX0_init 41 = .ok (.putfield 24, 3) := by decide +kernel
theorem dX0_init_44 : decode cX0_init 44 = .ok (.aload_n 0, 1) := by decide +kernel
theorem dX0_init_45 : decode cX0_init 45 = .ok (.bipush 60, 2) := by decide +kernel
theorem dX0_init_47 : decode cX0_init 47 = .ok (.newarray .int, 2) := by decide +kernel
theorem dX0_init_49 : decode cX0_init 49 = .ok (.putfield 27, 3) := by decide +kernel
theorem dX0_init_52 : decode cX0_init 52 = .ok (.aload_n 0, 1) := by decide +kernel
theorem dX0_init_53 : decode cX0_init 53 = .ok (.bipush 24, 2) := by decide +kernel
theorem dX0_init_55 : decode cX0_init 55 = .ok (.newarray .int, 2) := by decide +kernel
theorem dX0_init_57 : decode cX0_init 57 = .ok (.putfield 30, 3) := by decide +kernel
theorem dX0_init_60 : decode cX0_init 60 = .ok (.aload_n 0, 1) := by decide +kernel
theorem dX0_init_61 : decode cX0_init 61 = .ok (.iconst 2, 1) := by decide +kernel
theorem dX0_init_62 : decode cX0_init 62 = .ok (.anewarray 33, 3) := by decide +kernel
theorem dX0_init_65 : decode cX0_init 65 = .ok (.dup, 1) := by decide +kernel
theorem dX0_init_66 : decode cX0_init 66 = .ok (.iconst 0, 1) := by decide +kernel
theorem dX0_init_67 : decode cX0_init 67 = .ok (.new 33, 3) := by decide +kernel
theorem dX0_init_70 : decode cX0_init 70 = .ok (.dup, 1) := by decide +kernel
theorem dX0_init_71 : decode cX0_init 71 = .ok (.ldc 35, 2) := by decide +kernel
theorem dX0_init_73 : decode cX0_init 73 = .ok (.iconst 1, 1) := by decide +kernel
theorem dX0_init_74 : decode cX0_init 74 = .ok (.iconst 4, 1) := by decide +kernel
theorem dX0_init_75 : decode cX0_init 75 = .ok (.invokespecial 37, 3) := by decide +kernel
theorem dX0_init_78 : decode cX0_init 78 = .ok (.aastore, 1) := by decide +kernel
theorem dX0_init_79 : decode cX0_init 79 = .ok (.dup, 1) := by decide +kernel
theorem dX0_init_80 : decode cX0_init 80 = .ok (.iconst 1, 1) := by decide +kernel
theorem dX0_init_81 : decode cX0_init 81 = .ok (.new 33, 3) := by decide +kernel
theorem dX0_init_84 : decode cX0_init 84 = .ok (.dup, 1) := by decide +kernel
theorem dX0_init_85 : decode cX0_init 85 = .ok (.ldc 40, 2) := by decide +kernel
theorem dX0_init_87 : decode cX0_init 87 = .ok (.bipush (-30), 2) := by decide +kernel
theorem dX0_init_89 : decode cX0_init 89 = .ok (.bipush 30, 2) := by decide +kernel
theorem dX0_init_91 : decode cX0_init 91 = .ok (.invokespecial 37, 3) := by decide +kernel
theorem dX0_init_94 : decode cX0_init 94 = .ok (.aastore, 1) := by decide +kernel
theorem dX0_init_95 : decode cX0_init 95 = .ok (.putfield 42, 3) := by decide +kernel
theorem dX0_init_98 : decode cX0_init 98 = .ok (.aload_n 0, 1) := by decide +kernel
theorem dX0_init_99 : decode cX0_init 99 = .ok (.iconst 2, 1) := by decide +kernel
theorem dX0_init_100 : decode cX0_init 100 = .ok (.putfield 46, 3) := by decide +kernel
theorem dX0_init_103 : decode cX0_init 103 = .ok (.aload_n 0, 1) := by decide +kernel
theorem dX0_init_104 : decode cX0_init 104 = .ok (.bipush 20, 2) := by decide +kernel
theorem dX0_init_106 : decode cX0_init 106 = .ok (.putfield 50, 3) := by decide +kernel
theorem dX0_init_109 : decode cX0_init 109 = .ok (.aload_n 0, 1) := by decide +kernel
theorem dX0_init_110 : decode cX0_init 110 = .ok (.iconst 1, 1) := by decide +kernel
theorem dX0_init_111 : decode cX0_init 111 = .ok (.putfield 53, 3) := by decide +kernel
theorem dX0_init_114 : decode cX0_init 114 = .ok (.return_, 1) := by decide +kernel
theorem dX0_copy_0 : decode cX0_copy 0 = .ok (.aload_n 1, 1) := by decide +kernel
theorem dX0_copy_1 : decode cX0_copy 1 = .ok (.getfield 9, 3) := by decide +kernel
theorem dX0_copy_4 : decode cX0_copy 4 = .ok (.iconst 0, 1) := by decide +kernel
theorem dX0_copy_5 : decode cX0_copy 5 = .ok (.aload_n 0, 1) := by decide +kernel
theorem dX0_copy_6 : decode cX0_copy 6 = .ok (.getfield 9, 3) := by decide +kernel
theorem dX0_copy_9 : decode cX0_copy 9 = .ok (.iconst 0, 1) := by decide +kernel
theorem dX0_copy_10 : decode cX0_copy 10 = .ok (.bipush 8, 2) := by decide +kernel
theorem dX0_copy_12 : decode cX0_copy 12 = .ok (.invokestatic 56, 3) := by decide +kernel
theorem dX0_copy_15 : decode cX0_copy 15 = .ok (.aload_n 1, 1) := by decide +kernel
theorem dX0_copy_16 : decode cX0_copy 16 = .ok (.getfield 15, 3) := by decide +kernel
theorem dX0_copy_19 : decode cX0_copy 19 = .ok (.iconst 0, 1) := by decide +kernel
theorem dX0_copy_20 : decode cX0_copy 20 = .ok (.aload_n 0, 1) := by decide +kernel
theorem dX0_copy_21 : decode cX0_copy 21 = .ok (.getfield 15, 3) := by decide +kernel
theorem dX0_copy_24 : decode cX0_copy 24 = .ok (.iconst 0, 1) := by decide +kernel
theorem dX0_copy_25 : decode cX0_copy 25 = .ok (.bipush 8, 2) := by decide +kernel
theorem dX0_copy_27 : decode cX0_copy 27 = .ok (.invokestatic 56, 3) := by decide +kernel
theorem dX0_copy_30 : decode cX0_copy 30 = .ok (.aload_n 1, 1) := by decide +kernel
theorem dX0_copy_31 : decode cX0_copy 31 = .ok (.getfield 18, 3) := by decide +kernel
theorem dX0_copy_34 : decode cX0_copy 34 = .ok (.iconst 0, 1) := by decide +kernel
theorem dX0_copy_35 : decode cX0_copy 35 = .ok (.aload_n 0, 1) := by decide +kernel
theorem dX0_copy_36 : decode cX0_copy 36 = .ok (.getfield 18, 3) := by decide +kernel
theorem dX0_copy_39 : decode cX0_copy 39 = .ok (.iconst 0, 1) := by decide +kernel
theorem dX0_copy_40 : decode cX0_copy 40 = .ok (.bipush 8, 2) := by decide +kernel
theorem dX0_copy_42 : decode cX0_copy 42 = .ok (.invokestatic 56, 3) := by decide +kernel
theorem dX0_copy_45 : decode cX0_copy 45 = .ok (.aload_n 1, 1) := by decide +kernel
theorem dX0_copy_46 : decode cX0_copy 46 = .ok (.getfield 21, 3) := by decide +kernel
theorem dX0_copy_49 : decode cX0_copy 49 = .ok (.iconst 0, 1) := by decide +kernel
theorem dX0_copy_50 : decode cX0_copy 50 = .ok (.aload_n 0, 1) := by decide +kernel
theorem dX0_copy_51 : decode cX0_copy 51 = .ok (.getfield 21, 3) := by decide +kernel
theorem dX0_copy_54 : decode cX0_copy 54 = .ok (.iconst 0, 1) := by decide +kernel
theorem dX0_copy_55 : decode cX0_copy 55 = .ok (.bipush 8, 2) := by decide +kernel
theorem dX0_copy_57 : decode cX0_copy 57 = .ok (.invokestatic 56, 3) := by decide +kernel
theorem dX0_copy_60 : decode cX0_copy 60 = .ok (.aload_n 1, 1) := by decide +kernel
theorem dX0_copy_61 : decode cX0_copy 61 = .ok (.getfield 24, 3) := by decide +kernel
theorem dX0_copy_64 : decode cX0_copy 64 = .ok (.iconst 0, 1) := by decide +kernel
theorem dX0_copy_65 : decode cX0_copy 65 = .ok (.aload_n 0, 1) := by decide +kernel
theorem dX0_copy_66 : decode cX0_copy 66 = .ok (.getfield 24, 3) := by decide +kernel
theorem dX0_copy_69 : decode cX0_copy 69 = .ok (.iconst 0, 1) := by decide +kernel
theorem dX0_copy_70 : decode cX0_copy 70 = .ok (.bipush 8, 2) := by decide +kernel
theorem dX0_copy_72 : decode cX0_copy 72 = .ok (.invokestatic 56, 3) := by decide +kernel
theorem dX0_copy_75 : decode cX0_copy 75 = .ok (.aload_n 1, 1) := by decide +kernel
theorem dX0_copy_76 : decode cX0_copy 76 = .ok (.getfield 27, 3) := by decide +kernel
theorem dX0_copy_79 : decode cX0_copy 79 = .ok (.iconst 0, 1) := by decide +kernel
theorem dX0_copy_80 : decode cX0_copy 80 = .ok (.aload_n 0, 1) := by decide +kernel
theorem dX0_copy_81 : decode cX0_copy 81 = .ok (.getfield 27, 3) := by decide +kernel
theorem dX0_copy_84 : decode cX0_copy 84 = .ok (.iconst 0, 1) := by decide +kernel
theorem dX0_copy_85 : decode cX0_copy 85 = .ok (.bipush 60, 2) := by decide +kernel
theorem dX0_copy_87 : decode cX0_copy 87 = .ok (.invokestatic 56, 3) := by decide +kernel
theorem dX0_copy_90 : decode cX0_copy 90 = .ok (.aload_n 1, 1) := by decide +kernel
theorem dX0_copy_91 : decode cX0_copy 91 = .ok (.getfield 30, 3) := by decide +kernel
theorem dX0_copy_94 : decode cX0_copy 94 = .ok (.iconst 0, 1) := by decide +kernel
theorem dX0_copy_95 : decode cX0_copy 95 = .ok (.aload_n 0, 1) := by decide +kernel
theorem dX0_copy_96 : decode cX0_copy 96 = .ok (.getfield 30, 3) := by decide +kernel
theorem dX0_copy_99 : decode cX0_copy 99 = .ok (.iconst 0, 1) := by decide +kernel
theorem dX0_copy_100 : decode cX0_copy 100 = .ok (.bipush 24, 2) := by decide +kernel
theorem dX0_copy_102 : decode cX0_copy 102 = .ok (.invokestatic 56, 3) := by decide +kernel
theorem dX0_copy_105 : decode cX0_copy 105 = .ok (.iconst 0, 1) := by decide +kernel
theorem dX0_copy_106 : decode cX0_copy 106 = .ok (.istore_n 2, 1) := by decide +kernel
theorem dX0_copy_107 : decode cX0_copy 107 = .ok (.iload_n 2, 1) := by decide +kernel
theorem dX0_copy_108 : decode cX0_copy 108 = .ok (.iconst 2, 1) := by decide +kernel
theorem dX0_copy_109 : decode cX0_copy 109 = .ok (.if_icmp .ge 36, 3) := by decide +kernel
theorem dX0_copy_112 : decode cX0_copy 112 = .ok (.aload_n 0, 1) := by decide +kernel
theorem dX0_copy_113 : decode cX0_copy 113 = .ok (.getfield 42, 3) := by decide +kernel
theorem dX0_copy_116 : decode cX0_copy 116 = .ok (.iload_n 2, 1) := by decide +kernel
theorem dX0_copy_117 : decode cX0_copy 117 = .ok (.aaload, 1) := by decide +kernel
theorem dX0_copy_118 : decode cX0_copy 118 = .ok (.aload_n 1, 1) := by decide +kernel
theorem dX0_copy_119 : decode cX0_copy 119 = .ok (.getfield 42, 3) := by decide +kernel
theorem dX0_copy_122 : decode cX0_copy 122 = .ok (.iload_n 2, 1) := by decide +kernel
theorem dX0_copy_123 : decode cX0_copy 123 = .ok (.aaload, 1) := by decide +kernel
theorem dX0_copy_124 : decode cX0_copy 124 = .ok (.getfield 62, 3) := by decide +kernel
theorem dX0_copy_127 : decode cX0_copy 127 = .ok (.aload_n 1, 1) := by decide +kernel
theorem dX0_copy_128 : decode cX0_copy 128 = .ok (.getfield 42, 3) := by decide +kernel
theorem dX0_copy_131 : decode cX0_copy 131 = .ok (.iload_n 2, 1) := by decide +kernel
theorem dX0_copy_132 : decode cX0_copy 132 = .ok (.aaload, 1) := by decide +kernel
theorem dX0_copy_133 : decode cX0_copy 133 = .ok (.getfield 65, 3) := by decide +kernel
theorem dX0_copy_136 : decode cX0_copy 136 = .ok (.invokevirtual 68, 3) := by decide +kernel
theorem dX0_copy_139 : decode cX0_copy 139 = .ok (.iinc 2 1, 3) := by decide +kernel
theorem dX0_copy_142 : decode cX0_copy 142 = .ok (.goto (-35), 3) := by decide +kernel
theorem dX0_copy_145 : decode cX0_copy 145 = .ok (.aload_n 0, 1) := by decide +kernel
theorem dX0_copy_146 : decode cX0_copy 146 = .ok (.aload_n 1, 1) := by decide +kernel
theorem dX0_copy_147 : decode cX0_copy 147 = .ok (.getfield 72, 3) := by decide +kernel
theorem dX0_copy_150 : decode cX0_copy 150 = .ok (.putfield 72, 3) := by decide +kernel
theorem dX0_copy_153 : decode cX0_copy 153 = .ok (.aload_n 0, 1) := by decide +kernel
theorem dX0_copy_154 : decode cX0_copy 154 = .ok (.aload_n 1, 1) := by decide +kernel
theorem dX0_copy_155 : decode cX0_copy 155 = .ok (.getfield 75, 3) := by decide +kernel
theorem dX0_copy_158 : decode cX0_copy 158 = .ok (.putfield 75, 3) := by decide +kernel
theorem dX0_copy_161 : decode cX0_copy 161 = .ok (.aload_n 0, 1) := by decide +kernel
theorem dX0_copy_162 : decode cX0_copy 162 = .ok (.aload_n 1, 1) := by decide +kernel
theorem dX0_copy_163 : decode cX0_copy 163 = .ok (.getfield 46, 3) := by decide +kernel
theorem dX0_copy_166 : decode cX0_copy 166 = .ok (.putfield 46, 3) := by decide +kernel
theorem dX0_copy_169 : decode cX0_copy 169 = .ok (.aload_n 0, 1) := by decide +kernel
theorem dX0_copy_170 : decode cX0_copy 170 = .ok (.aload_n 1, 1) := by decide +kernel
theorem dX0_copy_171 : decode cX0_copy 171 = .ok (.getfield 78, 3) := by decide +kernel
theorem dX0_copy_174 : decode cX0_copy 174 = .ok (.putfield 78, 3) := by decide +kernel
theorem dX0_copy_177 : decode cX0_copy 177 = .ok (.aload_n 0, 1) := by decide +kernel
theorem dX0_copy_178 : decode cX0_copy 178 = .ok (.aload_n 1, 1) := by decide +kernel
theorem dX0_copy_179 : decode cX0_copy 179 = .ok (.getfield 50, 3) := by decide +kernel
theorem dX0_copy_182 : decode cX0_copy 182 = .ok (.putfield 50, 3) := by decide +kernel
theorem dX0_copy_185 : decode cX0_copy 185 = .ok (.aload_n 0, 1) := by decide +kernel
theorem dX0_copy_186 : decode cX0_copy 186 = .ok (.aload_n 1, 1) := by decide +kernel
theorem dX0_copy_187 : decode cX0_copy 187 = .ok (.getfield 81, 3) := by decide +kernel
theorem dX0_copy_190 : decode cX0_copy 190 = .ok (.putfield 81, 3) := by decide +kernel
theorem dX0_copy_193 : decode cX0_copy 193 = .ok (.aload_n 0, 1) := by decide +kernel
theorem dX0_copy_194 : decode cX0_copy 194 = .ok (.aload_n 1, 1) := by decide +kernel
theorem dX0_copy_195 : decode cX0_copy 195 = .ok (.getfield 53, 3) := by decide +kernel
theorem dX0_copy_198 : decode cX0_copy 198 = .ok (.putfield 53, 3) := by decide +kernel
theorem dX0_copy_201 : decode cX0_copy 201 = .ok (.aload_n 0, 1) := by decide +kernel
theorem dX0_copy_202 : decode cX0_copy 202 = .ok (.aload_n 1, 1) := by decide +kernel
theorem dX0_copy_203 : decode cX0_copy 203 = .ok (.getfield 84, 3) := by decide +kernel
theorem dX0_copy_206 : decode cX0_copy 206 = .ok (.putfield 84, 3) := by decide +kernel
theorem dX0_copy_209 : decode cX0_copy 209 = .ok (.aload_n 0, 1) := by decide +kernel
theorem dX0_copy_210 : decode cX0_copy 210 = .ok (.aload_n 1, 1) := by decide +kernel
theorem dX0_copy_211 : decode cX0_copy 211 = .ok (.getfield 87, 3) := by decide +kernel
theorem dX0_copy_214 : decode cX0_copy 214 = .ok (.putfield 87, 3) := by decide +kernel
theorem dX0_copy_217 : decode cX0_copy 217 = .ok (.return_, 1) := by decide +kernel
theorem dX0_add_0 : decode cX0_add 0 = .ok (.aload_n 0, 1) := by decide +kernel
theorem dX0_add_1 : decode cX0_add 1 = .ok (.getfield 72, 3) := by decide +kernel
theorem dX0_add_4 : decode cX0_add 4 = .ok (.istore 5, 2) := by decide +kernel
theorem dX0_add_6 : decode cX0_add 6 = .ok (.aload_n 0, 1) := by decide +kernel
theorem dX0_add_7 : decode cX0_add 7 = .ok (.getfield 9, 3) := by decide +kernel
theorem dX0_add_10 : decode cX0_add 10 = .ok (.iload 5, 2) := by decide +kernel
theorem dX0_add_12 : decode cX0_add 12 = .ok (.iload_n 1, 1) := by decide +kernel
theorem dX0_add_13 : decode cX0_add 13 = .ok (.bipush 10, 2) := by decide +kernel
theorem dX0_add_15 : decode cX0_add 15 = .ok (.idiv, 1) := by decide +kernel
theorem dX0_add_16 : decode cX0_add 16 = .ok (.iastore, 1) := by decide +kernel
theorem dX0_add_17 : decode cX0_add 17 = .ok (.aload_n 0, 1) := by decide +kernel
theorem dX0_add_18 : decode cX0_add 18 = .ok (.getfield 15, 3) := by decide +kernel
theorem dX0_add_21 : decode cX0_add 21 = .ok (.iload 5, 2) := by decide +kernel
theorem dX0_add_23 : decode cX0_add 23 = .ok (.iload_n 1, 1) := by decide +kernel
theorem dX0_add_24 : decode cX0_add 24 = .ok (.bipush 10, 2) := by decide +kernel
theorem dX0_add_26 : decode cX0_add 26 = .ok (.irem, 1) := by decide +kernel
theorem dX0_add_27 : decode cX0_add 27 = .ok (.iastore, 1) := by decide +kernel
theorem dX0_add_28 : decode cX0_add 28 = .ok (.aload_n 0, 1) := by decide +kernel
theorem dX0_add_29 : decode cX0_add 29 = .ok (.getfield 18, 3) := by decide +kernel
theorem dX0_add_32 : decode cX0_add 32 = .ok (.iload 5, 2) := by decide +kernel
theorem dX0_add_34 : decode cX0_add 34 = .ok (.iload_n 2, 1) := by decide +kernel
theorem dX0_add_35 : decode cX0_add 35 = .ok (.iastore, 1) := by decide +kernel
theorem dX0_add_36 : decode cX0_add 36 = .ok (.aload_n 0, 1) := by decide +kernel
theorem dX0_add_37 : decode cX0_add 37 = .ok (.getfield 21, 3) := by decide +kernel
theorem dX0_add_40 : decode cX0_add 40 = .ok (.iload 5, 2) := by decide +kernel
theorem dX0_add_42 : decode cX0_add 42 = .ok (.iload_n 3, 1) := by decide +kernel
theorem dX0_add_43 : decode cX0_add 43 = .ok (.iastore, 1) := by decide +kernel
theorem dX0_add_44 : decode cX0_add 44 = .ok (.aload_n 0, 1) := by decide +kernel
theorem dX0_add_45 : decode cX0_add 45 = .ok (.getfield 24, 3) := by decide +kernel
theorem dX0_add_48 : decode cX0_add 48 = .ok (.iload 5, 2) := by decide +kernel
theorem dX0_add_50 : decode cX0_add 50 = .ok (.iload 4, 2) := by decide +kernel
theorem dX0_add_52 : decode cX0_add 52 = .ok (.iastore, 1) := by decide +kernel
theorem dX0_add_53 : decode cX0_add 53 = .ok (.aload_n 0, 1) := by decide +kernel
theorem dX0_add_54 : decode cX0_add 54 = .ok (.iload 5, 2) := by decide +kernel
theorem dX0_add_56 : decode cX0_add 56 = .ok (.iconst 1, 1) := by decide +kernel
theorem dX0_add_57 : decode cX0_add 57 = .ok (.invokevirtual 90, 3) := by decide +kernel
theorem dX0_add_60 : decode cX0_add 60 = .ok (.aload_n 0, 1) := by decide +kernel
theorem dX0_add_61 : decode cX0_add 61 = .ok (.dup, 1) := by decide +kernel
theorem dX0_add_62 : decode cX0_add 62 = .ok (.getfield 72, 3) := by decide +kernel
theorem dX0_add_65 : decode cX0_add 65 = .ok (.iconst 1, 1) := by decide +kernel
theorem dX0_add_66 : decode cX0_add 66 = .ok (.iadd, 1) := by decide +kernel
theorem dX0_add_67 : decode cX0_add 67 = .ok (.putfield 72, 3) := by decide +kernel
theorem dX0_add_70 : decode cX0_add 70 = .ok (.iload 5, 2) := by decide +kernel
theorem dX0_add_72 : decode cX0_add 72 = .ok (.ireturn, 1) := by decide +kernel
theorem dX0_isOn_0 : decode cX0_isOn 0 = .ok (.aload_n 0, 1) := by decide +kernel
theorem dX0_isOn_1 : decode cX0_isOn 1 = .ok (.getfield 75, 3) := by decide +kernel
theorem dX0_isOn_4 : decode cX0_isOn 4 = .ok (.iload_n 1, 1) := by decide +kernel
theorem dX0_isOn_5 : decode cX0_isOn 5 = .ok (.ishr, 1) := by decide +kernel
theorem dX0_isOn_6 : decode cX0_isOn 6 = .ok (.iconst 1, 1) := by decide +kernel
theorem dX0_isOn_7 : decode cX0_isOn 7 = .ok (.iand, 1) := by decide +kernel
theorem dX0_isOn_8 : decode cX0_isOn 8 = .ok (.iconst 1, 1) := by decide +kernel
theorem dX0_isOn_9 : decode cX0_isOn 9 = .ok (.if_icmp .ne 7, 3) := by decide +kernel
theorem dX0_isOn_12 : decode cX0_isOn 12 = .ok (.iconst 1, 1) := by decide +kernel
theorem dX0_isOn_13 : decode cX0_isOn 13 = .ok (.goto 4, 3) := by decide +kernel
theorem dX0_isOn_16 : decode cX0_isOn 16 = .ok (.iconst 0, 1) := by decide +kernel
theorem dX0_isOn_17 : decode cX0_isOn 17 = .ok (.ireturn, 1) := by decide +kernel
theorem dX0_turn_0 : decode cX0_turn 0 = .ok (.aload_n 0, 1) := by decide +kernel
theorem dX0_turn_1 : decode cX0_turn 1 = .ok (.iload_n 2, 1) := by decide +kernel
theorem dX0_turn_2 : decode cX0_turn 2 = .ok (.ifCond .eq 14, 3) := by decide +kernel
theorem dX0_turn_5 : decode cX0_turn 5 = .ok (.aload_n 0, 1) := by decide +kernel
theorem dX0_turn_6 : decode cX0_turn 6 = .ok (.getfield 75, 3) := by decide +kernel
theorem dX0_turn_9 : decode cX0_turn 9 = .ok (.iconst 1, 1) := by decide +kernel
theorem dX0_turn_10 : decode cX0_turn 10 = .ok (.iload_n 1, 1) := by decide +kernel
theorem dX0_turn_11 : decode cX0_turn 11 = .ok (.ishl, 1) := by decide +kernel
theorem dX0_turn_12 : decode cX0_turn 12 = .ok (.ior, 1) := by decide +kernel
theorem dX0_turn_13 : decode cX0_turn 13 = .ok (.goto 13, 3) := by decide +kernel
theorem dX0_turn_16 : decode cX0_turn 16 = .ok (.aload_n 0, 1) := by decide +kernel
theorem dX0_turn_17 : decode cX0_turn 17 = .ok (.getfield 75, 3) := by decide +kernel
theorem dX0_turn_20 : decode cX0_turn 20 = .ok (.iconst 1, 1) := by decide +kernel
theorem dX0_turn_21 : decode cX0_turn 21 = .ok (.iload_n 1, 1) := by decide +kernel
theorem dX0_turn_22 : decode cX0_turn 22 = .ok (.ishl, 1) := by decide +kernel
theorem dX0_turn_23 : decode cX0_turn 23 = .ok (.iconst (-1), 1) := by decide +kernel
theorem dX0_turn_24 : decode cX0_turn 24 = .ok (.ixor, 1) := by decide +kernel
theorem dX0_turn_25 : decode cX0_turn 25 = .ok (.iand, 1) := by decide +kernel
theorem dX0_turn_26 : decode cX0_turn 26 = .ok (.putfield 75, 3) := by decide +kernel
theorem dX0_turn_29 : decode cX0_turn 29 = .ok (.return_, 1) := by decide +kernel
theorem dX0_lastPictureMarked_0 : decode cX0_lastPictureMarked 0 = .ok (.iconst (-1), 1) := by decide +kernel
theorem dX0_lastPictureMarked_1 : decode cX0_lastPictureMarked 1 = .ok (.istore_n 1, 1) := by decide +kernel
theorem dX0_lastPictureMarked_2 : decode cX0_lastPictureMarked 2 = .ok (.iconst 0, 1) := by decide +kernel
theorem dX0_lastPictureMarked_3 : decode cX0_lastPictureMarked 3 = .ok (.istore_n 2, 1) := by decide +kernel
theorem dX0_lastPictureMarked_4 : decode cX0_lastPictureMarked 4 = .ok (.iload_n 2, 1) := by decide +kernel
theorem dX0_lastPictureMarked_5 : decode cX0_lastPictureMarked 5 = .ok (.aload_n 0, 1) := by decide +kernel
theorem dX0_lastPictureMarked_6 : decode cX0_lastPictureMarked 6 = .ok (.getfield 72, 3) := by decide +kernel
theorem dX0_lastPictureMarked_9 : decode cX0_lastPictureMarked 9 = .ok (.if_icmp .ge 29, 3) := by decide +kernel
theorem dX0_lastPictureMarked_12 : decode cX0_lastPictureMarked 12 = .ok (.iload_n 1, 1) := by decide +kernel
theorem dX0_lastPictureMarked_13 : decode cX0_lastPictureMarked 13 = .ok (.aload_n 0, 1) := by decide +kernel
theorem dX0_lastPictureMarked_14 : decode cX0_lastPictureMarked 14 = .ok (.getfield 18, 3) := by decide +kernel
theorem dX0_lastPictureMarked_17 : decode cX0_lastPictureMarked 17 = .ok (.iload_n 2, 1) := by decide +kernel
theorem dX0_lastPictureMarked_18 : decode cX0_lastPictureMarked 18 = .ok (.iaload, 1) := by decide +kernel
theorem dX0_lastPictureMarked_19 : decode cX0_lastPictureMarked 19 = .ok (.aload_n 0, 1) := by decide +kernel
theorem dX0_lastPictureMarked_20 : decode cX0_lastPictureMarked 20 = .ok (.getfield 21, 3) := by decide +kernel
theorem dX0_lastPictureMarked_23 : decode cX0_lastPictureMarked 23 = .ok (.iload_n 2, 1) := by decide +kernel
theorem dX0_lastPictureMarked_24 : decode cX0_lastPictureMarked 24 = .ok (.iaload, 1) := by decide +kernel
theorem dX0_lastPictureMarked_25 : decode cX0_lastPictureMarked 25 = .ok (.invokestatic 94, 3) := by decide +kernel
theorem dX0_lastPictureMarked_28 : decode cX0_lastPictureMarked 28 = .ok (.invokestatic 94, 3) := by decide +kernel
theorem dX0_lastPictureMarked_31 : decode cX0_lastPictureMarked 31 = .ok (.istore_n 1, 1) := by decide +kernel
theorem dX0_lastPictureMarked_32 : decode cX0_lastPictureMarked 32 = .ok (.iinc 2 1, 3) := by decide +kernel
theorem dX0_lastPictureMarked_35 : decode cX0_lastPictureMarked 35 = .ok (.goto (-31), 3) := by decide +kernel
theorem dX0_lastPictureMarked_38 : decode cX0_lastPictureMarked 38 = .ok (.iload_n 1, 1) := by decide +kernel
theorem dX0_lastPictureMarked_39 : decode cX0_lastPictureMarked 39 = .ok (.ireturn, 1) := by decide +kernel
theorem dX0_tiedBy_0 : decode cX0_tiedBy 0 = .ok (.iconst 1, 1) := by decide +kernel
theorem dX0_tiedBy_1 : decode cX0_tiedBy 1 = .ok (.istore_n 2, 1) := by decide +kernel
theorem dX0_tiedBy_2 : decode cX0_tiedBy 2 = .ok (.iconst 0, 1) := by decide +kernel
theorem dX0_tiedBy_3 : decode cX0_tiedBy 3 = .ok (.istore_n 3, 1) := by decide +kernel
theorem dX0_tiedBy_4 : decode cX0_tiedBy 4 = .ok (.iload_n 3, 1) := by decide +kernel
theorem dX0_tiedBy_5 : decode cX0_tiedBy 5 = .ok (.aload_n 0, 1) := by decide +kernel
theorem dX0_tiedBy_6 : decode cX0_tiedBy 6 = .ok (.getfield 46, 3) := by decide +kernel
theorem dX0_tiedBy_9 : decode cX0_tiedBy 9 = .ok (.if_icmp .ge 74, 3) := by decide +kernel
theorem dX0_tiedBy_12 : decode cX0_tiedBy 12 = .ok (.iconst 0, 1) := by decide +kernel
theorem dX0_tiedBy_13 : decode cX0_tiedBy 13 = .ok (.istore 4, 2) := by decide +kernel
theorem dX0_tiedBy_15 : decode cX0_tiedBy 15 = .ok (.iload 4, 2) := by decide +kernel
theorem dX0_tiedBy_17 : decode cX0_tiedBy 17 = .ok (.aload_n 0, 1) := by decide +kernel
theorem dX0_tiedBy_18 : decode cX0_tiedBy 18 = .ok (.getfield 72, 3) := by decide +kernel
theorem dX0_tiedBy_21 : decode cX0_tiedBy 21 = .ok (.if_icmp .ge 56, 3) := by decide +kernel
theorem dX0_tiedBy_24 : decode cX0_tiedBy 24 = .ok (.iconst 1, 1) := by decide +kernel
theorem dX0_tiedBy_25 : decode cX0_tiedBy 25 = .ok (.aload_n 0, 1) := by decide +kernel
theorem dX0_tiedBy_26 : decode cX0_tiedBy 26 = .ok (.getfield 18, 3) := by decide +kernel
theorem dX0_tiedBy_29 : decode cX0_tiedBy 29 = .ok (.iload 4, 2) := by decide +kernel
theorem dX0_tiedBy_31 : decode cX0_tiedBy 31 = .ok (.iaload, 1) := by decide +kernel
theorem dX0_tiedBy_32 : decode cX0_tiedBy 32 = .ok (.iconst 1, 1) := by decide +kernel
theorem dX0_tiedBy_33 : decode cX0_tiedBy 33 = .ok (.iadd, 1) := by decide +kernel
theorem dX0_tiedBy_34 : decode cX0_tiedBy 34 = .ok (.ishl, 1) := by decide +kernel
theorem dX0_tiedBy_35 : decode cX0_tiedBy 35 = .ok (.iconst 1, 1) := by decide +kernel
theorem dX0_tiedBy_36 : decode cX0_tiedBy 36 = .ok (.aload_n 0, 1) := by decide +kernel
theorem dX0_tiedBy_37 : decode cX0_tiedBy 37 = .ok (.getfield 21, 3) := by decide +kernel
theorem dX0_tiedBy_40 : decode cX0_tiedBy 40 = .ok (.iload 4, 2) := by decide +kernel
theorem dX0_tiedBy_42 : decode cX0_tiedBy 42 = .ok (.iaload, 1) := by decide +kernel
theorem dX0_tiedBy_43 : decode cX0_tiedBy 43 = .ok (.iconst 1, 1) := by decide +kernel
theorem dX0_tiedBy_44 : decode cX0_tiedBy 44 = .ok (.iadd, 1) := by decide +kernel
theorem dX0_tiedBy_45 : decode cX0_tiedBy 45 = .ok (.ishl, 1) := by decide +kernel
theorem dX0_tiedBy_46 : decode cX0_tiedBy 46 = .ok (.ior, 1) := by decide +kernel
theorem dX0_tiedBy_47 : decode cX0_tiedBy 47 = .ok (.istore 5, 2) := by decide +kernel
theorem dX0_tiedBy_49 : decode cX0_tiedBy 49 = .ok (.iload_n 1, 1) := by decide +kernel
theorem dX0_tiedBy_50 : decode cX0_tiedBy 50 = .ok (.iload 4, 2) := by decide +kernel
theorem dX0_tiedBy_52 : decode cX0_tiedBy 52 = .ok (.ishr, 1) := by decide +kernel
theorem dX0_tiedBy_53 : decode cX0_tiedBy 53 = .ok (.iconst 1, 1) := by decide +kernel
theorem dX0_tiedBy_54 : decode cX0_tiedBy 54 = .ok (.iand, 1) := by decide +kernel
theorem dX0_tiedBy_55 : decode cX0_tiedBy 55 = .ok (.iconst 1, 1) := by decide +kernel
theorem dX0_tiedBy_56 : decode cX0_tiedBy 56 = .ok (.if_icmp .ne 15, 3) := by decide +kernel
theorem dX0_tiedBy_59 : decode cX0_tiedBy 59 = .ok (.iload_n 2, 1) := by decide +kernel
theorem dX0_tiedBy_60 : decode cX0_tiedBy 60 = .ok (.iload 5, 2) := by decide +kernel
theorem dX0_tiedBy_62 : decode cX0_tiedBy 62 = .ok (.iand, 1) := by decide +kernel
theorem dX0_tiedBy_63 : decode cX0_tiedBy 63 = .ok (.ifCond .eq 8, 3) := by decide +kernel
theorem dX0_tiedBy_66 : decode cX0_tiedBy 66 = .ok (.iload_n 2, 1) := by decide +kernel
theorem dX0_tiedBy_67 : decode cX0_tiedBy 67 = .ok (.iload 5, 2) := by decide +kernel
theorem dX0_tiedBy_69 : decode cX0_tiedBy 69 = .ok (.ior, 1) := by decide +kernel
theorem dX0_tiedBy_70 : decode cX0_tiedBy 70 = .ok (.istore_n 2, 1) := by decide +kernel
theorem dX0_tiedBy_71 : decode cX0_tiedBy 71 = .ok (.iinc 4 1, 3) := by decide +kernel
theorem dX0_tiedBy_74 : decode cX0_tiedBy 74 = .ok (.goto (-59), 3) := by decide +kernel
theorem dX0_tiedBy_77 : decode cX0_tiedBy 77 = .ok (.iinc 3 1, 3) := by decide +kernel
theorem dX0_tiedBy_80 : decode cX0_tiedBy 80 = .ok (.goto (-76), 3) := by decide +kernel
theorem dX0_tiedBy_83 : decode cX0_tiedBy 83 = .ok (.iload_n 2, 1) := by decide +kernel
theorem dX0_tiedBy_84 : decode cX0_tiedBy 84 = .ok (.iconst 1, 1) := by decide +kernel
theorem dX0_tiedBy_85 : decode cX0_tiedBy 85 = .ok (.ishr, 1) := by decide +kernel
theorem dX0_tiedBy_86 : decode cX0_tiedBy 86 = .ok (.ireturn, 1) := by decide +kernel
theorem dX0_holds_0 : decode cX0_holds 0 = .ok (.aload_n 0, 1) := by decide +kernel
theorem dX0_holds_1 : decode cX0_holds 1 = .ok (.iload_n 1, 1) := by decide +kernel
theorem dX0_holds_2 : decode cX0_holds 2 = .ok (.invokevirtual 100, 3) := by decide +kernel
theorem dX0_holds_5 : decode cX0_holds 5 = .ok (.iconst 1, 1) := by decide +kernel
theorem dX0_holds_6 : decode cX0_holds 6 = .ok (.aload_n 0, 1) := by decide +kernel
theorem dX0_holds_7 : decode cX0_holds 7 = .ok (.getfield 46, 3) := by decide +kernel
theorem dX0_holds_10 : decode cX0_holds 10 = .ok (.ishl, 1) := by decide +kernel
theorem dX0_holds_11 : decode cX0_holds 11 = .ok (.iconst 1, 1) := by decide +kernel
theorem dX0_holds_12 : decode cX0_holds 12 = .ok (.isub, 1) := by decide +kernel
theorem dX0_holds_13 : decode cX0_holds 13 = .ok (.if_icmp .ne 7, 3) := by decide +kernel
theorem dX0_holds_16 : decode cX0_holds 16 = .ok (.iconst 1, 1) := by decide +kernel
theorem dX0_holds_17 : decode cX0_holds 17 = .ok (.goto 4, 3) := by decide +kernel
theorem dX0_holds_20 : decode cX0_holds 20 = .ok (.iconst 0, 1) := by decide +kernel
theorem dX0_holds_21 : decode cX0_holds 21 = .ok (.ireturn, 1) := by decide +kernel
theorem dX0_touching_0 : decode cX0_touching 0 = .ok (.iconst 0, 1) := by decide +kernel
theorem dX0_touching_1 : decode cX0_touching 1 = .ok (.istore_n 2, 1) := by decide +kernel
theorem dX0_touching_2 : decode cX0_touching 2 = .ok (.iconst 0, 1) := by decide +kernel
theorem dX0_touching_3 : decode cX0_touching 3 = .ok (.istore_n 3, 1) := by decide +kernel
theorem dX0_touching_4 : decode cX0_touching 4 = .ok (.iload_n 3, 1) := by decide +kernel
theorem dX0_touching_5 : decode cX0_touching 5 = .ok (.aload_n 0, 1) := by decide +kernel
theorem dX0_touching_6 : decode cX0_touching 6 = .ok (.getfield 72, 3) := by decide +kernel
theorem dX0_touching_9 : decode cX0_touching 9 = .ok (.if_icmp .ge 40, 3) := by decide +kernel
theorem dX0_touching_12 : decode cX0_touching 12 = .ok (.aload_n 0, 1) := by decide +kernel
theorem dX0_touching_13 : decode cX0_touching 13 = .ok (.iload_n 3, 1) := by decide +kernel
theorem dX0_touching_14 : decode cX0_touching 14 = .ok (.invokevirtual 104, 3) := by decide +kernel
theorem dX0_touching_17 : decode cX0_touching 17 = .ok (.ifCond .eq 26, 3) := by decide +kernel
theorem dX0_touching_20 : decode cX0_touching 20 = .ok (.aload_n 0, 1) := by decide +kernel
theorem dX0_touching_21 : decode cX0_touching 21 = .ok (.getfield 18, 3) := by decide +kernel
theorem dX0_touching_24 : decode cX0_touching 24 = .ok (.iload_n 3, 1) := by decide +kernel
theorem dX0_touching_25 : decode cX0_touching 25 = .ok (.iaload, 1) := by decide +kernel
theorem dX0_touching_26 : decode cX0_touching 26 = .ok (.iload_n 1, 1) := by decide +kernel
theorem dX0_touching_27 : decode cX0_touching 27 = .ok (.if_icmp .eq 13, 3) := by decide +kernel
theorem dX0_touching_30 : decode cX0_touching 30 = .ok (.aload_n 0, 1) := by decide +kernel
theorem dX0_touching_31 : decode cX0_touching 31 = .ok (.getfield 21, 3) := by decide +kernel
theorem dX0_touching_34 : decode cX0_touching 34 = .ok (.iload_n 3, 1) := by decide +kernel
theorem dX0_touching_35 : decode cX0_touching 35 = .ok (.iaload, 1) := by decide +kernel
theorem dX0_touching_36 : decode cX0_touching 36 = .ok (.iload_n 1, 1) := by decide +kernel
theorem dX0_touching_37 : decode cX0_touching 37 = .ok (.if_icmp .ne 6, 3) := by decide +kernel
theorem dX0_touching_40 : decode cX0_touching 40 = .ok (.iinc 2 1, 3) := by decide +kernel
theorem dX0_touching_43 : decode cX0_touching 43 = .ok (.iinc 3 1, 3) := by decide +kernel
theorem dX0_touching_46 : decode cX0_touching 46 = .ok (.goto (-42), 3) := by decide +kernel
theorem dX0_touching_49 : decode cX0_touching 49 = .ok (.iload_n 2, 1) := by decide +kernel
theorem dX0_touching_50 : decode cX0_touching 50 = .ok (.ireturn, 1) := by decide +kernel
theorem dX0_weightOf_0 : decode cX0_weightOf 0 = .ok (.aload_n 0, 1) := by decide +kernel
theorem dX0_weightOf_1 : decode cX0_weightOf 1 = .ok (.aload_n 0, 1) := by decide +kernel
theorem dX0_weightOf_2 : decode cX0_weightOf 2 = .ok (.getfield 21, 3) := by decide +kernel
theorem dX0_weightOf_5 : decode cX0_weightOf 5 = .ok (.iload_n 1, 1) := by decide +kernel
theorem dX0_weightOf_6 : decode cX0_weightOf 6 = .ok (.iaload, 1) := by decide +kernel
theorem dX0_weightOf_7 : decode cX0_weightOf 7 = .ok (.invokevirtual 108, 3) := by decide +kernel
theorem dX0_weightOf_10 : decode cX0_weightOf 10 = .ok (.istore_n 2, 1) := by decide +kernel
theorem dX0_weightOf_11 : decode cX0_weightOf 11 = .ok (.aload_n 0, 1) := by decide +kernel
theorem dX0_weightOf_12 : decode cX0_weightOf 12 = .ok (.getfield 42, 3) := by decide +kernel
theorem dX0_weightOf_15 : decode cX0_weightOf 15 = .ok (.iconst 0, 1) := by decide +kernel
theorem dX0_weightOf_16 : decode cX0_weightOf 16 = .ok (.aaload, 1) := by decide +kernel
theorem dX0_weightOf_17 : decode cX0_weightOf 17 = .ok (.aload_n 0, 1) := by decide +kernel
theorem dX0_weightOf_18 : decode cX0_weightOf 18 = .ok (.iload_n 1, 1) := by decide +kernel
theorem dX0_weightOf_19 : decode cX0_weightOf 19 = .ok (.iload_n 2, 1) := by decide +kernel
theorem dX0_weightOf_20 : decode cX0_weightOf 20 = .ok (.invokevirtual 111, 3) := by decide +kernel
theorem dX0_weightOf_23 : decode cX0_weightOf 23 = .ok (.iload_n 2, 1) := by decide +kernel
theorem dX0_weightOf_24 : decode cX0_weightOf 24 = .ok (.aload_n 0, 1) := by decide +kernel
theorem dX0_weightOf_25 : decode cX0_weightOf 25 = .ok (.getfield 78, 3) := by decide +kernel
theorem dX0_weightOf_28 : decode cX0_weightOf 28 = .ok (.bipush 8, 2) := by decide +kernel
theorem dX0_weightOf_30 : decode cX0_weightOf 30 = .ok (.irem, 1) := by decide +kernel
theorem dX0_weightOf_31 : decode cX0_weightOf 31 = .ok (.invokevirtual 114, 3) := by decide +kernel
theorem dX0_weightOf_34 : decode cX0_weightOf 34 = .ok (.ireturn, 1) := by decide +kernel
theorem dX0_weightOfAll_0 : decode cX0_weightOfAll 0 = .ok (.iconst 0, 1) := by decide +kernel
theorem dX0_weightOfAll_1 : decode cX0_weightOfAll 1 = .ok (.istore_n 2, 1) := by decide +kernel
theorem dX0_weightOfAll_2 : decode cX0_weightOfAll 2 = .ok (.iconst 0, 1) := by decide +kernel
theorem dX0_weightOfAll_3 : decode cX0_weightOfAll 3 = .ok (.istore_n 3, 1) := by decide +kernel
theorem dX0_weightOfAll_4 : decode cX0_weightOfAll 4 = .ok (.iload_n 3, 1) := by decide +kernel
theorem dX0_weightOfAll_5 : decode cX0_weightOfAll 5 = .ok (.aload_n 0, 1) := by decide +kernel
theorem dX0_weightOfAll_6 : decode cX0_weightOfAll 6 = .ok (.getfield 72, 3) := by decide +kernel
theorem dX0_weightOfAll_9 : decode cX0_weightOfAll 9 = .ok (.if_icmp .ge 26, 3) := by decide +kernel
theorem dX0_weightOfAll_12 : decode cX0_weightOfAll 12 = .ok (.iload_n 1, 1) := by decide +kernel
theorem dX0_weightOfAll_13 : decode cX0_weightOfAll 13 = .ok (.iload_n 3, 1) := by decide +kernel
theorem dX0_weightOfAll_14 : decode cX0_weightOfAll 14 = .ok (.ishr, 1) := by decide +kernel
theorem dX0_weightOfAll_15 : decode cX0_weightOfAll 15 = .ok (.iconst 1, 1) := by decide +kernel
theorem dX0_weightOfAll_16 : decode cX0_weightOfAll 16 = .ok (.iand, 1) := by decide +kernel
theorem dX0_weightOfAll_17 : decode cX0_weightOfAll 17 = .ok (.iconst 1, 1) := by decide +kernel
theorem dX0_weightOfAll_18 : decode cX0_weightOfAll 18 = .ok (.if_icmp .ne 11, 3) := by decide +kernel
theorem dX0_weightOfAll_21 : decode cX0_weightOfAll 21 = .ok (.iload_n 2, 1) := by decide +kernel
theorem dX0_weightOfAll_22 : decode cX0_weightOfAll 22 = .ok (.aload_n 0, 1) := by decide +kernel
theorem dX0_weightOfAll_23 : decode cX0_weightOfAll 23 = .ok (.iload_n 3, 1) := by decide +kernel
theorem dX0_weightOfAll_24 : decode cX0_weightOfAll 24 = .ok (.invokevirtual 118, 3) := by decide +kernel
theorem dX0_weightOfAll_27 : decode cX0_weightOfAll 27 = .ok (.iadd, 1) := by decide +kernel
theorem dX0_weightOfAll_28 : decode cX0_weightOfAll 28 = .ok (.istore_n 2, 1) := by decide +kernel
theorem dX0_weightOfAll_29 : decode cX0_weightOfAll 29 = .ok (.iinc 3 1, 3) := by decide +kernel
theorem dX0_weightOfAll_32 : decode cX0_weightOfAll 32 = .ok (.goto (-28), 3) := by decide +kernel
theorem dX0_weightOfAll_35 : decode cX0_weightOfAll 35 = .ok (.iload_n 2, 1) := by decide +kernel
theorem dX0_weightOfAll_36 : decode cX0_weightOfAll 36 = .ok (.ireturn, 1) := by decide +kernel
theorem dX0_saidBy_0 : decode cX0_saidBy 0 = .ok (.aload_n 0, 1) := by decide +kernel
theorem dX0_saidBy_1 : decode cX0_saidBy 1 = .ok (.getfield 42, 3) := by decide +kernel
theorem dX0_saidBy_4 : decode cX0_saidBy 4 = .ok (.iconst 1, 1) := by decide +kernel
theorem dX0_saidBy_5 : decode cX0_saidBy 5 = .ok (.aaload, 1) := by decide +kernel
theorem dX0_saidBy_6 : decode cX0_saidBy 6 = .ok (.aload_n 0, 1) := by decide +kernel
theorem dX0_saidBy_7 : decode cX0_saidBy 7 = .ok (.iload_n 1, 1) := by decide +kernel
theorem dX0_saidBy_8 : decode cX0_saidBy 8 = .ok (.invokevirtual 121, 3) := by decide +kernel
theorem dX0_saidBy_11 : decode cX0_saidBy 11 = .ok (.aload_n 0, 1) := by decide +kernel
theorem dX0_saidBy_12 : decode cX0_saidBy 12 = .ok (.getfield 24, 3) := by decide +kernel
theorem dX0_saidBy_15 : decode cX0_saidBy 15 = .ok (.iload_n 1, 1) := by decide +kernel
theorem dX0_saidBy_16 : decode cX0_saidBy 16 = .ok (.iaload, 1) := by decide +kernel
theorem dX0_saidBy_17 : decode cX0_saidBy 17 = .ok (.aload_n 0, 1) := by decide +kernel
theorem dX0_saidBy_18 : decode cX0_saidBy 18 = .ok (.getfield 78, 3) := by decide +kernel
theorem dX0_saidBy_21 : decode cX0_saidBy 21 = .ok (.bipush 8, 2) := by decide +kernel
theorem dX0_saidBy_23 : decode cX0_saidBy 23 = .ok (.irem, 1) := by decide +kernel
theorem dX0_saidBy_24 : decode cX0_saidBy 24 = .ok (.invokevirtual 114, 3) := by decide +kernel
theorem dX0_saidBy_27 : decode cX0_saidBy 27 = .ok (.ireturn, 1) := by decide +kernel
theorem dX0_weighed_0 : decode cX0_weighed 0 = .ok (.aload_n 0, 1) := by decide +kernel
theorem dX0_weighed_1 : decode cX0_weighed 1 = .ok (.getfield 9, 3) := by decide +kernel
theorem dX0_weighed_4 : decode cX0_weighed 4 = .ok (.iload_n 1, 1) := by decide +kernel
theorem dX0_weighed_5 : decode cX0_weighed 5 = .ok (.iaload, 1) := by decide +kernel
theorem dX0_weighed_6 : decode cX0_weighed 6 = .ok (.tableswitch 85 1 6 #[38, 40, 45, 61, 76, 83], 38) := by decide +kernel
theorem dX0_weighed_44 : decode cX0_weighed 44 = .ok (.iconst 3, 1) := by decide +kernel
theorem dX0_weighed_45 : decode cX0_weighed 45 = .ok (.ireturn, 1) := by decide +kernel
theorem dX0_weighed_46 : decode cX0_weighed 46 = .ok (.iload_n 2, 1) := by decide +kernel
theorem dX0_weighed_47 : decode cX0_weighed 47 = .ok (.invokestatic 124, 3) := by decide +kernel
theorem dX0_weighed_50 : decode cX0_weighed 50 = .ok (.ireturn, 1) := by decide +kernel
theorem dX0_weighed_51 : decode cX0_weighed 51 = .ok (.aload_n 0, 1) := by decide +kernel
theorem dX0_weighed_52 : decode cX0_weighed 52 = .ok (.getfield 15, 3) := by decide +kernel
theorem dX0_weighed_55 : decode cX0_weighed 55 = .ok (.iload_n 1, 1) := by decide +kernel
theorem dX0_weighed_56 : decode cX0_weighed 56 = .ok (.iaload, 1) := by decide +kernel
theorem dX0_weighed_57 : decode cX0_weighed 57 = .ok (.iconst 4, 1) := by decide +kernel
theorem dX0_weighed_58 : decode cX0_weighed 58 = .ok (.if_icmp .le 7, 3) := by decide +kernel
theorem dX0_weighed_61 : decode cX0_weighed 61 = .ok (.iconst 4, 1) := by decide +kernel
theorem dX0_weighed_62 : decode cX0_weighed 62 = .ok (.goto 4, 3) := by decide +kernel
theorem dX0_weighed_65 : decode cX0_weighed 65 = .ok (.iconst 2, 1) := by decide +kernel
theorem dX0_weighed_66 : decode cX0_weighed 66 = .ok (.ireturn, 1) := by decide +kernel
theorem dX0_weighed_67 : decode cX0_weighed 67 = .ok (.aload_n 0, 1) := by decide +kernel
theorem dX0_weighed_68 : decode cX0_weighed 68 = .ok (.getfield 78, 3) := by decide +kernel
theorem dX0_weighed_71 : decode cX0_weighed 71 = .ok (.iconst 2, 1) := by decide +kernel
theorem dX0_weighed_72 : decode cX0_weighed 72 = .ok (.irem, 1) := by decide +kernel
theorem dX0_weighed_73 : decode cX0_weighed 73 = .ok (.ifCond .ne 7, 3) := by decide +kernel
theorem dX0_weighed_76 : decode cX0_weighed 76 = .ok (.iconst 3, 1) := by decide +kernel
theorem dX0_weighed_77 : decode cX0_weighed 77 = .ok (.goto 4, 3) := by decide +kernel
theorem dX0_weighed_80 : decode cX0_weighed 80 = .ok (.iconst 1, 1) := by decide +kernel
theorem dX0_weighed_81 : decode cX0_weighed 81 = .ok (.ireturn, 1) := by decide +kernel
theorem dX0_weighed_82 : decode cX0_weighed 82 = .ok (.iload_n 2, 1) := by decide +kernel
theorem dX0_weighed_83 : decode cX0_weighed 83 = .ok (.invokestatic 124, 3) := by decide +kernel
theorem dX0_weighed_86 : decode cX0_weighed 86 = .ok (.iconst 1, 1) := by decide +kernel
theorem dX0_weighed_87 : decode cX0_weighed 87 = .ok (.isub, 1) := by decide +kernel
theorem dX0_weighed_88 : decode cX0_weighed 88 = .ok (.ireturn, 1) := by decide +kernel
theorem dX0_weighed_89 : decode cX0_weighed 89 = .ok (.iconst 4, 1) := by decide +kernel
theorem dX0_weighed_90 : decode cX0_weighed 90 = .ok (.ireturn, 1) := by decide +kernel
theorem dX0_weighed_91 : decode cX0_weighed 91 = .ok (.iconst 2, 1) := by decide +kernel
theorem dX0_weighed_92 : decode cX0_weighed 92 = .ok (.ireturn, 1) := by decide +kernel
theorem dX0_starWeighed_0 : decode cX0_starWeighed 0 = .ok (.iload_n 0, 1) := by decide +kernel
theorem dX0_starWeighed_1 : decode cX0_starWeighed 1 = .ok (.iconst 3, 1) := by decide +kernel
theorem dX0_starWeighed_2 : decode cX0_starWeighed 2 = .ok (.if_icmp .le 7, 3) := by decide +kernel
theorem dX0_starWeighed_5 : decode cX0_starWeighed 5 = .ok (.iconst 1, 1) := by decide +kernel
theorem dX0_starWeighed_6 : decode cX0_starWeighed 6 = .ok (.goto 4, 3) := by decide +kernel
theorem dX0_starWeighed_9 : decode cX0_starWeighed 9 = .ok (.iconst 3, 1) := by decide +kernel
theorem dX0_starWeighed_10 : decode cX0_starWeighed 10 = .ok (.ireturn, 1) := by decide +kernel
theorem dX0_read_0 : decode cX0_read 0 = .ok (.aload_n 0, 1) := by decide +kernel
theorem dX0_read_1 : decode cX0_read 1 = .ok (.getfield 24, 3) := by decide +kernel
theorem dX0_read_4 : decode cX0_read 4 = .ok (.iload_n 1, 1) := by decide +kernel
theorem dX0_read_5 : decode cX0_read 5 = .ok (.iaload, 1) := by decide +kernel
theorem dX0_read_6 : decode cX0_read 6 = .ok (.istore_n 2, 1) := by decide +kernel
theorem dX0_read_7 : decode cX0_read 7 = .ok (.aload_n 0, 1) := by decide +kernel
theorem dX0_read_8 : decode cX0_read 8 = .ok (.getfield 9, 3) := by decide +kernel
theorem dX0_read_11 : decode cX0_read 11 = .ok (.iload_n 1, 1) := by decide +kernel
theorem dX0_read_12 : decode cX0_read 12 = .ok (.iaload, 1) := by decide +kernel
theorem dX0_read_13 : decode cX0_read 13 = .ok (.tableswitch 83 3 6 #[31, 44, 64, 70], 31) := by decide +kernel
theorem dX0_read_44 : decode cX0_read 44 = .ok (.iload_n 2, 1) := by decide +kernel
theorem dX0_read_45 : decode cX0_read 45 = .ok (.aload_n 0, 1) := by decide +kernel
theorem dX0_read_46 : decode cX0_read 46 = .ok (.getfield 15, 3) := by decide +kernel
theorem dX0_read_49 : decode cX0_read 49 = .ok (.iload_n 1, 1) := by decide +kernel
theorem dX0_read_50 : decode cX0_read 50 = .ok (.iaload, 1) := by decide +kernel
theorem dX0_read_51 : decode cX0_read 51 = .ok (.iconst 3, 1) := by decide +kernel
theorem dX0_read_52 : decode cX0_read 52 = .ok (.irem, 1) := by decide +kernel
theorem dX0_read_53 : decode cX0_read 53 = .ok (.iadd, 1) := by decide +kernel
theorem dX0_read_54 : decode cX0_read 54 = .ok (.iconst 1, 1) := by decide +kernel
theorem dX0_read_55 : decode cX0_read 55 = .ok (.isub, 1) := by decide +kernel
theorem dX0_read_56 : decode cX0_read 56 = .ok (.ireturn, 1) := by decide +kernel
theorem dX0_read_57 : decode cX0_read 57 = .ok (.iload_n 2, 1) := by decide +kernel
theorem dX0_read_58 : decode cX0_read 58 = .ok (.aload_n 0, 1) := by decide +kernel
theorem dX0_read_59 : decode cX0_read 59 = .ok (.getfield 78, 3) := by decide +kernel
theorem dX0_read_62 : decode cX0_read 62 = .ok (.iconst 1, 1) := by decide +kernel
theorem dX0_read_63 : decode cX0_read 63 = .ok (.aload_n 0, 1) := by decide +kernel
theorem dX0_read_64 : decode cX0_read 64 = .ok (.getfield 15, 3) := by decide +kernel
theorem dX0_read_67 : decode cX0_read 67 = .ok (.iload_n 1, 1) := by decide +kernel
theorem dX0_read_68 : decode cX0_read 68 = .ok (.iaload, 1) := by decide +kernel
theorem dX0_read_69 : decode cX0_read 69 = .ok (.iconst 1, 1) := by decide +kernel
theorem dX0_read_70 : decode cX0_read 70 = .ok (.iadd, 1) := by decide +kernel
theorem dX0_read_71 : decode cX0_read 71 = .ok (.invokestatic 94, 3) := by decide +kernel
theorem dX0_read_74 : decode cX0_read 74 = .ok (.irem, 1) := by decide +kernel
theorem dX0_read_75 : decode cX0_read 75 = .ok (.iadd, 1) := by decide +kernel
theorem dX0_read_76 : decode cX0_read 76 = .ok (.ireturn, 1) := by decide +kernel
theorem dX0_read_77 : decode cX0_read 77 = .ok (.iconst 2, 1) := by decide +kernel
theorem dX0_read_78 : decode cX0_read 78 = .ok (.iload_n 2, 1) := by decide +kernel
theorem dX0_read_79 : decode cX0_read 79 = .ok (.iconst 2, 1) := by decide +kernel
theorem dX0_read_80 : decode cX0_read 80 = .ok (.idiv, 1) := by decide +kernel
theorem dX0_read_81 : decode cX0_read 81 = .ok (.imul, 1) := by decide +kernel
theorem dX0_read_82 : decode cX0_read 82 = .ok (.ireturn, 1) := by decide +kernel
theorem dX0_read_83 : decode cX0_read 83 = .ok (.iconst 0, 1) := by decide +kernel
theorem dX0_read_84 : decode cX0_read 84 = .ok (.iload_n 2, 1) := by decide +kernel
theorem dX0_read_85 : decode cX0_read 85 = .ok (.invokestatic 94, 3) := by decide +kernel
theorem dX0_read_88 : decode cX0_read 88 = .ok (.aload_n 0, 1) := by decide +kernel
theorem dX0_read_89 : decode cX0_read 89 = .ok (.getfield 15, 3) := by decide +kernel
theorem dX0_read_92 : decode cX0_read 92 = .ok (.iload_n 1, 1) := by decide +kernel
theorem dX0_read_93 : decode cX0_read 93 = .ok (.iaload, 1) := by decide +kernel
theorem dX0_read_94 : decode cX0_read 94 = .ok (.isub, 1) := by decide +kernel
theorem dX0_read_95 : decode cX0_read 95 = .ok (.ireturn, 1) := by decide +kernel
theorem dX0_read_96 : decode cX0_read 96 = .ok (.iload_n 2, 1) := by decide +kernel
theorem dX0_read_97 : decode cX0_read 97 = .ok (.ireturn, 1) := by decide +kernel
theorem dX0_drawMark_0 : decode cX0_drawMark 0 = .ok (.aload_n 0, 1) := by decide +kernel
theorem dX0_drawMark_1 : decode cX0_drawMark 1 = .ok (.getfield 72, 3) := by decide +kernel
theorem dX0_drawMark_4 : decode cX0_drawMark 4 = .ok (.ifCond .le 35, 3) := by decide +kernel
theorem dX0_drawMark_7 : decode cX0_drawMark 7 = .ok (.aload_n 0, 1) := by decide +kernel
theorem dX0_drawMark_8 : decode cX0_drawMark 8 = .ok (.invokevirtual 127, 3) := by decide +kernel
theorem dX0_drawMark_11 : decode cX0_drawMark 11 = .ok (.aload_n 0, 1) := by decide +kernel
theorem dX0_drawMark_12 : decode cX0_drawMark 12 = .ok (.getfield 72, 3) := by decide +kernel
theorem dX0_drawMark_15 : decode cX0_drawMark 15 = .ok (.irem, 1) := by decide +kernel
theorem dX0_drawMark_16 : decode cX0_drawMark 16 = .ok (.istore_n 1, 1) := by decide +kernel
theorem dX0_drawMark_17 : decode cX0_drawMark 17 = .ok (.aload_n 0, 1) := by decide +kernel
theorem dX0_drawMark_18 : decode cX0_drawMark 18 = .ok (.getfield 24, 3) := by decide +kernel
theorem dX0_drawMark_21 : decode cX0_drawMark 21 = .ok (.iload_n 1, 1) := by decide +kernel
theorem dX0_drawMark_22 : decode cX0_drawMark 22 = .ok (.aload_n 0, 1) := by decide +kernel
theorem dX0_drawMark_23 : decode cX0_drawMark 23 = .ok (.invokevirtual 127, 3) := by decide +kernel
theorem dX0_drawMark_26 : decode cX0_drawMark 26 = .ok (.bipush 41, 2) := by decide +kernel
theorem dX0_drawMark_28 : decode cX0_drawMark 28 = .ok (.irem, 1) := by decide +kernel
theorem dX0_drawMark_29 : decode cX0_drawMark 29 = .ok (.bipush 20, 2) := by decide +kernel
theorem dX0_drawMark_31 : decode cX0_drawMark 31 = .ok (.isub, 1) := by decide +kernel
theorem dX0_drawMark_32 : decode cX0_drawMark 32 = .ok (.iastore, 1) := by decide +kernel
theorem dX0_drawMark_33 : decode cX0_drawMark 33 = .ok (.aload_n 0, 1) := by decide +kernel
theorem dX0_drawMark_34 : decode cX0_drawMark 34 = .ok (.iload_n 1, 1) := by decide +kernel
theorem dX0_drawMark_35 : decode cX0_drawMark 35 = .ok (.iconst 1, 1) := by decide +kernel
theorem dX0_drawMark_36 : decode cX0_drawMark 36 = .ok (.invokevirtual 90, 3) := by decide +kernel
theorem dX0_drawMark_39 : decode cX0_drawMark 39 = .ok (.return_, 1) := by decide +kernel
theorem dX0_draw_0 : decode cX0_draw 0 = .ok (.aload_n 0, 1) := by decide +kernel
theorem dX0_draw_1 : decode cX0_draw 1 = .ok (.aload_n 0, 1) := by decide +kernel
theorem dX0_draw_2 : decode cX0_draw 2 = .ok (.getfield 53, 3) := by decide +kernel
theorem dX0_draw_5 : decode cX0_draw 5 = .ok (.ldc 131, 2) := by decide +kernel
theorem dX0_draw_7 : decode cX0_draw 7 = .ok (.imul, 1) := by decide +kernel
theorem dX0_draw_8 : decode cX0_draw 8 = .ok (.sipush 12345, 3) := by decide +kernel
theorem dX0_draw_11 : decode cX0_draw 11 = .ok (.iadd, 1) := by decide +kernel
theorem dX0_draw_12 : decode cX0_draw 12 = .ok (.putfield 53, 3) := by decide +kernel
theorem dX0_draw_15 : decode cX0_draw 15 = .ok (.aload_n 0, 1) := by decide +kernel
theorem dX0_draw_16 : decode cX0_draw 16 = .ok (.getfield 53, 3) := by decide +kernel
theorem dX0_draw_19 : decode cX0_draw 19 = .ok (.bipush 8, 2) := by decide +kernel
theorem dX0_draw_21 : decode cX0_draw 21 = .ok (.iushr, 1) := by decide +kernel
theorem dX0_draw_22 : decode cX0_draw 22 = .ok (.ireturn, 1) := by decide +kernel
theorem dX1_init_0 : decode cX1_init 0 = .ok (.aload_n 0, 1) := by decide +kernel
theorem dX1_init_1 : decode cX1_init 1 = .ok (.invokespecial 3, 3) := by decide +kernel
theorem dX1_init_4 : decode cX1_init 4 = .ok (.aload_n 0, 1) := by decide +kernel
theorem dX1_init_5 : decode cX1_init 5 = .ok (.iconst 4, 1) := by decide +kernel
theorem dX1_init_6 : decode cX1_init 6 = .ok (.iconst 5, 1) := by decide +kernel
theorem dX1_init_7 : decode cX1_init 7 = .ok (.multianewarray 9 2, 4) := by decide +kernel
theorem dX1_init_11 : decode cX1_init 11 = .ok (.putfield 11, 3) := by decide +kernel
theorem dX1_init_14 : decode cX1_init 14 = .ok (.aload_n 0, 1) := by decide +kernel
theorem dX1_init_15 : decode cX1_init 15 = .ok (.iconst 4, 1) := by decide +kernel
theorem dX1_init_16 : decode cX1_init 16 = .ok (.newarray .long, 2) := by decide +kernel
theorem dX1_init_18 : decode cX1_init 18 = .ok (.putfield 16, 3) := by decide +kernel
theorem dX1_init_21 : decode cX1_init 21 = .ok (.aload_n 0, 1) := by decide +kernel
theorem dX1_init_22 : decode cX1_init 22 = .ok (.bipush 8, 2) := by decide +kernel
theorem dX1_init_24 : decode cX1_init 24 = .ok (.newarray .int, 2) := by decide +kernel
theorem dX1_init_26 : decode cX1_init 26 = .ok (.putfield 20, 3) := by decide +kernel
theorem dX1_init_29 : decode cX1_init 29 = .ok (.aload_n 0, 1) := by decide +kernel
theorem dX1_init_30 : decode cX1_init 30 = .ok (.bipush 8, 2) := by decide +kernel
theorem dX1_init_32 : decode cX1_init 32 = .ok (.newarray .int, 2) := by decide +kernel
theorem dX1_init_34 : decode cX1_init 34 = .ok (.putfield 24, 3) := by decide +kernel
theorem dX1_init_37 : decode cX1_init 37 = .ok (.aload_n 0, 1) := by decide +kernel
theorem dX1_init_38 : decode cX1_init 38 = .ok (.lconst 1, 1) := by decide +kernel
theorem dX1_init_39 : decode cX1_init 39 = .ok (.putfield 27, 3) := by decide +kernel
theorem dX1_init_42 : decode cX1_init 42 = .ok (.return_, 1) := by decide +kernel
theorem dX1_find_0 : decode cX1_find 0 = .ok (.aload_n 1, 1) := by decide +kernel
theorem dX1_find_1 : decode cX1_find 1 = .ok (.aload_n 1, 1) := by decide +kernel
theorem dX1_find_2 : decode cX1_find 2 = .ok (.getfield 31, 3) := by decide +kernel
theorem dX1_find_5 : decode cX1_find 5 = .ok (.invokevirtual 37, 3) := by decide +kernel
theorem dX1_find_8 : decode cX1_find 8 = .ok (.ifCond .ne 5, 3) := by decide +kernel
theorem dX1_find_11 : decode cX1_find 11 = .ok (.iconst 0, 1) := by decide +kernel
theorem dX1_find_12 : decode cX1_find 12 = .ok (.ireturn, 1) := by decide +kernel
theorem dX1_find_13 : decode cX1_find 13 = .ok (.iconst 0, 1) := by decide +kernel
theorem dX1_find_14 : decode cX1_find 14 = .ok (.istore_n 2, 1) := by decide +kernel
theorem dX1_find_15 : decode cX1_find 15 = .ok (.iload_n 2, 1) := by decide +kernel
theorem dX1_find_16 : decode cX1_find 16 = .ok (.iconst 4, 1) := by decide +kernel
theorem dX1_find_17 : decode cX1_find 17 = .ok (.if_icmp .ge 31, 3) := by decide +kernel
theorem dX1_find_20 : decode cX1_find 20 = .ok (.iconst 0, 1) := by decide +kernel
theorem dX1_find_21 : decode cX1_find 21 = .ok (.istore_n 3, 1) := by decide +kernel
theorem dX1_find_22 : decode cX1_find 22 = .ok (.iload_n 3, 1) := by decide +kernel
theorem dX1_find_23 : decode cX1_find 23 = .ok (.iconst 4, 1) := by decide +kernel
theorem dX1_find_24 : decode cX1_find 24 = .ok (.if_icmp .gt 18, 3) := by decide +kernel
theorem dX1_find_27 : decode cX1_find 27 = .ok (.aload_n 0, 1) := by decide +kernel
theorem dX1_find_28 : decode cX1_find 28 = .ok (.getfield 11, 3) := by decide +kernel
theorem dX1_find_31 : decode cX1_find 31 = .ok (.iload_n 2, 1) := by decide +kernel
theorem dX1_find_32 : decode cX1_find 32 = .ok (.aaload, 1) := by decide +kernel
theorem dX1_find_33 : decode cX1_find 33 = .ok (.iload_n 3, 1) := by decide +kernel
theorem dX1_find_34 : decode cX1_find 34 = .ok (.lconst 0, 1) := by decide +kernel
theorem dX1_find_35 : decode cX1_find 35 = .ok (.lastore, 1) := by decide +kernel
theorem dX1_find_36 : decode cX1_find 36 = .ok (.iinc 3 1, 3) := by decide +kernel
theorem dX1_find_39 : decode cX1_find 39 = .ok (.goto (-17), 3) := by decide +kernel
theorem dX1_find_42 : decode cX1_find 42 = .ok (.iinc 2 1, 3) := by decide +kernel
theorem dX1_find_45 : decode cX1_find 45 = .ok (.goto (-30), 3) := by decide +kernel
theorem dX1_find_48 : decode cX1_find 48 = .ok (.iconst 0, 1) := by decide +kernel
theorem dX1_find_49 : decode cX1_find 49 = .ok (.istore_n 2, 1) := by decide +kernel
theorem dX1_find_50 : decode cX1_find 50 = .ok (.iload_n 2, 1) := by decide +kernel
theorem dX1_find_51 : decode cX1_find 51 = .ok (.aload_n 1, 1) := by decide +kernel
theorem dX1_find_52 : decode cX1_find 52 = .ok (.getfield 41, 3) := by decide +kernel
theorem dX1_find_55 : decode cX1_find 55 = .ok (.if_icmp .ge 67, 3) := by decide +kernel
theorem dX1_find_58 : decode cX1_find 58 = .ok (.aload_n 1, 1) := by decide +kernel
theorem dX1_find_59 : decode cX1_find 59 = .ok (.iload_n 2, 1) := by decide +kernel
theorem dX1_find_60 : decode cX1_find 60 = .ok (.invokevirtual 44, 3) := by decide +kernel
theorem dX1_find_63 : decode cX1_find 63 = .ok (.ifCond .eq 53, 3) := by decide +kernel
theorem dX1_find_66 : decode cX1_find 66 = .ok (.aload_n 0, 1) := by decide +kernel
theorem dX1_find_67 : decode cX1_find 67 = .ok (.getfield 20, 3) := by decide +kernel
theorem dX1_find_70 : decode cX1_find 70 = .ok (.iload_n 2, 1) := by decide +kernel
theorem dX1_find_71 : decode cX1_find 71 = .ok (.aload_n 1, 1) := by decide +kernel
theorem dX1_find_72 : decode cX1_find 72 = .ok (.iload_n 2, 1) := by decide +kernel
theorem dX1_find_73 : decode cX1_find 73 = .ok (.invokevirtual 47, 3) := by decide +kernel
theorem dX1_find_76 : decode cX1_find 76 = .ok (.iastore, 1) := by decide +kernel
theorem dX1_find_77 : decode cX1_find 77 = .ok (.aload_n 0, 1) := by decide +kernel
theorem dX1_find_78 : decode cX1_find 78 = .ok (.getfield 24, 3) := by decide +kernel
theorem dX1_find_81 : decode cX1_find 81 = .ok (.iload_n 2, 1) := by decide +kernel
theorem dX1_find_82 : decode cX1_find 82 = .ok (.aload_n 1, 1) := by decide +kernel
theorem dX1_find_83 : decode cX1_find 83 = .ok (.iload_n 2, 1) := by decide +kernel
theorem dX1_find_84 : decode cX1_find 84 = .ok (.invokevirtual 51, 3) := by decide +kernel
theorem dX1_find_87 : decode cX1_find 87 = .ok (.iastore, 1) := by decide +kernel
theorem dX1_find_88 : decode cX1_find 88 = .ok (.aload_n 0, 1) := by decide +kernel
theorem dX1_find_89 : decode cX1_find 89 = .ok (.aload_n 1, 1) := by decide +kernel
theorem dX1_find_90 : decode cX1_find 90 = .ok (.getfield 54, 3) := by decide +kernel
theorem dX1_find_93 : decode cX1_find 93 = .ok (.iload_n 2, 1) := by decide +kernel
theorem dX1_find_94 : decode cX1_find 94 = .ok (.iaload, 1) := by decide +kernel
theorem dX1_find_95 : decode cX1_find 95 = .ok (.aload_n 1, 1) := by decide +kernel
theorem dX1_find_96 : decode cX1_find 96 = .ok (.getfield 57, 3) := by decide +kernel
theorem dX1_find_99 : decode cX1_find 99 = .ok (.iload_n 2, 1) := by decide +kernel
theorem dX1_find_100 : decode cX1_find 100 = .ok (.iaload, 1) := by decide +kernel
theorem dX1_find_101 : decode cX1_find 101 = .ok (.aload_n 0, 1) := by decide +kernel
theorem dX1_find_102 : decode cX1_find 102 = .ok (.getfield 20, 3) := by decide +kernel
theorem dX1_find_105 : decode cX1_find 105 = .ok (.iload_n 2, 1) := by decide +kernel
theorem dX1_find_106 : decode cX1_find 106 = .ok (.iaload, 1) := by decide +kernel
theorem dX1_find_107 : decode cX1_find 107 = .ok (.aload_n 0, 1) := by decide +kernel
theorem dX1_find_108 : decode cX1_find 108 = .ok (.getfield 24, 3) := by decide +kernel
theorem dX1_find_111 : decode cX1_find 111 = .ok (.iload_n 2, 1) := by decide +kernel
theorem dX1_find_112 : decode cX1_find 112 = .ok (.iaload, 1) := by decide +kernel
theorem dX1_find_113 : decode cX1_find 113 = .ok (.invokevirtual 60, 3) := by decide +kernel
theorem dX1_find_116 : decode cX1_find 116 = .ok (.iinc 2 1, 3) := by decide +kernel
theorem dX1_find_119 : decode cX1_find 119 = .ok (.goto (-69), 3) := by decide +kernel
theorem dX1_find_122 : decode cX1_find 122 = .ok (.aload_n 0, 1) := by decide +kernel
theorem dX1_find_123 : decode cX1_find 123 = .ok (.aload_n 1, 1) := by decide +kernel
theorem dX1_find_124 : decode cX1_find 124 = .ok (.getfield 64, 3) := by decide +kernel
theorem dX1_find_127 : decode cX1_find 127 = .ok (.invokevirtual 67, 3) := by decide +kernel
theorem dX1_find_130 : decode cX1_find 130 = .ok (.iconst 1, 1) := by decide +kernel
theorem dX1_find_131 : decode cX1_find 131 = .ok (.ireturn, 1) := by decide +kernel
theorem dX1_enter_0 : decode cX1_enter 0 = .ok (.aload_n 0, 1) := by decide +kernel
theorem dX1_enter_1 : decode cX1_enter 1 = .ok (.getfield 11, 3) := by decide +kernel
theorem dX1_enter_4 : decode cX1_enter 4 = .ok (.iload_n 2, 1) := by decide +kernel
theorem dX1_enter_5 : decode cX1_enter 5 = .ok (.aaload, 1) := by decide +kernel
theorem dX1_enter_6 : decode cX1_enter 6 = .ok (.iload_n 2, 1) := by decide +kernel
theorem dX1_enter_7 : decode cX1_enter 7 = .ok (.dup2, 1) := by decide +kernel
theorem dX1_enter_8 : decode cX1_enter 8 = .ok (.laload, 1) := by decide +kernel
theorem dX1_enter_9 : decode cX1_enter 9 = .ok (.iload_n 3, 1) := by decide +kernel
theorem dX1_enter_10 : decode cX1_enter 10 = .ok (.i2l, 1) := by decide +kernel
theorem dX1_enter_11 : decode cX1_enter 11 = .ok (.ladd, 1) := by decide +kernel
theorem dX1_enter_12 : decode cX1_enter 12 = .ok (.lastore, 1) := by decide +kernel
theorem dX1_enter_13 : decode cX1_enter 13 = .ok (.aload_n 0, 1) := by decide +kernel
theorem dX1_enter_14 : decode cX1_enter 14 = .ok (.getfield 11, 3) := by decide +kernel
theorem dX1_enter_17 : decode cX1_enter 17 = .ok (.iload_n 2, 1) := by decide +kernel
theorem dX1_enter_18 : decode cX1_enter 18 = .ok (.aaload, 1) := by decide +kernel
theorem dX1_enter_19 : decode cX1_enter 19 = .ok (.iconst 4, 1) := by decide +kernel
theorem dX1_enter_20 : decode cX1_enter 20 = .ok (.dup2, 1) := by decide +kernel
theorem dX1_enter_21 : decode cX1_enter 21 = .ok (.laload, 1) := by decide +kernel
theorem dX1_enter_22 : decode cX1_enter 22 = .ok (.iload_n 3, 1) := by decide +kernel
theorem dX1_enter_23 : decode cX1_enter 23 = .ok (.iload 4, 2) := by decide +kernel
theorem dX1_enter_25 : decode cX1_enter 25 = .ok (.imul, 1) := by decide +kernel
theorem dX1_enter_26 : decode cX1_enter 26 = .ok (.i2l, 1) := by decide +kernel
theorem dX1_enter_27 : decode cX1_enter 27 = .ok (.ladd, 1) := by decide +kernel
theorem dX1_enter_28 : decode cX1_enter 28 = .ok (.lastore, 1) := by decide +kernel
theorem dX1_enter_29 : decode cX1_enter 29 = .ok (.iload_n 1, 1) := by decide +kernel
theorem dX1_enter_30 : decode cX1_enter 30 = .ok (.ifCond .lt 58, 3) := by decide +kernel
theorem dX1_enter_33 : decode cX1_enter 33 = .ok (.aload_n 0, 1) := by decide +kernel
theorem dX1_enter_34 : decode cX1_enter 34 = .ok (.getfield 11, 3) := by decide +kernel
theorem dX1_enter_37 : decode cX1_enter 37 = .ok (.iload_n 1, 1) := by decide +kernel
theorem dX1_enter_38 : decode cX1_enter 38 = .ok (.aaload, 1) := by decide +kernel
theorem dX1_enter_39 : decode cX1_enter 39 = .ok (.iload_n 1, 1) := by decide +kernel
theorem dX1_enter_40 : decode cX1_enter 40 = .ok (.dup2, 1) := by decide +kernel
theorem dX1_enter_41 : decode cX1_enter 41 = .ok (.laload, 1) := by decide +kernel
theorem dX1_enter_42 : decode cX1_enter 42 = .ok (.iload_n 3, 1) := by decide +kernel
theorem dX1_enter_43 : decode cX1_enter 43 = .ok (.i2l, 1) := by decide +kernel
theorem dX1_enter_44 : decode cX1_enter 44 = .ok (.ladd, 1) := by decide +kernel
theorem dX1_enter_45 : decode cX1_enter 45 = .ok (.lastore, 1) := by decide +kernel
theorem dX1_enter_46 : decode cX1_enter 46 = .ok (.aload_n 0, 1) := by decide +kernel
theorem dX1_enter_47 : decode cX1_enter 47 = .ok (.getfield 11, 3) := by decide +kernel
theorem dX1_enter_50 : decode cX1_enter 50 = .ok (.iload_n 1, 1) := by decide +kernel
theorem dX1_enter_51 : decode cX1_enter 51 = .ok (.aaload, 1) := by decide +kernel
theorem dX1_enter_52 : decode cX1_enter 52 = .ok (.iload_n 2, 1) := by decide +kernel
theorem dX1_enter_53 : decode cX1_enter 53 = .ok (.dup2, 1) := by decide +kernel
theorem dX1_enter_54 : decode cX1_enter 54 = .ok (.laload, 1) := by decide +kernel
theorem dX1_enter_55 : decode cX1_enter 55 = .ok (.iload_n 3, 1) := by decide +kernel
theorem dX1_enter_56 : decode cX1_enter 56 = .ok (.i2l, 1) := by decide +kernel
theorem dX1_enter_57 : decode cX1_enter 57 = .ok (.lsub, 1) := by decide +kernel
theorem dX1_enter_58 : decode cX1_enter 58 = .ok (.lastore, 1) := by decide +kernel
theorem dX1_enter_59 : decode cX1_enter 59 = .ok (.aload_n 0, 1) := by decide +kernel
theorem dX1_enter_60 : decode cX1_enter 60 = .ok (.getfield 11, 3) := by decide +kernel
theorem dX1_enter_63 : decode cX1_enter 63 = .ok (.iload_n 2, 1) := by decide +kernel
theorem dX1_enter_64 : decode cX1_enter 64 = .ok (.aaload, 1) := by decide +kernel
theorem dX1_enter_65 : decode cX1_enter 65 = .ok (.iload_n 1, 1) := by decide +kernel
theorem dX1_enter_66 : decode cX1_enter 66 = .ok (.dup2, 1) := by decide +kernel
theorem dX1_enter_67 : decode cX1_enter 67 = .ok (.laload, 1) := by decide +kernel
theorem dX1_enter_68 : decode cX1_enter 68 = .ok (.iload_n 3, 1) := by decide +kernel
theorem dX1_enter_69 : decode cX1_enter 69 = .ok (.i2l, 1) := by decide +kernel
theorem dX1_enter_70 : decode cX1_enter 70 = .ok (.lsub, 1) := by decide +kernel
theorem dX1_enter_71 : decode cX1_enter 71 = .ok (.lastore, 1) := by decide +kernel
theorem dX1_enter_72 : decode cX1_enter 72 = .ok (.aload_n 0, 1) := by decide +kernel
theorem dX1_enter_73 : decode cX1_enter 73 = .ok (.getfield 11, 3) := by decide +kernel
theorem dX1_enter_76 : decode cX1_enter 76 = .ok (.iload_n 1, 1) := by decide +kernel
theorem dX1_enter_77 : decode cX1_enter 77 = .ok (.aaload, 1) := by decide +kernel
theorem dX1_enter_78 : decode cX1_enter 78 = .ok (.iconst 4, 1) := by decide +kernel
theorem dX1_enter_79 : decode cX1_enter 79 = .ok (.dup2, 1) := by decide +kernel
theorem dX1_enter_80 : decode cX1_enter 80 = .ok (.laload, 1) := by decide +kernel
theorem dX1_enter_81 : decode cX1_enter 81 = .ok (.iload_n 3, 1) := by decide +kernel
theorem dX1_enter_82 : decode cX1_enter 82 = .ok (.iload 4, 2) := by decide +kernel
theorem dX1_enter_84 : decode cX1_enter 84 = .ok (.imul, 1) := by decide +kernel
theorem dX1_enter_85 : decode cX1_enter 85 = .ok (.i2l, 1) := by decide +kernel
theorem dX1_enter_86 : decode cX1_enter 86 = .ok (.lsub, 1) := by decide +kernel
theorem dX1_enter_87 : decode cX1_enter 87 = .ok (.lastore, 1) := by decide +kernel
theorem dX1_enter_88 : decode cX1_enter 88 = .ok (.return_, 1) := by decide +kernel
theorem dX1_solve_0 : decode cX1_solve 0 = .ok (.lconst 1, 1) := by decide +kernel
theorem dX1_solve_1 : decode cX1_solve 1 = .ok (.lstore_n 2, 1) := by decide +kernel
theorem dX1_solve_2 : decode cX1_solve 2 = .ok (.iconst 0, 1) := by decide +kernel
theorem dX1_solve_3 : decode cX1_solve 3 = .ok (.istore 4, 2) := by decide +kernel
theorem dX1_solve_5 : decode cX1_solve 5 = .ok (.iload 4, 2) := by decide +kernel
theorem dX1_solve_7 : decode cX1_solve 7 = .ok (.iload_n 1, 1) := by decide +kernel
theorem dX1_solve_8 : decode cX1_solve 8 = .ok (.if_icmp .ge 66, 3) := by decide +kernel
theorem dX1_solve_11 : decode cX1_solve 11 = .ok (.aload_n 0, 1) := by decide +kernel
theorem dX1_solve_12 : decode cX1_solve 12 = .ok (.getfield 11, 3) := by decide +kernel
theorem dX1_solve_15 : decode cX1_solve 15 = .ok (.iload 4, 2) := by decide +kernel
theorem dX1_solve_17 : decode cX1_solve 17 = .ok (.aaload, 1) := by decide +kernel
theorem dX1_solve_18 : decode cX1_solve 18 = .ok (.iload 4, 2) := by decide +kernel
theorem dX1_solve_20 : decode cX1_solve 20 = .ok (.laload, 1) := by decide +kernel
theorem dX1_solve_21 : decode cX1_solve 21 = .ok (.lstore 5, 2) := by decide +kernel
theorem dX1_solve_23 : decode cX1_solve 23 = .ok (.iconst 0, 1) := by decide +kernel
theorem dX1_solve_24 : decode cX1_solve 24 = .ok (.istore 7, 2) := by decide +kernel
theorem dX1_solve_26 : decode cX1_solve 26 = .ok (.iload 7, 2) := by decide +kernel
theorem dX1_solve_28 : decode cX1_solve 28 = .ok (.iload_n 1, 1) := by decide +kernel
theorem dX1_solve_29 : decode cX1_solve 29 = .ok (.if_icmp .ge 36, 3) := by decide +kernel
theorem dX1_solve_32 : decode cX1_solve 32 = .ok (.iload 7, 2) := by decide +kernel
theorem dX1_solve_34 : decode cX1_solve 34 = .ok (.iload 4, 2) := by decide +kernel
theorem dX1_solve_36 : decode cX1_solve 36 = .ok (.if_icmp .eq 23, 3) := by decide +kernel
theorem dX1_solve_39 : decode cX1_solve 39 = .ok (.aload_n 0, 1) := by decide +kernel
theorem dX1_solve_40 : decode cX1_solve 40 = .ok (.getfield 11, 3) := by decide +kernel
theorem dX1_solve_43 : decode cX1_solve 43 = .ok (.iload 7, 2) := by decide +kernel
theorem dX1_solve_45 : decode cX1_solve 45 = .ok (.aaload, 1) := by decide +kernel
theorem dX1_solve_46 : decode cX1_solve 46 = .ok (.aload_n 0, 1) := by decide +kernel
theorem dX1_solve_47 : decode cX1_solve 47 = .ok (.getfield 11, 3) := by decide +kernel
theorem dX1_solve_50 : decode cX1_solve 50 = .ok (.iload 4, 2) := by decide +kernel
theorem dX1_solve_52 : decode cX1_solve 52 = .ok (.aaload, 1) := by decide +kernel
theorem dX1_solve_53 : decode cX1_solve 53 = .ok (.iload 4, 2) := by decide +kernel
theorem dX1_solve_55 : decode cX1_solve 55 = .ok (.lload_n 2, 1) := by decide +kernel
theorem dX1_solve_56 : decode cX1_solve 56 = .ok (.invokestatic 71, 3) := by decide +kernel
theorem dX1_solve_59 : decode cX1_solve 59 = .ok (.iinc 7 1, 3) := by decide +kernel
theorem dX1_solve_62 : decode cX1_solve 62 = .ok (.goto (-36), 3) := by decide +kernel
theorem dX1_solve_65 : decode cX1_solve 65 = .ok (.lload 5, 2) := by decide +kernel
theorem dX1_solve_67 : decode cX1_solve 67 = .ok (.lstore_n 2, 1) := by decide +kernel
theorem dX1_solve_68 : decode cX1_solve 68 = .ok (.iinc 4 1, 3) := by decide +kernel
theorem dX1_solve_71 : decode cX1_solve 71 = .ok (.goto (-66), 3) := by decide +kernel
theorem dX1_solve_74 : decode cX1_solve 74 = .ok (.aload_n 0, 1) := by decide +kernel
theorem dX1_solve_75 : decode cX1_solve 75 = .ok (.lload_n 2, 1) := by decide +kernel
theorem dX1_solve_76 : decode cX1_solve 76 = .ok (.putfield 27, 3) := by decide +kernel
theorem dX1_solve_79 : decode cX1_solve 79 = .ok (.iconst 0, 1) := by decide +kernel
theorem dX1_solve_80 : decode cX1_solve 80 = .ok (.istore 4, 2) := by decide +kernel
theorem dX1_solve_82 : decode cX1_solve 82 = .ok (.iload 4, 2) := by decide +kernel
theorem dX1_solve_84 : decode cX1_solve 84 = .ok (.iload_n 1, 1) := by decide +kernel
theorem dX1_solve_85 : decode cX1_solve 85 = .ok (.if_icmp .ge 25, 3) := by decide +kernel
theorem dX1_solve_88 : decode cX1_solve 88 = .ok (.aload_n 0, 1) := by decide +kernel
theorem dX1_solve_89 : decode cX1_solve 89 = .ok (.getfield 16, 3) := by decide +kernel
theorem dX1_solve_92 : decode cX1_solve 92 = .ok (.iload 4, 2) := by decide +kernel
theorem dX1_solve_94 : decode cX1_solve 94 = .ok (.aload_n 0, 1) := by decide +kernel
theorem dX1_solve_95 : decode cX1_solve 95 = .ok (.getfield 11, 3) := by decide +kernel
theorem dX1_solve_98 : decode cX1_solve 98 = .ok (.iload 4, 2) := by decide +kernel
theorem dX1_solve_100 : decode cX1_solve 100 = .ok (.aaload, 1) := by decide +kernel
theorem dX1_solve_101 : decode cX1_solve 101 = .ok (.iconst 4, 1) := by decide +kernel
theorem dX1_solve_102 : decode cX1_solve 102 = .ok (.laload, 1) := by decide +kernel
theorem dX1_solve_103 : decode cX1_solve 103 = .ok (.lastore, 1) := by decide +kernel
theorem dX1_solve_104 : decode cX1_solve 104 = .ok (.iinc 4 1, 3) := by decide +kernel
theorem dX1_solve_107 : decode cX1_solve 107 = .ok (.goto (-25), 3) := by decide +kernel
theorem dX1_solve_110 : decode cX1_solve 110 = .ok (.return_, 1) := by decide +kernel
theorem dX1_clearColumn_0 : decode cX1_clearColumn 0 = .ok (.aload_n 1, 1) := by decide +kernel
theorem dX1_clearColumn_1 : decode cX1_clearColumn 1 = .ok (.iload_n 2, 1) := by decide +kernel
theorem dX1_clearColumn_2 : decode cX1_clearColumn 2 = .ok (.laload, 1) := by decide +kernel
theorem dX1_clearColumn_3 : decode cX1_clearColumn 3 = .ok (.lstore 5, 2) := by decide +kernel
theorem dX1_clearColumn_5 : decode cX1_clearColumn 5 = .ok (.aload_n 0, 1) := by decide +kernel
theorem dX1_clearColumn_6 : decode cX1_clearColumn 6 = .ok (.iload_n 2, 1) := by decide +kernel
theorem dX1_clearColumn_7 : decode cX1_clearColumn 7 = .ok (.laload, 1) := by decide +kernel
theorem dX1_clearColumn_8 : decode cX1_clearColumn 8 = .ok (.lstore 7, 2) := by decide +kernel
theorem dX1_clearColumn_10 : decode cX1_clearColumn 10 = .ok (.iconst 0, 1) := by decide +kernel
theorem dX1_clearColumn_11 : decode cX1_clearColumn 11 = .ok (.istore 9, 2) := by decide +kernel
theorem dX1_clearColumn_13 : decode cX1_clearColumn 13 = .ok (.iload 9, 2) := by decide +kernel
theorem dX1_clearColumn_15 : decode cX1_clearColumn 15 = .ok (.iconst 4, 1) := by decide +kernel
theorem dX1_clearColumn_16 : decode cX1_clearColumn 16 = .ok (.if_icmp .gt 32, 3) := by decide +kernel
theorem dX1_clearColumn_19 : decode cX1_clearColumn 19 = .ok (.aload_n 0, 1) := by decide +kernel
theorem dX1_clearColumn_20 : decode cX1_clearColumn 20 = .ok (.iload 9, 2) := by decide +kernel
theorem dX1_clearColumn_22 : decode cX1_clearColumn 22 = .ok (.aload_n 0, 1) := by decide +kernel
theorem dX1_clearColumn_23 : decode cX1_clearColumn 23 = .ok (.iload 9, 2) := by decide +kernel
theorem dX1_clearColumn_25 : decode cX1_clearColumn 25 = .ok (.laload, 1) := by decide +kernel
theorem dX1_clearColumn_26 : decode cX1_clearColumn 26 = .ok (.lload 5, 2) := by decide +kernel
theorem dX1_clearColumn_28 : decode cX1_clearColumn 28 = .ok (.lmul, 1) := by decide +kernel
theorem dX1_clearColumn_29 : decode cX1_clearColumn 29 = .ok (.lload 7, 2) := by decide +kernel
theorem dX1_clearColumn_31 : decode cX1_clearColumn 31 = .ok (.aload_n 1, 1) := by decide +kernel
theorem dX1_clearColumn_32 : decode cX1_clearColumn 32 = .ok (.iload 9, 2) := by decide +kernel
theorem dX1_clearColumn_34 : decode cX1_clearColumn 34 = .ok (.laload, 1) := by decide +kernel
theorem dX1_clearColumn_35 : decode cX1_clearColumn 35 = .ok (.lmul, 1) := by decide +kernel
theorem dX1_clearColumn_36 : decode cX1_clearColumn 36 = .ok (.lsub, 1) := by decide +kernel
theorem dX1_clearColumn_37 : decode cX1_clearColumn 37 = .ok (.lload_n 3, 1) := by decide +kernel
theorem dX1_clearColumn_38 : decode cX1_clearColumn 38 = .ok (.invokestatic 75, 3) := by decide +kernel
theorem dX1_clearColumn_41 : decode cX1_clearColumn 41 = .ok (.lastore, 1) := by decide +kernel
theorem dX1_clearColumn_42 : decode cX1_clearColumn 42 = .ok (.iinc 9 1, 3) := by decide +kernel
theorem dX1_clearColumn_45 : decode cX1_clearColumn 45 = .ok (.goto (-32), 3) := by decide +kernel
theorem dX1_clearColumn_48 : decode cX1_clearColumn 48 = .ok (.return_, 1) := by decide +kernel
theorem dX1_missAbove_0 : decode cX1_missAbove 0 = .ok (.aload_n 1, 1) := by decide +kernel
theorem dX1_missAbove_1 : decode cX1_missAbove 1 = .ok (.getfield 54, 3) := by decide +kernel
theorem dX1_missAbove_4 : decode cX1_missAbove 4 = .ok (.iload_n 2, 1) := by decide +kernel
theorem dX1_missAbove_5 : decode cX1_missAbove 5 = .ok (.iaload, 1) := by decide +kernel
theorem dX1_missAbove_6 : decode cX1_missAbove 6 = .ok (.istore 4, 2) := by decide +kernel
theorem dX1_missAbove_8 : decode cX1_missAbove 8 = .ok (.iload_n 3, 1) := by decide +kernel
theorem dX1_missAbove_9 : decode cX1_missAbove 9 = .ok (.i2l, 1) := by decide +kernel
theorem dX1_missAbove_10 : decode cX1_missAbove 10 = .ok (.aload_n 0, 1) := by decide +kernel
theorem dX1_missAbove_11 : decode cX1_missAbove 11 = .ok (.getfield 27, 3) := by decide +kernel
theorem dX1_missAbove_14 : decode cX1_missAbove 14 = .ok (.lmul, 1) := by decide +kernel
theorem dX1_missAbove_15 : decode cX1_missAbove 15 = .ok (.aload_n 0, 1) := by decide +kernel
theorem dX1_missAbove_16 : decode cX1_missAbove 16 = .ok (.getfield 16, 3) := by decide +kernel
theorem dX1_missAbove_19 : decode cX1_missAbove 19 = .ok (.aload_n 1, 1) := by decide +kernel
theorem dX1_missAbove_20 : decode cX1_missAbove 20 = .ok (.getfield 57, 3) := by decide +kernel
theorem dX1_missAbove_23 : decode cX1_missAbove 23 = .ok (.iload_n 2, 1) := by decide +kernel
theorem dX1_missAbove_24 : decode cX1_missAbove 24 = .ok (.iaload, 1) := by decide +kernel
theorem dX1_missAbove_25 : decode cX1_missAbove 25 = .ok (.laload, 1) := by decide +kernel
theorem dX1_missAbove_26 : decode cX1_missAbove 26 = .ok (.lsub, 1) := by decide +kernel
theorem dX1_missAbove_27 : decode cX1_missAbove 27 = .ok (.iload 4, 2) := by decide +kernel
theorem dX1_missAbove_29 : decode cX1_missAbove 29 = .ok (.ifCond .ge 7, 3) := by decide +kernel
theorem dX1_missAbove_32 : decode cX1_missAbove 32 = .ok (.lconst 0, 1) := by decide +kernel
theorem dX1_missAbove_33 : decode cX1_missAbove 33 = .ok (.goto 10, 3) := by decide +kernel
theorem dX1_missAbove_36 : decode cX1_missAbove 36 = .ok (.aload_n 0, 1) := by decide +kernel
theorem dX1_missAbove_37 : decode cX1_missAbove 37 = .ok (.getfield 16, 3) := by decide +kernel
theorem dX1_missAbove_40 : decode cX1_missAbove 40 = .ok (.iload 4, 2) := by decide +kernel
theorem dX1_missAbove_42 : decode cX1_missAbove 42 = .ok (.laload, 1) := by decide +kernel
theorem dX1_missAbove_43 : decode cX1_missAbove 43 = .ok (.ladd, 1) := by decide +kernel
theorem dX1_missAbove_44 : decode cX1_missAbove 44 = .ok (.lreturn, 1) := by decide +kernel
theorem dX1_sumAbove_0 : decode cX1_sumAbove 0 = .ok (.lconst 0, 1) := by decide +kernel
theorem dX1_sumAbove_1 : decode cX1_sumAbove 1 = .ok (.lstore_n 2, 1) := by decide +kernel
theorem dX1_sumAbove_2 : decode cX1_sumAbove 2 = .ok (.iconst 0, 1) := by decide +kernel
theorem dX1_sumAbove_3 : decode cX1_sumAbove 3 = .ok (.istore 4, 2) := by decide +kernel
theorem dX1_sumAbove_5 : decode cX1_sumAbove 5 = .ok (.iload 4, 2) := by decide +kernel
theorem dX1_sumAbove_7 : decode cX1_sumAbove 7 = .ok (.aload_n 1, 1) := by decide +kernel
theorem dX1_sumAbove_8 : decode cX1_sumAbove 8 = .ok (.getfield 41, 3) := by decide +kernel
theorem dX1_sumAbove_11 : decode cX1_sumAbove 11 = .ok (.if_icmp .ge 51, 3) := by decide +kernel
theorem dX1_sumAbove_14 : decode cX1_sumAbove 14 = .ok (.aload_n 1, 1) := by decide +kernel
theorem dX1_sumAbove_15 : decode cX1_sumAbove 15 = .ok (.iload 4, 2) := by decide +kernel
theorem dX1_sumAbove_17 : decode cX1_sumAbove 17 = .ok (.invokevirtual 44, 3) := by decide +kernel
theorem dX1_sumAbove_20 : decode cX1_sumAbove 20 = .ok (.ifCond .eq 36, 3) := by decide +kernel
theorem dX1_sumAbove_23 : decode cX1_sumAbove 23 = .ok (.aload_n 0, 1) := by decide +kernel
theorem dX1_sumAbove_24 : decode cX1_sumAbove 24 = .ok (.aload_n 1, 1) := by decide +kernel
theorem dX1_sumAbove_25 : decode cX1_sumAbove 25 = .ok (.iload 4, 2) := by decide +kernel
theorem dX1_sumAbove_27 : decode cX1_sumAbove 27 = .ok (.aload_n 0, 1) := by decide +kernel
theorem dX1_sumAbove_28 : decode cX1_sumAbove 28 = .ok (.getfield 24, 3) := by decide +kernel
theorem dX1_sumAbove_31 : decode cX1_sumAbove 31 = .ok (.iload 4, 2) := by decide +kernel
theorem dX1_sumAbove_33 : decode cX1_sumAbove 33 = .ok (.iaload, 1) := by decide +kernel
theorem dX1_sumAbove_34 : decode cX1_sumAbove 34 = .ok (.invokevirtual 79, 3) := by decide +kernel
theorem dX1_sumAbove_37 : decode cX1_sumAbove 37 = .ok (.lstore 5, 2) := by decide +kernel
theorem dX1_sumAbove_39 : decode cX1_sumAbove 39 = .ok (.lload_n 2, 1) := by decide +kernel
theorem dX1_sumAbove_40 : decode cX1_sumAbove 40 = .ok (.aload_n 0, 1) := by decide +kernel
theorem dX1_sumAbove_41 : decode cX1_sumAbove 41 = .ok (.getfield 20, 3) := by decide +kernel
theorem dX1_sumAbove_44 : decode cX1_sumAbove 44 = .ok (.iload 4, 2) := by decide +kernel
theorem dX1_sumAbove_46 : decode cX1_sumAbove 46 = .ok (.iaload, 1) := by decide +kernel
theorem dX1_sumAbove_47 : decode cX1_sumAbove 47 = .ok (.i2l, 1) := by decide +kernel
theorem dX1_sumAbove_48 : decode cX1_sumAbove 48 = .ok (.lload 5, 2) := by decide +kernel
theorem dX1_sumAbove_50 : decode cX1_sumAbove 50 = .ok (.lmul, 1) := by decide +kernel
theorem dX1_sumAbove_51 : decode cX1_sumAbove 51 = .ok (.lload 5, 2) := by decide +kernel
theorem dX1_sumAbove_53 : decode cX1_sumAbove 53 = .ok (.lmul, 1) := by decide +kernel
theorem dX1_sumAbove_54 : decode cX1_sumAbove 54 = .ok (.ladd, 1) := by decide +kernel
theorem dX1_sumAbove_55 : decode cX1_sumAbove 55 = .ok (.lstore_n 2, 1) := by decide +kernel
theorem dX1_sumAbove_56 : decode cX1_sumAbove 56 = .ok (.iinc 4 1, 3) := by decide +kernel
theorem dX1_sumAbove_59 : decode cX1_sumAbove 59 = .ok (.goto (-54), 3) := by decide +kernel
theorem dX1_sumAbove_62 : decode cX1_sumAbove 62 = .ok (.lload_n 2, 1) := by decide +kernel
theorem dX1_sumAbove_63 : decode cX1_sumAbove 63 = .ok (.lreturn, 1) := by decide +kernel
theorem dX1_doubtAbove_0 : decode cX1_doubtAbove 0 = .ok (.aload_n 0, 1) := by decide +kernel
theorem dX1_doubtAbove_1 : decode cX1_doubtAbove 1 = .ok (.getfield 20, 3) := by decide +kernel
theorem dX1_doubtAbove_4 : decode cX1_doubtAbove 4 = .ok (.iload_n 2, 1) := by decide +kernel
theorem dX1_doubtAbove_5 : decode cX1_doubtAbove 5 = .ok (.iaload, 1) := by decide +kernel
theorem dX1_doubtAbove_6 : decode cX1_doubtAbove 6 = .ok (.i2l, 1) := by decide +kernel
theorem dX1_doubtAbove_7 : decode cX1_doubtAbove 7 = .ok (.aload_n 0, 1) := by decide +kernel
theorem dX1_doubtAbove_8 : decode cX1_doubtAbove 8 = .ok (.aload_n 1, 1) := by decide +kernel
theorem dX1_doubtAbove_9 : decode cX1_doubtAbove 9 = .ok (.iload_n 2, 1) := by decide +kernel
theorem dX1_doubtAbove_10 : decode cX1_doubtAbove 10 = .ok (.aload_n 0, 1) := by decide +kernel
theorem dX1_doubtAbove_11 : decode cX1_doubtAbove 11 = .ok (.getfield 24, 3) := by decide +kernel
theorem dX1_doubtAbove_14 : decode cX1_doubtAbove 14 = .ok (.iload_n 2, 1) := by decide +kernel
theorem dX1_doubtAbove_15 : decode cX1_doubtAbove 15 = .ok (.iaload, 1) := by decide +kernel
theorem dX1_doubtAbove_16 : decode cX1_doubtAbove 16 = .ok (.invokevirtual 79, 3) := by decide +kernel
theorem dX1_doubtAbove_19 : decode cX1_doubtAbove 19 = .ok (.invokestatic 83, 3) := by decide +kernel
theorem dX1_doubtAbove_22 : decode cX1_doubtAbove 22 = .ok (.lmul, 1) := by decide +kernel
theorem dX1_doubtAbove_23 : decode cX1_doubtAbove 23 = .ok (.lreturn, 1) := by decide +kernel
theorem dX1_mostDoubted_0 : decode cX1_mostDoubted 0 = .ok (.iconst (-1), 1) := by decide +kernel
theorem dX1_mostDoubted_1 : decode cX1_mostDoubted 1 = .ok (.istore_n 2, 1) := by decide +kernel
theorem dX1_mostDoubted_2 : decode cX1_mostDoubted 2 = .ok (.ldc2_w 89, 3) := by decide +kernel
theorem dX1_mostDoubted_5 : decode cX1_mostDoubted 5 = .ok (.lstore_n 3, 1) := by decide +kernel
theorem dX1_mostDoubted_6 : decode cX1_mostDoubted 6 = .ok (.iconst 0, 1) := by decide +kernel
theorem dX1_mostDoubted_7 : decode cX1_mostDoubted 7 = .ok (.istore 5, 2) := by decide +kernel
theorem dX1_mostDoubted_9 : decode cX1_mostDoubted 9 = .ok (.iload 5, 2) := by decide +kernel
theorem dX1_mostDoubted_11 : decode cX1_mostDoubted 11 = .ok (.aload_n 1, 1) := by decide +kernel
theorem dX1_mostDoubted_12 : decode cX1_mostDoubted 12 = .ok (.getfield 41, 3) := by decide +kernel
theorem dX1_mostDoubted_15 : decode cX1_mostDoubted 15 = .ok (.if_icmp .ge 46, 3) := by decide +kernel
theorem dX1_mostDoubted_18 : decode cX1_mostDoubted 18 = .ok (.aload_n 1, 1) := by decide +kernel
theorem dX1_mostDoubted_19 : decode cX1_mostDoubted 19 = .ok (.iload 5, 2) := by decide +kernel
theorem dX1_mostDoubted_21 : decode cX1_mostDoubted 21 = .ok (.invokevirtual 44, 3) := by decide +kernel
theorem dX1_mostDoubted_24 : decode cX1_mostDoubted 24 = .ok (.ifCond .eq 13, 3) := by decide +kernel
theorem dX1_mostDoubted_27 : decode cX1_mostDoubted 27 = .ok (.aload_n 0, 1) := by decide +kernel
theorem dX1_mostDoubted_28 : decode cX1_mostDoubted 28 = .ok (.aload_n 1, 1) := by decide +kernel
theorem dX1_mostDoubted_29 : decode cX1_mostDoubted 29 = .ok (.iload 5, 2) := by decide +kernel
theorem dX1_mostDoubted_31 : decode cX1_mostDoubted 31 = .ok (.invokevirtual 91, 3) := by decide +kernel
theorem dX1_mostDoubted_34 : decode cX1_mostDoubted 34 = .ok (.goto 6, 3) := by decide +kernel
theorem dX1_mostDoubted_37 : decode cX1_mostDoubted 37 = .ok (.ldc2_w 89, 3) := by decide +kernel
theorem dX1_mostDoubted_40 : decode cX1_mostDoubted 40 = .ok (.lstore 6, 2) := by decide +kernel
theorem dX1_mostDoubted_42 : decode cX1_mostDoubted 42 = .ok (.lload 6, 2) := by decide +kernel
theorem dX1_mostDoubted_44 : decode cX1_mostDoubted 44 = .ok (.lload_n 3, 1) := by decide +kernel
theorem dX1_mostDoubted_45 : decode cX1_mostDoubted 45 = .ok (.lcmp, 1) := by decide +kernel
theorem dX1_mostDoubted_46 : decode cX1_mostDoubted 46 = .ok (.ifCond .le 9, 3) := by decide +kernel
theorem dX1_mostDoubted_49 : decode cX1_mostDoubted 49 = .ok (.lload 6, 2) := by decide +kernel
theorem dX1_mostDoubted_51 : decode cX1_mostDoubted 51 = .ok (.lstore_n 3, 1) := by decide +kernel
theorem dX1_mostDoubted_52 : decode cX1_mostDoubted 52 = .ok (.iload 5, 2) := by decide +kernel
theorem dX1_mostDoubted_54 : decode cX1_mostDoubted 54 = .ok (.istore_n 2, 1) := by decide +kernel
theorem dX1_mostDoubted_55 : decode cX1_mostDoubted 55 = .ok (.iinc 5 1, 3) := by decide +kernel
theorem dX1_mostDoubted_58 : decode cX1_mostDoubted 58 = .ok (.goto (-49), 3) := by decide +kernel
theorem dX1_mostDoubted_61 : decode cX1_mostDoubted 61 = .ok (.iload_n 2, 1) := by decide +kernel
theorem dX1_mostDoubted_62 : decode cX1_mostDoubted 62 = .ok (.ireturn, 1) := by decide +kernel
theorem dX1_passRound_0 : decode cX1_passRound 0 = .ok (.aload_n 0, 1) := by decide +kernel
theorem dX1_passRound_1 : decode cX1_passRound 1 = .ok (.aload_n 1, 1) := by decide +kernel
theorem dX1_passRound_2 : decode cX1_passRound 2 = .ok (.invokevirtual 95, 3) := by decide +kernel
theorem dX1_passRound_5 : decode cX1_passRound 5 = .ok (.ifCond .eq 55, 3) := by decide +kernel
theorem dX1_passRound_8 : decode cX1_passRound 8 = .ok (.aload_n 0, 1) := by decide +kernel
theorem dX1_passRound_9 : decode cX1_passRound 9 = .ok (.aload_n 1, 1) := by decide +kernel
theorem dX1_passRound_10 : decode cX1_passRound 10 = .ok (.invokevirtual 99, 3) := by decide +kernel
theorem dX1_passRound_13 : decode cX1_passRound 13 = .ok (.istore_n 2, 1) := by decide +kernel
theorem dX1_passRound_14 : decode cX1_passRound 14 = .ok (.iload_n 2, 1) := by decide +kernel
theorem dX1_passRound_15 : decode cX1_passRound 15 = .ok (.ifCond .lt 45, 3) := by decide +kernel
theorem dX1_passRound_18 : decode cX1_passRound 18 = .ok (.aload_n 0, 1) := by decide +kernel
theorem dX1_passRound_19 : decode cX1_passRound 19 = .ok (.aload_n 1, 1) := by decide +kernel
theorem dX1_passRound_20 : decode cX1_passRound 20 = .ok (.iload_n 2, 1) := by decide +kernel
theorem dX1_passRound_21 : decode cX1_passRound 21 = .ok (.invokevirtual 91, 3) := by decide +kernel
theorem dX1_passRound_24 : decode cX1_passRound 24 = .ok (.aload_n 1, 1) := by decide +kernel
theorem dX1_passRound_25 : decode cX1_passRound 25 = .ok (.getfield 103, 3) := by decide +kernel
theorem dX1_passRound_28 : decode cX1_passRound 28 = .ok (.i2l, 1) := by decide +kernel
theorem dX1_passRound_29 : decode cX1_passRound 29 = .ok (.aload_n 0, 1) := by decide +kernel
theorem dX1_passRound_30 : decode cX1_passRound 30 = .ok (.getfield 27, 3) := by decide +kernel
theorem dX1_passRound_33 : decode cX1_passRound 33 = .ok (.lmul, 1) := by decide +kernel
theorem dX1_passRound_34 : decode cX1_passRound 34 = .ok (.lcmp, 1) := by decide +kernel
theorem dX1_passRound_35 : decode cX1_passRound 35 = .ok (.ifCond .le 25, 3) := by decide +kernel
theorem dX1_passRound_38 : decode cX1_passRound 38 = .ok (.aload_n 1, 1) := by decide +kernel
theorem dX1_passRound_39 : decode cX1_passRound 39 = .ok (.iload_n 2, 1) := by decide +kernel
theorem dX1_passRound_40 : decode cX1_passRound 40 = .ok (.iconst 0, 1) := by decide +kernel
theorem dX1_passRound_41 : decode cX1_passRound 41 = .ok (.invokevirtual 106, 3) := by decide +kernel
theorem dX1_passRound_44 : decode cX1_passRound 44 = .ok (.aload_n 1, 1) := by decide +kernel
theorem dX1_passRound_45 : decode cX1_passRound 45 = .ok (.sipush 9999, 3) := by decide +kernel
theorem dX1_passRound_48 : decode cX1_passRound 48 = .ok (.aload_n 1, 1) := by decide +kernel
theorem dX1_passRound_49 : decode cX1_passRound 49 = .ok (.getfield 110, 3) := by decide +kernel
theorem dX1_passRound_52 : decode cX1_passRound 52 = .ok (.iconst 1, 1) := by decide +kernel
theorem dX1_passRound_53 : decode cX1_passRound 53 = .ok (.iadd, 1) := by decide +kernel
theorem dX1_passRound_54 : decode cX1_passRound 54 = .ok (.invokestatic 113, 3) := by decide +kernel
theorem dX1_passRound_57 : decode cX1_passRound 57 = .ok (.putfield 110, 3) := by decide +kernel
theorem dX1_passRound_60 : decode cX1_passRound 60 = .ok (.aload_n 1, 1) := by decide +kernel
theorem dX1_passRound_61 : decode cX1_passRound 61 = .ok (.dup, 1) := by decide +kernel
theorem dX1_passRound_62 : decode cX1_passRound 62 = .ok (.getfield 117, 3) := by decide +kernel
theorem dX1_passRound_65 : decode cX1_passRound 65 = .ok (.iconst 1, 1) := by decide +kernel
theorem dX1_passRound_66 : decode cX1_passRound 66 = .ok (.iadd, 1) := by decide +kernel
theorem dX1_passRound_67 : decode cX1_passRound 67 = .ok (.putfield 117, 3) := by decide +kernel
theorem dX1_passRound_70 : decode cX1_passRound 70 = .ok (.return_, 1) := by decide +kernel
theorem dX1_leastLimit_0 : decode cX1_leastLimit 0 = .ok (.aload_n 0, 1) := by decide +kernel
theorem dX1_leastLimit_1 : decode cX1_leastLimit 1 = .ok (.aload_n 1, 1) := by decide +kernel
theorem dX1_leastLimit_2 : decode cX1_leastLimit 2 = .ok (.invokevirtual 95, 3) := by decide +kernel
theorem dX1_leastLimit_5 : decode cX1_leastLimit 5 = .ok (.ifCond .ne 5, 3) := by decide +kernel
theorem dX1_leastLimit_8 : decode cX1_leastLimit 8 = .ok (.lconst 0, 1) := by decide +kernel
theorem dX1_leastLimit_9 : decode cX1_leastLimit 9 = .ok (.lreturn, 1) := by decide +kernel
theorem dX1_leastLimit_10 : decode cX1_leastLimit 10 = .ok (.aload_n 0, 1) := by decide +kernel
theorem dX1_leastLimit_11 : decode cX1_leastLimit 11 = .ok (.aload_n 1, 1) := by decide +kernel
theorem dX1_leastLimit_12 : decode cX1_leastLimit 12 = .ok (.invokevirtual 99, 3) := by decide +kernel
theorem dX1_leastLimit_15 : decode cX1_leastLimit 15 = .ok (.istore_n 2, 1) := by decide +kernel
theorem dX1_leastLimit_16 : decode cX1_leastLimit 16 = .ok (.iload_n 2, 1) := by decide +kernel
theorem dX1_leastLimit_17 : decode cX1_leastLimit 17 = .ok (.ifCond .ge 7, 3) := by decide +kernel
theorem dX1_leastLimit_20 : decode cX1_leastLimit 20 = .ok (.lconst 0, 1) := by decide +kernel
theorem dX1_leastLimit_21 : decode cX1_leastLimit 21 = .ok (.goto 23, 3) := by decide +kernel
theorem dX1_leastLimit_24 : decode cX1_leastLimit 24 = .ok (.aload_n 0, 1) := by decide +kernel
theorem dX1_leastLimit_25 : decode cX1_leastLimit 25 = .ok (.aload_n 1, 1) := by decide +kernel
theorem dX1_leastLimit_26 : decode cX1_leastLimit 26 = .ok (.iload_n 2, 1) := by decide +kernel
theorem dX1_leastLimit_27 : decode cX1_leastLimit 27 = .ok (.invokevirtual 91, 3) := by decide +kernel
theorem dX1_leastLimit_30 : decode cX1_leastLimit 30 = .ok (.aload_n 0, 1) := by decide +kernel
theorem dX1_leastLimit_31 : decode cX1_leastLimit 31 = .ok (.getfield 27, 3) := by decide +kernel
theorem dX1_leastLimit_34 : decode cX1_leastLimit 34 = .ok (.ladd, 1) := by decide +kernel
theorem dX1_leastLimit_35 : decode cX1_leastLimit 35 = .ok (.lconst 1, 1) := by decide +kernel
theorem dX1_leastLimit_36 : decode cX1_leastLimit 36 = .ok (.lsub, 1) := by decide +kernel
theorem dX1_leastLimit_37 : decode cX1_leastLimit 37 = .ok (.aload_n 0, 1) := by decide +kernel
theorem dX1_leastLimit_38 : decode cX1_leastLimit 38 = .ok (.getfield 27, 3) := by decide +kernel
theorem dX1_leastLimit_41 : decode cX1_leastLimit 41 = .ok (.invokestatic 75, 3) := by decide +kernel
theorem dX1_leastLimit_44 : decode cX1_leastLimit 44 = .ok (.lreturn, 1) := by decide +kernel
theorem dX2_init_0 : decode cX2_init 0 = .ok (.aload_n 0, 1) := by decide +kernel
theorem dX2_init_1 : decode cX2_init 1 = .ok (.invokespecial 3, 3) := by decide +kernel
theorem dX2_init_4 : decode cX2_init 4 = .ok (.aload_n 0, 1) := by decide +kernel
theorem dX2_init_5 : decode cX2_init 5 = .ok (.bipush 60, 2) := by decide +kernel
theorem dX2_init_7 : decode cX2_init 7 = .ok (.newarray .int, 2) := by decide +kernel
theorem dX2_init_9 : decode cX2_init 9 = .ok (.putfield 9, 3) := by decide +kernel
theorem dX2_init_12 : decode cX2_init 12 = .ok (.aload_n 0, 1) := by decide +kernel
theorem dX2_init_13 : decode cX2_init 13 = .ok (.ldc 15, 2) := by decide +kernel
theorem dX2_init_15 : decode cX2_init 15 = .ok (.putfield 17, 3) := by decide +kernel
theorem dX2_init_18 : decode cX2_init 18 = .ok (.aload_n 0, 1) := by decide +kernel
theorem dX2_init_19 : decode cX2_init 19 = .ok (.aload_n 1, 1) := by decide +kernel
theorem dX2_init_20 : decode cX2_init 20 = .ok (.putfield 21, 3) := by decide +kernel
theorem dX2_init_23 : decode cX2_init 23 = .ok (.return_, 1) := by decide +kernel
theorem dX2_faultOf_0 : decode cX2_faultOf 0 = .ok (.aload_n 0, 1) := by decide +kernel
theorem dX2_faultOf_1 : decode cX2_faultOf 1 = .ok (.iload_n 1, 1) := by decide +kernel
theorem dX2_faultOf_2 : decode cX2_faultOf 2 = .ok (.putfield 24, 3) := by decide +kernel
theorem dX2_faultOf_5 : decode cX2_faultOf 5 = .ok (.aload_n 0, 1) := by decide +kernel
theorem dX2_faultOf_6 : decode cX2_faultOf 6 = .ok (.aload_n 2, 1) := by decide +kernel
theorem dX2_faultOf_7 : decode cX2_faultOf 7 = .ok (.putfield 17, 3) := by decide +kernel
theorem dX2_faultOf_10 : decode cX2_faultOf 10 = .ok (.aload_n 0, 1) := by decide +kernel
theorem dX2_faultOf_11 : decode cX2_faultOf 11 = .ok (.iconst 0, 1) := by decide +kernel
theorem dX2_faultOf_12 : decode cX2_faultOf 12 = .ok (.putfield 28, 3) := by decide +kernel
theorem dX2_faultOf_15 : decode cX2_faultOf 15 = .ok (.aload_n 0, 1) := by decide +kernel
theorem dX2_faultOf_16 : decode cX2_faultOf 16 = .ok (.iconst 0, 1) := by decide +kernel
theorem dX2_faultOf_17 : decode cX2_faultOf 17 = .ok (.putfield 31, 3) := by decide +kernel
theorem dX2_faultOf_20 : decode cX2_faultOf 20 = .ok (.aload_n 0, 1) := by decide +kernel
theorem dX2_faultOf_21 : decode cX2_faultOf 21 = .ok (.iconst 0, 1) := by decide +kernel
theorem dX2_faultOf_22 : decode cX2_faultOf 22 = .ok (.invokevirtual 34, 3) := by decide +kernel
theorem dX2_faultOf_25 : decode cX2_faultOf 25 = .ok (.ifCond .eq 15, 3) := by decide +kernel
theorem dX2_faultOf_28 : decode cX2_faultOf 28 = .ok (.aload_n 0, 1) := by decide +kernel
theorem dX2_faultOf_29 : decode cX2_faultOf 29 = .ok (.getfield 28, 3) := by decide +kernel
theorem dX2_faultOf_32 : decode cX2_faultOf 32 = .ok (.iload_n 1, 1) := by decide +kernel
theorem dX2_faultOf_33 : decode cX2_faultOf 33 = .ok (.if_icmp .ne 7, 3) := by decide +kernel
theorem dX2_faultOf_36 : decode cX2_faultOf 36 = .ok (.iconst (-1), 1) := by decide +kernel
theorem dX2_faultOf_37 : decode cX2_faultOf 37 = .ok (.goto 7, 3) := by decide +kernel
theorem dX2_faultOf_40 : decode cX2_faultOf 40 = .ok (.aload_n 0, 1) := by decide +kernel
theorem dX2_faultOf_41 : decode cX2_faultOf 41 = .ok (.getfield 28, 3) := by decide +kernel
theorem dX2_faultOf_44 : decode cX2_faultOf 44 = .ok (.ireturn, 1) := by decide +kernel
theorem dX2_next_0 : decode cX2_next 0 = .ok (.aload_n 0, 1) := by decide +kernel
theorem dX2_next_1 : decode cX2_next 1 = .ok (.getfield 28, 3) := by decide +kernel
theorem dX2_next_4 : decode cX2_next 4 = .ok (.aload_n 0, 1) := by decide +kernel
theorem dX2_next_5 : decode cX2_next 5 = .ok (.getfield 24, 3) := by decide +kernel
theorem dX2_next_8 : decode cX2_next 8 = .ok (.if_icmp .ge 24, 3) := by decide +kernel
theorem dX2_next_11 : decode cX2_next 11 = .ok (.aload_n 0, 1) := by decide +kernel
theorem dX2_next_12 : decode cX2_next 12 = .ok (.getfield 28, 3) := by decide +kernel
theorem dX2_next_15 : decode cX2_next 15 = .ok (.bipush 60, 2) := by decide +kernel
theorem dX2_next_17 : decode cX2_next 17 = .ok (.if_icmp .ge 15, 3) := by decide +kernel
theorem dX2_next_20 : decode cX2_next 20 = .ok (.aload_n 0, 1) := by decide +kernel
theorem dX2_next_21 : decode cX2_next 21 = .ok (.getfield 21, 3) := by decide +kernel
theorem dX2_next_24 : decode cX2_next 24 = .ok (.aload_n 0, 1) := by decide +kernel
theorem dX2_next_25 : decode cX2_next 25 = .ok (.getfield 28, 3) := by decide +kernel
theorem dX2_next_28 : decode cX2_next 28 = .ok (.iaload, 1) := by decide +kernel
theorem dX2_next_29 : decode cX2_next 29 = .ok (.goto 4, 3) := by decide +kernel
theorem dX2_next_32 : decode cX2_next 32 = .ok (.iconst (-1), 1) := by decide +kernel
theorem dX2_next_33 : decode cX2_next 33 = .ok (.ireturn, 1) := by decide +kernel
theorem dX2_write_0 : decode cX2_write 0 = .ok (.aload_n 0, 1) := by decide +kernel
theorem dX2_write_1 : decode cX2_write 1 = .ok (.getfield 31, 3) := by decide +kernel
theorem dX2_write_4 : decode cX2_write 4 = .ok (.bipush 60, 2) := by decide +kernel
theorem dX2_write_6 : decode cX2_write 6 = .ok (.if_icmp .ge 23, 3) := by decide +kernel
theorem dX2_write_9 : decode cX2_write 9 = .ok (.aload_n 0, 1) := by decide +kernel
theorem dX2_write_10 : decode cX2_write 10 = .ok (.getfield 9, 3) := by decide +kernel
theorem dX2_write_13 : decode cX2_write 13 = .ok (.aload_n 0, 1) := by decide +kernel
theorem dX2_write_14 : decode cX2_write 14 = .ok (.getfield 31, 3) := by decide +kernel
theorem dX2_write_17 : decode cX2_write 17 = .ok (.iload_n 1, 1) := by decide +kernel
theorem dX2_write_18 : decode cX2_write 18 = .ok (.iastore, 1) := by decide +kernel
theorem dX2_write_19 : decode cX2_write 19 = .ok (.aload_n 0, 1) := by decide +kernel
theorem dX2_write_20 : decode cX2_write 20 = .ok (.dup, 1) := by decide +kernel
theorem dX2_write_21 : decode cX2_write 21 = .ok (.getfield 31, 3) := by decide +kernel
theorem dX2_write_24 : decode cX2_write 24 = .ok (.iconst 1, 1) := by decide +kernel
theorem dX2_write_25 : decode cX2_write 25 = .ok (.iadd, 1) := by decide +kernel
theorem dX2_write_26 : decode cX2_write 26 = .ok (.putfield 31, 3) := by decide +kernel
theorem dX2_write_29 : decode cX2_write 29 = .ok (.return_, 1) := by decide +kernel
theorem dX2_readOr_0 : decode cX2_readOr 0 = .ok (.aload_n 0, 1) := by decide +kernel
theorem dX2_readOr_1 : decode cX2_readOr 1 = .ok (.iload_n 1, 1) := by decide +kernel
theorem dX2_readOr_2 : decode cX2_readOr 2 = .ok (.invokevirtual 38, 3) := by decide +kernel
theorem dX2_readOr_5 : decode cX2_readOr 5 = .ok (.istore_n 2, 1) := by decide +kernel
theorem dX2_readOr_6 : decode cX2_readOr 6 = .ok (.iconst 0, 1) := by decide +kernel
theorem dX2_readOr_7 : decode cX2_readOr 7 = .ok (.istore_n 3, 1) := by decide +kernel
theorem dX2_readOr_8 : decode cX2_readOr 8 = .ok (.iload_n 3, 1) := by decide +kernel
theorem dX2_readOr_9 : decode cX2_readOr 9 = .ok (.bipush 60, 2) := by decide +kernel
theorem dX2_readOr_11 : decode cX2_readOr 11 = .ok (.if_icmp .ge 44, 3) := by decide +kernel
theorem dX2_readOr_14 : decode cX2_readOr 14 = .ok (.iload_n 2, 1) := by decide +kernel
theorem dX2_readOr_15 : decode cX2_readOr 15 = .ok (.ifCond .eq 40, 3) := by decide +kernel
theorem dX2_readOr_18 : decode cX2_readOr 18 = .ok (.aload_n 0, 1) := by decide +kernel
theorem dX2_readOr_19 : decode cX2_readOr 19 = .ok (.invokevirtual 41, 3) := by decide +kernel
theorem dX2_readOr_22 : decode cX2_readOr 22 = .ok (.bipush 124, 2) := by decide +kernel
theorem dX2_readOr_24 : decode cX2_readOr 24 = .ok (.if_icmp .ne 31, 3) := by decide +kernel
theorem dX2_readOr_27 : decode cX2_readOr 27 = .ok (.aload_n 0, 1) := by decide +kernel
theorem dX2_readOr_28 : decode cX2_readOr 28 = .ok (.dup, 1) := by decide +kernel
theorem dX2_readOr_29 : decode cX2_readOr 29 = .ok (.getfield 28, 3) := by decide +kernel
theorem dX2_readOr_32 : decode cX2_readOr 32 = .ok (.iconst 1, 1) := by decide +kernel
theorem dX2_readOr_33 : decode cX2_readOr 33 = .ok (.iadd, 1) := by decide +kernel
theorem dX2_readOr_34 : decode cX2_readOr 34 = .ok (.putfield 28, 3) := by decide +kernel
theorem dX2_readOr_37 : decode cX2_readOr 37 = .ok (.aload_n 0, 1) := by decide +kernel
theorem dX2_readOr_38 : decode cX2_readOr 38 = .ok (.iload_n 1, 1) := by decide +kernel
theorem dX2_readOr_39 : decode cX2_readOr 39 = .ok (.invokevirtual 38, 3) := by decide +kernel
theorem dX2_readOr_42 : decode cX2_readOr 42 = .ok (.istore_n 2, 1) := by decide +kernel
theorem dX2_readOr_43 : decode cX2_readOr 43 = .ok (.aload_n 0, 1) := by decide +kernel
theorem dX2_readOr_44 : decode cX2_readOr 44 = .ok (.bipush (-124), 2) := by decide +kernel
theorem dX2_readOr_46 : decode cX2_readOr 46 = .ok (.invokevirtual 45, 3) := by decide +kernel
theorem dX2_readOr_49 : decode cX2_readOr 49 = .ok (.iinc 3 1, 3) := by decide +kernel
theorem dX2_readOr_52 : decode cX2_readOr 52 = .ok (.goto (-44), 3) := by decide +kernel
theorem dX2_readOr_55 : decode cX2_readOr 55 = .ok (.iload_n 2, 1) := by decide +kernel
theorem dX2_readOr_56 : decode cX2_readOr 56 = .ok (.ireturn, 1) := by decide +kernel
theorem dX2_readAnd_0 : decode cX2_readAnd 0 = .ok (.aload_n 0, 1) := by decide +kernel
theorem dX2_readAnd_1 : decode cX2_readAnd 1 = .ok (.iload_n 1, 1) := by decide +kernel
theorem dX2_readAnd_2 : decode cX2_readAnd 2 = .ok (.invokevirtual 49, 3) := by decide +kernel
theorem dX2_readAnd_5 : decode cX2_readAnd 5 = .ok (.istore_n 2, 1) := by decide +kernel
theorem dX2_readAnd_6 : decode cX2_readAnd 6 = .ok (.iconst 0, 1) := by decide +kernel
theorem dX2_readAnd_7 : decode cX2_readAnd 7 = .ok (.istore_n 3, 1) := by decide +kernel
theorem dX2_readAnd_8 : decode cX2_readAnd 8 = .ok (.iload_n 3, 1) := by decide +kernel
theorem dX2_readAnd_9 : decode cX2_readAnd 9 = .ok (.bipush 60, 2) := by decide +kernel
theorem dX2_readAnd_11 : decode cX2_readAnd 11 = .ok (.if_icmp .ge 44, 3) := by decide +kernel
theorem dX2_readAnd_14 : decode cX2_readAnd 14 = .ok (.iload_n 2, 1) := by decide +kernel
theorem dX2_readAnd_15 : decode cX2_readAnd 15 = .ok (.ifCond .eq 40, 3) := by decide +kernel
theorem dX2_readAnd_18 : decode cX2_readAnd 18 = .ok (.aload_n 0, 1) := by decide +kernel
theorem dX2_readAnd_19 : decode cX2_readAnd 19 = .ok (.invokevirtual 41, 3) := by decide +kernel
theorem dX2_readAnd_22 : decode cX2_readAnd 22 = .ok (.bipush 38, 2) := by decide +kernel
theorem dX2_readAnd_24 : decode cX2_readAnd 24 = .ok (.if_icmp .ne 31, 3) := by decide +kernel
theorem dX2_readAnd_27 : decode cX2_readAnd 27 = .ok (.aload_n 0, 1) := by decide +kernel
theorem dX2_readAnd_28 : decode cX2_readAnd 28 = .ok (.dup, 1) := by decide +kernel
theorem dX2_readAnd_29 : decode cX2_readAnd 29 = .ok (.getfield 28, 3) := by decide +kernel
theorem dX2_readAnd_32 : decode cX2_readAnd 32 = .ok (.iconst 1, 1) := by decide +kernel
theorem dX2_readAnd_33 : decode cX2_readAnd 33 = .ok (.iadd, 1) := by decide +kernel
theorem dX2_readAnd_34 : decode cX2_readAnd 34 = .ok (.putfield 28, 3) := by decide +kernel
theorem dX2_readAnd_37 : decode cX2_readAnd 37 = .ok (.aload_n 0, 1) := by decide +kernel
theorem dX2_readAnd_38 : decode cX2_readAnd 38 = .ok (.iload_n 1, 1) := by decide +kernel
theorem dX2_readAnd_39 : decode cX2_readAnd 39 = .ok (.invokevirtual 49, 3) := by decide +kernel
theorem dX2_readAnd_42 : decode cX2_readAnd 42 = .ok (.istore_n 2, 1) := by decide +kernel
theorem dX2_readAnd_43 : decode cX2_readAnd 43 = .ok (.aload_n 0, 1) := by decide +kernel
theorem dX2_readAnd_44 : decode cX2_readAnd 44 = .ok (.bipush (-38), 2) := by decide +kernel
theorem dX2_readAnd_46 : decode cX2_readAnd 46 = .ok (.invokevirtual 45, 3) := by decide +kernel
theorem dX2_readAnd_49 : decode cX2_readAnd 49 = .ok (.iinc 3 1, 3) := by decide +kernel
theorem dX2_readAnd_52 : decode cX2_readAnd 52 = .ok (.goto (-44), 3) := by decide +kernel
theorem dX2_readAnd_55 : decode cX2_readAnd 55 = .ok (.iload_n 2, 1) := by decide +kernel
theorem dX2_readAnd_56 : decode cX2_readAnd 56 = .ok (.ireturn, 1) := by decide +kernel
theorem dX2_readCompared_0 : decode cX2_readCompared 0 = .ok (.aload_n 0, 1) := by decide +kernel
theorem dX2_readCompared_1 : decode cX2_readCompared 1 = .ok (.iload_n 1, 1) := by decide +kernel
theorem dX2_readCompared_2 : decode cX2_readCompared 2 = .ok (.invokevirtual 52, 3) := by decide +kernel
theorem dX2_readCompared_5 : decode cX2_readCompared 5 = .ok (.ifCond .ne 5, 3) := by decide +kernel
theorem dX2_readCompared_8 : decode cX2_readCompared 8 = .ok (.iconst 0, 1) := by decide +kernel
theorem dX2_readCompared_9 : decode cX2_readCompared 9 = .ok (.ireturn, 1) := by decide +kernel
theorem dX2_readCompared_10 : decode cX2_readCompared 10 = .ok (.aload_n 0, 1) := by decide +kernel
theorem dX2_readCompared_11 : decode cX2_readCompared 11 = .ok (.invokevirtual 41, 3) := by decide +kernel
theorem dX2_readCompared_14 : decode cX2_readCompared 14 = .ok (.istore_n 2, 1) := by decide +kernel
theorem dX2_readCompared_15 : decode cX2_readCompared 15 = .ok (.iload_n 2, 1) := by decide +kernel
theorem dX2_readCompared_16 : decode cX2_readCompared 16 = .ok (.bipush 60, 2) := by decide +kernel
theorem dX2_readCompared_18 : decode cX2_readCompared 18 = .ok (.if_icmp .eq 17, 3) := by decide +kernel
theorem dX2_readCompared_21 : decode cX2_readCompared 21 = .ok (.iload_n 2, 1) := by decide +kernel
theorem dX2_readCompared_22 : decode cX2_readCompared 22 = .ok (.bipush 61, 2) := by decide +kernel
theorem dX2_readCompared_24 : decode cX2_readCompared 24 = .ok (.if_icmp .eq 11, 3) := by decide +kernel
theorem dX2_readCompared_27 : decode cX2_readCompared 27 = .ok (.iload_n 2, 1) := by decide +kernel
theorem dX2_readCompared_28 : decode cX2_readCompared 28 = .ok (.bipush 62, 2) := by decide +kernel
theorem dX2_readCompared_30 : decode cX2_readCompared 30 = .ok (.if_icmp .eq 5, 3) := by decide +kernel
theorem dX2_readCompared_33 : decode cX2_readCompared 33 = .ok (.iconst 1, 1) := by decide +kernel
theorem dX2_readCompared_34 : decode cX2_readCompared 34 = .ok (.ireturn, 1) := by decide +kernel
theorem dX2_readCompared_35 : decode cX2_readCompared 35 = .ok (.aload_n 0, 1) := by decide +kernel
theorem dX2_readCompared_36 : decode cX2_readCompared 36 = .ok (.dup, 1) := by decide +kernel
theorem dX2_readCompared_37 : decode cX2_readCompared 37 = .ok (.getfield 28, 3) := by decide +kernel
theorem dX2_readCompared_40 : decode cX2_readCompared 40 = .ok (.iconst 1, 1) := by decide +kernel
theorem dX2_readCompared_41 : decode cX2_readCompared 41 = .ok (.iadd, 1) := by decide +kernel
theorem dX2_readCompared_42 : decode cX2_readCompared 42 = .ok (.putfield 28, 3) := by decide +kernel
theorem dX2_readCompared_45 : decode cX2_readCompared 45 = .ok (.aload_n 0, 1) := by decide +kernel
theorem dX2_readCompared_46 : decode cX2_readCompared 46 = .ok (.iload_n 1, 1) := by decide +kernel
theorem dX2_readCompared_47 : decode cX2_readCompared 47 = .ok (.invokevirtual 52, 3) := by decide +kernel
theorem dX2_readCompared_50 : decode cX2_readCompared 50 = .ok (.istore_n 3, 1) := by decide +kernel
theorem dX2_readCompared_51 : decode cX2_readCompared 51 = .ok (.aload_n 0, 1) := by decide +kernel
theorem dX2_readCompared_52 : decode cX2_readCompared 52 = .ok (.iload_n 2, 1) := by decide +kernel
theorem dX2_readCompared_53 : decode cX2_readCompared 53 = .ok (.ineg, 1) := by decide +kernel
theorem dX2_readCompared_54 : decode cX2_readCompared 54 = .ok (.invokevirtual 45, 3) := by decide +kernel
theorem dX2_readCompared_57 : decode cX2_readCompared 57 = .ok (.iload_n 3, 1) := by decide +kernel
theorem dX2_readCompared_58 : decode cX2_readCompared 58 = .ok (.ireturn, 1) := by decide +kernel
theorem dX2_readAdded_0 : decode cX2_readAdded 0 = .ok (.aload_n 0, 1) := by decide +kernel
theorem dX2_readAdded_1 : decode cX2_readAdded 1 = .ok (.iload_n 1, 1) := by decide +kernel
theorem dX2_readAdded_2 : decode cX2_readAdded 2 = .ok (.invokevirtual 55, 3) := by decide +kernel
theorem dX2_readAdded_5 : decode cX2_readAdded 5 = .ok (.istore_n 2, 1) := by decide +kernel
theorem dX2_readAdded_6 : decode cX2_readAdded 6 = .ok (.iconst 0, 1) := by decide +kernel
theorem dX2_readAdded_7 : decode cX2_readAdded 7 = .ok (.istore_n 3, 1) := by decide +kernel
theorem dX2_readAdded_8 : decode cX2_readAdded 8 = .ok (.iload_n 3, 1) := by decide +kernel
theorem dX2_readAdded_9 : decode cX2_readAdded 9 = .ok (.bipush 60, 2) := by decide +kernel
theorem dX2_readAdded_11 : decode cX2_readAdded 11 = .ok (.if_icmp .ge 60, 3) := by decide +kernel
theorem dX2_readAdded_14 : decode cX2_readAdded 14 = .ok (.iload_n 2, 1) := by decide +kernel
theorem dX2_readAdded_15 : decode cX2_readAdded 15 = .ok (.ifCond .eq 56, 3) := by decide +kernel
theorem dX2_readAdded_18 : decode cX2_readAdded 18 = .ok (.aload_n 0, 1) := by decide +kernel
theorem dX2_readAdded_19 : decode cX2_readAdded 19 = .ok (.invokevirtual 41, 3) := by decide +kernel
theorem dX2_readAdded_22 : decode cX2_readAdded 22 = .ok (.bipush 43, 2) := by decide +kernel
theorem dX2_readAdded_24 : decode cX2_readAdded 24 = .ok (.if_icmp .eq 12, 3) := by decide +kernel
theorem dX2_readAdded_27 : decode cX2_readAdded 27 = .ok (.aload_n 0, 1) := by decide +kernel
theorem dX2_readAdded_28 : decode cX2_readAdded 28 = .ok (.invokevirtual 41, 3) := by decide +kernel
theorem dX2_readAdded_31 : decode cX2_readAdded 31 = .ok (.bipush 45, 2) := by decide +kernel
theorem dX2_readAdded_33 : decode cX2_readAdded 33 = .ok (.if_icmp .ne 38, 3) := by decide +kernel
theorem dX2_readAdded_36 : decode cX2_readAdded 36 = .ok (.aload_n 0, 1) := by decide +kernel
theorem dX2_readAdded_37 : decode cX2_readAdded 37 = .ok (.invokevirtual 41, 3) := by decide +kernel
theorem dX2_readAdded_40 : decode cX2_readAdded 40 = .ok (.istore 4, 2) := by decide +kernel
theorem dX2_readAdded_42 : decode cX2_readAdded 42 = .ok (.aload_n 0, 1) := by decide +kernel
theorem dX2_readAdded_43 : decode cX2_readAdded 43 = .ok (.dup, 1) := by decide +kernel
theorem dX2_readAdded_44 : decode cX2_readAdded 44 = .ok (.getfield 28, 3) := by decide +kernel
theorem dX2_readAdded_47 : decode cX2_readAdded 47 = .ok (.iconst 1, 1) := by decide +kernel
theorem dX2_readAdded_48 : decode cX2_readAdded 48 = .ok (.iadd, 1) := by decide +kernel
theorem dX2_readAdded_49 : decode cX2_readAdded 49 = .ok (.putfield 28, 3) := by decide +kernel
theorem dX2_readAdded_52 : decode cX2_readAdded 52 = .ok (.aload_n 0, 1) := by decide +kernel
theorem dX2_readAdded_53 : decode cX2_readAdded 53 = .ok (.iload_n 1, 1) := by decide +kernel
theorem dX2_readAdded_54 : decode cX2_readAdded 54 = .ok (.invokevirtual 55, 3) := by decide +kernel
theorem dX2_readAdded_57 : decode cX2_readAdded 57 = .ok (.istore_n 2, 1) := by decide +kernel
theorem dX2_readAdded_58 : decode cX2_readAdded 58 = .ok (.aload_n 0, 1) := by decide +kernel
theorem dX2_readAdded_59 : decode cX2_readAdded 59 = .ok (.iload 4, 2) := by decide +kernel
theorem dX2_readAdded_61 : decode cX2_readAdded 61 = .ok (.ineg, 1) := by decide +kernel
theorem dX2_readAdded_62 : decode cX2_readAdded 62 = .ok (.invokevirtual 45, 3) := by decide +kernel
theorem dX2_readAdded_65 : decode cX2_readAdded 65 = .ok (.iinc 3 1, 3) := by decide +kernel
theorem dX2_readAdded_68 : decode cX2_readAdded 68 = .ok (.goto (-60), 3) := by decide +kernel
theorem dX2_readAdded_71 : decode cX2_readAdded 71 = .ok (.iload_n 2, 1) := by decide +kernel
theorem dX2_readAdded_72 : decode cX2_readAdded 72 = .ok (.ireturn, 1) := by decide +kernel
theorem dX2_readMultiplied_0 : decode cX2_readMultiplied 0 = .ok (.aload_n 0, 1) := by decide +kernel
theorem dX2_readMultiplied_1 : decode cX2_readMultiplied 1 = .ok (.iload_n 1, 1) := by decide +kernel
theorem dX2_readMultiplied_2 : decode cX2_readMultiplied 2 = .ok (.invokevirtual 58, 3) := by decide +kernel
theorem dX2_readMultiplied_5 : decode cX2_readMultiplied 5 = .ok (.istore_n 2, 1) := by decide +kernel
theorem dX2_readMultiplied_6 : decode cX2_readMultiplied 6 = .ok (.iconst 0, 1) := by decide +kernel
theorem dX2_readMultiplied_7 : decode cX2_readMultiplied 7 = .ok (.istore_n 3, 1) := by decide +kernel
theorem dX2_readMultiplied_8 : decode cX2_readMultiplied 8 = .ok (.iload_n 3, 1) := by decide +kernel
theorem dX2_readMultiplied_9 : decode cX2_readMultiplied 9 = .ok (.bipush 60, 2) := by decide +kernel
theorem dX2_readMultiplied_11 : decode cX2_readMultiplied 11 = .ok (.if_icmp .ge 52, 3) := by decide +kernel
theorem dX2_readMultiplied_14 : decode cX2_readMultiplied 14 = .ok (.iload_n 2, 1) := by decide +kernel
theorem dX2_readMultiplied_15 : decode cX2_readMultiplied 15 = .ok (.ifCond .eq 48, 3) := by decide +kernel
theorem dX2_readMultiplied_18 : decode cX2_readMultiplied 18 = .ok (.aload_n 0, 1) := by decide +kernel
theorem dX2_readMultiplied_19 : decode cX2_readMultiplied 19 = .ok (.invokevirtual 41, 3) := by decide +kernel
theorem dX2_readMultiplied_22 : decode cX2_readMultiplied 22 = .ok (.invokestatic 61, 3) := by decide +kernel
theorem dX2_readMultiplied_25 : decode cX2_readMultiplied 25 = .ok (.ifCond .eq 38, 3) := by decide +kernel
theorem dX2_readMultiplied_28 : decode cX2_readMultiplied 28 = .ok (.aload_n 0, 1) := by decide +kernel
theorem dX2_readMultiplied_29 : decode cX2_readMultiplied 29 = .ok (.invokevirtual 41, 3) := by decide +kernel
theorem dX2_readMultiplied_32 : decode cX2_readMultiplied 32 = .ok (.istore 4, 2) := by decide +kernel
theorem dX2_readMultiplied_34 : decode cX2_readMultiplied 34 = .ok (.aload_n 0, 1) := by decide +kernel
theorem dX2_readMultiplied_35 : decode cX2_readMultiplied 35 = .ok (.dup, 1) := by decide +kernel
theorem dX2_readMultiplied_36 : decode cX2_readMultiplied 36 = .ok (.getfield 28, 3) := by decide +kernel
theorem dX2_readMultiplied_39 : decode cX2_readMultiplied 39 = .ok (.iconst 1, 1) := by decide +kernel
theorem dX2_readMultiplied_40 : decode cX2_readMultiplied 40 = .ok (.iadd, 1) := by decide +kernel
theorem dX2_readMultiplied_41 : decode cX2_readMultiplied 41 = .ok (.putfield 28, 3) := by decide +kernel
theorem dX2_readMultiplied_44 : decode cX2_readMultiplied 44 = .ok (.aload_n 0, 1) := by decide +kernel
theorem dX2_readMultiplied_45 : decode cX2_readMultiplied 45 = .ok (.iload_n 1, 1) := by decide +kernel
theorem dX2_readMultiplied_46 : decode cX2_readMultiplied 46 = .ok (.invokevirtual 58, 3) := by decide +kernel
theorem dX2_readMultiplied_49 : decode cX2_readMultiplied 49 = .ok (.istore_n 2, 1) := by decide +kernel
theorem dX2_readMultiplied_50 : decode cX2_readMultiplied 50 = .ok (.aload_n 0, 1) := by decide +kernel
theorem dX2_readMultiplied_51 : decode cX2_readMultiplied 51 = .ok (.iload 4, 2) := by decide +kernel
theorem dX2_readMultiplied_53 : decode cX2_readMultiplied 53 = .ok (.ineg, 1) := by decide +kernel
theorem dX2_readMultiplied_54 : decode cX2_readMultiplied 54 = .ok (.invokevirtual 45, 3) := by decide +kernel
theorem dX2_readMultiplied_57 : decode cX2_readMultiplied 57 = .ok (.iinc 3 1, 3) := by decide +kernel
theorem dX2_readMultiplied_60 : decode cX2_readMultiplied 60 = .ok (.goto (-52), 3) := by decide +kernel
theorem dX2_readMultiplied_63 : decode cX2_readMultiplied 63 = .ok (.iload_n 2, 1) := by decide +kernel
theorem dX2_readMultiplied_64 : decode cX2_readMultiplied 64 = .ok (.ireturn, 1) := by decide +kernel
theorem dX2_isProductSign_0 : decode cX2_isProductSign 0 = .ok (.iload_n 0, 1) := by decide +kernel
theorem dX2_isProductSign_1 : decode cX2_isProductSign 1 = .ok (.bipush 42, 2) := by decide +kernel
theorem dX2_isProductSign_3 : decode cX2_isProductSign 3 = .ok (.if_icmp .eq 15, 3) := by decide +kernel
theorem dX2_isProductSign_6 : decode cX2_isProductSign 6 = .ok (.iload_n 0, 1) := by decide +kernel
theorem dX2_isProductSign_7 : decode cX2_isProductSign 7 = .ok (.bipush 47, 2) := by decide +kernel
theorem dX2_isProductSign_9 : decode cX2_isProductSign 9 = .ok (.if_icmp .eq 9, 3) := by decide +kernel
theorem dX2_isProductSign_12 : decode cX2_isProductSign 12 = .ok (.iload_n 0, 1) := by decide +kernel
theorem dX2_isProductSign_13 : decode cX2_isProductSign 13 = .ok (.bipush 37, 2) := by decide +kernel
theorem dX2_isProductSign_15 : decode cX2_isProductSign 15 = .ok (.if_icmp .ne 7, 3) := by decide +kernel
theorem dX2_isProductSign_18 : decode cX2_isProductSign 18 = .ok (.iconst 1, 1) := by decide +kernel
theorem dX2_isProductSign_19 : decode cX2_isProductSign 19 = .ok (.goto 4, 3) := by decide +kernel
theorem dX2_isProductSign_22 : decode cX2_isProductSign 22 = .ok (.iconst 0, 1) := by decide +kernel
theorem dX2_isProductSign_23 : decode cX2_isProductSign 23 = .ok (.ireturn, 1) := by decide +kernel
theorem dX2_readPart_0 : decode cX2_readPart 0 = .ok (.aload_n 0, 1) := by decide +kernel
theorem dX2_readPart_1 : decode cX2_readPart 1 = .ok (.invokevirtual 41, 3) := by decide +kernel
theorem dX2_readPart_4 : decode cX2_readPart 4 = .ok (.istore_n 2, 1) := by decide +kernel
theorem dX2_readPart_5 : decode cX2_readPart 5 = .ok (.iload_n 2, 1) := by decide +kernel
theorem dX2_readPart_6 : decode cX2_readPart 6 = .ok (.bipush 48, 2) := by decide +kernel
theorem dX2_readPart_8 : decode cX2_readPart 8 = .ok (.bipush 57, 2) := by decide +kernel
theorem dX2_readPart_10 : decode cX2_readPart 10 = .ok (.invokestatic 64, 3) := by decide +kernel
theorem dX2_readPart_13 : decode cX2_readPart 13 = .ok (.ifCond .eq 8, 3) := by decide +kernel
theorem dX2_readPart_16 : decode cX2_readPart 16 = .ok (.aload_n 0, 1) := by decide +kernel
theorem dX2_readPart_17 : decode cX2_readPart 17 = .ok (.invokevirtual 68, 3) := by decide +kernel
theorem dX2_readPart_20 : decode cX2_readPart 20 = .ok (.ireturn, 1) := by decide +kernel
theorem dX2_readPart_21 : decode cX2_readPart 21 = .ok (.iload_n 2, 1) := by decide +kernel
theorem dX2_readPart_22 : decode cX2_readPart 22 = .ok (.bipush 33, 2) := by decide +kernel
theorem dX2_readPart_24 : decode cX2_readPart 24 = .ok (.if_icmp .eq 9, 3) := by decide +kernel
theorem dX2_readPart_27 : decode cX2_readPart 27 = .ok (.iload_n 2, 1) := by decide +kernel
theorem dX2_readPart_28 : decode cX2_readPart 28 = .ok (.bipush 40, 2) := by decide +kernel
theorem dX2_readPart_30 : decode cX2_readPart 30 = .ok (.if_icmp .ne 25, 3) := by decide +kernel
theorem dX2_readPart_33 : decode cX2_readPart 33 = .ok (.iload_n 1, 1) := by decide +kernel
theorem dX2_readPart_34 : decode cX2_readPart 34 = .ok (.iconst 5, 1) := by decide +kernel
theorem dX2_readPart_35 : decode cX2_readPart 35 = .ok (.if_icmp .ge 18, 3) := by decide +kernel
theorem dX2_readPart_38 : decode cX2_readPart 38 = .ok (.aload_n 0, 1) := by decide +kernel
theorem dX2_readPart_39 : decode cX2_readPart 39 = .ok (.iload_n 2, 1) := by decide +kernel
theorem dX2_readPart_40 : decode cX2_readPart 40 = .ok (.iload_n 1, 1) := by decide +kernel
theorem dX2_readPart_41 : decode cX2_readPart 41 = .ok (.iconst 1, 1) := by decide +kernel
theorem dX2_readPart_42 : decode cX2_readPart 42 = .ok (.iadd, 1) := by decide +kernel
theorem dX2_readPart_43 : decode cX2_readPart 43 = .ok (.invokevirtual 72, 3) := by decide +kernel
theorem dX2_readPart_46 : decode cX2_readPart 46 = .ok (.ifCond .eq 7, 3) := by decide +kernel
theorem dX2_readPart_49 : decode cX2_readPart 49 = .ok (.iconst 1, 1) := by decide +kernel
theorem dX2_readPart_50 : decode cX2_readPart 50 = .ok (.goto 4, 3) := by decide +kernel
theorem dX2_readPart_53 : decode cX2_readPart 53 = .ok (.iconst 0, 1) := by decide +kernel
theorem dX2_readPart_54 : decode cX2_readPart 54 = .ok (.ireturn, 1) := by decide +kernel
theorem dX2_readPart_55 : decode cX2_readPart 55 = .ok (.iload_n 2, 1) := by decide +kernel
theorem dX2_readPart_56 : decode cX2_readPart 56 = .ok (.ifCond .ge 7, 3) := by decide +kernel
theorem dX2_readPart_59 : decode cX2_readPart 59 = .ok (.iconst (-1), 1) := by decide +kernel
theorem dX2_readPart_60 : decode cX2_readPart 60 = .ok (.goto 12, 3) := by decide +kernel
theorem dX2_readPart_63 : decode cX2_readPart 63 = .ok (.aload_n 0, 1) := by decide +kernel
theorem dX2_readPart_64 : decode cX2_readPart 64 = .ok (.getfield 17, 3) := by decide +kernel
theorem dX2_readPart_67 : decode cX2_readPart 67 = .ok (.iload_n 2, 1) := by decide +kernel
theorem dX2_readPart_68 : decode cX2_readPart 68 = .ok (.i2c, 1) := by decide +kernel
theorem dX2_readPart_69 : decode cX2_readPart 69 = .ok (.invokevirtual 76, 3) := by decide +kernel
theorem dX2_readPart_72 : decode cX2_readPart 72 = .ok (.istore_n 3, 1) := by decide +kernel
theorem dX2_readPart_73 : decode cX2_readPart 73 = .ok (.iload_n 3, 1) := by decide +kernel
theorem dX2_readPart_74 : decode cX2_readPart 74 = .ok (.ifCond .ge 5, 3) := by decide +kernel
theorem dX2_readPart_77 : decode cX2_readPart 77 = .ok (.iconst 0, 1) := by decide +kernel
theorem dX2_readPart_78 : decode cX2_readPart 78 = .ok (.ireturn, 1) := by decide +kernel
theorem dX2_readPart_79 : decode cX2_readPart 79 = .ok (.aload_n 0, 1) := by decide +kernel
theorem dX2_readPart_80 : decode cX2_readPart 80 = .ok (.dup, 1) := by decide +kernel
theorem dX2_readPart_81 : decode cX2_readPart 81 = .ok (.getfield 28, 3) := by decide +kernel
theorem dX2_readPart_84 : decode cX2_readPart 84 = .ok (.iconst 1, 1) := by decide +kernel
theorem dX2_readPart_85 : decode cX2_readPart 85 = .ok (.iadd, 1) := by decide +kernel
theorem dX2_readPart_86 : decode cX2_readPart 86 = .ok (.putfield 28, 3) := by decide +kernel
theorem dX2_readPart_89 : decode cX2_readPart 89 = .ok (.aload_n 0, 1) := by decide +kernel
theorem dX2_readPart_90 : decode cX2_readPart 90 = .ok (.iconst (-1), 1) := by decide +kernel
theorem dX2_readPart_91 : decode cX2_readPart 91 = .ok (.iload_n 3, 1) := by decide +kernel
theorem dX2_readPart_92 : decode cX2_readPart 92 = .ok (.isub, 1) := by decide +kernel
theorem dX2_readPart_93 : decode cX2_readPart 93 = .ok (.invokevirtual 45, 3) := by decide +kernel
theorem dX2_readPart_96 : decode cX2_readPart 96 = .ok (.iconst 1, 1) := by decide +kernel
theorem dX2_readPart_97 : decode cX2_readPart 97 = .ok (.ireturn, 1) := by decide +kernel
theorem dX2_readNumber_0 : decode cX2_readNumber 0 = .ok (.iconst 0, 1) := by decide +kernel
theorem dX2_readNumber_1 : decode cX2_readNumber 1 = .ok (.istore_n 1, 1) := by decide +kernel
theorem dX2_readNumber_2 : decode cX2_readNumber 2 = .ok (.iconst 0, 1) := by decide +kernel
theorem dX2_readNumber_3 : decode cX2_readNumber 3 = .ok (.istore_n 2, 1) := by decide +kernel
theorem dX2_readNumber_4 : decode cX2_readNumber 4 = .ok (.iload_n 2, 1) := by decide +kernel
theorem dX2_readNumber_5 : decode cX2_readNumber 5 = .ok (.iconst 4, 1) := by decide +kernel
theorem dX2_readNumber_6 : decode cX2_readNumber 6 = .ok (.if_icmp .ge 46, 3) := by decide +kernel
theorem dX2_readNumber_9 : decode cX2_readNumber 9 = .ok (.aload_n 0, 1) := by decide +kernel
theorem dX2_readNumber_10 : decode cX2_readNumber 10 = .ok (.invokevirtual 41, 3) := by decide +kernel
theorem dX2_readNumber_13 : decode cX2_readNumber 13 = .ok (.bipush 48, 2) := by decide +kernel
theorem dX2_readNumber_15 : decode cX2_readNumber 15 = .ok (.bipush 57, 2) := by decide +kernel
theorem dX2_readNumber_17 : decode cX2_readNumber 17 = .ok (.invokestatic 64, 3) := by decide +kernel
theorem dX2_readNumber_20 : decode cX2_readNumber 20 = .ok (.ifCond .eq 32, 3) := by decide +kernel
theorem dX2_readNumber_23 : decode cX2_readNumber 23 = .ok (.bipush 10, 2) := by decide +kernel
theorem dX2_readNumber_25 : decode cX2_readNumber 25 = .ok (.iload_n 1, 1) := by decide +kernel
theorem dX2_readNumber_26 : decode cX2_readNumber 26 = .ok (.imul, 1) := by decide +kernel
theorem dX2_readNumber_27 : decode cX2_readNumber 27 = .ok (.aload_n 0, 1) := by decide +kernel
theorem dX2_readNumber_28 : decode cX2_readNumber 28 = .ok (.invokevirtual 41, 3) := by decide +kernel
theorem dX2_readNumber_31 : decode cX2_readNumber 31 = .ok (.iadd, 1) := by decide +kernel
theorem dX2_readNumber_32 : decode cX2_readNumber 32 = .ok (.bipush 48, 2) := by decide +kernel
theorem dX2_readNumber_34 : decode cX2_readNumber 34 = .ok (.isub, 1) := by decide +kernel
theorem dX2_readNumber_35 : decode cX2_readNumber 35 = .ok (.istore_n 1, 1) := by decide +kernel
theorem dX2_readNumber_36 : decode cX2_readNumber 36 = .ok (.aload_n 0, 1) := by decide +kernel
theorem dX2_readNumber_37 : decode cX2_readNumber 37 = .ok (.dup, 1) := by decide +kernel
theorem dX2_readNumber_38 : decode cX2_readNumber 38 = .ok (.getfield 28, 3) := by decide +kernel
theorem dX2_readNumber_41 : decode cX2_readNumber 41 = .ok (.iconst 1, 1) := by decide +kernel
theorem dX2_readNumber_42 : decode cX2_readNumber 42 = .ok (.iadd, 1) := by decide +kernel
theorem dX2_readNumber_43 : decode cX2_readNumber 43 = .ok (.putfield 28, 3) := by decide +kernel
theorem dX2_readNumber_46 : decode cX2_readNumber 46 = .ok (.iinc 2 1, 3) := by decide +kernel
theorem dX2_readNumber_49 : decode cX2_readNumber 49 = .ok (.goto (-45), 3) := by decide +kernel
theorem dX2_readNumber_52 : decode cX2_readNumber 52 = .ok (.aload_n 0, 1) := by decide +kernel
theorem dX2_readNumber_53 : decode cX2_readNumber 53 = .ok (.iload_n 1, 1) := by decide +kernel
theorem dX2_readNumber_54 : decode cX2_readNumber 54 = .ok (.invokevirtual 45, 3) := by decide +kernel
theorem dX2_readNumber_57 : decode cX2_readNumber 57 = .ok (.iconst 1, 1) := by decide +kernel
theorem dX2_readNumber_58 : decode cX2_readNumber 58 = .ok (.ireturn, 1) := by decide +kernel
theorem dX2_readOpened_0 : decode cX2_readOpened 0 = .ok (.aload_n 0, 1) := by decide +kernel
theorem dX2_readOpened_1 : decode cX2_readOpened 1 = .ok (.dup, 1) := by decide +kernel
theorem dX2_readOpened_2 : decode cX2_readOpened 2 = .ok (.getfield 28, 3) := by decide +kernel
theorem dX2_readOpened_5 : decode cX2_readOpened 5 = .ok (.iconst 1, 1) := by decide +kernel
theorem dX2_readOpened_6 : decode cX2_readOpened 6 = .ok (.iadd, 1) := by decide +kernel
theorem dX2_readOpened_7 : decode cX2_readOpened 7 = .ok (.putfield 28, 3) := by decide +kernel
theorem dX2_readOpened_10 : decode cX2_readOpened 10 = .ok (.iload_n 1, 1) := by decide +kernel
theorem dX2_readOpened_11 : decode cX2_readOpened 11 = .ok (.bipush 33, 2) := by decide +kernel
theorem dX2_readOpened_13 : decode cX2_readOpened 13 = .ok (.if_icmp .ne 17, 3) := by decide +kernel
theorem dX2_readOpened_16 : decode cX2_readOpened 16 = .ok (.aload_n 0, 1) := by decide +kernel
theorem dX2_readOpened_17 : decode cX2_readOpened 17 = .ok (.iload_n 2, 1) := by decide +kernel
theorem dX2_readOpened_18 : decode cX2_readOpened 18 = .ok (.invokevirtual 58, 3) := by decide +kernel
theorem dX2_readOpened_21 : decode cX2_readOpened 21 = .ok (.istore_n 3, 1) := by decide +kernel
theorem dX2_readOpened_22 : decode cX2_readOpened 22 = .ok (.aload_n 0, 1) := by decide +kernel
theorem dX2_readOpened_23 : decode cX2_readOpened 23 = .ok (.bipush (-33), 2) := by decide +kernel
theorem dX2_readOpened_25 : decode cX2_readOpened 25 = .ok (.invokevirtual 45, 3) := by decide +kernel
theorem dX2_readOpened_28 : decode cX2_readOpened 28 = .ok (.iload_n 3, 1) := by decide +kernel
theorem dX2_readOpened_29 : decode cX2_readOpened 29 = .ok (.ireturn, 1) := by decide +kernel
theorem dX2_readOpened_30 : decode cX2_readOpened 30 = .ok (.aload_n 0, 1) := by decide +kernel
theorem dX2_readOpened_31 : decode cX2_readOpened 31 = .ok (.iload_n 2, 1) := by decide +kernel
theorem dX2_readOpened_32 : decode cX2_readOpened 32 = .ok (.invokevirtual 34, 3) := by decide +kernel
theorem dX2_readOpened_35 : decode cX2_readOpened 35 = .ok (.ifCond .eq 12, 3) := by decide +kernel
theorem dX2_readOpened_38 : decode cX2_readOpened 38 = .ok (.aload_n 0, 1) := by decide +kernel
theorem dX2_readOpened_39 : decode cX2_readOpened 39 = .ok (.invokevirtual 41, 3) := by decide +kernel
theorem dX2_readOpened_42 : decode cX2_readOpened 42 = .ok (.bipush 41, 2) := by decide +kernel
theorem dX2_readOpened_44 : decode cX2_readOpened 44 = .ok (.if_icmp .eq 5, 3) := by decide +kernel
theorem dX2_readOpened_47 : decode cX2_readOpened 47 = .ok (.iconst 0, 1) := by decide +kernel
theorem dX2_readOpened_48 : decode cX2_readOpened 48 = .ok (.ireturn, 1) := by decide +kernel
theorem dX2_readOpened_49 : decode cX2_readOpened 49 = .ok (.aload_n 0, 1) := by decide +kernel
theorem dX2_readOpened_50 : decode cX2_readOpened 50 = .ok (.dup, 1) := by decide +kernel
theorem dX2_readOpened_51 : decode cX2_readOpened 51 = .ok (.getfield 28, 3) := by decide +kernel
theorem dX2_readOpened_54 : decode cX2_readOpened 54 = .ok (.iconst 1, 1) := by decide +kernel
theorem dX2_readOpened_55 : decode cX2_readOpened 55 = .ok (.iadd, 1) := by decide +kernel
theorem dX2_readOpened_56 : decode cX2_readOpened 56 = .ok (.putfield 28, 3) := by decide +kernel
theorem dX2_readOpened_59 : decode cX2_readOpened 59 = .ok (.iconst 1, 1) := by decide +kernel
theorem dX2_readOpened_60 : decode cX2_readOpened 60 = .ok (.ireturn, 1) := by decide +kernel
theorem dX3_init_0 : decode cX3_init 0 = .ok (.aload_n 0, 1) := by decide +kernel
theorem dX3_init_1 : decode cX3_init 1 = .ok (.invokespecial 3, 3) := by decide +kernel
theorem dX3_init_4 : decode cX3_init 4 = .ok (.aload_n 0, 1) := by decide +kernel
theorem dX3_init_5 : decode cX3_init 5 = .ok (.iconst 4, 1) := by decide +kernel
theorem dX3_init_6 : decode cX3_init 6 = .ok (.bipush 24, 2) := by decide +kernel
theorem dX3_init_8 : decode cX3_init 8 = .ok (.multianewarray 9 2, 4) := by decide +kernel
theorem dX3_init_12 : decode cX3_init 12 = .ok (.putfield 11, 3) := by decide +kernel
theorem dX3_init_15 : decode cX3_init 15 = .ok (.aload_n 0, 1) := by decide +kernel
theorem dX3_init_16 : decode cX3_init 16 = .ok (.iconst 4, 1) := by decide +kernel
theorem dX3_init_17 : decode cX3_init 17 = .ok (.newarray .int, 2) := by decide +kernel
theorem dX3_init_19 : decode cX3_init 19 = .ok (.putfield 16, 3) := by decide +kernel
theorem dX3_init_22 : decode cX3_init 22 = .ok (.aload_n 0, 1) := by decide +kernel
theorem dX3_init_23 : decode cX3_init 23 = .ok (.iconst 4, 1) := by decide +kernel
theorem dX3_init_24 : decode cX3_init 24 = .ok (.newarray .int, 2) := by decide +kernel
theorem dX3_init_26 : decode cX3_init 26 = .ok (.putfield 20, 3) := by decide +kernel
theorem dX3_init_29 : decode cX3_init 29 = .ok (.return_, 1) := by decide +kernel
theorem dX3_isMissing_0 : decode cX3_isMissing 0 = .ok (.aload_n 0, 1) := by decide +kernel
theorem dX3_isMissing_1 : decode cX3_isMissing 1 = .ok (.getfield 16, 3) := by decide +kernel
theorem dX3_isMissing_4 : decode cX3_isMissing 4 = .ok (.iload_n 1, 1) := by decide +kernel
theorem dX3_isMissing_5 : decode cX3_isMissing 5 = .ok (.iaload, 1) := by decide +kernel
theorem dX3_isMissing_6 : decode cX3_isMissing 6 = .ok (.ifCond .ne 7, 3) := by decide +kernel
theorem dX3_isMissing_9 : decode cX3_isMissing 9 = .ok (.iconst 1, 1) := by decide +kernel
theorem dX3_isMissing_10 : decode cX3_isMissing 10 = .ok (.goto 4, 3) := by decide +kernel
theorem dX3_isMissing_13 : decode cX3_isMissing 13 = .ok (.iconst 0, 1) := by decide +kernel
theorem dX3_isMissing_14 : decode cX3_isMissing 14 = .ok (.ireturn, 1) := by decide +kernel
theorem dX3_lay_0 : decode cX3_lay 0 = .ok (.aload_n 0, 1) := by decide +kernel
theorem dX3_lay_1 : decode cX3_lay 1 = .ok (.getfield 16, 3) := by decide +kernel
theorem dX3_lay_4 : decode cX3_lay 4 = .ok (.iload_n 1, 1) := by decide +kernel
theorem dX3_lay_5 : decode cX3_lay 5 = .ok (.iload_n 2, 1) := by decide +kernel
theorem dX3_lay_6 : decode cX3_lay 6 = .ok (.iastore, 1) := by decide +kernel
theorem dX3_lay_7 : decode cX3_lay 7 = .ok (.aload_n 0, 1) := by decide +kernel
theorem dX3_lay_8 : decode cX3_lay 8 = .ok (.getfield 20, 3) := by decide +kernel
theorem dX3_lay_11 : decode cX3_lay 11 = .ok (.iload_n 1, 1) := by decide +kernel
theorem dX3_lay_12 : decode cX3_lay 12 = .ok (.iload_n 3, 1) := by decide +kernel
theorem dX3_lay_13 : decode cX3_lay 13 = .ok (.iastore, 1) := by decide +kernel
theorem dX3_lay_14 : decode cX3_lay 14 = .ok (.iconst 0, 1) := by decide +kernel
theorem dX3_lay_15 : decode cX3_lay 15 = .ok (.istore 4, 2) := by decide +kernel
theorem dX3_lay_17 : decode cX3_lay 17 = .ok (.iload 4, 2) := by decide +kernel
theorem dX3_lay_19 : decode cX3_lay 19 = .ok (.bipush 24, 2) := by decide +kernel
theorem dX3_lay_21 : decode cX3_lay 21 = .ok (.if_icmp .ge 19, 3) := by decide +kernel
theorem dX3_lay_24 : decode cX3_lay 24 = .ok (.aload_n 0, 1) := by decide +kernel
theorem dX3_lay_25 : decode cX3_lay 25 = .ok (.getfield 11, 3) := by decide +kernel
theorem dX3_lay_28 : decode cX3_lay 28 = .ok (.iload_n 1, 1) := by decide +kernel
theorem dX3_lay_29 : decode cX3_lay 29 = .ok (.aaload, 1) := by decide +kernel
theorem dX3_lay_30 : decode cX3_lay 30 = .ok (.iload 4, 2) := by decide +kernel
theorem dX3_lay_32 : decode cX3_lay 32 = .ok (.iconst 0, 1) := by decide +kernel
theorem dX3_lay_33 : decode cX3_lay 33 = .ok (.iastore, 1) := by decide +kernel
theorem dX3_lay_34 : decode cX3_lay 34 = .ok (.iinc 4 1, 3) := by decide +kernel
theorem dX3_lay_37 : decode cX3_lay 37 = .ok (.goto (-20), 3) := by decide +kernel
theorem dX3_lay_40 : decode cX3_lay 40 = .ok (.return_, 1) := by decide +kernel
theorem dX3_write_0 : decode cX3_write 0 = .ok (.aload_n 0, 1) := by decide +kernel
theorem dX3_write_1 : decode cX3_write 1 = .ok (.getfield 11, 3) := by decide +kernel
theorem dX3_write_4 : decode cX3_write 4 = .ok (.iload_n 1, 1) := by decide +kernel
theorem dX3_write_5 : decode cX3_write 5 = .ok (.aaload, 1) := by decide +kernel
theorem dX3_write_6 : decode cX3_write 6 = .ok (.iload_n 2, 1) := by decide +kernel
theorem dX3_write_7 : decode cX3_write 7 = .ok (.aload_n 0, 1) := by decide +kernel
theorem dX3_write_8 : decode cX3_write 8 = .ok (.getfield 16, 3) := by decide +kernel
theorem dX3_write_11 : decode cX3_write 11 = .ok (.iload_n 1, 1) := by decide +kernel
theorem dX3_write_12 : decode cX3_write 12 = .ok (.iaload, 1) := by decide +kernel
theorem dX3_write_13 : decode cX3_write 13 = .ok (.bipush 8, 2) := by decide +kernel
theorem dX3_write_15 : decode cX3_write 15 = .ok (.if_icmp .ne 8, 3) := by decide +kernel
theorem dX3_write_18 : decode cX3_write 18 = .ok (.iload_n 3, 1) := by decide +kernel
theorem dX3_write_19 : decode cX3_write 19 = .ok (.i2b, 1) := by decide +kernel
theorem dX3_write_20 : decode cX3_write 20 = .ok (.goto 20, 3) := by decide +kernel
theorem dX3_write_23 : decode cX3_write 23 = .ok (.aload_n 0, 1) := by decide +kernel
theorem dX3_write_24 : decode cX3_write 24 = .ok (.getfield 16, 3) := by decide +kernel
theorem dX3_write_27 : decode cX3_write 27 = .ok (.iload_n 1, 1) := by decide +kernel
theorem dX3_write_28 : decode cX3_write 28 = .ok (.iaload, 1) := by decide +kernel
theorem dX3_write_29 : decode cX3_write 29 = .ok (.bipush 16, 2) := by decide +kernel
theorem dX3_write_31 : decode cX3_write 31 = .ok (.if_icmp .ne 8, 3) := by decide +kernel
theorem dX3_write_34 : decode cX3_write 34 = .ok (.iload_n 3, 1) := by decide +kernel
theorem dX3_write_35 : decode cX3_write 35 = .ok (.i2s, 1) := by decide +kernel
theorem dX3_write_36 : decode cX3_write 36 = .ok (.goto 4, 3) := by decide +kernel
theorem dX3_write_39 : decode cX3_write 39 = .ok (.iload_n 3, 1) := by decide +kernel
theorem dX3_write_40 : decode cX3_write 40 = .ok (.iastore, 1) := by decide +kernel
theorem dX3_write_41 : decode cX3_write 41 = .ok (.return_, 1) := by decide +kernel
theorem dX3_stand_0 : decode cX3_stand 0 = .ok (.iload_n 2, 1) := by decide +kernel
theorem dX3_stand_1 : decode cX3_stand 1 = .ok (.ifCond .lt 33, 3) := by decide +kernel
theorem dX3_stand_4 : decode cX3_stand 4 = .ok (.iload_n 2, 1) := by decide +kernel
theorem dX3_stand_5 : decode cX3_stand 5 = .ok (.aload_n 0, 1) := by decide +kernel
theorem dX3_stand_6 : decode cX3_stand 6 = .ok (.getfield 20, 3) := by decide +kernel
theorem dX3_stand_9 : decode cX3_stand 9 = .ok (.iload_n 1, 1) := by decide +kernel
theorem dX3_stand_10 : decode cX3_stand 10 = .ok (.iaload, 1) := by decide +kernel
theorem dX3_stand_11 : decode cX3_stand 11 = .ok (.if_icmp .gt 23, 3) := by decide +kernel
theorem dX3_stand_14 : decode cX3_stand 14 = .ok (.iload_n 3, 1) := by decide +kernel
theorem dX3_stand_15 : decode cX3_stand 15 = .ok (.ifCond .lt 19, 3) := by decide +kernel
theorem dX3_stand_18 : decode cX3_stand 18 = .ok (.iload_n 3, 1) := by decide +kernel
theorem dX3_stand_19 : decode cX3_stand 19 = .ok (.aload_n 0, 1) := by decide +kernel
theorem dX3_stand_20 : decode cX3_stand 20 = .ok (.getfield 20, 3) := by decide +kernel
theorem dX3_stand_23 : decode cX3_stand 23 = .ok (.iload_n 1, 1) := by decide +kernel
theorem dX3_stand_24 : decode cX3_stand 24 = .ok (.iaload, 1) := by decide +kernel
theorem dX3_stand_25 : decode cX3_stand 25 = .ok (.iload_n 2, 1) := by decide +kernel
theorem dX3_stand_26 : decode cX3_stand 26 = .ok (.isub, 1) := by decide +kernel
theorem dX3_stand_27 : decode cX3_stand 27 = .ok (.if_icmp .gt 7, 3) := by decide +kernel
theorem dX3_stand_30 : decode cX3_stand 30 = .ok (.iconst 1, 1) := by decide +kernel
theorem dX3_stand_31 : decode cX3_stand 31 = .ok (.goto 4, 3) := by decide +kernel
theorem dX3_stand_34 : decode cX3_stand 34 = .ok (.iconst 0, 1) := by decide +kernel
theorem dX3_stand_35 : decode cX3_stand 35 = .ok (.ireturn, 1) := by decide +kernel
theorem dX4_init_0 : decode cX4_init 0 = .ok (.aload_n 0, 1) := by decide +kernel
theorem dX4_init_1 : decode cX4_init 1 = .ok (.invokespecial 3, 3) := by decide +kernel
theorem dX4_init_4 : decode cX4_init 4 = .ok (.aload_n 0, 1) := by decide +kernel
theorem dX4_init_5 : decode cX4_init 5 = .ok (.bipush 60, 2) := by decide +kernel
theorem dX4_init_7 : decode cX4_init 7 = .ok (.newarray .int, 2) := by decide +kernel
theorem dX4_init_9 : decode cX4_init 9 = .ok (.putfield 9, 3) := by decide +kernel
theorem dX4_init_12 : decode cX4_init 12 = .ok (.aload_n 0, 1) := by decide +kernel
theorem dX4_init_13 : decode cX4_init 13 = .ok (.bipush 60, 2) := by decide +kernel
theorem dX4_init_15 : decode cX4_init 15 = .ok (.newarray .int, 2) := by decide +kernel
theorem dX4_init_17 : decode cX4_init 17 = .ok (.putfield 15, 3) := by decide +kernel
theorem dX4_init_20 : decode cX4_init 20 = .ok (.aload_n 0, 1) := by decide +kernel
theorem dX4_init_21 : decode cX4_init 21 = .ok (.aload_n 1, 1) := by decide +kernel
theorem dX4_init_22 : decode cX4_init 22 = .ok (.putfield 18, 3) := by decide +kernel
theorem dX4_init_25 : decode cX4_init 25 = .ok (.aload_n 0, 1) := by decide +kernel
theorem dX4_init_26 : decode cX4_init 26 = .ok (.iload_n 2, 1) := by decide +kernel
theorem dX4_init_27 : decode cX4_init 27 = .ok (.putfield 22, 3) := by decide +kernel
theorem dX4_init_30 : decode cX4_init 30 = .ok (.aload_n 0, 1) := by decide +kernel
theorem dX4_init_31 : decode cX4_init 31 = .ok (.iload_n 3, 1) := by decide +kernel
theorem dX4_init_32 : decode cX4_init 32 = .ok (.putfield 26, 3) := by decide +kernel
theorem dX4_init_35 : decode cX4_init 35 = .ok (.return_, 1) := by decide +kernel
theorem dX4_copy_0 : decode cX4_copy 0 = .ok (.aload_n 1, 1) := by decide +kernel
theorem dX4_copy_1 : decode cX4_copy 1 = .ok (.iconst 0, 1) := by decide +kernel
theorem dX4_copy_2 : decode cX4_copy 2 = .ok (.aload_n 0, 1) := by decide +kernel
theorem dX4_copy_3 : decode cX4_copy 3 = .ok (.getfield 9, 3) := by decide +kernel
theorem dX4_copy_6 : decode cX4_copy 6 = .ok (.iconst 0, 1) := by decide +kernel
theorem dX4_copy_7 : decode cX4_copy 7 = .ok (.bipush 60, 2) := by decide +kernel
theorem dX4_copy_9 : decode cX4_copy 9 = .ok (.invokestatic 29, 3) := by decide +kernel
theorem dX4_copy_12 : decode cX4_copy 12 = .ok (.aload_n 0, 1) := by decide +kernel
theorem dX4_copy_13 : decode cX4_copy 13 = .ok (.iload_n 2, 1) := by decide +kernel
theorem dX4_copy_14 : decode cX4_copy 14 = .ok (.putfield 35, 3) := by decide +kernel
theorem dX4_copy_17 : decode cX4_copy 17 = .ok (.return_, 1) := by decide +kernel
theorem dX4_clear_0 : decode cX4_clear 0 = .ok (.aload_n 0, 1) := by decide +kernel
theorem dX4_clear_1 : decode cX4_clear 1 = .ok (.iconst 0, 1) := by decide +kernel
theorem dX4_clear_2 : decode cX4_clear 2 = .ok (.putfield 35, 3) := by decide +kernel
theorem dX4_clear_5 : decode cX4_clear 5 = .ok (.return_, 1) := by decide +kernel
theorem dX4_isThere_0 : decode cX4_isThere 0 = .ok (.aload_n 0, 1) := by decide +kernel
theorem dX4_isThere_1 : decode cX4_isThere 1 = .ok (.getfield 35, 3) := by decide +kernel
theorem dX4_isThere_4 : decode cX4_isThere 4 = .ok (.ifCond .le 7, 3) := by decide +kernel
theorem dX4_isThere_7 : decode cX4_isThere 7 = .ok (.iconst 1, 1) := by decide +kernel
theorem dX4_isThere_8 : decode cX4_isThere 8 = .ok (.goto 4, 3) := by decide +kernel
theorem dX4_isThere_11 : decode cX4_isThere 11 = .ok (.iconst 0, 1) := by decide +kernel
theorem dX4_isThere_12 : decode cX4_isThere 12 = .ok (.ireturn, 1) := by decide +kernel
theorem dX4_given_0 : decode cX4_given 0 = .ok (.aload_n 0, 1) := by decide +kernel
theorem dX4_given_1 : decode cX4_given 1 = .ok (.getfield 15, 3) := by decide +kernel
theorem dX4_given_4 : decode cX4_given 4 = .ok (.iconst 0, 1) := by decide +kernel
theorem dX4_given_5 : decode cX4_given 5 = .ok (.iload_n 1, 1) := by decide +kernel
theorem dX4_given_6 : decode cX4_given 6 = .ok (.iastore, 1) := by decide +kernel
theorem dX4_given_7 : decode cX4_given 7 = .ok (.iconst (-1), 1) := by decide +kernel
theorem dX4_given_8 : decode cX4_given 8 = .ok (.istore 4, 2) := by decide +kernel
theorem dX4_given_10 : decode cX4_given 10 = .ok (.iconst 0, 1) := by decide +kernel
theorem dX4_given_11 : decode cX4_given 11 = .ok (.istore 5, 2) := by decide +kernel
theorem dX4_given_13 : decode cX4_given 13 = .ok (.iload 5, 2) := by decide +kernel
theorem dX4_given_15 : decode cX4_given 15 = .ok (.aload_n 0, 1) := by decide +kernel
theorem dX4_given_16 : decode cX4_given 16 = .ok (.getfield 35, 3) := by decide +kernel
theorem dX4_given_19 : decode cX4_given 19 = .ok (.if_icmp .ge 160, 3) := by decide +kernel
theorem dX4_given_22 : decode cX4_given 22 = .ok (.iload 5, 2) := by decide +kernel
theorem dX4_given_24 : decode cX4_given 24 = .ok (.bipush 60, 2) := by decide +kernel
theorem dX4_given_26 : decode cX4_given 26 = .ok (.if_icmp .ge 153, 3) := by decide +kernel
theorem dX4_given_29 : decode cX4_given 29 = .ok (.aload_n 0, 1) := by decide +kernel
theorem dX4_given_30 : decode cX4_given 30 = .ok (.getfield 9, 3) := by decide +kernel
theorem dX4_given_33 : decode cX4_given 33 = .ok (.iload 5, 2) := by decide +kernel
theorem dX4_given_35 : decode cX4_given 35 = .ok (.iaload, 1) := by decide +kernel
theorem dX4_given_36 : decode cX4_given 36 = .ok (.istore 6, 2) := by decide +kernel
theorem dX4_given_38 : decode cX4_given 38 = .ok (.iload 6, 2) := by decide +kernel
theorem dX4_given_40 : decode cX4_given 40 = .ok (.bipush (-3), 2) := by decide +kernel
theorem dX4_given_42 : decode cX4_given 42 = .ok (.if_icmp .lt 56, 3) := by decide +kernel
theorem dX4_given_45 : decode cX4_given 45 = .ok (.iload 4, 2) := by decide +kernel
theorem dX4_given_47 : decode cX4_given 47 = .ok (.iconst 1, 1) := by decide +kernel
theorem dX4_given_48 : decode cX4_given 48 = .ok (.iadd, 1) := by decide +kernel
theorem dX4_given_49 : decode cX4_given 49 = .ok (.bipush 59, 2) := by decide +kernel
theorem dX4_given_51 : decode cX4_given 51 = .ok (.invokestatic 38, 3) := by decide +kernel
theorem dX4_given_54 : decode cX4_given 54 = .ok (.istore 4, 2) := by decide +kernel
theorem dX4_given_56 : decode cX4_given 56 = .ok (.aload_n 0, 1) := by decide +kernel
theorem dX4_given_57 : decode cX4_given 57 = .ok (.getfield 15, 3) := by decide +kernel
theorem dX4_given_60 : decode cX4_given 60 = .ok (.iload 4, 2) := by decide +kernel
theorem dX4_given_62 : decode cX4_given 62 = .ok (.iload 6, 2) := by decide +kernel
theorem dX4_given_64 : decode cX4_given 64 = .ok (.ifCond .lt 8, 3) := by decide +kernel
theorem dX4_given_67 : decode cX4_given 67 = .ok (.iload 6, 2) := by decide +kernel
theorem dX4_given_69 : decode cX4_given 69 = .ok (.goto 25, 3) := by decide +kernel
theorem dX4_given_72 : decode cX4_given 72 = .ok (.iload 6, 2) := by decide +kernel
theorem dX4_given_74 : decode cX4_given 74 = .ok (.iconst (-1), 1) := by decide +kernel
theorem dX4_given_75 : decode cX4_given 75 = .ok (.if_icmp .ne 7, 3) := by decide +kernel
theorem dX4_given_78 : decode cX4_given 78 = .ok (.iload_n 1, 1) := by decide +kernel
theorem dX4_given_79 : decode cX4_given 79 = .ok (.goto 15, 3) := by decide +kernel
theorem dX4_given_82 : decode cX4_given 82 = .ok (.iload 6, 2) := by decide +kernel
theorem dX4_given_84 : decode cX4_given 84 = .ok (.bipush (-2), 2) := by decide +kernel
theorem dX4_given_86 : decode cX4_given 86 = .ok (.if_icmp .ne 7, 3) := by decide +kernel
theorem dX4_given_89 : decode cX4_given 89 = .ok (.iload_n 2, 1) := by decide +kernel
theorem dX4_given_90 : decode cX4_given 90 = .ok (.goto 4, 3) := by decide +kernel
theorem dX4_given_93 : decode cX4_given 93 = .ok (.iload_n 3, 1) := by decide +kernel
theorem dX4_given_94 : decode cX4_given 94 = .ok (.iastore, 1) := by decide +kernel
theorem dX4_given_95 : decode cX4_given 95 = .ok (.goto 78, 3) := by decide +kernel
theorem dX4_given_98 : decode cX4_given 98 = .ok (.iload 6, 2) := by decide +kernel
theorem dX4_given_100 : decode cX4_given 100 = .ok (.bipush (-33), 2) := by decide +kernel
theorem dX4_given_102 : decode cX4_given 102 = .ok (.if_icmp .ne 33, 3) := by decide +kernel
theorem dX4_given_105 : decode cX4_given 105 = .ok (.iload 4, 2) := by decide +kernel
theorem dX4_given_107 : decode cX4_given 107 = .ok (.ifCond .lt 28, 3) := by decide +kernel
theorem dX4_given_110 : decode cX4_given 110 = .ok (.aload_n 0, 1) := by decide +kernel
theorem dX4_given_111 : decode cX4_given 111 = .ok (.getfield 15, 3) := by decide +kernel
theorem dX4_given_114 : decode cX4_given 114 = .ok (.iload 4, 2) := by decide +kernel
theorem dX4_given_116 : decode cX4_given 116 = .ok (.aload_n 0, 1) := by decide +kernel
theorem dX4_given_117 : decode cX4_given 117 = .ok (.getfield 15, 3) := by decide +kernel
theorem dX4_given_120 : decode cX4_given 120 = .ok (.iload 4, 2) := by decide +kernel
theorem dX4_given_122 : decode cX4_given 122 = .ok (.iaload, 1) := by decide +kernel
theorem dX4_given_123 : decode cX4_given 123 = .ok (.ifCond .ne 7, 3) := by decide +kernel
theorem dX4_given_126 : decode cX4_given 126 = .ok (.iconst 1, 1) := by decide +kernel
theorem dX4_given_127 : decode cX4_given 127 = .ok (.goto 4, 3) := by decide +kernel
theorem dX4_given_130 : decode cX4_given 130 = .ok (.iconst 0, 1) := by decide +kernel
theorem dX4_given_131 : decode cX4_given 131 = .ok (.iastore, 1) := by decide +kernel
theorem dX4_given_132 : decode cX4_given 132 = .ok (.goto 41, 3) := by decide +kernel
theorem dX4_given_135 : decode cX4_given 135 = .ok (.iload 4, 2) := by decide +kernel
theorem dX4_given_137 : decode cX4_given 137 = .ok (.iconst 1, 1) := by decide +kernel
theorem dX4_given_138 : decode cX4_given 138 = .ok (.if_icmp .lt 35, 3) := by decide +kernel
theorem dX4_given_141 : decode cX4_given 141 = .ok (.iinc 4 (-1), 3) := by decide +kernel
theorem dX4_given_144 : decode cX4_given 144 = .ok (.aload_n 0, 1) := by decide +kernel
theorem dX4_given_145 : decode cX4_given 145 = .ok (.getfield 15, 3) := by decide +kernel
theorem dX4_given_148 : decode cX4_given 148 = .ok (.iload 4, 2) := by decide +kernel
theorem dX4_given_150 : decode cX4_given 150 = .ok (.iload 6, 2) := by decide +kernel
theorem dX4_given_152 : decode cX4_given 152 = .ok (.ineg, 1) := by decide +kernel
theorem dX4_given_153 : decode cX4_given 153 = .ok (.aload_n 0, 1) := by decide +kernel
theorem dX4_given_154 : decode cX4_given 154 = .ok (.getfield 15, 3) := by decide +kernel
theorem dX4_given_157 : decode cX4_given 157 = .ok (.iload 4, 2) := by decide +kernel
theorem dX4_given_159 : decode cX4_given 159 = .ok (.iaload, 1) := by decide +kernel
theorem dX4_given_160 : decode cX4_given 160 = .ok (.aload_n 0, 1) := by decide +kernel
theorem dX4_given_161 : decode cX4_given 161 = .ok (.getfield 15, 3) := by decide +kernel
theorem dX4_given_164 : decode cX4_given 164 = .ok (.iload 4, 2) := by decide +kernel
theorem dX4_given_166 : decode cX4_given 166 = .ok (.iconst 1, 1) := by decide +kernel
theorem dX4_given_167 : decode cX4_given 167 = .ok (.iadd, 1) := by decide +kernel
theorem dX4_given_168 : decode cX4_given 168 = .ok (.iaload, 1) := by decide +kernel
theorem dX4_given_169 : decode cX4_given 169 = .ok (.invokestatic 44, 3) := by decide +kernel
theorem dX4_given_172 : decode cX4_given 172 = .ok (.iastore, 1) := by decide +kernel
theorem dX4_given_173 : decode cX4_given 173 = .ok (.iinc 5 1, 3) := by decide +kernel
theorem dX4_given_176 : decode cX4_given 176 = .ok (.goto (-163), 3) := by decide +kernel
theorem dX4_given_179 : decode cX4_given 179 = .ok (.aload_n 0, 1) := by decide +kernel
theorem dX4_given_180 : decode cX4_given 180 = .ok (.getfield 22, 3) := by decide +kernel
theorem dX4_given_183 : decode cX4_given 183 = .ok (.aload_n 0, 1) := by decide +kernel
theorem dX4_given_184 : decode cX4_given 184 = .ok (.getfield 26, 3) := by decide +kernel
theorem dX4_given_187 : decode cX4_given 187 = .ok (.aload_n 0, 1) := by decide +kernel
theorem dX4_given_188 : decode cX4_given 188 = .ok (.getfield 15, 3) := by decide +kernel
theorem dX4_given_191 : decode cX4_given 191 = .ok (.iconst 0, 1) := by decide +kernel
theorem dX4_given_192 : decode cX4_given 192 = .ok (.iaload, 1) := by decide +kernel
theorem dX4_given_193 : decode cX4_given 193 = .ok (.invokestatic 38, 3) := by decide +kernel
theorem dX4_given_196 : decode cX4_given 196 = .ok (.invokestatic 48, 3) := by decide +kernel
theorem dX4_given_199 : decode cX4_given 199 = .ok (.ireturn, 1) := by decide +kernel
theorem dX4_joined_0 : decode cX4_joined 0 = .ok (.iload_n 0, 1) := by decide +kernel
theorem dX4_joined_1 : decode cX4_joined 1 = .ok (.lookupswitch 188 #[(37, 176), (38, 105), (42, 160), (43, 152), (45, 156), (47, 164), (60, 119), (61, 130), (62, 141), (124, 91)], 91) := by decide +kernel
theorem dX4_joined_92 : decode cX4_joined 92 = .ok (.iload_n 1, 1) := by decide +kernel
theorem dX4_joined_93 : decode cX4_joined 93 = .ok (.ifCond .ne 7, 3) := by decide +kernel
theorem dX4_joined_96 : decode cX4_joined 96 = .ok (.iload_n 2, 1) := by decide +kernel
theorem dX4_joined_97 : decode cX4_joined 97 = .ok (.ifCond .eq 7, 3) := by decide +kernel
theorem dX4_joined_100 : decode cX4_joined 100 = .ok (.iconst 1, 1) := by decide +kernel
theorem dX4_joined_101 : decode cX4_joined 101 = .ok (.goto 4, 3) := by decide +kernel
theorem dX4_joined_104 : decode cX4_joined 104 = .ok (.iconst 0, 1) := by decide +kernel
theorem dX4_joined_105 : decode cX4_joined 105 = .ok (.ireturn, 1) := by decide +kernel
theorem dX4_joined_106 : decode cX4_joined 106 = .ok (.iload_n 1, 1) := by decide +kernel
theorem dX4_joined_107 : decode cX4_joined 107 = .ok (.ifCond .eq 11, 3) := by decide +kernel
theorem dX4_joined_110 : decode cX4_joined 110 = .ok (.iload_n 2, 1) := by decide +kernel
theorem dX4_joined_111 : decode cX4_joined 111 = .ok (.ifCond .eq 7, 3) := by decide +kernel
theorem dX4_joined_114 : decode cX4_joined 114 = .ok (.iconst 1, 1) := by decide +kernel
theorem dX4_joined_115 : decode cX4_joined 115 = .ok (.goto 4, 3) := by decide +kernel
theorem dX4_joined_118 : decode cX4_joined 118 = .ok (.iconst 0, 1) := by decide +kernel
theorem dX4_joined_119 : decode cX4_joined 119 = .ok (.ireturn, 1) := by decide +kernel
theorem dX4_joined_120 : decode cX4_joined 120 = .ok (.iload_n 1, 1) := by decide +kernel
theorem dX4_joined_121 : decode cX4_joined 121 = .ok (.iload_n 2, 1) := by decide +kernel
theorem dX4_joined_122 : decode cX4_joined 122 = .ok (.if_icmp .ge 7, 3) := by decide +kernel
theorem dX4_joined_125 : decode cX4_joined 125 = .ok (.iconst 1, 1) := by decide +kernel
theorem dX4_joined_126 : decode cX4_joined 126 = .ok (.goto 4, 3) := by decide +kernel
theorem dX4_joined_129 : decode cX4_joined 129 = .ok (.iconst 0, 1) := by decide +kernel
theorem dX4_joined_130 : decode cX4_joined 130 = .ok (.ireturn, 1) := by decide +kernel
theorem dX4_joined_131 : decode cX4_joined 131 = .ok (.iload_n 1, 1) := by decide +kernel
theorem dX4_joined_132 : decode cX4_joined 132 = .ok (.iload_n 2, 1) := by decide +kernel
theorem dX4_joined_133 : decode cX4_joined 133 = .ok (.if_icmp .ne 7, 3) := by decide +kernel
theorem dX4_joined_136 : decode cX4_joined 136 = .ok (.iconst 1, 1) := by decide +kernel
theorem dX4_joined_137 : decode cX4_joined 137 = .ok (.goto 4, 3) := by decide +kernel
theorem dX4_joined_140 : decode cX4_joined 140 = .ok (.iconst 0, 1) := by decide +kernel
theorem dX4_joined_141 : decode cX4_joined 141 = .ok (.ireturn, 1) := by decide +kernel
theorem dX4_joined_142 : decode cX4_joined 142 = .ok (.iload_n 1, 1) := by decide +kernel
theorem dX4_joined_143 : decode cX4_joined 143 = .ok (.iload_n 2, 1) := by decide +kernel
theorem dX4_joined_144 : decode cX4_joined 144 = .ok (.if_icmp .le 7, 3) := by decide +kernel
theorem dX4_joined_147 : decode cX4_joined 147 = .ok (.iconst 1, 1) := by decide +kernel
theorem dX4_joined_148 : decode cX4_joined 148 = .ok (.goto 4, 3) := by decide +kernel
theorem dX4_joined_151 : decode cX4_joined 151 = .ok (.iconst 0, 1) := by decide +kernel
theorem dX4_joined_152 : decode cX4_joined 152 = .ok (.ireturn, 1) := by decide +kernel
theorem dX4_joined_153 : decode cX4_joined 153 = .ok (.iload_n 1, 1) := by decide +kernel
theorem dX4_joined_154 : decode cX4_joined 154 = .ok (.iload_n 2, 1) := by decide +kernel
theorem dX4_joined_155 : decode cX4_joined 155 = .ok (.iadd, 1) := by decide +kernel
theorem dX4_joined_156 : decode cX4_joined 156 = .ok (.ireturn, 1) := by decide +kernel
theorem dX4_joined_157 : decode cX4_joined 157 = .ok (.iload_n 1, 1) := by decide +kernel
theorem dX4_joined_158 : decode cX4_joined 158 = .ok (.iload_n 2, 1) := by decide +kernel
theorem dX4_joined_159 : decode cX4_joined 159 = .ok (.isub, 1) := by decide +kernel
theorem dX4_joined_160 : decode cX4_joined 160 = .ok (.ireturn, 1) := by decide +kernel
theorem dX4_joined_161 : decode cX4_joined 161 = .ok (.iload_n 1, 1) := by decide +kernel
theorem dX4_joined_162 : decode cX4_joined 162 = .ok (.iload_n 2, 1) := by decide +kernel
theorem dX4_joined_163 : decode cX4_joined 163 = .ok (.imul, 1) := by decide +kernel
theorem dX4_joined_164 : decode cX4_joined 164 = .ok (.ireturn, 1) := by decide +kernel
theorem dX4_joined_165 : decode cX4_joined 165 = .ok (.iload_n 2, 1) := by decide +kernel
theorem dX4_joined_166 : decode cX4_joined 166 = .ok (.ifCond .ne 7, 3) := by decide +kernel
theorem dX4_joined_169 : decode cX4_joined 169 = .ok (.iconst 0, 1) := by decide +kernel
theorem dX4_joined_170 : decode cX4_joined 170 = .ok (.goto 6, 3) := by decide +kernel
theorem dX4_joined_173 : decode cX4_joined 173 = .ok (.iload_n 1, 1) := by decide +kernel
theorem dX4_joined_174 : decode cX4_joined 174 = .ok (.iload_n 2, 1) := by decide +kernel
theorem dX4_joined_175 : decode cX4_joined 175 = .ok (.idiv, 1) := by decide +kernel
theorem dX4_joined_176 : decode cX4_joined 176 = .ok (.ireturn, 1) := by decide +kernel
theorem dX4_joined_177 : decode cX4_joined 177 = .ok (.iload_n 2, 1) := by decide +kernel
theorem dX4_joined_178 : decode cX4_joined 178 = .ok (.ifCond .ne 7, 3) := by decide +kernel
theorem dX4_joined_181 : decode cX4_joined 181 = .ok (.iconst 0, 1) := by decide +kernel
theorem dX4_joined_182 : decode cX4_joined 182 = .ok (.goto 6, 3) := by decide +kernel
theorem dX4_joined_185 : decode cX4_joined 185 = .ok (.iload_n 1, 1) := by decide +kernel
theorem dX4_joined_186 : decode cX4_joined 186 = .ok (.iload_n 2, 1) := by decide +kernel
theorem dX4_joined_187 : decode cX4_joined 187 = .ok (.irem, 1) := by decide +kernel
theorem dX4_joined_188 : decode cX4_joined 188 = .ok (.ireturn, 1) := by decide +kernel
theorem dX4_joined_189 : decode cX4_joined 189 = .ok (.iconst 0, 1) := by decide +kernel
theorem dX4_joined_190 : decode cX4_joined 190 = .ok (.ireturn, 1) := by decide +kernel
theorem dX5_init_0 : decode cX5_init 0 = .ok (.aload_n 0, 1) := by decide +kernel
theorem dX5_init_1 : decode cX5_init 1 = .ok (.invokespecial 3, 3) := by decide +kernel
theorem dX5_init_4 : decode cX5_init 4 = .ok (.aload_n 0, 1) := by decide +kernel
theorem dX5_init_5 : decode cX5_init 5 = .ok (.bipush 30, 2) := by decide +kernel
theorem dX5_init_7 : decode cX5_init 7 = .ok (.newarray .int, 2) := by decide +kernel
theorem dX5_init_9 : decode cX5_init 9 = .ok (.putfield 9, 3) := by decide +kernel
theorem dX5_init_12 : decode cX5_init 12 = .ok (.return_, 1) := by decide +kernel
theorem dX5_answerOf_0 : decode cX5_answerOf 0 = .ok (.aload_n 0, 1) := by decide +kernel
theorem dX5_answerOf_1 : decode cX5_answerOf 1 = .ok (.iload_n 1, 1) := by decide +kernel
theorem dX5_answerOf_2 : decode cX5_answerOf 2 = .ok (.putfield 15, 3) := by decide +kernel
theorem dX5_answerOf_5 : decode cX5_answerOf 5 = .ok (.aload_n 0, 1) := by decide +kernel
theorem dX5_answerOf_6 : decode cX5_answerOf 6 = .ok (.iload_n 2, 1) := by decide +kernel
theorem dX5_answerOf_7 : decode cX5_answerOf 7 = .ok (.putfield 19, 3) := by decide +kernel
theorem dX5_answerOf_10 : decode cX5_answerOf 10 = .ok (.aload_n 0, 1) := by decide +kernel
theorem dX5_answerOf_11 : decode cX5_answerOf 11 = .ok (.iload_n 3, 1) := by decide +kernel
theorem dX5_answerOf_12 : decode cX5_answerOf 12 = .ok (.putfield 22, 3) := by decide +kernel
theorem dX5_answerOf_15 : decode cX5_answerOf 15 = .ok (.aload_n 0, 1) := by decide +kernel
theorem dX5_answerOf_16 : decode cX5_answerOf 16 = .ok (.iconst 0, 1) := by decide +kernel
theorem dX5_answerOf_17 : decode cX5_answerOf 17 = .ok (.putfield 25, 3) := by decide +kernel
theorem dX5_answerOf_20 : decode cX5_answerOf 20 = .ok (.aload_n 0, 1) := by decide +kernel
theorem dX5_answerOf_21 : decode cX5_answerOf 21 = .ok (.iconst 0, 1) := by decide +kernel
theorem dX5_answerOf_22 : decode cX5_answerOf 22 = .ok (.putfield 29, 3) := by decide +kernel
theorem dX5_answerOf_25 : decode cX5_answerOf 25 = .ok (.aload_n 0, 1) := by decide +kernel
theorem dX5_answerOf_26 : decode cX5_answerOf 26 = .ok (.iload_n 3, 1) := by decide +kernel
theorem dX5_answerOf_27 : decode cX5_answerOf 27 = .ok (.iload 4, 2) := by decide +kernel
theorem dX5_answerOf_29 : decode cX5_answerOf 29 = .ok (.iload 5, 2) := by decide +kernel
theorem dX5_answerOf_31 : decode cX5_answerOf 31 = .ok (.iconst 0, 1) := by decide +kernel
theorem dX5_answerOf_32 : decode cX5_answerOf 32 = .ok (.invokevirtual 32, 3) := by decide +kernel
theorem dX5_answerOf_35 : decode cX5_answerOf 35 = .ok (.ireturn, 1) := by decide +kernel
theorem dX5_spoken_0 : decode cX5_spoken 0 = .ok (.iconst 4, 1) := by decide +kernel
theorem dX5_spoken_1 : decode cX5_spoken 1 = .ok (.iload_n 1, 1) := by decide +kernel
theorem dX5_spoken_2 : decode cX5_spoken 2 = .ok (.imul, 1) := by decide +kernel
theorem dX5_spoken_3 : decode cX5_spoken 3 = .ok (.iload_n 2, 1) := by decide +kernel
theorem dX5_spoken_4 : decode cX5_spoken 4 = .ok (.iadd, 1) := by decide +kernel
theorem dX5_spoken_5 : decode cX5_spoken 5 = .ok (.istore 5, 2) := by decide +kernel
theorem dX5_spoken_7 : decode cX5_spoken 7 = .ok (.aload_n 0, 1) := by decide +kernel
theorem dX5_spoken_8 : decode cX5_spoken 8 = .ok (.getfield 25, 3) := by decide +kernel
theorem dX5_spoken_11 : decode cX5_spoken 11 = .ok (.ifCond .ne 25, 3) := by decide +kernel
theorem dX5_spoken_14 : decode cX5_spoken 14 = .ok (.iload 4, 2) := by decide +kernel
theorem dX5_spoken_16 : decode cX5_spoken 16 = .ok (.bipush 20, 2) := by decide +kernel
theorem dX5_spoken_18 : decode cX5_spoken 18 = .ok (.if_icmp .gt 18, 3) := by decide +kernel
theorem dX5_spoken_21 : decode cX5_spoken 21 = .ok (.iload 5, 2) := by decide +kernel
theorem dX5_spoken_23 : decode cX5_spoken 23 = .ok (.iconst 0, 1) := by decide +kernel
theorem dX5_spoken_24 : decode cX5_spoken 24 = .ok (.getstatic 36, 3) := by decide +kernel
theorem dX5_spoken_27 : decode cX5_spoken 27 = .ok (.arraylength, 1) := by decide +kernel
theorem dX5_spoken_28 : decode cX5_spoken 28 = .ok (.iconst 1, 1) := by decide +kernel
theorem dX5_spoken_29 : decode cX5_spoken 29 = .ok (.isub, 1) := by decide +kernel
theorem dX5_spoken_30 : decode cX5_spoken 30 = .ok (.invokestatic 39, 3) := by decide +kernel
theorem dX5_spoken_33 : decode cX5_spoken 33 = .ok (.ifCond .ne 5, 3) := by decide +kernel
theorem dX5_spoken_36 : decode cX5_spoken 36 = .ok (.iconst 0, 1) := by decide +kernel
theorem dX5_spoken_37 : decode cX5_spoken 37 = .ok (.ireturn, 1) := by decide +kernel
theorem dX5_spoken_38 : decode cX5_spoken 38 = .ok (.aload_n 0, 1) := by decide +kernel
theorem dX5_spoken_39 : decode cX5_spoken 39 = .ok (.getstatic 36, 3) := by decide +kernel
theorem dX5_spoken_42 : decode cX5_spoken 42 = .ok (.iload 5, 2) := by decide +kernel
theorem dX5_spoken_44 : decode cX5_spoken 44 = .ok (.iaload, 1) := by decide +kernel
theorem dX5_spoken_45 : decode cX5_spoken 45 = .ok (.iload_n 3, 1) := by decide +kernel
theorem dX5_spoken_46 : decode cX5_spoken 46 = .ok (.iload 4, 2) := by decide +kernel
theorem dX5_spoken_48 : decode cX5_spoken 48 = .ok (.iconst 1, 1) := by decide +kernel
theorem dX5_spoken_49 : decode cX5_spoken 49 = .ok (.iadd, 1) := by decide +kernel
theorem dX5_spoken_50 : decode cX5_spoken 50 = .ok (.invokevirtual 43, 3) := by decide +kernel
theorem dX5_spoken_53 : decode cX5_spoken 53 = .ok (.ireturn, 1) := by decide +kernel
theorem dX5_worked_0 : decode cX5_worked 0 = .ok (.aload_n 0, 1) := by decide +kernel
theorem dX5_worked_1 : decode cX5_worked 1 = .ok (.getfield 29, 3) := by decide +kernel
theorem dX5_worked_4 : decode cX5_worked 4 = .ok (.bipush 30, 2) := by decide +kernel
theorem dX5_worked_6 : decode cX5_worked 6 = .ok (.if_icmp .ge 23, 3) := by decide +kernel
theorem dX5_worked_9 : decode cX5_worked 9 = .ok (.aload_n 0, 1) := by decide +kernel
theorem dX5_worked_10 : decode cX5_worked 10 = .ok (.getfield 9, 3) := by decide +kernel
theorem dX5_worked_13 : decode cX5_worked 13 = .ok (.aload_n 0, 1) := by decide +kernel
theorem dX5_worked_14 : decode cX5_worked 14 = .ok (.getfield 29, 3) := by decide +kernel
theorem dX5_worked_17 : decode cX5_worked 17 = .ok (.iload_n 1, 1) := by decide +kernel
theorem dX5_worked_18 : decode cX5_worked 18 = .ok (.iastore, 1) := by decide +kernel
theorem dX5_worked_19 : decode cX5_worked 19 = .ok (.aload_n 0, 1) := by decide +kernel
theorem dX5_worked_20 : decode cX5_worked 20 = .ok (.dup, 1) := by decide +kernel
theorem dX5_worked_21 : decode cX5_worked 21 = .ok (.getfield 29, 3) := by decide +kernel
theorem dX5_worked_24 : decode cX5_worked 24 = .ok (.iconst 1, 1) := by decide +kernel
theorem dX5_worked_25 : decode cX5_worked 25 = .ok (.iadd, 1) := by decide +kernel
theorem dX5_worked_26 : decode cX5_worked 26 = .ok (.putfield 29, 3) := by decide +kernel
theorem dX5_worked_29 : decode cX5_worked 29 = .ok (.iload_n 1, 1) := by decide +kernel
theorem dX5_worked_30 : decode cX5_worked 30 = .ok (.lookupswitch 264 #[(10, 114), (11, 121), (12, 135), (13, 152), (20, 158), (21, 169), (30, 190), (40, 200), (50, 211), (51, 222), (60, 236), (70, 247), (71, 250)], 114) := by decide +kernel
theorem dX5_worked_144 : decode cX5_worked 144 = .ok (.iload_n 2, 1) := by decide +kernel
theorem dX5_worked_145 : decode cX5_worked 145 = .ok (.aload_n 0, 1) := by decide +kernel
theorem dX5_worked_146 : decode cX5_worked 146 = .ok (.getfield 15, 3) := by decide +kernel
theorem dX5_worked_149 : decode cX5_worked 149 = .ok (.iadd, 1) := by decide +kernel
theorem dX5_worked_150 : decode cX5_worked 150 = .ok (.ireturn, 1) := by decide +kernel
theorem dX5_worked_151 : decode cX5_worked 151 = .ok (.aload_n 0, 1) := by decide +kernel
theorem dX5_worked_152 : decode cX5_worked 152 = .ok (.aload_n 0, 1) := by decide +kernel
theorem dX5_worked_153 : decode cX5_worked 153 = .ok (.getfield 22, 3) := by decide +kernel
theorem dX5_worked_156 : decode cX5_worked 156 = .ok (.iconst 0, 1) := by decide +kernel
theorem dX5_worked_157 : decode cX5_worked 157 = .ok (.iload_n 2, 1) := by decide +kernel
theorem dX5_worked_158 : decode cX5_worked 158 = .ok (.iload_n 3, 1) := by decide +kernel
theorem dX5_worked_159 : decode cX5_worked 159 = .ok (.invokevirtual 32, 3) := by decide +kernel
theorem dX5_worked_162 : decode cX5_worked 162 = .ok (.iconst 2, 1) := by decide +kernel
theorem dX5_worked_163 : decode cX5_worked 163 = .ok (.imul, 1) := by decide +kernel
theorem dX5_worked_164 : decode cX5_worked 164 = .ok (.ireturn, 1) := by decide +kernel
theorem dX5_worked_165 : decode cX5_worked 165 = .ok (.aload_n 0, 1) := by decide +kernel
theorem dX5_worked_166 : decode cX5_worked 166 = .ok (.aload_n 0, 1) := by decide +kernel
theorem dX5_worked_167 : decode cX5_worked 167 = .ok (.getfield 22, 3) := by decide +kernel
theorem dX5_worked_170 : decode cX5_worked 170 = .ok (.iconst 1, 1) := by decide +kernel
theorem dX5_worked_171 : decode cX5_worked 171 = .ok (.iload_n 2, 1) := by decide +kernel
theorem dX5_worked_172 : decode cX5_worked 172 = .ok (.iload_n 3, 1) := by decide +kernel
theorem dX5_worked_173 : decode cX5_worked 173 = .ok (.invokevirtual 32, 3) := by decide +kernel
theorem dX5_worked_176 : decode cX5_worked 176 = .ok (.aload_n 0, 1) := by decide +kernel
theorem dX5_worked_177 : decode cX5_worked 177 = .ok (.getfield 19, 3) := by decide +kernel
theorem dX5_worked_180 : decode cX5_worked 180 = .ok (.isub, 1) := by decide +kernel
theorem dX5_worked_181 : decode cX5_worked 181 = .ok (.ireturn, 1) := by decide +kernel
theorem dX5_worked_182 : decode cX5_worked 182 = .ok (.aload_n 0, 1) := by decide +kernel
theorem dX5_worked_183 : decode cX5_worked 183 = .ok (.iload_n 2, 1) := by decide +kernel
theorem dX5_worked_184 : decode cX5_worked 184 = .ok (.invokevirtual 47, 3) := by decide +kernel
theorem dX5_worked_187 : decode cX5_worked 187 = .ok (.ireturn, 1) := by decide +kernel
theorem dX5_worked_188 : decode cX5_worked 188 = .ok (.aload_n 0, 1) := by decide +kernel
theorem dX5_worked_189 : decode cX5_worked 189 = .ok (.iconst 0, 1) := by decide +kernel
theorem dX5_worked_190 : decode cX5_worked 190 = .ok (.iconst 0, 1) := by decide +kernel
theorem dX5_worked_191 : decode cX5_worked 191 = .ok (.iload_n 2, 1) := by decide +kernel
theorem dX5_worked_192 : decode cX5_worked 192 = .ok (.iload_n 3, 1) := by decide +kernel
theorem dX5_worked_193 : decode cX5_worked 193 = .ok (.invokevirtual 32, 3) := by decide +kernel
theorem dX5_worked_196 : decode cX5_worked 196 = .ok (.iconst 4, 1) := by decide +kernel
theorem dX5_worked_197 : decode cX5_worked 197 = .ok (.isub, 1) := by decide +kernel
theorem dX5_worked_198 : decode cX5_worked 198 = .ok (.ireturn, 1) := by decide +kernel
theorem dX5_worked_199 : decode cX5_worked 199 = .ok (.aload_n 0, 1) := by decide +kernel
theorem dX5_worked_200 : decode cX5_worked 200 = .ok (.iconst 0, 1) := by decide +kernel
theorem dX5_worked_201 : decode cX5_worked 201 = .ok (.iconst 3, 1) := by decide +kernel
theorem dX5_worked_202 : decode cX5_worked 202 = .ok (.iload_n 2, 1) := by decide +kernel
theorem dX5_worked_203 : decode cX5_worked 203 = .ok (.iload_n 3, 1) := by decide +kernel
theorem dX5_worked_204 : decode cX5_worked 204 = .ok (.invokevirtual 32, 3) := by decide +kernel
theorem dX5_worked_207 : decode cX5_worked 207 = .ok (.aload_n 0, 1) := by decide +kernel
theorem dX5_worked_208 : decode cX5_worked 208 = .ok (.aload_n 0, 1) := by decide +kernel
theorem dX5_worked_209 : decode cX5_worked 209 = .ok (.getfield 22, 3) := by decide +kernel
theorem dX5_worked_212 : decode cX5_worked 212 = .ok (.iconst 1, 1) := by decide +kernel
theorem dX5_worked_213 : decode cX5_worked 213 = .ok (.iconst 1, 1) := by decide +kernel
theorem dX5_worked_214 : decode cX5_worked 214 = .ok (.iload_n 3, 1) := by decide +kernel
theorem dX5_worked_215 : decode cX5_worked 215 = .ok (.invokevirtual 32, 3) := by decide +kernel
theorem dX5_worked_218 : decode cX5_worked 218 = .ok (.iadd, 1) := by decide +kernel
theorem dX5_worked_219 : decode cX5_worked 219 = .ok (.ireturn, 1) := by decide +kernel
theorem dX5_worked_220 : decode cX5_worked 220 = .ok (.aload_n 0, 1) := by decide +kernel
theorem dX5_worked_221 : decode cX5_worked 221 = .ok (.iconst 0, 1) := by decide +kernel
theorem dX5_worked_222 : decode cX5_worked 222 = .ok (.iconst 1, 1) := by decide +kernel
theorem dX5_worked_223 : decode cX5_worked 223 = .ok (.iload_n 2, 1) := by decide +kernel
theorem dX5_worked_224 : decode cX5_worked 224 = .ok (.iload_n 3, 1) := by decide +kernel
theorem dX5_worked_225 : decode cX5_worked 225 = .ok (.invokevirtual 32, 3) := by decide +kernel
theorem dX5_worked_228 : decode cX5_worked 228 = .ok (.ineg, 1) := by decide +kernel
theorem dX5_worked_229 : decode cX5_worked 229 = .ok (.ireturn, 1) := by decide +kernel
theorem dX5_worked_230 : decode cX5_worked 230 = .ok (.aload_n 0, 1) := by decide +kernel
theorem dX5_worked_231 : decode cX5_worked 231 = .ok (.iconst 0, 1) := by decide +kernel
theorem dX5_worked_232 : decode cX5_worked 232 = .ok (.iconst 2, 1) := by decide +kernel
theorem dX5_worked_233 : decode cX5_worked 233 = .ok (.iload_n 2, 1) := by decide +kernel
theorem dX5_worked_234 : decode cX5_worked 234 = .ok (.iconst 2, 1) := by decide +kernel
theorem dX5_worked_235 : decode cX5_worked 235 = .ok (.idiv, 1) := by decide +kernel
theorem dX5_worked_236 : decode cX5_worked 236 = .ok (.iload_n 3, 1) := by decide +kernel
theorem dX5_worked_237 : decode cX5_worked 237 = .ok (.invokevirtual 32, 3) := by decide +kernel
theorem dX5_worked_240 : decode cX5_worked 240 = .ok (.ireturn, 1) := by decide +kernel
theorem dX5_worked_241 : decode cX5_worked 241 = .ok (.aload_n 0, 1) := by decide +kernel
theorem dX5_worked_242 : decode cX5_worked 242 = .ok (.iconst 1, 1) := by decide +kernel
theorem dX5_worked_243 : decode cX5_worked 243 = .ok (.iconst 0, 1) := by decide +kernel
theorem dX5_worked_244 : decode cX5_worked 244 = .ok (.iload_n 2, 1) := by decide +kernel
theorem dX5_worked_245 : decode cX5_worked 245 = .ok (.iload_n 3, 1) := by decide +kernel
theorem dX5_worked_246 : decode cX5_worked 246 = .ok (.invokevirtual 32, 3) := by decide +kernel
theorem dX5_worked_249 : decode cX5_worked 249 = .ok (.iconst 3, 1) := by decide +kernel
theorem dX5_worked_250 : decode cX5_worked 250 = .ok (.imul, 1) := by decide +kernel
theorem dX5_worked_251 : decode cX5_worked 251 = .ok (.ireturn, 1) := by decide +kernel
theorem dX5_worked_252 : decode cX5_worked 252 = .ok (.aload_n 0, 1) := by decide +kernel
theorem dX5_worked_253 : decode cX5_worked 253 = .ok (.iconst 1, 1) := by decide +kernel
theorem dX5_worked_254 : decode cX5_worked 254 = .ok (.iconst 2, 1) := by decide +kernel
theorem dX5_worked_255 : decode cX5_worked 255 = .ok (.iload_n 2, 1) := by decide +kernel
theorem dX5_worked_256 : decode cX5_worked 256 = .ok (.iload_n 3, 1) := by decide +kernel
theorem dX5_worked_257 : decode cX5_worked 257 = .ok (.invokevirtual 32, 3) := by decide +kernel
theorem dX5_worked_260 : decode cX5_worked 260 = .ok (.aload_n 0, 1) := by decide +kernel
theorem dX5_worked_261 : decode cX5_worked 261 = .ok (.getfield 15, 3) := by decide +kernel
theorem dX5_worked_264 : decode cX5_worked 264 = .ok (.ixor, 1) := by decide +kernel
theorem dX5_worked_265 : decode cX5_worked 265 = .ok (.ireturn, 1) := by decide +kernel
theorem dX5_worked_266 : decode cX5_worked 266 = .ok (.aload_n 0, 1) := by decide +kernel
theorem dX5_worked_267 : decode cX5_worked 267 = .ok (.iconst 2, 1) := by decide +kernel
theorem dX5_worked_268 : decode cX5_worked 268 = .ok (.iconst 1, 1) := by decide +kernel
theorem dX5_worked_269 : decode cX5_worked 269 = .ok (.iload_n 2, 1) := by decide +kernel
theorem dX5_worked_270 : decode cX5_worked 270 = .ok (.iconst 1, 1) := by decide +kernel
theorem dX5_worked_271 : decode cX5_worked 271 = .ok (.iadd, 1) := by decide +kernel
theorem dX5_worked_272 : decode cX5_worked 272 = .ok (.iload_n 3, 1) := by decide +kernel
theorem dX5_worked_273 : decode cX5_worked 273 = .ok (.invokevirtual 32, 3) := by decide +kernel
theorem dX5_worked_276 : decode cX5_worked 276 = .ok (.ireturn, 1) := by decide +kernel
theorem dX5_worked_277 : decode cX5_worked 277 = .ok (.bipush 9, 2) := by decide +kernel
theorem dX5_worked_279 : decode cX5_worked 279 = .ok (.ireturn, 1) := by decide +kernel
theorem dX5_worked_280 : decode cX5_worked 280 = .ok (.aload_n 0, 1) := by decide +kernel
theorem dX5_worked_281 : decode cX5_worked 281 = .ok (.iconst 0, 1) := by decide +kernel
theorem dX5_worked_282 : decode cX5_worked 282 = .ok (.iconst 1, 1) := by decide +kernel
theorem dX5_worked_283 : decode cX5_worked 283 = .ok (.iload_n 2, 1) := by decide +kernel
theorem dX5_worked_284 : decode cX5_worked 284 = .ok (.iload_n 3, 1) := by decide +kernel
theorem dX5_worked_285 : decode cX5_worked 285 = .ok (.invokevirtual 32, 3) := by decide +kernel
theorem dX5_worked_288 : decode cX5_worked 288 = .ok (.aload_n 0, 1) := by decide +kernel
theorem dX5_worked_289 : decode cX5_worked 289 = .ok (.getfield 19, 3) := by decide +kernel
theorem dX5_worked_292 : decode cX5_worked 292 = .ok (.iadd, 1) := by decide +kernel
theorem dX5_worked_293 : decode cX5_worked 293 = .ok (.ireturn, 1) := by decide +kernel
theorem dX5_worked_294 : decode cX5_worked 294 = .ok (.iconst 0, 1) := by decide +kernel
theorem dX5_worked_295 : decode cX5_worked 295 = .ok (.ireturn, 1) := by decide +kernel
theorem dX5_partOfDifference_0 : decode cX5_partOfDifference 0 = .ok (.aload_n 0, 1) := by decide +kernel
theorem dX5_partOfDifference_1 : decode cX5_partOfDifference 1 = .ok (.getfield 19, 3) := by decide +kernel
theorem dX5_partOfDifference_4 : decode cX5_partOfDifference 4 = .ok (.aload_n 0, 1) := by decide +kernel
theorem dX5_partOfDifference_5 : decode cX5_partOfDifference 5 = .ok (.getfield 15, 3) := by decide +kernel
theorem dX5_partOfDifference_8 : decode cX5_partOfDifference 8 = .ok (.isub, 1) := by decide +kernel
theorem dX5_partOfDifference_9 : decode cX5_partOfDifference 9 = .ok (.istore_n 2, 1) := by decide +kernel
theorem dX5_partOfDifference_10 : decode cX5_partOfDifference 10 = .ok (.iload_n 2, 1) := by decide +kernel
theorem dX5_partOfDifference_11 : decode cX5_partOfDifference 11 = .ok (.ifCond .ne 10, 3) := by decide +kernel
theorem dX5_partOfDifference_14 : decode cX5_partOfDifference 14 = .ok (.aload_n 0, 1) := by decide +kernel
theorem dX5_partOfDifference_15 : decode cX5_partOfDifference 15 = .ok (.iconst 1, 1) := by decide +kernel
theorem dX5_partOfDifference_16 : decode cX5_partOfDifference 16 = .ok (.putfield 25, 3) := by decide +kernel
theorem dX5_partOfDifference_19 : decode cX5_partOfDifference 19 = .ok (.iconst 0, 1) := by decide +kernel
theorem dX5_partOfDifference_20 : decode cX5_partOfDifference 20 = .ok (.ireturn, 1) := by decide +kernel
theorem dX5_partOfDifference_21 : decode cX5_partOfDifference 21 = .ok (.iload_n 1, 1) := by decide +kernel
theorem dX5_partOfDifference_22 : decode cX5_partOfDifference 22 = .ok (.iload_n 2, 1) := by decide +kernel
theorem dX5_partOfDifference_23 : decode cX5_partOfDifference 23 = .ok (.idiv, 1) := by decide +kernel
theorem dX5_partOfDifference_24 : decode cX5_partOfDifference 24 = .ok (.ireturn, 1) := by decide +kernel
theorem dX6_init_0 : decode cX6_init 0 = .ok (.aload_n 0, 1) := by decide +kernel
theorem dX6_init_1 : decode cX6_init 1 = .ok (.invokespecial 3, 3) := by decide +kernel
theorem dX6_init_4 : decode cX6_init 4 = .ok (.aload_n 0, 1) := by decide +kernel
theorem dX6_init_5 : decode cX6_init 5 = .ok (.new 9, 3) := by decide +kernel
theorem dX6_init_8 : decode cX6_init 8 = .ok (.dup, 1) := by decide +kernel
theorem dX6_init_9 : decode cX6_init 9 = .ok (.invokespecial 11, 3) := by decide +kernel
theorem dX6_init_12 : decode cX6_init 12 = .ok (.putfield 12, 3) := by decide +kernel
theorem dX6_init_15 : decode cX6_init 15 = .ok (.aload_n 0, 1) := by decide +kernel
theorem dX6_init_16 : decode cX6_init 16 = .ok (.new 9, 3) := by decide +kernel
theorem dX6_init_19 : decode cX6_init 19 = .ok (.dup, 1) := by decide +kernel
theorem dX6_init_20 : decode cX6_init 20 = .ok (.invokespecial 11, 3) := by decide +kernel
theorem dX6_init_23 : decode cX6_init 23 = .ok (.putfield 16, 3) := by decide +kernel
theorem dX6_init_26 : decode cX6_init 26 = .ok (.aload_n 0, 1) := by decide +kernel
theorem dX6_init_27 : decode cX6_init 27 = .ok (.new 9, 3) := by decide +kernel
theorem dX6_init_30 : decode cX6_init 30 = .ok (.dup, 1) := by decide +kernel
theorem dX6_init_31 : decode cX6_init 31 = .ok (.invokespecial 11, 3) := by decide +kernel
theorem dX6_init_34 : decode cX6_init 34 = .ok (.putfield 19, 3) := by decide +kernel
theorem dX6_init_37 : decode cX6_init 37 = .ok (.aload_n 0, 1) := by decide +kernel
theorem dX6_init_38 : decode cX6_init 38 = .ok (.new 22, 3) := by decide +kernel
theorem dX6_init_41 : decode cX6_init 41 = .ok (.dup, 1) := by decide +kernel
theorem dX6_init_42 : decode cX6_init 42 = .ok (.aload_n 0, 1) := by decide +kernel
theorem dX6_init_43 : decode cX6_init 43 = .ok (.getfield 12, 3) := by decide +kernel
theorem dX6_init_46 : decode cX6_init 46 = .ok (.getfield 24, 3) := by decide +kernel
theorem dX6_init_49 : decode cX6_init 49 = .ok (.invokespecial 28, 3) := by decide +kernel
theorem dX6_init_52 : decode cX6_init 52 = .ok (.putfield 31, 3) := by decide +kernel
theorem dX6_init_55 : decode cX6_init 55 = .ok (.aload_n 0, 1) := by decide +kernel
theorem dX6_init_56 : decode cX6_init 56 = .ok (.new 35, 3) := by decide +kernel
theorem dX6_init_59 : decode cX6_init 59 = .ok (.dup, 1) := by decide +kernel
theorem dX6_init_60 : decode cX6_init 60 = .ok (.invokespecial 37, 3) := by decide +kernel
theorem dX6_init_63 : decode cX6_init 63 = .ok (.putfield 38, 3) := by decide +kernel
theorem dX6_init_66 : decode cX6_init 66 = .ok (.aload_n 0, 1) := by decide +kernel
theorem dX6_init_67 : decode cX6_init 67 = .ok (.new 42, 3) := by decide +kernel
theorem dX6_init_70 : decode cX6_init 70 = .ok (.dup, 1) := by decide +kernel
theorem dX6_init_71 : decode cX6_init 71 = .ok (.invokespecial 44, 3) := by decide +kernel
theorem dX6_init_74 : decode cX6_init 74 = .ok (.putfield 45, 3) := by decide +kernel
theorem dX6_init_77 : decode cX6_init 77 = .ok (.aload_n 0, 1) := by decide +kernel
theorem dX6_init_78 : decode cX6_init 78 = .ok (.new 49, 3) := by decide +kernel
theorem dX6_init_81 : decode cX6_init 81 = .ok (.dup, 1) := by decide +kernel
theorem dX6_init_82 : decode cX6_init 82 = .ok (.invokespecial 51, 3) := by decide +kernel
theorem dX6_init_85 : decode cX6_init 85 = .ok (.putfield 52, 3) := by decide +kernel
theorem dX6_init_88 : decode cX6_init 88 = .ok (.aload_n 0, 1) := by decide +kernel
theorem dX6_init_89 : decode cX6_init 89 = .ok (.bipush 7, 2) := by decide +kernel
theorem dX6_init_91 : decode cX6_init 91 = .ok (.newarray .int, 2) := by decide +kernel
theorem dX6_init_93 : decode cX6_init 93 = .ok (.putfield 56, 3) := by decide +kernel
theorem dX6_init_96 : decode cX6_init 96 = .ok (.return_, 1) := by decide +kernel
theorem dX6_mark_0 : decode cX6_mark 0 = .ok (.iload_n 1, 1) := by decide +kernel
theorem dX6_mark_1 : decode cX6_mark 1 = .ok (.invokestatic 59, 3) := by decide +kernel
theorem dX6_mark_4 : decode cX6_mark 4 = .ok (.ifCond .eq 28, 3) := by decide +kernel
theorem dX6_mark_7 : decode cX6_mark 7 = .ok (.iload_n 2, 1) := by decide +kernel
theorem dX6_mark_8 : decode cX6_mark 8 = .ok (.iconst (-1), 1) := by decide +kernel
theorem dX6_mark_9 : decode cX6_mark 9 = .ok (.if_icmp .eq 11, 3) := by decide +kernel
theorem dX6_mark_12 : decode cX6_mark 12 = .ok (.aload_n 0, 1) := by decide +kernel
theorem dX6_mark_13 : decode cX6_mark 13 = .ok (.iload_n 2, 1) := by decide +kernel
theorem dX6_mark_14 : decode cX6_mark 14 = .ok (.invokevirtual 63, 3) := by decide +kernel
theorem dX6_mark_17 : decode cX6_mark 17 = .ok (.ifCond .eq 15, 3) := by decide +kernel
theorem dX6_mark_20 : decode cX6_mark 20 = .ok (.aload_n 0, 1) := by decide +kernel
theorem dX6_mark_21 : decode cX6_mark 21 = .ok (.iload_n 3, 1) := by decide +kernel
theorem dX6_mark_22 : decode cX6_mark 22 = .ok (.invokevirtual 63, 3) := by decide +kernel
theorem dX6_mark_25 : decode cX6_mark 25 = .ok (.ifCond .eq 7, 3) := by decide +kernel
theorem dX6_mark_28 : decode cX6_mark 28 = .ok (.iconst 1, 1) := by decide +kernel
theorem dX6_mark_29 : decode cX6_mark 29 = .ok (.goto 4, 3) := by decide +kernel
theorem dX6_mark_32 : decode cX6_mark 32 = .ok (.iconst 0, 1) := by decide +kernel
theorem dX6_mark_33 : decode cX6_mark 33 = .ok (.istore 5, 2) := by decide +kernel
theorem dX6_mark_35 : decode cX6_mark 35 = .ok (.iload 5, 2) := by decide +kernel
theorem dX6_mark_37 : decode cX6_mark 37 = .ok (.ifCond .eq 16, 3) := by decide +kernel
theorem dX6_mark_40 : decode cX6_mark 40 = .ok (.iload_n 2, 1) := by decide +kernel
theorem dX6_mark_41 : decode cX6_mark 41 = .ok (.iload_n 3, 1) := by decide +kernel
theorem dX6_mark_42 : decode cX6_mark 42 = .ok (.if_icmp .eq 11, 3) := by decide +kernel
theorem dX6_mark_45 : decode cX6_mark 45 = .ok (.iload 4, 2) := by decide +kernel
theorem dX6_mark_47 : decode cX6_mark 47 = .ok (.invokestatic 66, 3) := by decide +kernel
theorem dX6_mark_50 : decode cX6_mark 50 = .ok (.ifCond .ne 9, 3) := by decide +kernel
theorem dX6_mark_53 : decode cX6_mark 53 = .ok (.aload_n 0, 1) := by decide +kernel
theorem dX6_mark_54 : decode cX6_mark 54 = .ok (.iconst 1, 1) := by decide +kernel
theorem dX6_mark_55 : decode cX6_mark 55 = .ok (.invokevirtual 69, 3) := by decide +kernel
theorem dX6_mark_58 : decode cX6_mark 58 = .ok (.ireturn, 1) := by decide +kernel
theorem dX6_mark_59 : decode cX6_mark 59 = .ok (.aload_n 0, 1) := by decide +kernel
theorem dX6_mark_60 : decode cX6_mark 60 = .ok (.getfield 12, 3) := by decide +kernel
theorem dX6_mark_63 : decode cX6_mark 63 = .ok (.getfield 73, 3) := by decide +kernel
theorem dX6_mark_66 : decode cX6_mark 66 = .ok (.bipush 8, 2) := by decide +kernel
theorem dX6_mark_68 : decode cX6_mark 68 = .ok (.if_icmp .lt 9, 3) := by decide +kernel
theorem dX6_mark_71 : decode cX6_mark 71 = .ok (.aload_n 0, 1) := by decide +kernel
theorem dX6_mark_72 : decode cX6_mark 72 = .ok (.iconst 4, 1) := by decide +kernel
theorem dX6_mark_73 : decode cX6_mark 73 = .ok (.invokevirtual 69, 3) := by decide +kernel
theorem dX6_mark_76 : decode cX6_mark 76 = .ok (.ireturn, 1) := by decide +kernel
theorem dX6_mark_77 : decode cX6_mark 77 = .ok (.aload_n 0, 1) := by decide +kernel
theorem dX6_mark_78 : decode cX6_mark 78 = .ok (.getfield 12, 3) := by decide +kernel
theorem dX6_mark_81 : decode cX6_mark 81 = .ok (.iload_n 1, 1) := by decide +kernel
theorem dX6_mark_82 : decode cX6_mark 82 = .ok (.iload_n 2, 1) := by decide +kernel
theorem dX6_mark_83 : decode cX6_mark 83 = .ok (.iload_n 3, 1) := by decide +kernel
theorem dX6_mark_84 : decode cX6_mark 84 = .ok (.iload 4, 2) := by decide +kernel
theorem dX6_mark_86 : decode cX6_mark 86 = .ok (.invokevirtual 77, 3) := by decide +kernel
theorem dX6_mark_89 : decode cX6_mark 89 = .ok (.ireturn, 1) := by decide +kernel
theorem dX6_markIs_0 : decode cX6_markIs 0 = .ok (.aload_n 0, 1) := by decide +kernel
theorem dX6_markIs_1 : decode cX6_markIs 1 = .ok (.iload_n 1, 1) := by decide +kernel
theorem dX6_markIs_2 : decode cX6_markIs 2 = .ok (.invokevirtual 81, 3) := by decide +kernel
theorem dX6_markIs_5 : decode cX6_markIs 5 = .ok (.ifCond .ne 9, 3) := by decide +kernel
theorem dX6_markIs_8 : decode cX6_markIs 8 = .ok (.aload_n 0, 1) := by decide +kernel
theorem dX6_markIs_9 : decode cX6_markIs 9 = .ok (.iconst 1, 1) := by decide +kernel
theorem dX6_markIs_10 : decode cX6_markIs 10 = .ok (.invokevirtual 69, 3) := by decide +kernel
theorem dX6_markIs_13 : decode cX6_markIs 13 = .ok (.ireturn, 1) := by decide +kernel
theorem dX6_markIs_14 : decode cX6_markIs 14 = .ok (.iload_n 2, 1) := by decide +kernel
theorem dX6_markIs_15 : decode cX6_markIs 15 = .ok (.tableswitch 130 0 7 #[45, 55, 65, 75, 85, 95, 112, 121], 45) := by decide +kernel
theorem dX6_markIs_60 : decode cX6_markIs 60 = .ok (.aload_n 0, 1) := by decide +kernel
theorem dX6_markIs_61 : decode cX6_markIs 61 = .ok (.getfield 12, 3) := by decide +kernel
theorem dX6_markIs_64 : decode cX6_markIs 64 = .ok (.getfield 84, 3) := by decide +kernel
theorem dX6_markIs_67 : decode cX6_markIs 67 = .ok (.iload_n 1, 1) := by decide +kernel
theorem dX6_markIs_68 : decode cX6_markIs 68 = .ok (.iaload, 1) := by decide +kernel
theorem dX6_markIs_69 : decode cX6_markIs 69 = .ok (.ireturn, 1) := by decide +kernel
theorem dX6_markIs_70 : decode cX6_markIs 70 = .ok (.aload_n 0, 1) := by decide +kernel
theorem dX6_markIs_71 : decode cX6_markIs 71 = .ok (.getfield 12, 3) := by decide +kernel
theorem dX6_markIs_74 : decode cX6_markIs 74 = .ok (.getfield 87, 3) := by decide +kernel
theorem dX6_markIs_77 : decode cX6_markIs 77 = .ok (.iload_n 1, 1) := by decide +kernel
theorem dX6_markIs_78 : decode cX6_markIs 78 = .ok (.iaload, 1) := by decide +kernel
theorem dX6_markIs_79 : decode cX6_markIs 79 = .ok (.ireturn, 1) := by decide +kernel
theorem dX6_markIs_80 : decode cX6_markIs 80 = .ok (.aload_n 0, 1) := by decide +kernel
theorem dX6_markIs_81 : decode cX6_markIs 81 = .ok (.getfield 12, 3) := by decide +kernel
theorem dX6_markIs_84 : decode cX6_markIs 84 = .ok (.getfield 90, 3) := by decide +kernel
theorem dX6_markIs_87 : decode cX6_markIs 87 = .ok (.iload_n 1, 1) := by decide +kernel
theorem dX6_markIs_88 : decode cX6_markIs 88 = .ok (.iaload, 1) := by decide +kernel
theorem dX6_markIs_89 : decode cX6_markIs 89 = .ok (.ireturn, 1) := by decide +kernel
theorem dX6_markIs_90 : decode cX6_markIs 90 = .ok (.aload_n 0, 1) := by decide +kernel
theorem dX6_markIs_91 : decode cX6_markIs 91 = .ok (.getfield 12, 3) := by decide +kernel
theorem dX6_markIs_94 : decode cX6_markIs 94 = .ok (.getfield 93, 3) := by decide +kernel
theorem dX6_markIs_97 : decode cX6_markIs 97 = .ok (.iload_n 1, 1) := by decide +kernel
theorem dX6_markIs_98 : decode cX6_markIs 98 = .ok (.iaload, 1) := by decide +kernel
theorem dX6_markIs_99 : decode cX6_markIs 99 = .ok (.ireturn, 1) := by decide +kernel
theorem dX6_markIs_100 : decode cX6_markIs 100 = .ok (.aload_n 0, 1) := by decide +kernel
theorem dX6_markIs_101 : decode cX6_markIs 101 = .ok (.getfield 12, 3) := by decide +kernel
theorem dX6_markIs_104 : decode cX6_markIs 104 = .ok (.getfield 96, 3) := by decide +kernel
theorem dX6_markIs_107 : decode cX6_markIs 107 = .ok (.iload_n 1, 1) := by decide +kernel
theorem dX6_markIs_108 : decode cX6_markIs 108 = .ok (.iaload, 1) := by decide +kernel
theorem dX6_markIs_109 : decode cX6_markIs 109 = .ok (.ireturn, 1) := by decide +kernel
theorem dX6_markIs_110 : decode cX6_markIs 110 = .ok (.aload_n 0, 1) := by decide +kernel
theorem dX6_markIs_111 : decode cX6_markIs 111 = .ok (.getfield 12, 3) := by decide +kernel
theorem dX6_markIs_114 : decode cX6_markIs 114 = .ok (.iload_n 1, 1) := by decide +kernel
theorem dX6_markIs_115 : decode cX6_markIs 115 = .ok (.invokevirtual 99, 3) := by decide +kernel
theorem dX6_markIs_118 : decode cX6_markIs 118 = .ok (.ifCond .eq 7, 3) := by decide +kernel
theorem dX6_markIs_121 : decode cX6_markIs 121 = .ok (.iconst 1, 1) := by decide +kernel
theorem dX6_markIs_122 : decode cX6_markIs 122 = .ok (.goto 4, 3) := by decide +kernel
theorem dX6_markIs_125 : decode cX6_markIs 125 = .ok (.iconst 0, 1) := by decide +kernel
theorem dX6_markIs_126 : decode cX6_markIs 126 = .ok (.ireturn, 1) := by decide +kernel
theorem dX6_markIs_127 : decode cX6_markIs 127 = .ok (.aload_n 0, 1) := by decide +kernel
theorem dX6_markIs_128 : decode cX6_markIs 128 = .ok (.getfield 12, 3) := by decide +kernel
theorem dX6_markIs_131 : decode cX6_markIs 131 = .ok (.iload_n 1, 1) := by decide +kernel
theorem dX6_markIs_132 : decode cX6_markIs 132 = .ok (.invokevirtual 102, 3) := by decide +kernel
theorem dX6_markIs_135 : decode cX6_markIs 135 = .ok (.ireturn, 1) := by decide +kernel
theorem dX6_markIs_136 : decode cX6_markIs 136 = .ok (.aload_n 0, 1) := by decide +kernel
theorem dX6_markIs_137 : decode cX6_markIs 137 = .ok (.getfield 12, 3) := by decide +kernel
theorem dX6_markIs_140 : decode cX6_markIs 140 = .ok (.iload_n 1, 1) := by decide +kernel
theorem dX6_markIs_141 : decode cX6_markIs 141 = .ok (.invokevirtual 105, 3) := by decide +kernel
theorem dX6_markIs_144 : decode cX6_markIs 144 = .ok (.ireturn, 1) := by decide +kernel
theorem dX6_markIs_145 : decode cX6_markIs 145 = .ok (.aload_n 0, 1) := by decide +kernel
theorem dX6_markIs_146 : decode cX6_markIs 146 = .ok (.iconst 1, 1) := by decide +kernel
theorem dX6_markIs_147 : decode cX6_markIs 147 = .ok (.invokevirtual 69, 3) := by decide +kernel
theorem dX6_markIs_150 : decode cX6_markIs 150 = .ok (.ireturn, 1) := by decide +kernel
theorem dX6_become_0 : decode cX6_become 0 = .ok (.aload_n 0, 1) := by decide +kernel
theorem dX6_become_1 : decode cX6_become 1 = .ok (.iload_n 1, 1) := by decide +kernel
theorem dX6_become_2 : decode cX6_become 2 = .ok (.invokevirtual 81, 3) := by decide +kernel
theorem dX6_become_5 : decode cX6_become 5 = .ok (.ifCond .eq 10, 3) := by decide +kernel
theorem dX6_become_8 : decode cX6_become 8 = .ok (.iload_n 2, 1) := by decide +kernel
theorem dX6_become_9 : decode cX6_become 9 = .ok (.invokestatic 59, 3) := by decide +kernel
theorem dX6_become_12 : decode cX6_become 12 = .ok (.ifCond .ne 9, 3) := by decide +kernel
theorem dX6_become_15 : decode cX6_become 15 = .ok (.aload_n 0, 1) := by decide +kernel
theorem dX6_become_16 : decode cX6_become 16 = .ok (.iconst 1, 1) := by decide +kernel
theorem dX6_become_17 : decode cX6_become 17 = .ok (.invokevirtual 69, 3) := by decide +kernel
theorem dX6_become_20 : decode cX6_become 20 = .ok (.ireturn, 1) := by decide +kernel
theorem dX6_become_21 : decode cX6_become 21 = .ok (.aload_n 0, 1) := by decide +kernel
theorem dX6_become_22 : decode cX6_become 22 = .ok (.getfield 12, 3) := by decide +kernel
theorem dX6_become_25 : decode cX6_become 25 = .ok (.getfield 84, 3) := by decide +kernel
theorem dX6_become_28 : decode cX6_become 28 = .ok (.iload_n 1, 1) := by decide +kernel
theorem dX6_become_29 : decode cX6_become 29 = .ok (.iaload, 1) := by decide +kernel
theorem dX6_become_30 : decode cX6_become 30 = .ok (.istore_n 3, 1) := by decide +kernel
theorem dX6_become_31 : decode cX6_become 31 = .ok (.aload_n 0, 1) := by decide +kernel
theorem dX6_become_32 : decode cX6_become 32 = .ok (.getfield 12, 3) := by decide +kernel
theorem dX6_become_35 : decode cX6_become 35 = .ok (.getfield 84, 3) := by decide +kernel
theorem dX6_become_38 : decode cX6_become 38 = .ok (.iload_n 1, 1) := by decide +kernel
theorem dX6_become_39 : decode cX6_become 39 = .ok (.iload_n 2, 1) := by decide +kernel
theorem dX6_become_40 : decode cX6_become 40 = .ok (.bipush 10, 2) := by decide +kernel
theorem dX6_become_42 : decode cX6_become 42 = .ok (.idiv, 1) := by decide +kernel
theorem dX6_become_43 : decode cX6_become 43 = .ok (.iastore, 1) := by decide +kernel
theorem dX6_become_44 : decode cX6_become 44 = .ok (.aload_n 0, 1) := by decide +kernel
theorem dX6_become_45 : decode cX6_become 45 = .ok (.getfield 12, 3) := by decide +kernel
theorem dX6_become_48 : decode cX6_become 48 = .ok (.getfield 87, 3) := by decide +kernel
theorem dX6_become_51 : decode cX6_become 51 = .ok (.iload_n 1, 1) := by decide +kernel
theorem dX6_become_52 : decode cX6_become 52 = .ok (.iload_n 2, 1) := by decide +kernel
theorem dX6_become_53 : decode cX6_become 53 = .ok (.bipush 10, 2) := by decide +kernel
theorem dX6_become_55 : decode cX6_become 55 = .ok (.irem, 1) := by decide +kernel
theorem dX6_become_56 : decode cX6_become 56 = .ok (.iastore, 1) := by decide +kernel
theorem dX6_become_57 : decode cX6_become 57 = .ok (.iload_n 3, 1) := by decide +kernel
theorem dX6_become_58 : decode cX6_become 58 = .ok (.ireturn, 1) := by decide +kernel
theorem dX6_as_0 : decode cX6_as 0 = .ok (.aload_n 0, 1) := by decide +kernel
theorem dX6_as_1 : decode cX6_as 1 = .ok (.iload_n 1, 1) := by decide +kernel
theorem dX6_as_2 : decode cX6_as 2 = .ok (.invokevirtual 81, 3) := by decide +kernel
theorem dX6_as_5 : decode cX6_as 5 = .ok (.ifCond .eq 13, 3) := by decide +kernel
theorem dX6_as_8 : decode cX6_as 8 = .ok (.iload_n 2, 1) := by decide +kernel
theorem dX6_as_9 : decode cX6_as 9 = .ok (.iconst 0, 1) := by decide +kernel
theorem dX6_as_10 : decode cX6_as 10 = .ok (.bipush 6, 2) := by decide +kernel
theorem dX6_as_12 : decode cX6_as 12 = .ok (.invokestatic 108, 3) := by decide +kernel
theorem dX6_as_15 : decode cX6_as 15 = .ok (.ifCond .ne 9, 3) := by decide +kernel
theorem dX6_as_18 : decode cX6_as 18 = .ok (.aload_n 0, 1) := by decide +kernel
theorem dX6_as_19 : decode cX6_as 19 = .ok (.iconst 1, 1) := by decide +kernel
theorem dX6_as_20 : decode cX6_as 20 = .ok (.invokevirtual 69, 3) := by decide +kernel
theorem dX6_as_23 : decode cX6_as 23 = .ok (.ireturn, 1) := by decide +kernel
theorem dX6_as_24 : decode cX6_as 24 = .ok (.aload_n 0, 1) := by decide +kernel
theorem dX6_as_25 : decode cX6_as 25 = .ok (.getfield 12, 3) := by decide +kernel
theorem dX6_as_28 : decode cX6_as 28 = .ok (.getfield 84, 3) := by decide +kernel
theorem dX6_as_31 : decode cX6_as 31 = .ok (.iload_n 1, 1) := by decide +kernel
theorem dX6_as_32 : decode cX6_as 32 = .ok (.iaload, 1) := by decide +kernel
theorem dX6_as_33 : decode cX6_as 33 = .ok (.iload_n 2, 1) := by decide +kernel
theorem dX6_as_34 : decode cX6_as 34 = .ok (.invokestatic 112, 3) := by decide +kernel
theorem dX6_as_37 : decode cX6_as 37 = .ok (.ifCond .ne 9, 3) := by decide +kernel
theorem dX6_as_40 : decode cX6_as 40 = .ok (.aload_n 0, 1) := by decide +kernel
theorem dX6_as_41 : decode cX6_as 41 = .ok (.iconst 5, 1) := by decide +kernel
theorem dX6_as_42 : decode cX6_as 42 = .ok (.invokevirtual 69, 3) := by decide +kernel
theorem dX6_as_45 : decode cX6_as 45 = .ok (.ireturn, 1) := by decide +kernel
theorem dX6_as_46 : decode cX6_as 46 = .ok (.aload_n 0, 1) := by decide +kernel
theorem dX6_as_47 : decode cX6_as 47 = .ok (.getfield 12, 3) := by decide +kernel
theorem dX6_as_50 : decode cX6_as 50 = .ok (.getfield 87, 3) := by decide +kernel
theorem dX6_as_53 : decode cX6_as 53 = .ok (.iload_n 1, 1) := by decide +kernel
theorem dX6_as_54 : decode cX6_as 54 = .ok (.iaload, 1) := by decide +kernel
theorem dX6_as_55 : decode cX6_as 55 = .ok (.ireturn, 1) := by decide +kernel
theorem dX6_measure_0 : decode cX6_measure 0 = .ok (.aload_n 0, 1) := by decide +kernel
theorem dX6_measure_1 : decode cX6_measure 1 = .ok (.iload_n 1, 1) := by decide +kernel
theorem dX6_measure_2 : decode cX6_measure 2 = .ok (.invokevirtual 81, 3) := by decide +kernel
theorem dX6_measure_5 : decode cX6_measure 5 = .ok (.ifCond .eq 10, 3) := by decide +kernel
theorem dX6_measure_8 : decode cX6_measure 8 = .ok (.iload_n 2, 1) := by decide +kernel
theorem dX6_measure_9 : decode cX6_measure 9 = .ok (.invokestatic 66, 3) := by decide +kernel
theorem dX6_measure_12 : decode cX6_measure 12 = .ok (.ifCond .ne 9, 3) := by decide +kernel
theorem dX6_measure_15 : decode cX6_measure 15 = .ok (.aload_n 0, 1) := by decide +kernel
theorem dX6_measure_16 : decode cX6_measure 16 = .ok (.iconst 1, 1) := by decide +kernel
theorem dX6_measure_17 : decode cX6_measure 17 = .ok (.invokevirtual 69, 3) := by decide +kernel
theorem dX6_measure_20 : decode cX6_measure 20 = .ok (.ireturn, 1) := by decide +kernel
theorem dX6_measure_21 : decode cX6_measure 21 = .ok (.aload_n 0, 1) := by decide +kernel
theorem dX6_measure_22 : decode cX6_measure 22 = .ok (.getfield 12, 3) := by decide +kernel
theorem dX6_measure_25 : decode cX6_measure 25 = .ok (.getfield 96, 3) := by decide +kernel
theorem dX6_measure_28 : decode cX6_measure 28 = .ok (.iload_n 1, 1) := by decide +kernel
theorem dX6_measure_29 : decode cX6_measure 29 = .ok (.iaload, 1) := by decide +kernel
theorem dX6_measure_30 : decode cX6_measure 30 = .ok (.istore_n 3, 1) := by decide +kernel
theorem dX6_measure_31 : decode cX6_measure 31 = .ok (.aload_n 0, 1) := by decide +kernel
theorem dX6_measure_32 : decode cX6_measure 32 = .ok (.getfield 12, 3) := by decide +kernel
theorem dX6_measure_35 : decode cX6_measure 35 = .ok (.getfield 96, 3) := by decide +kernel
theorem dX6_measure_38 : decode cX6_measure 38 = .ok (.iload_n 1, 1) := by decide +kernel
theorem dX6_measure_39 : decode cX6_measure 39 = .ok (.iload_n 2, 1) := by decide +kernel
theorem dX6_measure_40 : decode cX6_measure 40 = .ok (.iastore, 1) := by decide +kernel
theorem dX6_measure_41 : decode cX6_measure 41 = .ok (.iload_n 3, 1) := by decide +kernel
theorem dX6_measure_42 : decode cX6_measure 42 = .ok (.ireturn, 1) := by decide +kernel
theorem dX6_on_0 : decode cX6_on 0 = .ok (.aload_n 0, 1) := by decide +kernel
theorem dX6_on_1 : decode cX6_on 1 = .ok (.iload_n 1, 1) := by decide +kernel
theorem dX6_on_2 : decode cX6_on 2 = .ok (.invokevirtual 81, 3) := by decide +kernel
theorem dX6_on_5 : decode cX6_on 5 = .ok (.ifCond .eq 12, 3) := by decide +kernel
theorem dX6_on_8 : decode cX6_on 8 = .ok (.iload_n 2, 1) := by decide +kernel
theorem dX6_on_9 : decode cX6_on 9 = .ok (.iconst 0, 1) := by decide +kernel
theorem dX6_on_10 : decode cX6_on 10 = .ok (.iconst 1, 1) := by decide +kernel
theorem dX6_on_11 : decode cX6_on 11 = .ok (.invokestatic 108, 3) := by decide +kernel
theorem dX6_on_14 : decode cX6_on 14 = .ok (.ifCond .ne 9, 3) := by decide +kernel
theorem dX6_on_17 : decode cX6_on 17 = .ok (.aload_n 0, 1) := by decide +kernel
theorem dX6_on_18 : decode cX6_on 18 = .ok (.iconst 1, 1) := by decide +kernel
theorem dX6_on_19 : decode cX6_on 19 = .ok (.invokevirtual 69, 3) := by decide +kernel
theorem dX6_on_22 : decode cX6_on 22 = .ok (.ireturn, 1) := by decide +kernel
theorem dX6_on_23 : decode cX6_on 23 = .ok (.aload_n 0, 1) := by decide +kernel
theorem dX6_on_24 : decode cX6_on 24 = .ok (.getfield 12, 3) := by decide +kernel
theorem dX6_on_27 : decode cX6_on 27 = .ok (.iload_n 1, 1) := by decide +kernel
theorem dX6_on_28 : decode cX6_on 28 = .ok (.invokevirtual 99, 3) := by decide +kernel
theorem dX6_on_31 : decode cX6_on 31 = .ok (.ifCond .eq 7, 3) := by decide +kernel
theorem dX6_on_34 : decode cX6_on 34 = .ok (.iconst 1, 1) := by decide +kernel
theorem dX6_on_35 : decode cX6_on 35 = .ok (.goto 4, 3) := by decide +kernel
theorem dX6_on_38 : decode cX6_on 38 = .ok (.iconst 0, 1) := by decide +kernel
theorem dX6_on_39 : decode cX6_on 39 = .ok (.istore_n 3, 1) := by decide +kernel
theorem dX6_on_40 : decode cX6_on 40 = .ok (.aload_n 0, 1) := by decide +kernel
theorem dX6_on_41 : decode cX6_on 41 = .ok (.getfield 12, 3) := by decide +kernel
theorem dX6_on_44 : decode cX6_on 44 = .ok (.iload_n 1, 1) := by decide +kernel
theorem dX6_on_45 : decode cX6_on 45 = .ok (.iload_n 2, 1) := by decide +kernel
theorem dX6_on_46 : decode cX6_on 46 = .ok (.iconst 1, 1) := by decide +kernel
theorem dX6_on_47 : decode cX6_on 47 = .ok (.if_icmp .ne 7, 3) := by decide +kernel
theorem dX6_on_50 : decode cX6_on 50 = .ok (.iconst 1, 1) := by decide +kernel
theorem dX6_on_51 : decode cX6_on 51 = .ok (.goto 4, 3) := by decide +kernel
theorem dX6_on_54 : decode cX6_on 54 = .ok (.iconst 0, 1) := by decide +kernel
theorem dX6_on_55 : decode cX6_on 55 = .ok (.invokevirtual 116, 3) := by decide +kernel
theorem dX6_on_58 : decode cX6_on 58 = .ok (.iload_n 3, 1) := by decide +kernel
theorem dX6_on_59 : decode cX6_on 59 = .ok (.ireturn, 1) := by decide +kernel
theorem dX6_pictures_0 : decode cX6_pictures 0 = .ok (.iload_n 1, 1) := by decide +kernel
theorem dX6_pictures_1 : decode cX6_pictures 1 = .ok (.iconst 1, 1) := by decide +kernel
theorem dX6_pictures_2 : decode cX6_pictures 2 = .ok (.iconst 4, 1) := by decide +kernel
theorem dX6_pictures_3 : decode cX6_pictures 3 = .ok (.invokestatic 108, 3) := by decide +kernel
theorem dX6_pictures_6 : decode cX6_pictures 6 = .ok (.ifCond .ne 9, 3) := by decide +kernel
theorem dX6_pictures_9 : decode cX6_pictures 9 = .ok (.aload_n 0, 1) := by decide +kernel
theorem dX6_pictures_10 : decode cX6_pictures 10 = .ok (.iconst 1, 1) := by decide +kernel
theorem dX6_pictures_11 : decode cX6_pictures 11 = .ok (.invokevirtual 69, 3) := by decide +kernel
theorem dX6_pictures_14 : decode cX6_pictures 14 = .ok (.ireturn, 1) := by decide +kernel
theorem dX6_pictures_15 : decode cX6_pictures 15 = .ok (.aload_n 0, 1) := by decide +kernel
theorem dX6_pictures_16 : decode cX6_pictures 16 = .ok (.getfield 12, 3) := by decide +kernel
theorem dX6_pictures_19 : decode cX6_pictures 19 = .ok (.invokevirtual 120, 3) := by decide +kernel
theorem dX6_pictures_22 : decode cX6_pictures 22 = .ok (.iload_n 1, 1) := by decide +kernel
theorem dX6_pictures_23 : decode cX6_pictures 23 = .ok (.if_icmp .lt 9, 3) := by decide +kernel
theorem dX6_pictures_26 : decode cX6_pictures 26 = .ok (.aload_n 0, 1) := by decide +kernel
theorem dX6_pictures_27 : decode cX6_pictures 27 = .ok (.iconst 3, 1) := by decide +kernel
theorem dX6_pictures_28 : decode cX6_pictures 28 = .ok (.invokevirtual 69, 3) := by decide +kernel
theorem dX6_pictures_31 : decode cX6_pictures 31 = .ok (.ireturn, 1) := by decide +kernel
theorem dX6_pictures_32 : decode cX6_pictures 32 = .ok (.aload_n 0, 1) := by decide +kernel
theorem dX6_pictures_33 : decode cX6_pictures 33 = .ok (.getfield 12, 3) := by decide +kernel
theorem dX6_pictures_36 : decode cX6_pictures 36 = .ok (.getfield 124, 3) := by decide +kernel
theorem dX6_pictures_39 : decode cX6_pictures 39 = .ok (.istore_n 2, 1) := by decide +kernel
theorem dX6_pictures_40 : decode cX6_pictures 40 = .ok (.aload_n 0, 1) := by decide +kernel
theorem dX6_pictures_41 : decode cX6_pictures 41 = .ok (.getfield 12, 3) := by decide +kernel
theorem dX6_pictures_44 : decode cX6_pictures 44 = .ok (.iload_n 1, 1) := by decide +kernel
theorem dX6_pictures_45 : decode cX6_pictures 45 = .ok (.putfield 124, 3) := by decide +kernel
theorem dX6_pictures_48 : decode cX6_pictures 48 = .ok (.iload_n 2, 1) := by decide +kernel
theorem dX6_pictures_49 : decode cX6_pictures 49 = .ok (.ireturn, 1) := by decide +kernel
theorem dX6_limit_0 : decode cX6_limit 0 = .ok (.iload_n 1, 1) := by decide +kernel
theorem dX6_limit_1 : decode cX6_limit 1 = .ok (.iconst 0, 1) := by decide +kernel
theorem dX6_limit_2 : decode cX6_limit 2 = .ok (.bipush 99, 2) := by decide +kernel
theorem dX6_limit_4 : decode cX6_limit 4 = .ok (.invokestatic 108, 3) := by decide +kernel
theorem dX6_limit_7 : decode cX6_limit 7 = .ok (.ifCond .ne 9, 3) := by decide +kernel
theorem dX6_limit_10 : decode cX6_limit 10 = .ok (.aload_n 0, 1) := by decide +kernel
theorem dX6_limit_11 : decode cX6_limit 11 = .ok (.iconst 1, 1) := by decide +kernel
theorem dX6_limit_12 : decode cX6_limit 12 = .ok (.invokevirtual 69, 3) := by decide +kernel
theorem dX6_limit_15 : decode cX6_limit 15 = .ok (.ireturn, 1) := by decide +kernel
theorem dX6_limit_16 : decode cX6_limit 16 = .ok (.aload_n 0, 1) := by decide +kernel
theorem dX6_limit_17 : decode cX6_limit 17 = .ok (.getfield 12, 3) := by decide +kernel
theorem dX6_limit_20 : decode cX6_limit 20 = .ok (.getfield 127, 3) := by decide +kernel
theorem dX6_limit_23 : decode cX6_limit 23 = .ok (.istore_n 2, 1) := by decide +kernel
theorem dX6_limit_24 : decode cX6_limit 24 = .ok (.aload_n 0, 1) := by decide +kernel
theorem dX6_limit_25 : decode cX6_limit 25 = .ok (.getfield 12, 3) := by decide +kernel
theorem dX6_limit_28 : decode cX6_limit 28 = .ok (.iload_n 1, 1) := by decide +kernel
theorem dX6_limit_29 : decode cX6_limit 29 = .ok (.putfield 127, 3) := by decide +kernel
theorem dX6_limit_32 : decode cX6_limit 32 = .ok (.iload_n 2, 1) := by decide +kernel
theorem dX6_limit_33 : decode cX6_limit 33 = .ok (.ireturn, 1) := by decide +kernel
theorem dX6_feed_0 : decode cX6_feed 0 = .ok (.iload_n 3, 1) := by decide +kernel
theorem dX6_feed_1 : decode cX6_feed 1 = .ok (.iconst 1, 1) := by decide +kernel
theorem dX6_feed_2 : decode cX6_feed 2 = .ok (.bipush 8, 2) := by decide +kernel
theorem dX6_feed_4 : decode cX6_feed 4 = .ok (.invokestatic 108, 3) := by decide +kernel
theorem dX6_feed_7 : decode cX6_feed 7 = .ok (.ifCond .ne 9, 3) := by decide +kernel
theorem dX6_feed_10 : decode cX6_feed 10 = .ok (.aload_n 0, 1) := by decide +kernel
theorem dX6_feed_11 : decode cX6_feed 11 = .ok (.iconst 1, 1) := by decide +kernel
theorem dX6_feed_12 : decode cX6_feed 12 = .ok (.invokevirtual 69, 3) := by decide +kernel
theorem dX6_feed_15 : decode cX6_feed 15 = .ok (.ireturn, 1) := by decide +kernel
theorem dX6_feed_16 : decode cX6_feed 16 = .ok (.iload_n 3, 1) := by decide +kernel
theorem dX6_feed_17 : decode cX6_feed 17 = .ok (.bipush 60, 2) := by decide +kernel
theorem dX6_feed_19 : decode cX6_feed 19 = .ok (.aload_n 0, 1) := by decide +kernel
theorem dX6_feed_20 : decode cX6_feed 20 = .ok (.getfield 12, 3) := by decide +kernel
theorem dX6_feed_23 : decode cX6_feed 23 = .ok (.getfield 130, 3) := by decide +kernel
theorem dX6_feed_26 : decode cX6_feed 26 = .ok (.isub, 1) := by decide +kernel
theorem dX6_feed_27 : decode cX6_feed 27 = .ok (.if_icmp .le 9, 3) := by decide +kernel
theorem dX6_feed_30 : decode cX6_feed 30 = .ok (.aload_n 0, 1) := by decide +kernel
theorem dX6_feed_31 : decode cX6_feed 31 = .ok (.iconst 4, 1) := by decide +kernel
theorem dX6_feed_32 : decode cX6_feed 32 = .ok (.invokevirtual 69, 3) := by decide +kernel
theorem dX6_feed_35 : decode cX6_feed 35 = .ok (.ireturn, 1) := by decide +kernel
theorem dX6_feed_36 : decode cX6_feed 36 = .ok (.iconst 0, 1) := by decide +kernel
theorem dX6_feed_37 : decode cX6_feed 37 = .ok (.istore 4, 2) := by decide +kernel
theorem dX6_feed_39 : decode cX6_feed 39 = .ok (.iload 4, 2) := by decide +kernel
theorem dX6_feed_41 : decode cX6_feed 41 = .ok (.iload_n 3, 1) := by decide +kernel
theorem dX6_feed_42 : decode cX6_feed 42 = .ok (.if_icmp .ge 49, 3) := by decide +kernel
theorem dX6_feed_45 : decode cX6_feed 45 = .ok (.aload_n 0, 1) := by decide +kernel
theorem dX6_feed_46 : decode cX6_feed 46 = .ok (.getfield 12, 3) := by decide +kernel
theorem dX6_feed_49 : decode cX6_feed 49 = .ok (.getfield 24, 3) := by decide +kernel
theorem dX6_feed_52 : decode cX6_feed 52 = .ok (.aload_n 0, 1) := by decide +kernel
theorem dX6_feed_53 : decode cX6_feed 53 = .ok (.getfield 12, 3) := by decide +kernel
theorem dX6_feed_56 : decode cX6_feed 56 = .ok (.getfield 130, 3) := by decide +kernel
theorem dX6_feed_59 : decode cX6_feed 59 = .ok (.lload_n 1, 1) := by decide +kernel
theorem dX6_feed_60 : decode cX6_feed 60 = .ok (.bipush 8, 2) := by decide +kernel
theorem dX6_feed_62 : decode cX6_feed 62 = .ok (.iload 4, 2) := by decide +kernel
theorem dX6_feed_64 : decode cX6_feed 64 = .ok (.imul, 1) := by decide +kernel
theorem dX6_feed_65 : decode cX6_feed 65 = .ok (.lushr, 1) := by decide +kernel
theorem dX6_feed_66 : decode cX6_feed 66 = .ok (.l2i, 1) := by decide +kernel
theorem dX6_feed_67 : decode cX6_feed 67 = .ok (.sipush 255, 3) := by decide +kernel
theorem dX6_feed_70 : decode cX6_feed 70 = .ok (.iand, 1) := by decide +kernel
theorem dX6_feed_71 : decode cX6_feed 71 = .ok (.iastore, 1) := by decide +kernel
theorem dX6_feed_72 : decode cX6_feed 72 = .ok (.aload_n 0, 1) := by decide +kernel
theorem dX6_feed_73 : decode cX6_feed 73 = .ok (.getfield 12, 3) := by decide +kernel
theorem dX6_feed_76 : decode cX6_feed 76 = .ok (.dup, 1) := by decide +kernel
theorem dX6_feed_77 : decode cX6_feed 77 = .ok (.getfield 130, 3) := by decide +kernel
theorem dX6_feed_80 : decode cX6_feed 80 = .ok (.iconst 1, 1) := by decide +kernel
theorem dX6_feed_81 : decode cX6_feed 81 = .ok (.iadd, 1) := by decide +kernel
theorem dX6_feed_82 : decode cX6_feed 82 = .ok (.putfield 130, 3) := by decide +kernel
theorem dX6_feed_85 : decode cX6_feed 85 = .ok (.iinc 4 1, 3) := by decide +kernel
theorem dX6_feed_88 : decode cX6_feed 88 = .ok (.goto (-49), 3) := by decide +kernel
theorem dX6_feed_91 : decode cX6_feed 91 = .ok (.aload_n 0, 1) := by decide +kernel
theorem dX6_feed_92 : decode cX6_feed 92 = .ok (.getfield 12, 3) := by decide +kernel
theorem dX6_feed_95 : decode cX6_feed 95 = .ok (.getfield 130, 3) := by decide +kernel
theorem dX6_feed_98 : decode cX6_feed 98 = .ok (.ireturn, 1) := by decide +kernel
theorem dX6_text_0 : decode cX6_text 0 = .ok (.iload_n 1, 1) := by decide +kernel
theorem dX6_text_1 : decode cX6_text 1 = .ok (.invokestatic 133, 3) := by decide +kernel
theorem dX6_text_4 : decode cX6_text 4 = .ok (.ifCond .ne 9, 3) := by decide +kernel
theorem dX6_text_7 : decode cX6_text 7 = .ok (.aload_n 0, 1) := by decide +kernel
theorem dX6_text_8 : decode cX6_text 8 = .ok (.iconst 1, 1) := by decide +kernel
theorem dX6_text_9 : decode cX6_text 9 = .ok (.invokevirtual 69, 3) := by decide +kernel
theorem dX6_text_12 : decode cX6_text 12 = .ok (.ireturn, 1) := by decide +kernel
theorem dX6_text_13 : decode cX6_text 13 = .ok (.aload_n 0, 1) := by decide +kernel
theorem dX6_text_14 : decode cX6_text 14 = .ok (.getfield 31, 3) := by decide +kernel
theorem dX6_text_17 : decode cX6_text 17 = .ok (.aload_n 0, 1) := by decide +kernel
theorem dX6_text_18 : decode cX6_text 18 = .ok (.getfield 12, 3) := by decide +kernel
theorem dX6_text_21 : decode cX6_text 21 = .ok (.getfield 130, 3) := by decide +kernel
theorem dX6_text_24 : decode cX6_text 24 = .ok (.aload_n 0, 1) := by decide +kernel
theorem dX6_text_25 : decode cX6_text 25 = .ok (.getfield 12, 3) := by decide +kernel
theorem dX6_text_28 : decode cX6_text 28 = .ok (.getfield 136, 3) := by decide +kernel
theorem dX6_text_31 : decode cX6_text 31 = .ok (.iload_n 1, 1) := by decide +kernel
theorem dX6_text_32 : decode cX6_text 32 = .ok (.aaload, 1) := by decide +kernel
theorem dX6_text_33 : decode cX6_text 33 = .ok (.getfield 140, 3) := by decide +kernel
theorem dX6_text_36 : decode cX6_text 36 = .ok (.invokevirtual 146, 3) := by decide +kernel
theorem dX6_text_39 : decode cX6_text 39 = .ok (.istore_n 2, 1) := by decide +kernel
theorem dX6_text_40 : decode cX6_text 40 = .ok (.aload_n 0, 1) := by decide +kernel
theorem dX6_text_41 : decode cX6_text 41 = .ok (.getfield 12, 3) := by decide +kernel
theorem dX6_text_44 : decode cX6_text 44 = .ok (.iconst 0, 1) := by decide +kernel
theorem dX6_text_45 : decode cX6_text 45 = .ok (.putfield 130, 3) := by decide +kernel
theorem dX6_text_48 : decode cX6_text 48 = .ok (.iload_n 2, 1) := by decide +kernel
theorem dX6_text_49 : decode cX6_text 49 = .ok (.ifCond .lt 8, 3) := by decide +kernel
theorem dX6_text_52 : decode cX6_text 52 = .ok (.bipush (-10), 2) := by decide +kernel
theorem dX6_text_54 : decode cX6_text 54 = .ok (.iload_n 2, 1) := by decide +kernel
theorem dX6_text_55 : decode cX6_text 55 = .ok (.isub, 1) := by decide +kernel
theorem dX6_text_56 : decode cX6_text 56 = .ok (.ireturn, 1) := by decide +kernel
theorem dX6_text_57 : decode cX6_text 57 = .ok (.aload_n 0, 1) := by decide +kernel
theorem dX6_text_58 : decode cX6_text 58 = .ok (.getfield 12, 3) := by decide +kernel
theorem dX6_text_61 : decode cX6_text 61 = .ok (.getfield 136, 3) := by decide +kernel
theorem dX6_text_64 : decode cX6_text 64 = .ok (.iload_n 1, 1) := by decide +kernel
theorem dX6_text_65 : decode cX6_text 65 = .ok (.aaload, 1) := by decide +kernel
theorem dX6_text_66 : decode cX6_text 66 = .ok (.aload_n 0, 1) := by decide +kernel
theorem dX6_text_67 : decode cX6_text 67 = .ok (.getfield 31, 3) := by decide +kernel
theorem dX6_text_70 : decode cX6_text 70 = .ok (.getfield 150, 3) := by decide +kernel
theorem dX6_text_73 : decode cX6_text 73 = .ok (.aload_n 0, 1) := by decide +kernel
theorem dX6_text_74 : decode cX6_text 74 = .ok (.getfield 31, 3) := by decide +kernel
theorem dX6_text_77 : decode cX6_text 77 = .ok (.getfield 153, 3) := by decide +kernel
theorem dX6_text_80 : decode cX6_text 80 = .ok (.invokevirtual 156, 3) := by decide +kernel
theorem dX6_text_83 : decode cX6_text 83 = .ok (.iconst 1, 1) := by decide +kernel
theorem dX6_text_84 : decode cX6_text 84 = .ok (.ireturn, 1) := by decide +kernel
theorem dX6_untell_0 : decode cX6_untell 0 = .ok (.iload_n 1, 1) := by decide +kernel
theorem dX6_untell_1 : decode cX6_untell 1 = .ok (.invokestatic 133, 3) := by decide +kernel
theorem dX6_untell_4 : decode cX6_untell 4 = .ok (.ifCond .ne 9, 3) := by decide +kernel
theorem dX6_untell_7 : decode cX6_untell 7 = .ok (.aload_n 0, 1) := by decide +kernel
theorem dX6_untell_8 : decode cX6_untell 8 = .ok (.iconst 1, 1) := by decide +kernel
theorem dX6_untell_9 : decode cX6_untell 9 = .ok (.invokevirtual 69, 3) := by decide +kernel
theorem dX6_untell_12 : decode cX6_untell 12 = .ok (.ireturn, 1) := by decide +kernel
theorem dX6_untell_13 : decode cX6_untell 13 = .ok (.aload_n 0, 1) := by decide +kernel
theorem dX6_untell_14 : decode cX6_untell 14 = .ok (.getfield 12, 3) := by decide +kernel
theorem dX6_untell_17 : decode cX6_untell 17 = .ok (.getfield 136, 3) := by decide +kernel
theorem dX6_untell_20 : decode cX6_untell 20 = .ok (.iload_n 1, 1) := by decide +kernel
theorem dX6_untell_21 : decode cX6_untell 21 = .ok (.aaload, 1) := by decide +kernel
theorem dX6_untell_22 : decode cX6_untell 22 = .ok (.invokevirtual 160, 3) := by decide +kernel
theorem dX6_untell_25 : decode cX6_untell 25 = .ok (.ifCond .eq 7, 3) := by decide +kernel
theorem dX6_untell_28 : decode cX6_untell 28 = .ok (.iconst 1, 1) := by decide +kernel
theorem dX6_untell_29 : decode cX6_untell 29 = .ok (.goto 4, 3) := by decide +kernel
theorem dX6_untell_32 : decode cX6_untell 32 = .ok (.iconst 0, 1) := by decide +kernel
theorem dX6_untell_33 : decode cX6_untell 33 = .ok (.istore_n 2, 1) := by decide +kernel
theorem dX6_untell_34 : decode cX6_untell 34 = .ok (.aload_n 0, 1) := by decide +kernel
theorem dX6_untell_35 : decode cX6_untell 35 = .ok (.getfield 12, 3) := by decide +kernel
theorem dX6_untell_38 : decode cX6_untell 38 = .ok (.getfield 136, 3) := by decide +kernel
theorem dX6_untell_41 : decode cX6_untell 41 = .ok (.iload_n 1, 1) := by decide +kernel
theorem dX6_untell_42 : decode cX6_untell 42 = .ok (.aaload, 1) := by decide +kernel
theorem dX6_untell_43 : decode cX6_untell 43 = .ok (.invokevirtual 164, 3) := by decide +kernel
theorem dX6_untell_46 : decode cX6_untell 46 = .ok (.iload_n 2, 1) := by decide +kernel
theorem dX6_untell_47 : decode cX6_untell 47 = .ok (.ireturn, 1) := by decide +kernel
theorem dX6_law_0 : decode cX6_law 0 = .ok (.iload_n 1, 1) := by decide +kernel
theorem dX6_law_1 : decode cX6_law 1 = .ok (.invokestatic 133, 3) := by decide +kernel
theorem dX6_law_4 : decode cX6_law 4 = .ok (.ifCond .eq 22, 3) := by decide +kernel
theorem dX6_law_7 : decode cX6_law 7 = .ok (.aload_n 0, 1) := by decide +kernel
theorem dX6_law_8 : decode cX6_law 8 = .ok (.getfield 12, 3) := by decide +kernel
theorem dX6_law_11 : decode cX6_law 11 = .ok (.getfield 136, 3) := by decide +kernel
theorem dX6_law_14 : decode cX6_law 14 = .ok (.iload_n 1, 1) := by decide +kernel
theorem dX6_law_15 : decode cX6_law 15 = .ok (.aaload, 1) := by decide +kernel
theorem dX6_law_16 : decode cX6_law 16 = .ok (.iload_n 2, 1) := by decide +kernel
theorem dX6_law_17 : decode cX6_law 17 = .ok (.iload_n 3, 1) := by decide +kernel
theorem dX6_law_18 : decode cX6_law 18 = .ok (.iload 4, 2) := by decide +kernel
theorem dX6_law_20 : decode cX6_law 20 = .ok (.invokevirtual 167, 3) := by decide +kernel
theorem dX6_law_23 : decode cX6_law 23 = .ok (.goto 8, 3) := by decide +kernel
theorem dX6_law_26 : decode cX6_law 26 = .ok (.aload_n 0, 1) := by decide +kernel
theorem dX6_law_27 : decode cX6_law 27 = .ok (.iconst 1, 1) := by decide +kernel
theorem dX6_law_28 : decode cX6_law 28 = .ok (.invokevirtual 69, 3) := by decide +kernel
theorem dX6_law_31 : decode cX6_law 31 = .ok (.ireturn, 1) := by decide +kernel
theorem dX6_rounds_0 : decode cX6_rounds 0 = .ok (.iload_n 1, 1) := by decide +kernel
theorem dX6_rounds_1 : decode cX6_rounds 1 = .ok (.iconst 1, 1) := by decide +kernel
theorem dX6_rounds_2 : decode cX6_rounds 2 = .ok (.bipush 60, 2) := by decide +kernel
theorem dX6_rounds_4 : decode cX6_rounds 4 = .ok (.invokestatic 108, 3) := by decide +kernel
theorem dX6_rounds_7 : decode cX6_rounds 7 = .ok (.ifCond .ne 9, 3) := by decide +kernel
theorem dX6_rounds_10 : decode cX6_rounds 10 = .ok (.aload_n 0, 1) := by decide +kernel
theorem dX6_rounds_11 : decode cX6_rounds 11 = .ok (.iconst 1, 1) := by decide +kernel
theorem dX6_rounds_12 : decode cX6_rounds 12 = .ok (.invokevirtual 69, 3) := by decide +kernel
theorem dX6_rounds_15 : decode cX6_rounds 15 = .ok (.ireturn, 1) := by decide +kernel
theorem dX6_rounds_16 : decode cX6_rounds 16 = .ok (.aload_n 0, 1) := by decide +kernel
theorem dX6_rounds_17 : decode cX6_rounds 17 = .ok (.getfield 12, 3) := by decide +kernel
theorem dX6_rounds_20 : decode cX6_rounds 20 = .ok (.getfield 171, 3) := by decide +kernel
theorem dX6_rounds_23 : decode cX6_rounds 23 = .ok (.sipush 9999, 3) := by decide +kernel
theorem dX6_rounds_26 : decode cX6_rounds 26 = .ok (.iload_n 1, 1) := by decide +kernel
theorem dX6_rounds_27 : decode cX6_rounds 27 = .ok (.isub, 1) := by decide +kernel
theorem dX6_rounds_28 : decode cX6_rounds 28 = .ok (.if_icmp .le 9, 3) := by decide +kernel
theorem dX6_rounds_31 : decode cX6_rounds 31 = .ok (.aload_n 0, 1) := by decide +kernel
theorem dX6_rounds_32 : decode cX6_rounds 32 = .ok (.iconst 3, 1) := by decide +kernel
theorem dX6_rounds_33 : decode cX6_rounds 33 = .ok (.invokevirtual 69, 3) := by decide +kernel
theorem dX6_rounds_36 : decode cX6_rounds 36 = .ok (.ireturn, 1) := by decide +kernel
theorem dX6_rounds_37 : decode cX6_rounds 37 = .ok (.iconst 0, 1) := by decide +kernel
theorem dX6_rounds_38 : decode cX6_rounds 38 = .ok (.istore_n 2, 1) := by decide +kernel
theorem dX6_rounds_39 : decode cX6_rounds 39 = .ok (.iload_n 2, 1) := by decide +kernel
theorem dX6_rounds_40 : decode cX6_rounds 40 = .ok (.iload_n 1, 1) := by decide +kernel
theorem dX6_rounds_41 : decode cX6_rounds 41 = .ok (.if_icmp .ge 20, 3) := by decide +kernel
theorem dX6_rounds_44 : decode cX6_rounds 44 = .ok (.aload_n 0, 1) := by decide +kernel
theorem dX6_rounds_45 : decode cX6_rounds 45 = .ok (.getfield 38, 3) := by decide +kernel
theorem dX6_rounds_48 : decode cX6_rounds 48 = .ok (.aload_n 0, 1) := by decide +kernel
theorem dX6_rounds_49 : decode cX6_rounds 49 = .ok (.getfield 12, 3) := by decide +kernel
theorem dX6_rounds_52 : decode cX6_rounds 52 = .ok (.invokevirtual 174, 3) := by decide +kernel
theorem dX6_rounds_55 : decode cX6_rounds 55 = .ok (.iinc 2 1, 3) := by decide +kernel
theorem dX6_rounds_58 : decode cX6_rounds 58 = .ok (.goto (-19), 3) := by decide +kernel
theorem dX6_rounds_61 : decode cX6_rounds 61 = .ok (.aload_n 0, 1) := by decide +kernel
theorem dX6_rounds_62 : decode cX6_rounds 62 = .ok (.getfield 12, 3) := by decide +kernel
theorem dX6_rounds_65 : decode cX6_rounds 65 = .ok (.getfield 178, 3) := by decide +kernel
theorem dX6_rounds_68 : decode cX6_rounds 68 = .ok (.invokestatic 181, 3) := by decide +kernel
theorem dX6_rounds_71 : decode cX6_rounds 71 = .ok (.ireturn, 1) := by decide +kernel
theorem dX6_loose_0 : decode cX6_loose 0 = .ok (.iload_n 1, 1) := by decide +kernel
theorem dX6_loose_1 : decode cX6_loose 1 = .ok (.iconst 1, 1) := by decide +kernel
theorem dX6_loose_2 : decode cX6_loose 2 = .ok (.bipush 30, 2) := by decide +kernel
theorem dX6_loose_4 : decode cX6_loose 4 = .ok (.invokestatic 108, 3) := by decide +kernel
theorem dX6_loose_7 : decode cX6_loose 7 = .ok (.ifCond .ne 9, 3) := by decide +kernel
theorem dX6_loose_10 : decode cX6_loose 10 = .ok (.aload_n 0, 1) := by decide +kernel
theorem dX6_loose_11 : decode cX6_loose 11 = .ok (.iconst 1, 1) := by decide +kernel
theorem dX6_loose_12 : decode cX6_loose 12 = .ok (.invokevirtual 69, 3) := by decide +kernel
theorem dX6_loose_15 : decode cX6_loose 15 = .ok (.ireturn, 1) := by decide +kernel
theorem dX6_loose_16 : decode cX6_loose 16 = .ok (.aload_n 0, 1) := by decide +kernel
theorem dX6_loose_17 : decode cX6_loose 17 = .ok (.getfield 12, 3) := by decide +kernel
theorem dX6_loose_20 : decode cX6_loose 20 = .ok (.getfield 171, 3) := by decide +kernel
theorem dX6_loose_23 : decode cX6_loose 23 = .ok (.sipush 9999, 3) := by decide +kernel
theorem dX6_loose_26 : decode cX6_loose 26 = .ok (.iload_n 1, 1) := by decide +kernel
theorem dX6_loose_27 : decode cX6_loose 27 = .ok (.isub, 1) := by decide +kernel
theorem dX6_loose_28 : decode cX6_loose 28 = .ok (.if_icmp .le 9, 3) := by decide +kernel
theorem dX6_loose_31 : decode cX6_loose 31 = .ok (.aload_n 0, 1) := by decide +kernel
theorem dX6_loose_32 : decode cX6_loose 32 = .ok (.iconst 3, 1) := by decide +kernel
theorem dX6_loose_33 : decode cX6_loose 33 = .ok (.invokevirtual 69, 3) := by decide +kernel
theorem dX6_loose_36 : decode cX6_loose 36 = .ok (.ireturn, 1) := by decide +kernel
theorem dX6_loose_37 : decode cX6_loose 37 = .ok (.iconst 0, 1) := by decide +kernel
theorem dX6_loose_38 : decode cX6_loose 38 = .ok (.istore_n 2, 1) := by decide +kernel
theorem dX6_loose_39 : decode cX6_loose 39 = .ok (.iload_n 2, 1) := by decide +kernel
theorem dX6_loose_40 : decode cX6_loose 40 = .ok (.iload_n 1, 1) := by decide +kernel
theorem dX6_loose_41 : decode cX6_loose 41 = .ok (.if_icmp .ge 27, 3) := by decide +kernel
theorem dX6_loose_44 : decode cX6_loose 44 = .ok (.aload_n 0, 1) := by decide +kernel
theorem dX6_loose_45 : decode cX6_loose 45 = .ok (.getfield 12, 3) := by decide +kernel
theorem dX6_loose_48 : decode cX6_loose 48 = .ok (.invokevirtual 186, 3) := by decide +kernel
theorem dX6_loose_51 : decode cX6_loose 51 = .ok (.aload_n 0, 1) := by decide +kernel
theorem dX6_loose_52 : decode cX6_loose 52 = .ok (.getfield 38, 3) := by decide +kernel
theorem dX6_loose_55 : decode cX6_loose 55 = .ok (.aload_n 0, 1) := by decide +kernel
theorem dX6_loose_56 : decode cX6_loose 56 = .ok (.getfield 12, 3) := by decide +kernel
theorem dX6_loose_59 : decode cX6_loose 59 = .ok (.invokevirtual 174, 3) := by decide +kernel
theorem dX6_loose_62 : decode cX6_loose 62 = .ok (.iinc 2 1, 3) := by decide +kernel
theorem dX6_loose_65 : decode cX6_loose 65 = .ok (.goto (-26), 3) := by decide +kernel
theorem dX6_loose_68 : decode cX6_loose 68 = .ok (.aload_n 0, 1) := by decide +kernel
theorem dX6_loose_69 : decode cX6_loose 69 = .ok (.getfield 12, 3) := by decide +kernel
theorem dX6_loose_72 : decode cX6_loose 72 = .ok (.getfield 178, 3) := by decide +kernel
theorem dX6_loose_75 : decode cX6_loose 75 = .ok (.invokestatic 181, 3) := by decide +kernel
theorem dX6_loose_78 : decode cX6_loose 78 = .ok (.ireturn, 1) := by decide +kernel
theorem dX6_round_0 : decode cX6_round 0 = .ok (.iload_n 1, 1) := by decide +kernel
theorem dX6_round_1 : decode cX6_round 1 = .ok (.iconst 0, 1) := by decide +kernel
theorem dX6_round_2 : decode cX6_round 2 = .ok (.sipush 9999, 3) := by decide +kernel
theorem dX6_round_5 : decode cX6_round 5 = .ok (.invokestatic 108, 3) := by decide +kernel
theorem dX6_round_8 : decode cX6_round 8 = .ok (.ifCond .ne 9, 3) := by decide +kernel
theorem dX6_round_11 : decode cX6_round 11 = .ok (.aload_n 0, 1) := by decide +kernel
theorem dX6_round_12 : decode cX6_round 12 = .ok (.iconst 1, 1) := by decide +kernel
theorem dX6_round_13 : decode cX6_round 13 = .ok (.invokevirtual 69, 3) := by decide +kernel
theorem dX6_round_16 : decode cX6_round 16 = .ok (.ireturn, 1) := by decide +kernel
theorem dX6_round_17 : decode cX6_round 17 = .ok (.aload_n 0, 1) := by decide +kernel
theorem dX6_round_18 : decode cX6_round 18 = .ok (.getfield 12, 3) := by decide +kernel
theorem dX6_round_21 : decode cX6_round 21 = .ok (.getfield 171, 3) := by decide +kernel
theorem dX6_round_24 : decode cX6_round 24 = .ok (.istore_n 2, 1) := by decide +kernel
theorem dX6_round_25 : decode cX6_round 25 = .ok (.aload_n 0, 1) := by decide +kernel
theorem dX6_round_26 : decode cX6_round 26 = .ok (.getfield 12, 3) := by decide +kernel
theorem dX6_round_29 : decode cX6_round 29 = .ok (.iload_n 1, 1) := by decide +kernel
theorem dX6_round_30 : decode cX6_round 30 = .ok (.putfield 171, 3) := by decide +kernel
theorem dX6_round_33 : decode cX6_round 33 = .ok (.iload_n 2, 1) := by decide +kernel
theorem dX6_round_34 : decode cX6_round 34 = .ok (.ireturn, 1) := by decide +kernel
theorem dX6_seed_0 : decode cX6_seed 0 = .ok (.aload_n 0, 1) := by decide +kernel
theorem dX6_seed_1 : decode cX6_seed 1 = .ok (.getfield 12, 3) := by decide +kernel
theorem dX6_seed_4 : decode cX6_seed 4 = .ok (.getfield 189, 3) := by decide +kernel
theorem dX6_seed_7 : decode cX6_seed 7 = .ok (.istore_n 2, 1) := by decide +kernel
theorem dX6_seed_8 : decode cX6_seed 8 = .ok (.aload_n 0, 1) := by decide +kernel
theorem dX6_seed_9 : decode cX6_seed 9 = .ok (.getfield 12, 3) := by decide +kernel
theorem dX6_seed_12 : decode cX6_seed 12 = .ok (.iload_n 1, 1) := by decide +kernel
theorem dX6_seed_13 : decode cX6_seed 13 = .ok (.putfield 189, 3) := by decide +kernel
theorem dX6_seed_16 : decode cX6_seed 16 = .ok (.iload_n 2, 1) := by decide +kernel
theorem dX6_seed_17 : decode cX6_seed 17 = .ok (.ireturn, 1) := by decide +kernel
theorem dX6_place_0 : decode cX6_place 0 = .ok (.aload_n 0, 1) := by decide +kernel
theorem dX6_place_1 : decode cX6_place 1 = .ok (.iload_n 1, 1) := by decide +kernel
theorem dX6_place_2 : decode cX6_place 2 = .ok (.invokevirtual 63, 3) := by decide +kernel
theorem dX6_place_5 : decode cX6_place 5 = .ok (.ifCond .eq 10, 3) := by decide +kernel
theorem dX6_place_8 : decode cX6_place 8 = .ok (.iload_n 2, 1) := by decide +kernel
theorem dX6_place_9 : decode cX6_place 9 = .ok (.invokestatic 192, 3) := by decide +kernel
theorem dX6_place_12 : decode cX6_place 12 = .ok (.ifCond .ne 10, 3) := by decide +kernel
theorem dX6_place_15 : decode cX6_place 15 = .ok (.aload_n 0, 1) := by decide +kernel
theorem dX6_place_16 : decode cX6_place 16 = .ok (.iconst 1, 1) := by decide +kernel
theorem dX6_place_17 : decode cX6_place 17 = .ok (.invokevirtual 69, 3) := by decide +kernel
theorem dX6_place_20 : decode cX6_place 20 = .ok (.i2l, 1) := by decide +kernel
theorem dX6_place_21 : decode cX6_place 21 = .ok (.lreturn, 1) := by decide +kernel
theorem dX6_place_22 : decode cX6_place 22 = .ok (.aload_n 0, 1) := by decide +kernel
theorem dX6_place_23 : decode cX6_place 23 = .ok (.getfield 38, 3) := by decide +kernel
theorem dX6_place_26 : decode cX6_place 26 = .ok (.aload_n 0, 1) := by decide +kernel
theorem dX6_place_27 : decode cX6_place 27 = .ok (.getfield 12, 3) := by decide +kernel
theorem dX6_place_30 : decode cX6_place 30 = .ok (.invokevirtual 195, 3) := by decide +kernel
theorem dX6_place_33 : decode cX6_place 33 = .ok (.ifCond .ne 10, 3) := by decide +kernel
theorem dX6_place_36 : decode cX6_place 36 = .ok (.aload_n 0, 1) := by decide +kernel
theorem dX6_place_37 : decode cX6_place 37 = .ok (.iconst 3, 1) := by decide +kernel
theorem dX6_place_38 : decode cX6_place 38 = .ok (.invokevirtual 69, 3) := by decide +kernel
theorem dX6_place_41 : decode cX6_place 41 = .ok (.i2l, 1) := by decide +kernel
theorem dX6_place_42 : decode cX6_place 42 = .ok (.lreturn, 1) := by decide +kernel
theorem dX6_place_43 : decode cX6_place 43 = .ok (.aload_n 0, 1) := by decide +kernel
theorem dX6_place_44 : decode cX6_place 44 = .ok (.getfield 38, 3) := by decide +kernel
theorem dX6_place_47 : decode cX6_place 47 = .ok (.getfield 199, 3) := by decide +kernel
theorem dX6_place_50 : decode cX6_place 50 = .ok (.iload_n 1, 1) := by decide +kernel
theorem dX6_place_51 : decode cX6_place 51 = .ok (.laload, 1) := by decide +kernel
theorem dX6_place_52 : decode cX6_place 52 = .ok (.aload_n 0, 1) := by decide +kernel
theorem dX6_place_53 : decode cX6_place 53 = .ok (.getfield 38, 3) := by decide +kernel
theorem dX6_place_56 : decode cX6_place 56 = .ok (.getfield 203, 3) := by decide +kernel
theorem dX6_place_59 : decode cX6_place 59 = .ok (.iload_n 2, 1) := by decide +kernel
theorem dX6_place_60 : decode cX6_place 60 = .ok (.invokestatic 207, 3) := by decide +kernel
theorem dX6_place_63 : decode cX6_place 63 = .ok (.lreturn, 1) := by decide +kernel
theorem dX6_miss_0 : decode cX6_miss 0 = .ok (.aload_n 0, 1) := by decide +kernel
theorem dX6_miss_1 : decode cX6_miss 1 = .ok (.iload_n 1, 1) := by decide +kernel
theorem dX6_miss_2 : decode cX6_miss 2 = .ok (.invokevirtual 81, 3) := by decide +kernel
theorem dX6_miss_5 : decode cX6_miss 5 = .ok (.ifCond .eq 10, 3) := by decide +kernel
theorem dX6_miss_8 : decode cX6_miss 8 = .ok (.iload_n 2, 1) := by decide +kernel
theorem dX6_miss_9 : decode cX6_miss 9 = .ok (.invokestatic 192, 3) := by decide +kernel
theorem dX6_miss_12 : decode cX6_miss 12 = .ok (.ifCond .ne 10, 3) := by decide +kernel
theorem dX6_miss_15 : decode cX6_miss 15 = .ok (.aload_n 0, 1) := by decide +kernel
theorem dX6_miss_16 : decode cX6_miss 16 = .ok (.iconst 1, 1) := by decide +kernel
theorem dX6_miss_17 : decode cX6_miss 17 = .ok (.invokevirtual 69, 3) := by decide +kernel
theorem dX6_miss_20 : decode cX6_miss 20 = .ok (.i2l, 1) := by decide +kernel
theorem dX6_miss_21 : decode cX6_miss 21 = .ok (.lreturn, 1) := by decide +kernel
theorem dX6_miss_22 : decode cX6_miss 22 = .ok (.aload_n 0, 1) := by decide +kernel
theorem dX6_miss_23 : decode cX6_miss 23 = .ok (.getfield 38, 3) := by decide +kernel
theorem dX6_miss_26 : decode cX6_miss 26 = .ok (.aload_n 0, 1) := by decide +kernel
theorem dX6_miss_27 : decode cX6_miss 27 = .ok (.getfield 12, 3) := by decide +kernel
theorem dX6_miss_30 : decode cX6_miss 30 = .ok (.invokevirtual 195, 3) := by decide +kernel
theorem dX6_miss_33 : decode cX6_miss 33 = .ok (.ifCond .ne 10, 3) := by decide +kernel
theorem dX6_miss_36 : decode cX6_miss 36 = .ok (.aload_n 0, 1) := by decide +kernel
theorem dX6_miss_37 : decode cX6_miss 37 = .ok (.iconst 3, 1) := by decide +kernel
theorem dX6_miss_38 : decode cX6_miss 38 = .ok (.invokevirtual 69, 3) := by decide +kernel
theorem dX6_miss_41 : decode cX6_miss 41 = .ok (.i2l, 1) := by decide +kernel
theorem dX6_miss_42 : decode cX6_miss 42 = .ok (.lreturn, 1) := by decide +kernel
theorem dX6_miss_43 : decode cX6_miss 43 = .ok (.aload_n 0, 1) := by decide +kernel
theorem dX6_miss_44 : decode cX6_miss 44 = .ok (.getfield 38, 3) := by decide +kernel
theorem dX6_miss_47 : decode cX6_miss 47 = .ok (.aload_n 0, 1) := by decide +kernel
theorem dX6_miss_48 : decode cX6_miss 48 = .ok (.getfield 12, 3) := by decide +kernel
theorem dX6_miss_51 : decode cX6_miss 51 = .ok (.iload_n 1, 1) := by decide +kernel
theorem dX6_miss_52 : decode cX6_miss 52 = .ok (.aload_n 0, 1) := by decide +kernel
theorem dX6_miss_53 : decode cX6_miss 53 = .ok (.getfield 12, 3) := by decide +kernel
theorem dX6_miss_56 : decode cX6_miss 56 = .ok (.iload_n 1, 1) := by decide +kernel
theorem dX6_miss_57 : decode cX6_miss 57 = .ok (.invokevirtual 105, 3) := by decide +kernel
theorem dX6_miss_60 : decode cX6_miss 60 = .ok (.invokevirtual 211, 3) := by decide +kernel
theorem dX6_miss_63 : decode cX6_miss 63 = .ok (.aload_n 0, 1) := by decide +kernel
theorem dX6_miss_64 : decode cX6_miss 64 = .ok (.getfield 38, 3) := by decide +kernel
theorem dX6_miss_67 : decode cX6_miss 67 = .ok (.getfield 203, 3) := by decide +kernel
theorem dX6_miss_70 : decode cX6_miss 70 = .ok (.iload_n 2, 1) := by decide +kernel
theorem dX6_miss_71 : decode cX6_miss 71 = .ok (.invokestatic 207, 3) := by decide +kernel
theorem dX6_miss_74 : decode cX6_miss 74 = .ok (.lreturn, 1) := by decide +kernel
theorem dX6_sum_0 : decode cX6_sum 0 = .ok (.iload_n 1, 1) := by decide +kernel
theorem dX6_sum_1 : decode cX6_sum 1 = .ok (.invokestatic 192, 3) := by decide +kernel
theorem dX6_sum_4 : decode cX6_sum 4 = .ok (.ifCond .ne 10, 3) := by decide +kernel
theorem dX6_sum_7 : decode cX6_sum 7 = .ok (.aload_n 0, 1) := by decide +kernel
theorem dX6_sum_8 : decode cX6_sum 8 = .ok (.iconst 1, 1) := by decide +kernel
theorem dX6_sum_9 : decode cX6_sum 9 = .ok (.invokevirtual 69, 3) := by decide +kernel
theorem dX6_sum_12 : decode cX6_sum 12 = .ok (.i2l, 1) := by decide +kernel
theorem dX6_sum_13 : decode cX6_sum 13 = .ok (.lreturn, 1) := by decide +kernel
theorem dX6_sum_14 : decode cX6_sum 14 = .ok (.aload_n 0, 1) := by decide +kernel
theorem dX6_sum_15 : decode cX6_sum 15 = .ok (.getfield 38, 3) := by decide +kernel
theorem dX6_sum_18 : decode cX6_sum 18 = .ok (.aload_n 0, 1) := by decide +kernel
theorem dX6_sum_19 : decode cX6_sum 19 = .ok (.getfield 12, 3) := by decide +kernel
theorem dX6_sum_22 : decode cX6_sum 22 = .ok (.invokevirtual 195, 3) := by decide +kernel
theorem dX6_sum_25 : decode cX6_sum 25 = .ok (.ifCond .ne 10, 3) := by decide +kernel
theorem dX6_sum_28 : decode cX6_sum 28 = .ok (.aload_n 0, 1) := by decide +kernel
theorem dX6_sum_29 : decode cX6_sum 29 = .ok (.iconst 3, 1) := by decide +kernel
theorem dX6_sum_30 : decode cX6_sum 30 = .ok (.invokevirtual 69, 3) := by decide +kernel
theorem dX6_sum_33 : decode cX6_sum 33 = .ok (.i2l, 1) := by decide +kernel
theorem dX6_sum_34 : decode cX6_sum 34 = .ok (.lreturn, 1) := by decide +kernel
theorem dX6_sum_35 : decode cX6_sum 35 = .ok (.aload_n 0, 1) := by decide +kernel
theorem dX6_sum_36 : decode cX6_sum 36 = .ok (.getfield 38, 3) := by decide +kernel
theorem dX6_sum_39 : decode cX6_sum 39 = .ok (.aload_n 0, 1) := by decide +kernel
theorem dX6_sum_40 : decode cX6_sum 40 = .ok (.getfield 12, 3) := by decide +kernel
theorem dX6_sum_43 : decode cX6_sum 43 = .ok (.invokevirtual 215, 3) := by decide +kernel
theorem dX6_sum_46 : decode cX6_sum 46 = .ok (.aload_n 0, 1) := by decide +kernel
theorem dX6_sum_47 : decode cX6_sum 47 = .ok (.getfield 38, 3) := by decide +kernel
theorem dX6_sum_50 : decode cX6_sum 50 = .ok (.getfield 203, 3) := by decide +kernel
theorem dX6_sum_53 : decode cX6_sum 53 = .ok (.aload_n 0, 1) := by decide +kernel
theorem dX6_sum_54 : decode cX6_sum 54 = .ok (.getfield 38, 3) := by decide +kernel
theorem dX6_sum_57 : decode cX6_sum 57 = .ok (.getfield 203, 3) := by decide +kernel
theorem dX6_sum_60 : decode cX6_sum 60 = .ok (.lmul, 1) := by decide +kernel
theorem dX6_sum_61 : decode cX6_sum 61 = .ok (.iload_n 1, 1) := by decide +kernel
theorem dX6_sum_62 : decode cX6_sum 62 = .ok (.invokestatic 207, 3) := by decide +kernel
theorem dX6_sum_65 : decode cX6_sum 65 = .ok (.lreturn, 1) := by decide +kernel
theorem dX6_doubted_0 : decode cX6_doubted 0 = .ok (.aload_n 0, 1) := by decide +kernel
theorem dX6_doubted_1 : decode cX6_doubted 1 = .ok (.getfield 38, 3) := by decide +kernel
theorem dX6_doubted_4 : decode cX6_doubted 4 = .ok (.aload_n 0, 1) := by decide +kernel
theorem dX6_doubted_5 : decode cX6_doubted 5 = .ok (.getfield 12, 3) := by decide +kernel
theorem dX6_doubted_8 : decode cX6_doubted 8 = .ok (.invokevirtual 195, 3) := by decide +kernel
theorem dX6_doubted_11 : decode cX6_doubted 11 = .ok (.ifCond .eq 17, 3) := by decide +kernel
theorem dX6_doubted_14 : decode cX6_doubted 14 = .ok (.aload_n 0, 1) := by decide +kernel
theorem dX6_doubted_15 : decode cX6_doubted 15 = .ok (.getfield 38, 3) := by decide +kernel
theorem dX6_doubted_18 : decode cX6_doubted 18 = .ok (.aload_n 0, 1) := by decide +kernel
theorem dX6_doubted_19 : decode cX6_doubted 19 = .ok (.getfield 12, 3) := by decide +kernel
theorem dX6_doubted_22 : decode cX6_doubted 22 = .ok (.invokevirtual 219, 3) := by decide +kernel
theorem dX6_doubted_25 : decode cX6_doubted 25 = .ok (.goto 8, 3) := by decide +kernel
theorem dX6_doubted_28 : decode cX6_doubted 28 = .ok (.aload_n 0, 1) := by decide +kernel
theorem dX6_doubted_29 : decode cX6_doubted 29 = .ok (.iconst 3, 1) := by decide +kernel
theorem dX6_doubted_30 : decode cX6_doubted 30 = .ok (.invokevirtual 69, 3) := by decide +kernel
theorem dX6_doubted_33 : decode cX6_doubted 33 = .ok (.ireturn, 1) := by decide +kernel
theorem dX6_needed_0 : decode cX6_needed 0 = .ok (.aload_n 0, 1) := by decide +kernel
theorem dX6_needed_1 : decode cX6_needed 1 = .ok (.getfield 12, 3) := by decide +kernel
theorem dX6_needed_4 : decode cX6_needed 4 = .ok (.aload_n 0, 1) := by decide +kernel
theorem dX6_needed_5 : decode cX6_needed 5 = .ok (.getfield 12, 3) := by decide +kernel
theorem dX6_needed_8 : decode cX6_needed 8 = .ok (.getfield 178, 3) := by decide +kernel
theorem dX6_needed_11 : decode cX6_needed 11 = .ok (.invokevirtual 223, 3) := by decide +kernel
theorem dX6_needed_14 : decode cX6_needed 14 = .ok (.ifCond .ne 9, 3) := by decide +kernel
theorem dX6_needed_17 : decode cX6_needed 17 = .ok (.aload_n 0, 1) := by decide +kernel
theorem dX6_needed_18 : decode cX6_needed 18 = .ok (.iconst 3, 1) := by decide +kernel
theorem dX6_needed_19 : decode cX6_needed 19 = .ok (.invokevirtual 69, 3) := by decide +kernel
theorem dX6_needed_22 : decode cX6_needed 22 = .ok (.ireturn, 1) := by decide +kernel
theorem dX6_needed_23 : decode cX6_needed 23 = .ok (.iconst 0, 1) := by decide +kernel
theorem dX6_needed_24 : decode cX6_needed 24 = .ok (.istore_n 1, 1) := by decide +kernel
theorem dX6_needed_25 : decode cX6_needed 25 = .ok (.iconst 0, 1) := by decide +kernel
theorem dX6_needed_26 : decode cX6_needed 26 = .ok (.istore_n 2, 1) := by decide +kernel
theorem dX6_needed_27 : decode cX6_needed 27 = .ok (.iload_n 2, 1) := by decide +kernel
theorem dX6_needed_28 : decode cX6_needed 28 = .ok (.aload_n 0, 1) := by decide +kernel
theorem dX6_needed_29 : decode cX6_needed 29 = .ok (.getfield 12, 3) := by decide +kernel
theorem dX6_needed_32 : decode cX6_needed 32 = .ok (.getfield 73, 3) := by decide +kernel
theorem dX6_needed_35 : decode cX6_needed 35 = .ok (.if_icmp .ge 49, 3) := by decide +kernel
theorem dX6_needed_38 : decode cX6_needed 38 = .ok (.aload_n 0, 1) := by decide +kernel
theorem dX6_needed_39 : decode cX6_needed 39 = .ok (.getfield 12, 3) := by decide +kernel
theorem dX6_needed_42 : decode cX6_needed 42 = .ok (.iload_n 2, 1) := by decide +kernel
theorem dX6_needed_43 : decode cX6_needed 43 = .ok (.invokevirtual 99, 3) := by decide +kernel
theorem dX6_needed_46 : decode cX6_needed 46 = .ok (.ifCond .eq 32, 3) := by decide +kernel
theorem dX6_needed_49 : decode cX6_needed 49 = .ok (.aload_n 0, 1) := by decide +kernel
theorem dX6_needed_50 : decode cX6_needed 50 = .ok (.getfield 12, 3) := by decide +kernel
theorem dX6_needed_53 : decode cX6_needed 53 = .ok (.aload_n 0, 1) := by decide +kernel
theorem dX6_needed_54 : decode cX6_needed 54 = .ok (.getfield 12, 3) := by decide +kernel
theorem dX6_needed_57 : decode cX6_needed 57 = .ok (.getfield 178, 3) := by decide +kernel
theorem dX6_needed_60 : decode cX6_needed 60 = .ok (.iconst 1, 1) := by decide +kernel
theorem dX6_needed_61 : decode cX6_needed 61 = .ok (.iload_n 2, 1) := by decide +kernel
theorem dX6_needed_62 : decode cX6_needed 62 = .ok (.ishl, 1) := by decide +kernel
theorem dX6_needed_63 : decode cX6_needed 63 = .ok (.iconst (-1), 1) := by decide +kernel
theorem dX6_needed_64 : decode cX6_needed 64 = .ok (.ixor, 1) := by decide +kernel
theorem dX6_needed_65 : decode cX6_needed 65 = .ok (.iand, 1) := by decide +kernel
theorem dX6_needed_66 : decode cX6_needed 66 = .ok (.invokevirtual 223, 3) := by decide +kernel
theorem dX6_needed_69 : decode cX6_needed 69 = .ok (.ifCond .ne 9, 3) := by decide +kernel
theorem dX6_needed_72 : decode cX6_needed 72 = .ok (.iload_n 1, 1) := by decide +kernel
theorem dX6_needed_73 : decode cX6_needed 73 = .ok (.iconst 1, 1) := by decide +kernel
theorem dX6_needed_74 : decode cX6_needed 74 = .ok (.iload_n 2, 1) := by decide +kernel
theorem dX6_needed_75 : decode cX6_needed 75 = .ok (.ishl, 1) := by decide +kernel
theorem dX6_needed_76 : decode cX6_needed 76 = .ok (.ior, 1) := by decide +kernel
theorem dX6_needed_77 : decode cX6_needed 77 = .ok (.istore_n 1, 1) := by decide +kernel
theorem dX6_needed_78 : decode cX6_needed 78 = .ok (.iinc 2 1, 3) := by decide +kernel
theorem dX6_needed_81 : decode cX6_needed 81 = .ok (.goto (-54), 3) := by decide +kernel
theorem dX6_needed_84 : decode cX6_needed 84 = .ok (.iload_n 1, 1) := by decide +kernel
theorem dX6_needed_85 : decode cX6_needed 85 = .ok (.ireturn, 1) := by decide +kernel
theorem dX6_spine_0 : decode cX6_spine 0 = .ok (.aload_n 0, 1) := by decide +kernel
theorem dX6_spine_1 : decode cX6_spine 1 = .ok (.getfield 12, 3) := by decide +kernel
theorem dX6_spine_4 : decode cX6_spine 4 = .ok (.aload_n 0, 1) := by decide +kernel
theorem dX6_spine_5 : decode cX6_spine 5 = .ok (.getfield 12, 3) := by decide +kernel
theorem dX6_spine_8 : decode cX6_spine 8 = .ok (.getfield 178, 3) := by decide +kernel
theorem dX6_spine_11 : decode cX6_spine 11 = .ok (.invokevirtual 223, 3) := by decide +kernel
theorem dX6_spine_14 : decode cX6_spine 14 = .ok (.ifCond .ne 9, 3) := by decide +kernel
theorem dX6_spine_17 : decode cX6_spine 17 = .ok (.aload_n 0, 1) := by decide +kernel
theorem dX6_spine_18 : decode cX6_spine 18 = .ok (.iconst 3, 1) := by decide +kernel
theorem dX6_spine_19 : decode cX6_spine 19 = .ok (.invokevirtual 69, 3) := by decide +kernel
theorem dX6_spine_22 : decode cX6_spine 22 = .ok (.ireturn, 1) := by decide +kernel
theorem dX6_spine_23 : decode cX6_spine 23 = .ok (.iconst 0, 1) := by decide +kernel
theorem dX6_spine_24 : decode cX6_spine 24 = .ok (.istore_n 1, 1) := by decide +kernel
theorem dX6_spine_25 : decode cX6_spine 25 = .ok (.iconst 0, 1) := by decide +kernel
theorem dX6_spine_26 : decode cX6_spine 26 = .ok (.istore_n 2, 1) := by decide +kernel
theorem dX6_spine_27 : decode cX6_spine 27 = .ok (.iconst 1, 1) := by decide +kernel
theorem dX6_spine_28 : decode cX6_spine 28 = .ok (.istore_n 3, 1) := by decide +kernel
theorem dX6_spine_29 : decode cX6_spine 29 = .ok (.iload_n 3, 1) := by decide +kernel
theorem dX6_spine_30 : decode cX6_spine 30 = .ok (.sipush 256, 3) := by decide +kernel
theorem dX6_spine_33 : decode cX6_spine 33 = .ok (.if_icmp .ge 81, 3) := by decide +kernel
theorem dX6_spine_36 : decode cX6_spine 36 = .ok (.iload_n 3, 1) := by decide +kernel
theorem dX6_spine_37 : decode cX6_spine 37 = .ok (.invokestatic 181, 3) := by decide +kernel
theorem dX6_spine_40 : decode cX6_spine 40 = .ok (.aload_n 0, 1) := by decide +kernel
theorem dX6_spine_41 : decode cX6_spine 41 = .ok (.getfield 12, 3) := by decide +kernel
theorem dX6_spine_44 : decode cX6_spine 44 = .ok (.getfield 124, 3) := by decide +kernel
theorem dX6_spine_47 : decode cX6_spine 47 = .ok (.if_icmp .ne 21, 3) := by decide +kernel
theorem dX6_spine_50 : decode cX6_spine 50 = .ok (.iload_n 3, 1) := by decide +kernel
theorem dX6_spine_51 : decode cX6_spine 51 = .ok (.aload_n 0, 1) := by decide +kernel
theorem dX6_spine_52 : decode cX6_spine 52 = .ok (.getfield 12, 3) := by decide +kernel
theorem dX6_spine_55 : decode cX6_spine 55 = .ok (.getfield 178, 3) := by decide +kernel
theorem dX6_spine_58 : decode cX6_spine 58 = .ok (.iconst (-1), 1) := by decide +kernel
theorem dX6_spine_59 : decode cX6_spine 59 = .ok (.ixor, 1) := by decide +kernel
theorem dX6_spine_60 : decode cX6_spine 60 = .ok (.iand, 1) := by decide +kernel
theorem dX6_spine_61 : decode cX6_spine 61 = .ok (.ifCond .ne 7, 3) := by decide +kernel
theorem dX6_spine_64 : decode cX6_spine 64 = .ok (.iconst 1, 1) := by decide +kernel
theorem dX6_spine_65 : decode cX6_spine 65 = .ok (.goto 4, 3) := by decide +kernel
theorem dX6_spine_68 : decode cX6_spine 68 = .ok (.iconst 0, 1) := by decide +kernel
theorem dX6_spine_69 : decode cX6_spine 69 = .ok (.istore 4, 2) := by decide +kernel
theorem dX6_spine_71 : decode cX6_spine 71 = .ok (.iload 4, 2) := by decide +kernel
theorem dX6_spine_73 : decode cX6_spine 73 = .ok (.ifCond .eq 35, 3) := by decide +kernel
theorem dX6_spine_76 : decode cX6_spine 76 = .ok (.aload_n 0, 1) := by decide +kernel
theorem dX6_spine_77 : decode cX6_spine 77 = .ok (.getfield 12, 3) := by decide +kernel
theorem dX6_spine_80 : decode cX6_spine 80 = .ok (.iload_n 3, 1) := by decide +kernel
theorem dX6_spine_81 : decode cX6_spine 81 = .ok (.invokevirtual 223, 3) := by decide +kernel
theorem dX6_spine_84 : decode cX6_spine 84 = .ok (.ifCond .eq 24, 3) := by decide +kernel
theorem dX6_spine_87 : decode cX6_spine 87 = .ok (.aload_n 0, 1) := by decide +kernel
theorem dX6_spine_88 : decode cX6_spine 88 = .ok (.getfield 12, 3) := by decide +kernel
theorem dX6_spine_91 : decode cX6_spine 91 = .ok (.iload_n 3, 1) := by decide +kernel
theorem dX6_spine_92 : decode cX6_spine 92 = .ok (.invokevirtual 226, 3) := by decide +kernel
theorem dX6_spine_95 : decode cX6_spine 95 = .ok (.istore 5, 2) := by decide +kernel
theorem dX6_spine_97 : decode cX6_spine 97 = .ok (.iload 5, 2) := by decide +kernel
theorem dX6_spine_99 : decode cX6_spine 99 = .ok (.iload_n 2, 1) := by decide +kernel
theorem dX6_spine_100 : decode cX6_spine 100 = .ok (.if_icmp .le 8, 3) := by decide +kernel
theorem dX6_spine_103 : decode cX6_spine 103 = .ok (.iload 5, 2) := by decide +kernel
theorem dX6_spine_105 : decode cX6_spine 105 = .ok (.istore_n 2, 1) := by decide +kernel
theorem dX6_spine_106 : decode cX6_spine 106 = .ok (.iload_n 3, 1) := by decide +kernel
theorem dX6_spine_107 : decode cX6_spine 107 = .ok (.istore_n 1, 1) := by decide +kernel
theorem dX6_spine_108 : decode cX6_spine 108 = .ok (.iinc 3 1, 3) := by decide +kernel
theorem dX6_spine_111 : decode cX6_spine 111 = .ok (.goto (-82), 3) := by decide +kernel
theorem dX6_spine_114 : decode cX6_spine 114 = .ok (.iload_n 1, 1) := by decide +kernel
theorem dX6_spine_115 : decode cX6_spine 115 = .ok (.ireturn, 1) := by decide +kernel
theorem dX6_then_0 : decode cX6_then 0 = .ok (.iload_n 1, 1) := by decide +kernel
theorem dX6_then_1 : decode cX6_then 1 = .ok (.iconst 0, 1) := by decide +kernel
theorem dX6_then_2 : decode cX6_then 2 = .ok (.bipush 60, 2) := by decide +kernel
theorem dX6_then_4 : decode cX6_then 4 = .ok (.invokestatic 108, 3) := by decide +kernel
theorem dX6_then_7 : decode cX6_then 7 = .ok (.ifCond .eq 12, 3) := by decide +kernel
theorem dX6_then_10 : decode cX6_then 10 = .ok (.iload_n 2, 1) := by decide +kernel
theorem dX6_then_11 : decode cX6_then 11 = .ok (.iconst 0, 1) := by decide +kernel
theorem dX6_then_12 : decode cX6_then 12 = .ok (.iconst 2, 1) := by decide +kernel
theorem dX6_then_13 : decode cX6_then 13 = .ok (.invokestatic 108, 3) := by decide +kernel
theorem dX6_then_16 : decode cX6_then 16 = .ok (.ifCond .ne 9, 3) := by decide +kernel
theorem dX6_then_19 : decode cX6_then 19 = .ok (.aload_n 0, 1) := by decide +kernel
theorem dX6_then_20 : decode cX6_then 20 = .ok (.iconst 1, 1) := by decide +kernel
theorem dX6_then_21 : decode cX6_then 21 = .ok (.invokevirtual 69, 3) := by decide +kernel
theorem dX6_then_24 : decode cX6_then 24 = .ok (.ireturn, 1) := by decide +kernel
theorem dX6_then_25 : decode cX6_then 25 = .ok (.aload_n 0, 1) := by decide +kernel
theorem dX6_then_26 : decode cX6_then 26 = .ok (.getfield 19, 3) := by decide +kernel
theorem dX6_then_29 : decode cX6_then 29 = .ok (.aload_n 0, 1) := by decide +kernel
theorem dX6_then_30 : decode cX6_then 30 = .ok (.getfield 12, 3) := by decide +kernel
theorem dX6_then_33 : decode cX6_then 33 = .ok (.invokevirtual 229, 3) := by decide +kernel
theorem dX6_then_36 : decode cX6_then 36 = .ok (.iconst 0, 1) := by decide +kernel
theorem dX6_then_37 : decode cX6_then 37 = .ok (.istore_n 3, 1) := by decide +kernel
theorem dX6_then_38 : decode cX6_then 38 = .ok (.iload_n 3, 1) := by decide +kernel
theorem dX6_then_39 : decode cX6_then 39 = .ok (.iload_n 1, 1) := by decide +kernel
theorem dX6_then_40 : decode cX6_then 40 = .ok (.if_icmp .ge 20, 3) := by decide +kernel
theorem dX6_then_43 : decode cX6_then 43 = .ok (.aload_n 0, 1) := by decide +kernel
theorem dX6_then_44 : decode cX6_then 44 = .ok (.getfield 38, 3) := by decide +kernel
theorem dX6_then_47 : decode cX6_then 47 = .ok (.aload_n 0, 1) := by decide +kernel
theorem dX6_then_48 : decode cX6_then 48 = .ok (.getfield 19, 3) := by decide +kernel
theorem dX6_then_51 : decode cX6_then 51 = .ok (.invokevirtual 174, 3) := by decide +kernel
theorem dX6_then_54 : decode cX6_then 54 = .ok (.iinc 3 1, 3) := by decide +kernel
theorem dX6_then_57 : decode cX6_then 57 = .ok (.goto (-19), 3) := by decide +kernel
theorem dX6_then_60 : decode cX6_then 60 = .ok (.iload_n 2, 1) := by decide +kernel
theorem dX6_then_61 : decode cX6_then 61 = .ok (.ifCond .ne 14, 3) := by decide +kernel
theorem dX6_then_64 : decode cX6_then 64 = .ok (.aload_n 0, 1) := by decide +kernel
theorem dX6_then_65 : decode cX6_then 65 = .ok (.getfield 19, 3) := by decide +kernel
theorem dX6_then_68 : decode cX6_then 68 = .ok (.getfield 178, 3) := by decide +kernel
theorem dX6_then_71 : decode cX6_then 71 = .ok (.invokestatic 181, 3) := by decide +kernel
theorem dX6_then_74 : decode cX6_then 74 = .ok (.ireturn, 1) := by decide +kernel
theorem dX6_then_75 : decode cX6_then 75 = .ok (.iload_n 2, 1) := by decide +kernel
theorem dX6_then_76 : decode cX6_then 76 = .ok (.iconst 1, 1) := by decide +kernel
theorem dX6_then_77 : decode cX6_then 77 = .ok (.if_icmp .ne 13, 3) := by decide +kernel
theorem dX6_then_80 : decode cX6_then 80 = .ok (.aload_n 0, 1) := by decide +kernel
theorem dX6_then_81 : decode cX6_then 81 = .ok (.getfield 19, 3) := by decide +kernel
theorem dX6_then_84 : decode cX6_then 84 = .ok (.getfield 178, 3) := by decide +kernel
theorem dX6_then_87 : decode cX6_then 87 = .ok (.goto 10, 3) := by decide +kernel
theorem dX6_then_90 : decode cX6_then 90 = .ok (.aload_n 0, 1) := by decide +kernel
theorem dX6_then_91 : decode cX6_then 91 = .ok (.getfield 19, 3) := by decide +kernel
theorem dX6_then_94 : decode cX6_then 94 = .ok (.getfield 231, 3) := by decide +kernel
theorem dX6_then_97 : decode cX6_then 97 = .ok (.ireturn, 1) := by decide +kernel
theorem dX6_soonest_0 : decode cX6_soonest 0 = .ok (.aload_n 0, 1) := by decide +kernel
theorem dX6_soonest_1 : decode cX6_soonest 1 = .ok (.iload_n 1, 1) := by decide +kernel
theorem dX6_soonest_2 : decode cX6_soonest 2 = .ok (.invokevirtual 81, 3) := by decide +kernel
theorem dX6_soonest_5 : decode cX6_soonest 5 = .ok (.ifCond .ne 9, 3) := by decide +kernel
theorem dX6_soonest_8 : decode cX6_soonest 8 = .ok (.aload_n 0, 1) := by decide +kernel
theorem dX6_soonest_9 : decode cX6_soonest 9 = .ok (.iconst 1, 1) := by decide +kernel
theorem dX6_soonest_10 : decode cX6_soonest 10 = .ok (.invokevirtual 69, 3) := by decide +kernel
theorem dX6_soonest_13 : decode cX6_soonest 13 = .ok (.ireturn, 1) := by decide +kernel
theorem dX6_soonest_14 : decode cX6_soonest 14 = .ok (.aload_n 0, 1) := by decide +kernel
theorem dX6_soonest_15 : decode cX6_soonest 15 = .ok (.getfield 19, 3) := by decide +kernel
theorem dX6_soonest_18 : decode cX6_soonest 18 = .ok (.aload_n 0, 1) := by decide +kernel
theorem dX6_soonest_19 : decode cX6_soonest 19 = .ok (.getfield 12, 3) := by decide +kernel
theorem dX6_soonest_22 : decode cX6_soonest 22 = .ok (.invokevirtual 229, 3) := by decide +kernel
theorem dX6_soonest_25 : decode cX6_soonest 25 = .ok (.aload_n 0, 1) := by decide +kernel
theorem dX6_soonest_26 : decode cX6_soonest 26 = .ok (.iload_n 1, 1) := by decide +kernel
theorem dX6_soonest_27 : decode cX6_soonest 27 = .ok (.bipush 60, 2) := by decide +kernel
theorem dX6_soonest_29 : decode cX6_soonest 29 = .ok (.invokevirtual 234, 3) := by decide +kernel
theorem dX6_soonest_32 : decode cX6_soonest 32 = .ok (.istore_n 2, 1) := by decide +kernel
theorem dX6_soonest_33 : decode cX6_soonest 33 = .ok (.iload_n 2, 1) := by decide +kernel
theorem dX6_soonest_34 : decode cX6_soonest 34 = .ok (.ifCond .lt 7, 3) := by decide +kernel
theorem dX6_soonest_37 : decode cX6_soonest 37 = .ok (.iload_n 2, 1) := by decide +kernel
theorem dX6_soonest_38 : decode cX6_soonest 38 = .ok (.goto 8, 3) := by decide +kernel
theorem dX6_soonest_41 : decode cX6_soonest 41 = .ok (.aload_n 0, 1) := by decide +kernel
theorem dX6_soonest_42 : decode cX6_soonest 42 = .ok (.iconst 2, 1) := by decide +kernel
theorem dX6_soonest_43 : decode cX6_soonest 43 = .ok (.invokevirtual 69, 3) := by decide +kernel
theorem dX6_soonest_46 : decode cX6_soonest 46 = .ok (.ireturn, 1) := by decide +kernel
theorem dX6_limitFor_0 : decode cX6_limitFor 0 = .ok (.iload_n 1, 1) := by decide +kernel
theorem dX6_limitFor_1 : decode cX6_limitFor 1 = .ok (.iconst 0, 1) := by decide +kernel
theorem dX6_limitFor_2 : decode cX6_limitFor 2 = .ok (.bipush 40, 2) := by decide +kernel
theorem dX6_limitFor_4 : decode cX6_limitFor 4 = .ok (.invokestatic 108, 3) := by decide +kernel
theorem dX6_limitFor_7 : decode cX6_limitFor 7 = .ok (.ifCond .ne 9, 3) := by decide +kernel
theorem dX6_limitFor_10 : decode cX6_limitFor 10 = .ok (.aload_n 0, 1) := by decide +kernel
theorem dX6_limitFor_11 : decode cX6_limitFor 11 = .ok (.iconst 1, 1) := by decide +kernel
theorem dX6_limitFor_12 : decode cX6_limitFor 12 = .ok (.invokevirtual 69, 3) := by decide +kernel
theorem dX6_limitFor_15 : decode cX6_limitFor 15 = .ok (.ireturn, 1) := by decide +kernel
theorem dX6_limitFor_16 : decode cX6_limitFor 16 = .ok (.aload_n 0, 1) := by decide +kernel
theorem dX6_limitFor_17 : decode cX6_limitFor 17 = .ok (.getfield 19, 3) := by decide +kernel
theorem dX6_limitFor_20 : decode cX6_limitFor 20 = .ok (.aload_n 0, 1) := by decide +kernel
theorem dX6_limitFor_21 : decode cX6_limitFor 21 = .ok (.getfield 12, 3) := by decide +kernel
theorem dX6_limitFor_24 : decode cX6_limitFor 24 = .ok (.invokevirtual 229, 3) := by decide +kernel
theorem dX6_limitFor_27 : decode cX6_limitFor 27 = .ok (.lconst 0, 1) := by decide +kernel
theorem dX6_limitFor_28 : decode cX6_limitFor 28 = .ok (.lstore_n 2, 1) := by decide +kernel
theorem dX6_limitFor_29 : decode cX6_limitFor 29 = .ok (.iconst 0, 1) := by decide +kernel
theorem dX6_limitFor_30 : decode cX6_limitFor 30 = .ok (.istore 4, 2) := by decide +kernel
theorem dX6_limitFor_32 : decode cX6_limitFor 32 = .ok (.iload 4, 2) := by decide +kernel
theorem dX6_limitFor_34 : decode cX6_limitFor 34 = .ok (.iload_n 1, 1) := by decide +kernel
theorem dX6_limitFor_35 : decode cX6_limitFor 35 = .ok (.if_icmp .ge 38, 3) := by decide +kernel
theorem dX6_limitFor_38 : decode cX6_limitFor 38 = .ok (.lload_n 2, 1) := by decide +kernel
theorem dX6_limitFor_39 : decode cX6_limitFor 39 = .ok (.aload_n 0, 1) := by decide +kernel
theorem dX6_limitFor_40 : decode cX6_limitFor 40 = .ok (.getfield 38, 3) := by decide +kernel
theorem dX6_limitFor_43 : decode cX6_limitFor 43 = .ok (.aload_n 0, 1) := by decide +kernel
theorem dX6_limitFor_44 : decode cX6_limitFor 44 = .ok (.getfield 19, 3) := by decide +kernel
theorem dX6_limitFor_47 : decode cX6_limitFor 47 = .ok (.invokevirtual 238, 3) := by decide +kernel
theorem dX6_limitFor_50 : decode cX6_limitFor 50 = .ok (.invokestatic 241, 3) := by decide +kernel
theorem dX6_limitFor_53 : decode cX6_limitFor 53 = .ok (.lstore_n 2, 1) := by decide +kernel
theorem dX6_limitFor_54 : decode cX6_limitFor 54 = .ok (.aload_n 0, 1) := by decide +kernel
theorem dX6_limitFor_55 : decode cX6_limitFor 55 = .ok (.getfield 19, 3) := by decide +kernel
theorem dX6_limitFor_58 : decode cX6_limitFor 58 = .ok (.dup, 1) := by decide +kernel
theorem dX6_limitFor_59 : decode cX6_limitFor 59 = .ok (.getfield 171, 3) := by decide +kernel
theorem dX6_limitFor_62 : decode cX6_limitFor 62 = .ok (.iconst 1, 1) := by decide +kernel
theorem dX6_limitFor_63 : decode cX6_limitFor 63 = .ok (.iadd, 1) := by decide +kernel
theorem dX6_limitFor_64 : decode cX6_limitFor 64 = .ok (.putfield 171, 3) := by decide +kernel
theorem dX6_limitFor_67 : decode cX6_limitFor 67 = .ok (.iinc 4 1, 3) := by decide +kernel
theorem dX6_limitFor_70 : decode cX6_limitFor 70 = .ok (.goto (-38), 3) := by decide +kernel
theorem dX6_limitFor_73 : decode cX6_limitFor 73 = .ok (.lload_n 2, 1) := by decide +kernel
theorem dX6_limitFor_74 : decode cX6_limitFor 74 = .ok (.ldc2_w 247, 3) := by decide +kernel
theorem dX6_limitFor_77 : decode cX6_limitFor 77 = .ok (.lcmp, 1) := by decide +kernel
theorem dX6_limitFor_78 : decode cX6_limitFor 78 = .ok (.ifCond .gt 8, 3) := by decide +kernel
theorem dX6_limitFor_81 : decode cX6_limitFor 81 = .ok (.lload_n 2, 1) := by decide +kernel
theorem dX6_limitFor_82 : decode cX6_limitFor 82 = .ok (.l2i, 1) := by decide +kernel
theorem dX6_limitFor_83 : decode cX6_limitFor 83 = .ok (.goto 8, 3) := by decide +kernel
theorem dX6_limitFor_86 : decode cX6_limitFor 86 = .ok (.aload_n 0, 1) := by decide +kernel
theorem dX6_limitFor_87 : decode cX6_limitFor 87 = .ok (.iconst 2, 1) := by decide +kernel
theorem dX6_limitFor_88 : decode cX6_limitFor 88 = .ok (.invokevirtual 69, 3) := by decide +kernel
theorem dX6_limitFor_91 : decode cX6_limitFor 91 = .ok (.ireturn, 1) := by decide +kernel
theorem dX6_toldFor_0 : decode cX6_toldFor 0 = .ok (.aload_n 0, 1) := by decide +kernel
theorem dX6_toldFor_1 : decode cX6_toldFor 1 = .ok (.iload_n 1, 1) := by decide +kernel
theorem dX6_toldFor_2 : decode cX6_toldFor 2 = .ok (.invokevirtual 81, 3) := by decide +kernel
theorem dX6_toldFor_5 : decode cX6_toldFor 5 = .ok (.ifCond .ne 9, 3) := by decide +kernel
theorem dX6_toldFor_8 : decode cX6_toldFor 8 = .ok (.aload_n 0, 1) := by decide +kernel
theorem dX6_toldFor_9 : decode cX6_toldFor 9 = .ok (.iconst 1, 1) := by decide +kernel
theorem dX6_toldFor_10 : decode cX6_toldFor 10 = .ok (.invokevirtual 69, 3) := by decide +kernel
theorem dX6_toldFor_13 : decode cX6_toldFor 13 = .ok (.ireturn, 1) := by decide +kernel
theorem dX6_toldFor_14 : decode cX6_toldFor 14 = .ok (.aload_n 0, 1) := by decide +kernel
theorem dX6_toldFor_15 : decode cX6_toldFor 15 = .ok (.getfield 12, 3) := by decide +kernel
theorem dX6_toldFor_18 : decode cX6_toldFor 18 = .ok (.aload_n 0, 1) := by decide +kernel
theorem dX6_toldFor_19 : decode cX6_toldFor 19 = .ok (.getfield 12, 3) := by decide +kernel
theorem dX6_toldFor_22 : decode cX6_toldFor 22 = .ok (.getfield 178, 3) := by decide +kernel
theorem dX6_toldFor_25 : decode cX6_toldFor 25 = .ok (.invokevirtual 223, 3) := by decide +kernel
theorem dX6_toldFor_28 : decode cX6_toldFor 28 = .ok (.ifCond .ne 9, 3) := by decide +kernel
theorem dX6_toldFor_31 : decode cX6_toldFor 31 = .ok (.aload_n 0, 1) := by decide +kernel
theorem dX6_toldFor_32 : decode cX6_toldFor 32 = .ok (.iconst 3, 1) := by decide +kernel
theorem dX6_toldFor_33 : decode cX6_toldFor 33 = .ok (.invokevirtual 69, 3) := by decide +kernel
theorem dX6_toldFor_36 : decode cX6_toldFor 36 = .ok (.ireturn, 1) := by decide +kernel
theorem dX6_toldFor_37 : decode cX6_toldFor 37 = .ok (.aload_n 0, 1) := by decide +kernel
theorem dX6_toldFor_38 : decode cX6_toldFor 38 = .ok (.getfield 19, 3) := by decide +kernel
theorem dX6_toldFor_41 : decode cX6_toldFor 41 = .ok (.aload_n 0, 1) := by decide +kernel
theorem dX6_toldFor_42 : decode cX6_toldFor 42 = .ok (.getfield 12, 3) := by decide +kernel
theorem dX6_toldFor_45 : decode cX6_toldFor 45 = .ok (.invokevirtual 229, 3) := by decide +kernel
theorem dX6_toldFor_48 : decode cX6_toldFor 48 = .ok (.bipush (-20), 2) := by decide +kernel
theorem dX6_toldFor_50 : decode cX6_toldFor 50 = .ok (.istore_n 2, 1) := by decide +kernel
theorem dX6_toldFor_51 : decode cX6_toldFor 51 = .ok (.ldc2_w 251, 3) := by decide +kernel
theorem dX6_toldFor_54 : decode cX6_toldFor 54 = .ok (.lstore_n 3, 1) := by decide +kernel
theorem dX6_toldFor_55 : decode cX6_toldFor 55 = .ok (.bipush (-20), 2) := by decide +kernel
theorem dX6_toldFor_57 : decode cX6_toldFor 57 = .ok (.istore 5, 2) := by decide +kernel
theorem dX6_toldFor_59 : decode cX6_toldFor 59 = .ok (.iload 5, 2) := by decide +kernel
theorem dX6_toldFor_61 : decode cX6_toldFor 61 = .ok (.bipush 20, 2) := by decide +kernel
theorem dX6_toldFor_63 : decode cX6_toldFor 63 = .ok (.if_icmp .gt 58, 3) := by decide +kernel
theorem dX6_toldFor_66 : decode cX6_toldFor 66 = .ok (.aload_n 0, 1) := by decide +kernel
theorem dX6_toldFor_67 : decode cX6_toldFor 67 = .ok (.getfield 19, 3) := by decide +kernel
theorem dX6_toldFor_70 : decode cX6_toldFor 70 = .ok (.getfield 96, 3) := by decide +kernel
theorem dX6_toldFor_73 : decode cX6_toldFor 73 = .ok (.iload_n 1, 1) := by decide +kernel
theorem dX6_toldFor_74 : decode cX6_toldFor 74 = .ok (.iload 5, 2) := by decide +kernel
theorem dX6_toldFor_76 : decode cX6_toldFor 76 = .ok (.iastore, 1) := by decide +kernel
theorem dX6_toldFor_77 : decode cX6_toldFor 77 = .ok (.aload_n 0, 1) := by decide +kernel
theorem dX6_toldFor_78 : decode cX6_toldFor 78 = .ok (.getfield 38, 3) := by decide +kernel
theorem dX6_toldFor_81 : decode cX6_toldFor 81 = .ok (.aload_n 0, 1) := by decide +kernel
theorem dX6_toldFor_82 : decode cX6_toldFor 82 = .ok (.getfield 19, 3) := by decide +kernel
theorem dX6_toldFor_85 : decode cX6_toldFor 85 = .ok (.invokevirtual 195, 3) := by decide +kernel
theorem dX6_toldFor_88 : decode cX6_toldFor 88 = .ok (.pop, 1) := by decide +kernel
theorem dX6_toldFor_89 : decode cX6_toldFor 89 = .ok (.aload_n 0, 1) := by decide +kernel
theorem dX6_toldFor_90 : decode cX6_toldFor 90 = .ok (.getfield 38, 3) := by decide +kernel
theorem dX6_toldFor_93 : decode cX6_toldFor 93 = .ok (.aload_n 0, 1) := by decide +kernel
theorem dX6_toldFor_94 : decode cX6_toldFor 94 = .ok (.getfield 19, 3) := by decide +kernel
theorem dX6_toldFor_97 : decode cX6_toldFor 97 = .ok (.invokevirtual 215, 3) := by decide +kernel
theorem dX6_toldFor_100 : decode cX6_toldFor 100 = .ok (.lstore 6, 2) := by decide +kernel
theorem dX6_toldFor_102 : decode cX6_toldFor 102 = .ok (.lload 6, 2) := by decide +kernel
theorem dX6_toldFor_104 : decode cX6_toldFor 104 = .ok (.lload_n 3, 1) := by decide +kernel
theorem dX6_toldFor_105 : decode cX6_toldFor 105 = .ok (.lcmp, 1) := by decide +kernel
theorem dX6_toldFor_106 : decode cX6_toldFor 106 = .ok (.ifCond .ge 9, 3) := by decide +kernel
theorem dX6_toldFor_109 : decode cX6_toldFor 109 = .ok (.lload 6, 2) := by decide +kernel
theorem dX6_toldFor_111 : decode cX6_toldFor 111 = .ok (.lstore_n 3, 1) := by decide +kernel
theorem dX6_toldFor_112 : decode cX6_toldFor 112 = .ok (.iload 5, 2) := by decide +kernel
theorem dX6_toldFor_114 : decode cX6_toldFor 114 = .ok (.istore_n 2, 1) := by decide +kernel
theorem dX6_toldFor_115 : decode cX6_toldFor 115 = .ok (.iinc 5 1, 3) := by decide +kernel
theorem dX6_toldFor_118 : decode cX6_toldFor 118 = .ok (.goto (-59), 3) := by decide +kernel
theorem dX6_toldFor_121 : decode cX6_toldFor 121 = .ok (.iload_n 2, 1) := by decide +kernel
theorem dX6_toldFor_122 : decode cX6_toldFor 122 = .ok (.ireturn, 1) := by decide +kernel
theorem dX6_odds_0 : decode cX6_odds 0 = .ok (.aload_n 0, 1) := by decide +kernel
theorem dX6_odds_1 : decode cX6_odds 1 = .ok (.iload_n 1, 1) := by decide +kernel
theorem dX6_odds_2 : decode cX6_odds 2 = .ok (.invokevirtual 81, 3) := by decide +kernel
theorem dX6_odds_5 : decode cX6_odds 5 = .ok (.ifCond .eq 20, 3) := by decide +kernel
theorem dX6_odds_8 : decode cX6_odds 8 = .ok (.iload_n 2, 1) := by decide +kernel
theorem dX6_odds_9 : decode cX6_odds 9 = .ok (.iconst 0, 1) := by decide +kernel
theorem dX6_odds_10 : decode cX6_odds 10 = .ok (.bipush 40, 2) := by decide +kernel
theorem dX6_odds_12 : decode cX6_odds 12 = .ok (.invokestatic 108, 3) := by decide +kernel
theorem dX6_odds_15 : decode cX6_odds 15 = .ok (.ifCond .eq 10, 3) := by decide +kernel
theorem dX6_odds_18 : decode cX6_odds 18 = .ok (.iload_n 3, 1) := by decide +kernel
theorem dX6_odds_19 : decode cX6_odds 19 = .ok (.invokestatic 192, 3) := by decide +kernel
theorem dX6_odds_22 : decode cX6_odds 22 = .ok (.ifCond .ne 9, 3) := by decide +kernel
theorem dX6_odds_25 : decode cX6_odds 25 = .ok (.aload_n 0, 1) := by decide +kernel
theorem dX6_odds_26 : decode cX6_odds 26 = .ok (.iconst 1, 1) := by decide +kernel
theorem dX6_odds_27 : decode cX6_odds 27 = .ok (.invokevirtual 69, 3) := by decide +kernel
theorem dX6_odds_30 : decode cX6_odds 30 = .ok (.ireturn, 1) := by decide +kernel
theorem dX6_odds_31 : decode cX6_odds 31 = .ok (.iconst 0, 1) := by decide +kernel
theorem dX6_odds_32 : decode cX6_odds 32 = .ok (.istore 4, 2) := by decide +kernel
theorem dX6_odds_34 : decode cX6_odds 34 = .ok (.bipush (-20), 2) := by decide +kernel
theorem dX6_odds_36 : decode cX6_odds 36 = .ok (.istore 5, 2) := by decide +kernel
theorem dX6_odds_38 : decode cX6_odds 38 = .ok (.iload 5, 2) := by decide +kernel
theorem dX6_odds_40 : decode cX6_odds 40 = .ok (.bipush 20, 2) := by decide +kernel
theorem dX6_odds_42 : decode cX6_odds 42 = .ok (.if_icmp .gt 43, 3) := by decide +kernel
theorem dX6_odds_45 : decode cX6_odds 45 = .ok (.aload_n 0, 1) := by decide +kernel
theorem dX6_odds_46 : decode cX6_odds 46 = .ok (.getfield 19, 3) := by decide +kernel
theorem dX6_odds_49 : decode cX6_odds 49 = .ok (.aload_n 0, 1) := by decide +kernel
theorem dX6_odds_50 : decode cX6_odds 50 = .ok (.getfield 12, 3) := by decide +kernel
theorem dX6_odds_53 : decode cX6_odds 53 = .ok (.invokevirtual 229, 3) := by decide +kernel
theorem dX6_odds_56 : decode cX6_odds 56 = .ok (.aload_n 0, 1) := by decide +kernel
theorem dX6_odds_57 : decode cX6_odds 57 = .ok (.getfield 19, 3) := by decide +kernel
theorem dX6_odds_60 : decode cX6_odds 60 = .ok (.getfield 96, 3) := by decide +kernel
theorem dX6_odds_63 : decode cX6_odds 63 = .ok (.iload_n 1, 1) := by decide +kernel
theorem dX6_odds_64 : decode cX6_odds 64 = .ok (.iload 5, 2) := by decide +kernel
theorem dX6_odds_66 : decode cX6_odds 66 = .ok (.iastore, 1) := by decide +kernel
theorem dX6_odds_67 : decode cX6_odds 67 = .ok (.aload_n 0, 1) := by decide +kernel
theorem dX6_odds_68 : decode cX6_odds 68 = .ok (.iload_n 1, 1) := by decide +kernel
theorem dX6_odds_69 : decode cX6_odds 69 = .ok (.iload_n 2, 1) := by decide +kernel
theorem dX6_odds_70 : decode cX6_odds 70 = .ok (.invokevirtual 234, 3) := by decide +kernel
theorem dX6_odds_73 : decode cX6_odds 73 = .ok (.ifCond .ge 6, 3) := by decide +kernel
theorem dX6_odds_76 : decode cX6_odds 76 = .ok (.iinc 4 1, 3) := by decide +kernel
theorem dX6_odds_79 : decode cX6_odds 79 = .ok (.iinc 5 1, 3) := by decide +kernel
theorem dX6_odds_82 : decode cX6_odds 82 = .ok (.goto (-44), 3) := by decide +kernel
theorem dX6_odds_85 : decode cX6_odds 85 = .ok (.iload 4, 2) := by decide +kernel
theorem dX6_odds_87 : decode cX6_odds 87 = .ok (.i2l, 1) := by decide +kernel
theorem dX6_odds_88 : decode cX6_odds 88 = .ok (.ldc2_w 253, 3) := by decide +kernel
theorem dX6_odds_91 : decode cX6_odds 91 = .ok (.iload_n 3, 1) := by decide +kernel
theorem dX6_odds_92 : decode cX6_odds 92 = .ok (.invokestatic 207, 3) := by decide +kernel
theorem dX6_odds_95 : decode cX6_odds 95 = .ok (.l2i, 1) := by decide +kernel
theorem dX6_odds_96 : decode cX6_odds 96 = .ok (.ireturn, 1) := by decide +kernel
theorem dX6_fits_0 : decode cX6_fits 0 = .ok (.iload_n 1, 1) := by decide +kernel
theorem dX6_fits_1 : decode cX6_fits 1 = .ok (.invokestatic 255, 3) := by decide +kernel
theorem dX6_fits_4 : decode cX6_fits 4 = .ok (.ifCond .eq 20, 3) := by decide +kernel
theorem dX6_fits_7 : decode cX6_fits 7 = .ok (.aload_n 0, 1) := by decide +kernel
theorem dX6_fits_8 : decode cX6_fits 8 = .ok (.iload_n 2, 1) := by decide +kernel
theorem dX6_fits_9 : decode cX6_fits 9 = .ok (.invokevirtual 81, 3) := by decide +kernel
theorem dX6_fits_12 : decode cX6_fits 12 = .ok (.ifCond .eq 12, 3) := by decide +kernel
theorem dX6_fits_15 : decode cX6_fits 15 = .ok (.iload_n 3, 1) := by decide +kernel
theorem dX6_fits_16 : decode cX6_fits 16 = .ok (.iconst 0, 1) := by decide +kernel
theorem dX6_fits_17 : decode cX6_fits 17 = .ok (.iconst 1, 1) := by decide +kernel
theorem dX6_fits_18 : decode cX6_fits 18 = .ok (.invokestatic 108, 3) := by decide +kernel
theorem dX6_fits_21 : decode cX6_fits 21 = .ok (.ifCond .ne 9, 3) := by decide +kernel
theorem dX6_fits_24 : decode cX6_fits 24 = .ok (.aload_n 0, 1) := by decide +kernel
theorem dX6_fits_25 : decode cX6_fits 25 = .ok (.iconst 1, 1) := by decide +kernel
theorem dX6_fits_26 : decode cX6_fits 26 = .ok (.invokevirtual 69, 3) := by decide +kernel
theorem dX6_fits_29 : decode cX6_fits 29 = .ok (.ireturn, 1) := by decide +kernel
theorem dX6_fits_30 : decode cX6_fits 30 = .ok (.aload_n 0, 1) := by decide +kernel
theorem dX6_fits_31 : decode cX6_fits 31 = .ok (.getfield 52, 3) := by decide +kernel
theorem dX6_fits_34 : decode cX6_fits 34 = .ok (.iload_n 1, 1) := by decide +kernel
theorem dX6_fits_35 : decode cX6_fits 35 = .ok (.invokevirtual 258, 3) := by decide +kernel
theorem dX6_fits_38 : decode cX6_fits 38 = .ok (.ifCond .eq 9, 3) := by decide +kernel
theorem dX6_fits_41 : decode cX6_fits 41 = .ok (.aload_n 0, 1) := by decide +kernel
theorem dX6_fits_42 : decode cX6_fits 42 = .ok (.iconst 2, 1) := by decide +kernel
theorem dX6_fits_43 : decode cX6_fits 43 = .ok (.invokevirtual 69, 3) := by decide +kernel
theorem dX6_fits_46 : decode cX6_fits 46 = .ok (.ireturn, 1) := by decide +kernel
theorem dX6_fits_47 : decode cX6_fits 47 = .ok (.iconst 0, 1) := by decide +kernel
theorem dX6_fits_48 : decode cX6_fits 48 = .ok (.istore 4, 2) := by decide +kernel
theorem dX6_fits_50 : decode cX6_fits 50 = .ok (.iconst 0, 1) := by decide +kernel
theorem dX6_fits_51 : decode cX6_fits 51 = .ok (.istore 5, 2) := by decide +kernel
theorem dX6_fits_53 : decode cX6_fits 53 = .ok (.iload 5, 2) := by decide +kernel
theorem dX6_fits_55 : decode cX6_fits 55 = .ok (.bipush 7, 2) := by decide +kernel
theorem dX6_fits_57 : decode cX6_fits 57 = .ok (.if_icmp .ge 48, 3) := by decide +kernel
theorem dX6_fits_60 : decode cX6_fits 60 = .ok (.aload_n 0, 1) := by decide +kernel
theorem dX6_fits_61 : decode cX6_fits 61 = .ok (.getfield 19, 3) := by decide +kernel
theorem dX6_fits_64 : decode cX6_fits 64 = .ok (.aload_n 0, 1) := by decide +kernel
theorem dX6_fits_65 : decode cX6_fits 65 = .ok (.getfield 12, 3) := by decide +kernel
theorem dX6_fits_68 : decode cX6_fits 68 = .ok (.invokevirtual 229, 3) := by decide +kernel
theorem dX6_fits_71 : decode cX6_fits 71 = .ok (.aload_n 0, 1) := by decide +kernel
theorem dX6_fits_72 : decode cX6_fits 72 = .ok (.getfield 19, 3) := by decide +kernel
theorem dX6_fits_75 : decode cX6_fits 75 = .ok (.getfield 84, 3) := by decide +kernel
theorem dX6_fits_78 : decode cX6_fits 78 = .ok (.iload_n 2, 1) := by decide +kernel
theorem dX6_fits_79 : decode cX6_fits 79 = .ok (.iload 5, 2) := by decide +kernel
theorem dX6_fits_81 : decode cX6_fits 81 = .ok (.iastore, 1) := by decide +kernel
theorem dX6_fits_82 : decode cX6_fits 82 = .ok (.aload_n 0, 1) := by decide +kernel
theorem dX6_fits_83 : decode cX6_fits 83 = .ok (.iload_n 1, 1) := by decide +kernel
theorem dX6_fits_84 : decode cX6_fits 84 = .ok (.invokevirtual 261, 3) := by decide +kernel
theorem dX6_fits_87 : decode cX6_fits 87 = .ok (.ifCond .eq 12, 3) := by decide +kernel
theorem dX6_fits_90 : decode cX6_fits 90 = .ok (.iload 4, 2) := by decide +kernel
theorem dX6_fits_92 : decode cX6_fits 92 = .ok (.iconst 1, 1) := by decide +kernel
theorem dX6_fits_93 : decode cX6_fits 93 = .ok (.iload 5, 2) := by decide +kernel
theorem dX6_fits_95 : decode cX6_fits 95 = .ok (.ishl, 1) := by decide +kernel
theorem dX6_fits_96 : decode cX6_fits 96 = .ok (.ior, 1) := by decide +kernel
theorem dX6_fits_97 : decode cX6_fits 97 = .ok (.istore 4, 2) := by decide +kernel
theorem dX6_fits_99 : decode cX6_fits 99 = .ok (.iinc 5 1, 3) := by decide +kernel
theorem dX6_fits_102 : decode cX6_fits 102 = .ok (.goto (-49), 3) := by decide +kernel
theorem dX6_fits_105 : decode cX6_fits 105 = .ok (.iload_n 3, 1) := by decide +kernel
theorem dX6_fits_106 : decode cX6_fits 106 = .ok (.ifCond .ne 8, 3) := by decide +kernel
theorem dX6_fits_109 : decode cX6_fits 109 = .ok (.iload 4, 2) := by decide +kernel
theorem dX6_fits_111 : decode cX6_fits 111 = .ok (.goto 8, 3) := by decide +kernel
theorem dX6_fits_114 : decode cX6_fits 114 = .ok (.iload 4, 2) := by decide +kernel
theorem dX6_fits_116 : decode cX6_fits 116 = .ok (.invokestatic 181, 3) := by decide +kernel
theorem dX6_fits_119 : decode cX6_fits 119 = .ok (.ireturn, 1) := by decide +kernel
theorem dX6_voice_0 : decode cX6_voice 0 = .ok (.aload_n 0, 1) := by decide +kernel
theorem dX6_voice_1 : decode cX6_voice 1 = .ok (.iload_n 1, 1) := by decide +kernel
theorem dX6_voice_2 : decode cX6_voice 2 = .ok (.invokevirtual 81, 3) := by decide +kernel
theorem dX6_voice_5 : decode cX6_voice 5 = .ok (.ifCond .eq 12, 3) := by decide +kernel
theorem dX6_voice_8 : decode cX6_voice 8 = .ok (.iload_n 2, 1) := by decide +kernel
theorem dX6_voice_9 : decode cX6_voice 9 = .ok (.iconst 0, 1) := by decide +kernel
theorem dX6_voice_10 : decode cX6_voice 10 = .ok (.iconst 3, 1) := by decide +kernel
theorem dX6_voice_11 : decode cX6_voice 11 = .ok (.invokestatic 108, 3) := by decide +kernel
theorem dX6_voice_14 : decode cX6_voice 14 = .ok (.ifCond .ne 9, 3) := by decide +kernel
theorem dX6_voice_17 : decode cX6_voice 17 = .ok (.aload_n 0, 1) := by decide +kernel
theorem dX6_voice_18 : decode cX6_voice 18 = .ok (.iconst 1, 1) := by decide +kernel
theorem dX6_voice_19 : decode cX6_voice 19 = .ok (.invokevirtual 69, 3) := by decide +kernel
theorem dX6_voice_22 : decode cX6_voice 22 = .ok (.ireturn, 1) := by decide +kernel
theorem dX6_voice_23 : decode cX6_voice 23 = .ok (.aload_n 0, 1) := by decide +kernel
theorem dX6_voice_24 : decode cX6_voice 24 = .ok (.getfield 45, 3) := by decide +kernel
theorem dX6_voice_27 : decode cX6_voice 27 = .ok (.iload_n 1, 1) := by decide +kernel
theorem dX6_voice_28 : decode cX6_voice 28 = .ok (.aload_n 0, 1) := by decide +kernel
theorem dX6_voice_29 : decode cX6_voice 29 = .ok (.getfield 12, 3) := by decide +kernel
theorem dX6_voice_32 : decode cX6_voice 32 = .ok (.getfield 87, 3) := by decide +kernel
theorem dX6_voice_35 : decode cX6_voice 35 = .ok (.iload_n 1, 1) := by decide +kernel
theorem dX6_voice_36 : decode cX6_voice 36 = .ok (.iaload, 1) := by decide +kernel
theorem dX6_voice_37 : decode cX6_voice 37 = .ok (.aload_n 0, 1) := by decide +kernel
theorem dX6_voice_38 : decode cX6_voice 38 = .ok (.getfield 12, 3) := by decide +kernel
theorem dX6_voice_41 : decode cX6_voice 41 = .ok (.getfield 84, 3) := by decide +kernel
theorem dX6_voice_44 : decode cX6_voice 44 = .ok (.iload_n 1, 1) := by decide +kernel
theorem dX6_voice_45 : decode cX6_voice 45 = .ok (.iaload, 1) := by decide +kernel
theorem dX6_voice_46 : decode cX6_voice 46 = .ok (.iload_n 2, 1) := by decide +kernel
theorem dX6_voice_47 : decode cX6_voice 47 = .ok (.iload_n 3, 1) := by decide +kernel
theorem dX6_voice_48 : decode cX6_voice 48 = .ok (.invokevirtual 264, 3) := by decide +kernel
theorem dX6_voice_51 : decode cX6_voice 51 = .ok (.istore 4, 2) := by decide +kernel
theorem dX6_voice_53 : decode cX6_voice 53 = .ok (.aload_n 0, 1) := by decide +kernel
theorem dX6_voice_54 : decode cX6_voice 54 = .ok (.getfield 45, 3) := by decide +kernel
theorem dX6_voice_57 : decode cX6_voice 57 = .ok (.getfield 268, 3) := by decide +kernel
theorem dX6_voice_60 : decode cX6_voice 60 = .ok (.ifCond .eq 12, 3) := by decide +kernel
theorem dX6_voice_63 : decode cX6_voice 63 = .ok (.aload_n 0, 1) := by decide +kernel
theorem dX6_voice_64 : decode cX6_voice 64 = .ok (.bipush 6, 2) := by decide +kernel
theorem dX6_voice_66 : decode cX6_voice 66 = .ok (.invokevirtual 69, 3) := by decide +kernel
theorem dX6_voice_69 : decode cX6_voice 69 = .ok (.goto 5, 3) := by decide +kernel
theorem dX6_voice_72 : decode cX6_voice 72 = .ok (.iload 4, 2) := by decide +kernel
theorem dX6_voice_74 : decode cX6_voice 74 = .ok (.ireturn, 1) := by decide +kernel
theorem dX6_body_0 : decode cX6_body 0 = .ok (.iload_n 1, 1) := by decide +kernel
theorem dX6_body_1 : decode cX6_body 1 = .ok (.iconst 0, 1) := by decide +kernel
theorem dX6_body_2 : decode cX6_body 2 = .ok (.aload_n 0, 1) := by decide +kernel
theorem dX6_body_3 : decode cX6_body 3 = .ok (.getfield 45, 3) := by decide +kernel
theorem dX6_body_6 : decode cX6_body 6 = .ok (.getfield 272, 3) := by decide +kernel
theorem dX6_body_9 : decode cX6_body 9 = .ok (.iconst 1, 1) := by decide +kernel
theorem dX6_body_10 : decode cX6_body 10 = .ok (.isub, 1) := by decide +kernel
theorem dX6_body_11 : decode cX6_body 11 = .ok (.invokestatic 108, 3) := by decide +kernel
theorem dX6_body_14 : decode cX6_body 14 = .ok (.ifCond .eq 15, 3) := by decide +kernel
theorem dX6_body_17 : decode cX6_body 17 = .ok (.aload_n 0, 1) := by decide +kernel
theorem dX6_body_18 : decode cX6_body 18 = .ok (.getfield 45, 3) := by decide +kernel
theorem dX6_body_21 : decode cX6_body 21 = .ok (.getfield 275, 3) := by decide +kernel
theorem dX6_body_24 : decode cX6_body 24 = .ok (.iload_n 1, 1) := by decide +kernel
theorem dX6_body_25 : decode cX6_body 25 = .ok (.iaload, 1) := by decide +kernel
theorem dX6_body_26 : decode cX6_body 26 = .ok (.goto 8, 3) := by decide +kernel
theorem dX6_body_29 : decode cX6_body 29 = .ok (.aload_n 0, 1) := by decide +kernel
theorem dX6_body_30 : decode cX6_body 30 = .ok (.iconst 2, 1) := by decide +kernel
theorem dX6_body_31 : decode cX6_body 31 = .ok (.invokevirtual 69, 3) := by decide +kernel
theorem dX6_body_34 : decode cX6_body 34 = .ok (.ireturn, 1) := by decide +kernel
theorem dX6_sheet_0 : decode cX6_sheet 0 = .ok (.iload_n 2, 1) := by decide +kernel
theorem dX6_sheet_1 : decode cX6_sheet 1 = .ok (.ifCond .eq 21, 3) := by decide +kernel
theorem dX6_sheet_4 : decode cX6_sheet 4 = .ok (.iload_n 2, 1) := by decide +kernel
theorem dX6_sheet_5 : decode cX6_sheet 5 = .ok (.bipush 8, 2) := by decide +kernel
theorem dX6_sheet_7 : decode cX6_sheet 7 = .ok (.if_icmp .eq 15, 3) := by decide +kernel
theorem dX6_sheet_10 : decode cX6_sheet 10 = .ok (.iload_n 2, 1) := by decide +kernel
theorem dX6_sheet_11 : decode cX6_sheet 11 = .ok (.bipush 16, 2) := by decide +kernel
theorem dX6_sheet_13 : decode cX6_sheet 13 = .ok (.if_icmp .eq 9, 3) := by decide +kernel
theorem dX6_sheet_16 : decode cX6_sheet 16 = .ok (.iload_n 2, 1) := by decide +kernel
theorem dX6_sheet_17 : decode cX6_sheet 17 = .ok (.bipush 32, 2) := by decide +kernel
theorem dX6_sheet_19 : decode cX6_sheet 19 = .ok (.if_icmp .ne 7, 3) := by decide +kernel
theorem dX6_sheet_22 : decode cX6_sheet 22 = .ok (.iconst 1, 1) := by decide +kernel
theorem dX6_sheet_23 : decode cX6_sheet 23 = .ok (.goto 4, 3) := by decide +kernel
theorem dX6_sheet_26 : decode cX6_sheet 26 = .ok (.iconst 0, 1) := by decide +kernel
theorem dX6_sheet_27 : decode cX6_sheet 27 = .ok (.istore 4, 2) := by decide +kernel
theorem dX6_sheet_29 : decode cX6_sheet 29 = .ok (.iload_n 1, 1) := by decide +kernel
theorem dX6_sheet_30 : decode cX6_sheet 30 = .ok (.invokestatic 255, 3) := by decide +kernel
theorem dX6_sheet_33 : decode cX6_sheet 33 = .ok (.ifCond .eq 8, 3) := by decide +kernel
theorem dX6_sheet_36 : decode cX6_sheet 36 = .ok (.iload 4, 2) := by decide +kernel
theorem dX6_sheet_38 : decode cX6_sheet 38 = .ok (.ifCond .ne 9, 3) := by decide +kernel
theorem dX6_sheet_41 : decode cX6_sheet 41 = .ok (.aload_n 0, 1) := by decide +kernel
theorem dX6_sheet_42 : decode cX6_sheet 42 = .ok (.iconst 1, 1) := by decide +kernel
theorem dX6_sheet_43 : decode cX6_sheet 43 = .ok (.invokevirtual 69, 3) := by decide +kernel
theorem dX6_sheet_46 : decode cX6_sheet 46 = .ok (.ireturn, 1) := by decide +kernel
theorem dX6_sheet_47 : decode cX6_sheet 47 = .ok (.iload_n 2, 1) := by decide +kernel
theorem dX6_sheet_48 : decode cX6_sheet 48 = .ok (.ifCond .eq 13, 3) := by decide +kernel
theorem dX6_sheet_51 : decode cX6_sheet 51 = .ok (.iload_n 3, 1) := by decide +kernel
theorem dX6_sheet_52 : decode cX6_sheet 52 = .ok (.ifCond .ge 9, 3) := by decide +kernel
theorem dX6_sheet_55 : decode cX6_sheet 55 = .ok (.aload_n 0, 1) := by decide +kernel
theorem dX6_sheet_56 : decode cX6_sheet 56 = .ok (.iconst 3, 1) := by decide +kernel
theorem dX6_sheet_57 : decode cX6_sheet 57 = .ok (.invokevirtual 69, 3) := by decide +kernel
theorem dX6_sheet_60 : decode cX6_sheet 60 = .ok (.ireturn, 1) := by decide +kernel
theorem dX6_sheet_61 : decode cX6_sheet 61 = .ok (.iload_n 2, 1) := by decide +kernel
theorem dX6_sheet_62 : decode cX6_sheet 62 = .ok (.ifCond .eq 15, 3) := by decide +kernel
theorem dX6_sheet_65 : decode cX6_sheet 65 = .ok (.iload_n 3, 1) := by decide +kernel
theorem dX6_sheet_66 : decode cX6_sheet 66 = .ok (.bipush 24, 2) := by decide +kernel
theorem dX6_sheet_68 : decode cX6_sheet 68 = .ok (.if_icmp .le 9, 3) := by decide +kernel
theorem dX6_sheet_71 : decode cX6_sheet 71 = .ok (.aload_n 0, 1) := by decide +kernel
theorem dX6_sheet_72 : decode cX6_sheet 72 = .ok (.iconst 1, 1) := by decide +kernel
theorem dX6_sheet_73 : decode cX6_sheet 73 = .ok (.invokevirtual 69, 3) := by decide +kernel
theorem dX6_sheet_76 : decode cX6_sheet 76 = .ok (.ireturn, 1) := by decide +kernel
theorem dX6_sheet_77 : decode cX6_sheet 77 = .ok (.aload_n 0, 1) := by decide +kernel
theorem dX6_sheet_78 : decode cX6_sheet 78 = .ok (.getfield 52, 3) := by decide +kernel
theorem dX6_sheet_81 : decode cX6_sheet 81 = .ok (.iload_n 1, 1) := by decide +kernel
theorem dX6_sheet_82 : decode cX6_sheet 82 = .ok (.iload_n 2, 1) := by decide +kernel
theorem dX6_sheet_83 : decode cX6_sheet 83 = .ok (.iload_n 2, 1) := by decide +kernel
theorem dX6_sheet_84 : decode cX6_sheet 84 = .ok (.ifCond .ne 7, 3) := by decide +kernel
theorem dX6_sheet_87 : decode cX6_sheet 87 = .ok (.iconst 0, 1) := by decide +kernel
theorem dX6_sheet_88 : decode cX6_sheet 88 = .ok (.goto 4, 3) := by decide +kernel
theorem dX6_sheet_91 : decode cX6_sheet 91 = .ok (.iload_n 3, 1) := by decide +kernel
theorem dX6_sheet_92 : decode cX6_sheet 92 = .ok (.invokevirtual 278, 3) := by decide +kernel
theorem dX6_sheet_95 : decode cX6_sheet 95 = .ok (.iconst 1, 1) := by decide +kernel
theorem dX6_sheet_96 : decode cX6_sheet 96 = .ok (.ireturn, 1) := by decide +kernel
theorem dX6_put_0 : decode cX6_put 0 = .ok (.iload_n 1, 1) := by decide +kernel
theorem dX6_put_1 : decode cX6_put 1 = .ok (.invokestatic 255, 3) := by decide +kernel
theorem dX6_put_4 : decode cX6_put 4 = .ok (.ifCond .ne 9, 3) := by decide +kernel
theorem dX6_put_7 : decode cX6_put 7 = .ok (.aload_n 0, 1) := by decide +kernel
theorem dX6_put_8 : decode cX6_put 8 = .ok (.iconst 1, 1) := by decide +kernel
theorem dX6_put_9 : decode cX6_put 9 = .ok (.invokevirtual 69, 3) := by decide +kernel
theorem dX6_put_12 : decode cX6_put 12 = .ok (.ireturn, 1) := by decide +kernel
theorem dX6_put_13 : decode cX6_put 13 = .ok (.aload_n 0, 1) := by decide +kernel
theorem dX6_put_14 : decode cX6_put 14 = .ok (.getfield 52, 3) := by decide +kernel
theorem dX6_put_17 : decode cX6_put 17 = .ok (.iload_n 1, 1) := by decide +kernel
theorem dX6_put_18 : decode cX6_put 18 = .ok (.invokevirtual 258, 3) := by decide +kernel
theorem dX6_put_21 : decode cX6_put 21 = .ok (.ifCond .eq 9, 3) := by decide +kernel
theorem dX6_put_24 : decode cX6_put 24 = .ok (.aload_n 0, 1) := by decide +kernel
theorem dX6_put_25 : decode cX6_put 25 = .ok (.iconst 2, 1) := by decide +kernel
theorem dX6_put_26 : decode cX6_put 26 = .ok (.invokevirtual 69, 3) := by decide +kernel
theorem dX6_put_29 : decode cX6_put 29 = .ok (.ireturn, 1) := by decide +kernel
theorem dX6_put_30 : decode cX6_put 30 = .ok (.iload_n 2, 1) := by decide +kernel
theorem dX6_put_31 : decode cX6_put 31 = .ok (.iconst 0, 1) := by decide +kernel
theorem dX6_put_32 : decode cX6_put 32 = .ok (.aload_n 0, 1) := by decide +kernel
theorem dX6_put_33 : decode cX6_put 33 = .ok (.getfield 52, 3) := by decide +kernel
theorem dX6_put_36 : decode cX6_put 36 = .ok (.getfield 282, 3) := by decide +kernel
theorem dX6_put_39 : decode cX6_put 39 = .ok (.iload_n 1, 1) := by decide +kernel
theorem dX6_put_40 : decode cX6_put 40 = .ok (.iaload, 1) := by decide +kernel
theorem dX6_put_41 : decode cX6_put 41 = .ok (.iconst 1, 1) := by decide +kernel
theorem dX6_put_42 : decode cX6_put 42 = .ok (.isub, 1) := by decide +kernel
theorem dX6_put_43 : decode cX6_put 43 = .ok (.invokestatic 108, 3) := by decide +kernel
theorem dX6_put_46 : decode cX6_put 46 = .ok (.ifCond .ne 9, 3) := by decide +kernel
theorem dX6_put_49 : decode cX6_put 49 = .ok (.aload_n 0, 1) := by decide +kernel
theorem dX6_put_50 : decode cX6_put 50 = .ok (.iconst 1, 1) := by decide +kernel
theorem dX6_put_51 : decode cX6_put 51 = .ok (.invokevirtual 69, 3) := by decide +kernel
theorem dX6_put_54 : decode cX6_put 54 = .ok (.ireturn, 1) := by decide +kernel
theorem dX6_put_55 : decode cX6_put 55 = .ok (.aload_n 0, 1) := by decide +kernel
theorem dX6_put_56 : decode cX6_put 56 = .ok (.getfield 52, 3) := by decide +kernel
theorem dX6_put_59 : decode cX6_put 59 = .ok (.iload_n 1, 1) := by decide +kernel
theorem dX6_put_60 : decode cX6_put 60 = .ok (.iload_n 2, 1) := by decide +kernel
theorem dX6_put_61 : decode cX6_put 61 = .ok (.iload_n 3, 1) := by decide +kernel
theorem dX6_put_62 : decode cX6_put 62 = .ok (.invokevirtual 285, 3) := by decide +kernel
theorem dX6_put_65 : decode cX6_put 65 = .ok (.iconst 1, 1) := by decide +kernel
theorem dX6_put_66 : decode cX6_put 66 = .ok (.ireturn, 1) := by decide +kernel
theorem dX6_move_0 : decode cX6_move 0 = .ok (.iload_n 1, 1) := by decide +kernel
theorem dX6_move_1 : decode cX6_move 1 = .ok (.invokestatic 255, 3) := by decide +kernel
theorem dX6_move_4 : decode cX6_move 4 = .ok (.ifCond .eq 10, 3) := by decide +kernel
theorem dX6_move_7 : decode cX6_move 7 = .ok (.iload_n 3, 1) := by decide +kernel
theorem dX6_move_8 : decode cX6_move 8 = .ok (.invokestatic 255, 3) := by decide +kernel
theorem dX6_move_11 : decode cX6_move 11 = .ok (.ifCond .ne 9, 3) := by decide +kernel
theorem dX6_move_14 : decode cX6_move 14 = .ok (.aload_n 0, 1) := by decide +kernel
theorem dX6_move_15 : decode cX6_move 15 = .ok (.iconst 1, 1) := by decide +kernel
theorem dX6_move_16 : decode cX6_move 16 = .ok (.invokevirtual 69, 3) := by decide +kernel
theorem dX6_move_19 : decode cX6_move 19 = .ok (.ireturn, 1) := by decide +kernel
theorem dX6_move_20 : decode cX6_move 20 = .ok (.aload_n 0, 1) := by decide +kernel
theorem dX6_move_21 : decode cX6_move 21 = .ok (.getfield 52, 3) := by decide +kernel
theorem dX6_move_24 : decode cX6_move 24 = .ok (.iload_n 1, 1) := by decide +kernel
theorem dX6_move_25 : decode cX6_move 25 = .ok (.invokevirtual 258, 3) := by decide +kernel
theorem dX6_move_28 : decode cX6_move 28 = .ok (.ifCond .ne 14, 3) := by decide +kernel
theorem dX6_move_31 : decode cX6_move 31 = .ok (.aload_n 0, 1) := by decide +kernel
theorem dX6_move_32 : decode cX6_move 32 = .ok (.getfield 52, 3) := by decide +kernel
theorem dX6_move_35 : decode cX6_move 35 = .ok (.iload_n 3, 1) := by decide +kernel
theorem dX6_move_36 : decode cX6_move 36 = .ok (.invokevirtual 258, 3) := by decide +kernel
theorem dX6_move_39 : decode cX6_move 39 = .ok (.ifCond .eq 9, 3) := by decide +kernel
theorem dX6_move_42 : decode cX6_move 42 = .ok (.aload_n 0, 1) := by decide +kernel
theorem dX6_move_43 : decode cX6_move 43 = .ok (.iconst 2, 1) := by decide +kernel
theorem dX6_move_44 : decode cX6_move 44 = .ok (.invokevirtual 69, 3) := by decide +kernel
theorem dX6_move_47 : decode cX6_move 47 = .ok (.ireturn, 1) := by decide +kernel
theorem dX6_move_48 : decode cX6_move 48 = .ok (.aload_n 0, 1) := by decide +kernel
theorem dX6_move_49 : decode cX6_move 49 = .ok (.getfield 52, 3) := by decide +kernel
theorem dX6_move_52 : decode cX6_move 52 = .ok (.getfield 288, 3) := by decide +kernel
theorem dX6_move_55 : decode cX6_move 55 = .ok (.iload_n 1, 1) := by decide +kernel
theorem dX6_move_56 : decode cX6_move 56 = .ok (.iaload, 1) := by decide +kernel
theorem dX6_move_57 : decode cX6_move 57 = .ok (.aload_n 0, 1) := by decide +kernel
theorem dX6_move_58 : decode cX6_move 58 = .ok (.getfield 52, 3) := by decide +kernel
theorem dX6_move_61 : decode cX6_move 61 = .ok (.getfield 288, 3) := by decide +kernel
theorem dX6_move_64 : decode cX6_move 64 = .ok (.iload_n 3, 1) := by decide +kernel
theorem dX6_move_65 : decode cX6_move 65 = .ok (.iaload, 1) := by decide +kernel
theorem dX6_move_66 : decode cX6_move 66 = .ok (.if_icmp .eq 9, 3) := by decide +kernel
theorem dX6_move_69 : decode cX6_move 69 = .ok (.aload_n 0, 1) := by decide +kernel
theorem dX6_move_70 : decode cX6_move 70 = .ok (.iconst 5, 1) := by decide +kernel
theorem dX6_move_71 : decode cX6_move 71 = .ok (.invokevirtual 69, 3) := by decide +kernel
theorem dX6_move_74 : decode cX6_move 74 = .ok (.ireturn, 1) := by decide +kernel
theorem dX6_move_75 : decode cX6_move 75 = .ok (.aload_n 0, 1) := by decide +kernel
theorem dX6_move_76 : decode cX6_move 76 = .ok (.getfield 52, 3) := by decide +kernel
theorem dX6_move_79 : decode cX6_move 79 = .ok (.iload_n 1, 1) := by decide +kernel
theorem dX6_move_80 : decode cX6_move 80 = .ok (.iload_n 2, 1) := by decide +kernel
theorem dX6_move_81 : decode cX6_move 81 = .ok (.iload 5, 2) := by decide +kernel
theorem dX6_move_83 : decode cX6_move 83 = .ok (.invokevirtual 291, 3) := by decide +kernel
theorem dX6_move_86 : decode cX6_move 86 = .ok (.ifCond .eq 18, 3) := by decide +kernel
theorem dX6_move_89 : decode cX6_move 89 = .ok (.aload_n 0, 1) := by decide +kernel
theorem dX6_move_90 : decode cX6_move 90 = .ok (.getfield 52, 3) := by decide +kernel
theorem dX6_move_93 : decode cX6_move 93 = .ok (.iload_n 3, 1) := by decide +kernel
theorem dX6_move_94 : decode cX6_move 94 = .ok (.iload 4, 2) := by decide +kernel
theorem dX6_move_96 : decode cX6_move 96 = .ok (.iload 5, 2) := by decide +kernel
theorem dX6_move_98 : decode cX6_move 98 = .ok (.invokevirtual 291, 3) := by decide +kernel
theorem dX6_move_101 : decode cX6_move 101 = .ok (.ifCond .ne 9, 3) := by decide +kernel
theorem dX6_move_104 : decode cX6_move 104 = .ok (.aload_n 0, 1) := by decide +kernel
theorem dX6_move_105 : decode cX6_move 105 = .ok (.iconst 1, 1) := by decide +kernel
theorem dX6_move_106 : decode cX6_move 106 = .ok (.invokevirtual 69, 3) := by decide +kernel
theorem dX6_move_109 : decode cX6_move 109 = .ok (.ireturn, 1) := by decide +kernel
theorem dX6_move_110 : decode cX6_move 110 = .ok (.aload_n 0, 1) := by decide +kernel
theorem dX6_move_111 : decode cX6_move 111 = .ok (.getfield 52, 3) := by decide +kernel
theorem dX6_move_114 : decode cX6_move 114 = .ok (.getfield 294, 3) := by decide +kernel
theorem dX6_move_117 : decode cX6_move 117 = .ok (.iload_n 1, 1) := by decide +kernel
theorem dX6_move_118 : decode cX6_move 118 = .ok (.aaload, 1) := by decide +kernel
theorem dX6_move_119 : decode cX6_move 119 = .ok (.iload_n 2, 1) := by decide +kernel
theorem dX6_move_120 : decode cX6_move 120 = .ok (.aload_n 0, 1) := by decide +kernel
theorem dX6_move_121 : decode cX6_move 121 = .ok (.getfield 52, 3) := by decide +kernel
theorem dX6_move_124 : decode cX6_move 124 = .ok (.getfield 294, 3) := by decide +kernel
theorem dX6_move_127 : decode cX6_move 127 = .ok (.iload_n 3, 1) := by decide +kernel
theorem dX6_move_128 : decode cX6_move 128 = .ok (.aaload, 1) := by decide +kernel
theorem dX6_move_129 : decode cX6_move 129 = .ok (.iload 4, 2) := by decide +kernel
theorem dX6_move_131 : decode cX6_move 131 = .ok (.iload 5, 2) := by decide +kernel
theorem dX6_move_133 : decode cX6_move 133 = .ok (.invokestatic 298, 3) := by decide +kernel
theorem dX6_move_136 : decode cX6_move 136 = .ok (.iload 5, 2) := by decide +kernel
theorem dX6_move_138 : decode cX6_move 138 = .ok (.ireturn, 1) := by decide +kernel
theorem dX6_tells_0 : decode cX6_tells 0 = .ok (.iload_n 1, 1) := by decide +kernel
theorem dX6_tells_1 : decode cX6_tells 1 = .ok (.invokestatic 255, 3) := by decide +kernel
theorem dX6_tells_4 : decode cX6_tells 4 = .ok (.ifCond .ne 9, 3) := by decide +kernel
theorem dX6_tells_7 : decode cX6_tells 7 = .ok (.aload_n 0, 1) := by decide +kernel
theorem dX6_tells_8 : decode cX6_tells 8 = .ok (.iconst 1, 1) := by decide +kernel
theorem dX6_tells_9 : decode cX6_tells 9 = .ok (.invokevirtual 69, 3) := by decide +kernel
theorem dX6_tells_12 : decode cX6_tells 12 = .ok (.ireturn, 1) := by decide +kernel
theorem dX6_tells_13 : decode cX6_tells 13 = .ok (.aload_n 0, 1) := by decide +kernel
theorem dX6_tells_14 : decode cX6_tells 14 = .ok (.getfield 52, 3) := by decide +kernel
theorem dX6_tells_17 : decode cX6_tells 17 = .ok (.iload_n 1, 1) := by decide +kernel
theorem dX6_tells_18 : decode cX6_tells 18 = .ok (.invokevirtual 258, 3) := by decide +kernel
theorem dX6_tells_21 : decode cX6_tells 21 = .ok (.ifCond .eq 9, 3) := by decide +kernel
theorem dX6_tells_24 : decode cX6_tells 24 = .ok (.aload_n 0, 1) := by decide +kernel
theorem dX6_tells_25 : decode cX6_tells 25 = .ok (.iconst 2, 1) := by decide +kernel
theorem dX6_tells_26 : decode cX6_tells 26 = .ok (.invokevirtual 69, 3) := by decide +kernel
theorem dX6_tells_29 : decode cX6_tells 29 = .ok (.ireturn, 1) := by decide +kernel
theorem dX6_tells_30 : decode cX6_tells 30 = .ok (.aload_n 0, 1) := by decide +kernel
theorem dX6_tells_31 : decode cX6_tells 31 = .ok (.getfield 52, 3) := by decide +kernel
theorem dX6_tells_34 : decode cX6_tells 34 = .ok (.getfield 282, 3) := by decide +kernel
theorem dX6_tells_37 : decode cX6_tells 37 = .ok (.iload_n 1, 1) := by decide +kernel
theorem dX6_tells_38 : decode cX6_tells 38 = .ok (.iaload, 1) := by decide +kernel
theorem dX6_tells_39 : decode cX6_tells 39 = .ok (.aload_n 0, 1) := by decide +kernel
theorem dX6_tells_40 : decode cX6_tells 40 = .ok (.getfield 12, 3) := by decide +kernel
theorem dX6_tells_43 : decode cX6_tells 43 = .ok (.getfield 73, 3) := by decide +kernel
theorem dX6_tells_46 : decode cX6_tells 46 = .ok (.invokestatic 304, 3) := by decide +kernel
theorem dX6_tells_49 : decode cX6_tells 49 = .ok (.istore_n 2, 1) := by decide +kernel
theorem dX6_tells_50 : decode cX6_tells 50 = .ok (.iconst 0, 1) := by decide +kernel
theorem dX6_tells_51 : decode cX6_tells 51 = .ok (.istore_n 3, 1) := by decide +kernel
theorem dX6_tells_52 : decode cX6_tells 52 = .ok (.iload_n 3, 1) := by decide +kernel
theorem dX6_tells_53 : decode cX6_tells 53 = .ok (.iload_n 2, 1) := by decide +kernel
theorem dX6_tells_54 : decode cX6_tells 54 = .ok (.if_icmp .ge 43, 3) := by decide +kernel
theorem dX6_tells_57 : decode cX6_tells 57 = .ok (.aload_n 0, 1) := by decide +kernel
theorem dX6_tells_58 : decode cX6_tells 58 = .ok (.getfield 52, 3) := by decide +kernel
theorem dX6_tells_61 : decode cX6_tells 61 = .ok (.getfield 294, 3) := by decide +kernel
theorem dX6_tells_64 : decode cX6_tells 64 = .ok (.iload_n 1, 1) := by decide +kernel
theorem dX6_tells_65 : decode cX6_tells 65 = .ok (.aaload, 1) := by decide +kernel
theorem dX6_tells_66 : decode cX6_tells 66 = .ok (.iload_n 3, 1) := by decide +kernel
theorem dX6_tells_67 : decode cX6_tells 67 = .ok (.iaload, 1) := by decide +kernel
theorem dX6_tells_68 : decode cX6_tells 68 = .ok (.istore 4, 2) := by decide +kernel
theorem dX6_tells_70 : decode cX6_tells 70 = .ok (.iload 4, 2) := by decide +kernel
theorem dX6_tells_72 : decode cX6_tells 72 = .ok (.invokestatic 66, 3) := by decide +kernel
theorem dX6_tells_75 : decode cX6_tells 75 = .ok (.ifCond .ne 5, 3) := by decide +kernel
theorem dX6_tells_78 : decode cX6_tells 78 = .ok (.iload_n 3, 1) := by decide +kernel
theorem dX6_tells_79 : decode cX6_tells 79 = .ok (.ireturn, 1) := by decide +kernel
theorem dX6_tells_80 : decode cX6_tells 80 = .ok (.aload_n 0, 1) := by decide +kernel
theorem dX6_tells_81 : decode cX6_tells 81 = .ok (.getfield 12, 3) := by decide +kernel
theorem dX6_tells_84 : decode cX6_tells 84 = .ok (.getfield 96, 3) := by decide +kernel
theorem dX6_tells_87 : decode cX6_tells 87 = .ok (.iload_n 3, 1) := by decide +kernel
theorem dX6_tells_88 : decode cX6_tells 88 = .ok (.iload 4, 2) := by decide +kernel
theorem dX6_tells_90 : decode cX6_tells 90 = .ok (.iastore, 1) := by decide +kernel
theorem dX6_tells_91 : decode cX6_tells 91 = .ok (.iinc 3 1, 3) := by decide +kernel
theorem dX6_tells_94 : decode cX6_tells 94 = .ok (.goto (-42), 3) := by decide +kernel
theorem dX6_tells_97 : decode cX6_tells 97 = .ok (.iload_n 2, 1) := by decide +kernel
theorem dX6_tells_98 : decode cX6_tells 98 = .ok (.ireturn, 1) := by decide +kernel
theorem dX6_judge_0 : decode cX6_judge 0 = .ok (.iload_n 1, 1) := by decide +kernel
theorem dX6_judge_1 : decode cX6_judge 1 = .ok (.invokestatic 255, 3) := by decide +kernel
theorem dX6_judge_4 : decode cX6_judge 4 = .ok (.ifCond .ne 9, 3) := by decide +kernel
theorem dX6_judge_7 : decode cX6_judge 7 = .ok (.aload_n 0, 1) := by decide +kernel
theorem dX6_judge_8 : decode cX6_judge 8 = .ok (.iconst 1, 1) := by decide +kernel
theorem dX6_judge_9 : decode cX6_judge 9 = .ok (.invokevirtual 69, 3) := by decide +kernel
theorem dX6_judge_12 : decode cX6_judge 12 = .ok (.ireturn, 1) := by decide +kernel
theorem dX6_judge_13 : decode cX6_judge 13 = .ok (.aload_n 0, 1) := by decide +kernel
theorem dX6_judge_14 : decode cX6_judge 14 = .ok (.getfield 52, 3) := by decide +kernel
theorem dX6_judge_17 : decode cX6_judge 17 = .ok (.iload_n 1, 1) := by decide +kernel
theorem dX6_judge_18 : decode cX6_judge 18 = .ok (.invokevirtual 258, 3) := by decide +kernel
theorem dX6_judge_21 : decode cX6_judge 21 = .ok (.ifCond .eq 9, 3) := by decide +kernel
theorem dX6_judge_24 : decode cX6_judge 24 = .ok (.aload_n 0, 1) := by decide +kernel
theorem dX6_judge_25 : decode cX6_judge 25 = .ok (.iconst 2, 1) := by decide +kernel
theorem dX6_judge_26 : decode cX6_judge 26 = .ok (.invokevirtual 69, 3) := by decide +kernel
theorem dX6_judge_29 : decode cX6_judge 29 = .ok (.ireturn, 1) := by decide +kernel
theorem dX6_judge_30 : decode cX6_judge 30 = .ok (.aload_n 0, 1) := by decide +kernel
theorem dX6_judge_31 : decode cX6_judge 31 = .ok (.getfield 52, 3) := by decide +kernel
theorem dX6_judge_34 : decode cX6_judge 34 = .ok (.getfield 282, 3) := by decide +kernel
theorem dX6_judge_37 : decode cX6_judge 37 = .ok (.iload_n 1, 1) := by decide +kernel
theorem dX6_judge_38 : decode cX6_judge 38 = .ok (.iaload, 1) := by decide +kernel
theorem dX6_judge_39 : decode cX6_judge 39 = .ok (.aload_n 0, 1) := by decide +kernel
theorem dX6_judge_40 : decode cX6_judge 40 = .ok (.getfield 12, 3) := by decide +kernel
theorem dX6_judge_43 : decode cX6_judge 43 = .ok (.getfield 73, 3) := by decide +kernel
theorem dX6_judge_46 : decode cX6_judge 46 = .ok (.invokestatic 304, 3) := by decide +kernel
theorem dX6_judge_49 : decode cX6_judge 49 = .ok (.istore_n 2, 1) := by decide +kernel
theorem dX6_judge_50 : decode cX6_judge 50 = .ok (.iconst 0, 1) := by decide +kernel
theorem dX6_judge_51 : decode cX6_judge 51 = .ok (.istore_n 3, 1) := by decide +kernel
theorem dX6_judge_52 : decode cX6_judge 52 = .ok (.iload_n 3, 1) := by decide +kernel
theorem dX6_judge_53 : decode cX6_judge 53 = .ok (.iload_n 2, 1) := by decide +kernel
theorem dX6_judge_54 : decode cX6_judge 54 = .ok (.if_icmp .ge 34, 3) := by decide +kernel
theorem dX6_judge_57 : decode cX6_judge 57 = .ok (.aload_n 0, 1) := by decide +kernel
theorem dX6_judge_58 : decode cX6_judge 58 = .ok (.getfield 52, 3) := by decide +kernel
theorem dX6_judge_61 : decode cX6_judge 61 = .ok (.getfield 294, 3) := by decide +kernel
theorem dX6_judge_64 : decode cX6_judge 64 = .ok (.iload_n 1, 1) := by decide +kernel
theorem dX6_judge_65 : decode cX6_judge 65 = .ok (.aaload, 1) := by decide +kernel
theorem dX6_judge_66 : decode cX6_judge 66 = .ok (.iload_n 3, 1) := by decide +kernel
theorem dX6_judge_67 : decode cX6_judge 67 = .ok (.iaload, 1) := by decide +kernel
theorem dX6_judge_68 : decode cX6_judge 68 = .ok (.aload_n 0, 1) := by decide +kernel
theorem dX6_judge_69 : decode cX6_judge 69 = .ok (.getfield 12, 3) := by decide +kernel
theorem dX6_judge_72 : decode cX6_judge 72 = .ok (.getfield 96, 3) := by decide +kernel
theorem dX6_judge_75 : decode cX6_judge 75 = .ok (.iload_n 3, 1) := by decide +kernel
theorem dX6_judge_76 : decode cX6_judge 76 = .ok (.iaload, 1) := by decide +kernel
theorem dX6_judge_77 : decode cX6_judge 77 = .ok (.if_icmp .eq 5, 3) := by decide +kernel
theorem dX6_judge_80 : decode cX6_judge 80 = .ok (.iload_n 3, 1) := by decide +kernel
theorem dX6_judge_81 : decode cX6_judge 81 = .ok (.ireturn, 1) := by decide +kernel
theorem dX6_judge_82 : decode cX6_judge 82 = .ok (.iinc 3 1, 3) := by decide +kernel
theorem dX6_judge_85 : decode cX6_judge 85 = .ok (.goto (-33), 3) := by decide +kernel
theorem dX6_judge_88 : decode cX6_judge 88 = .ok (.iload_n 2, 1) := by decide +kernel
theorem dX6_judge_89 : decode cX6_judge 89 = .ok (.ireturn, 1) := by decide +kernel
theorem dX6_image_0 : decode cX6_image 0 = .ok (.aload_n 0, 1) := by decide +kernel
theorem dX6_image_1 : decode cX6_image 1 = .ok (.getfield 16, 3) := by decide +kernel
theorem dX6_image_4 : decode cX6_image 4 = .ok (.aload_n 0, 1) := by decide +kernel
theorem dX6_image_5 : decode cX6_image 5 = .ok (.getfield 12, 3) := by decide +kernel
theorem dX6_image_8 : decode cX6_image 8 = .ok (.invokevirtual 229, 3) := by decide +kernel
theorem dX6_image_11 : decode cX6_image 11 = .ok (.aload_n 0, 1) := by decide +kernel
theorem dX6_image_12 : decode cX6_image 12 = .ok (.dup, 1) := by decide +kernel
theorem dX6_image_13 : decode cX6_image 13 = .ok (.getfield 307, 3) := by decide +kernel
theorem dX6_image_16 : decode cX6_image 16 = .ok (.iconst 1, 1) := by decide +kernel
theorem dX6_image_17 : decode cX6_image 17 = .ok (.iadd, 1) := by decide +kernel
theorem dX6_image_18 : decode cX6_image 18 = .ok (.putfield 307, 3) := by decide +kernel
theorem dX6_image_21 : decode cX6_image 21 = .ok (.aload_n 0, 1) := by decide +kernel
theorem dX6_image_22 : decode cX6_image 22 = .ok (.getfield 307, 3) := by decide +kernel
theorem dX6_image_25 : decode cX6_image 25 = .ok (.ireturn, 1) := by decide +kernel
theorem dX6_restore_0 : decode cX6_restore 0 = .ok (.aload_n 0, 1) := by decide +kernel
theorem dX6_restore_1 : decode cX6_restore 1 = .ok (.getfield 307, 3) := by decide +kernel
theorem dX6_restore_4 : decode cX6_restore 4 = .ok (.ifCond .ne 9, 3) := by decide +kernel
theorem dX6_restore_7 : decode cX6_restore 7 = .ok (.aload_n 0, 1) := by decide +kernel
theorem dX6_restore_8 : decode cX6_restore 8 = .ok (.iconst 2, 1) := by decide +kernel
theorem dX6_restore_9 : decode cX6_restore 9 = .ok (.invokevirtual 69, 3) := by decide +kernel
theorem dX6_restore_12 : decode cX6_restore 12 = .ok (.ireturn, 1) := by decide +kernel
theorem dX6_restore_13 : decode cX6_restore 13 = .ok (.aload_n 0, 1) := by decide +kernel
theorem dX6_restore_14 : decode cX6_restore 14 = .ok (.getfield 12, 3) := by decide +kernel
theorem dX6_restore_17 : decode cX6_restore 17 = .ok (.aload_n 0, 1) := by decide +kernel
theorem dX6_restore_18 : decode cX6_restore 18 = .ok (.getfield 16, 3) := by decide +kernel
theorem dX6_restore_21 : decode cX6_restore 21 = .ok (.invokevirtual 229, 3) := by decide +kernel
theorem dX6_restore_24 : decode cX6_restore 24 = .ok (.aload_n 0, 1) := by decide +kernel
theorem dX6_restore_25 : decode cX6_restore 25 = .ok (.getfield 12, 3) := by decide +kernel
theorem dX6_restore_28 : decode cX6_restore 28 = .ok (.getfield 171, 3) := by decide +kernel
theorem dX6_restore_31 : decode cX6_restore 31 = .ok (.ireturn, 1) := by decide +kernel
theorem dX6_tell_0 : decode cX6_tell 0 = .ok (.aload_n 0, 1) := by decide +kernel
theorem dX6_tell_1 : decode cX6_tell 1 = .ok (.getfield 12, 3) := by decide +kernel
theorem dX6_tell_4 : decode cX6_tell 4 = .ok (.getfield 310, 3) := by decide +kernel
theorem dX6_tell_7 : decode cX6_tell 7 = .ok (.bipush 24, 2) := by decide +kernel
theorem dX6_tell_9 : decode cX6_tell 9 = .ok (.if_icmp .lt 9, 3) := by decide +kernel
theorem dX6_tell_12 : decode cX6_tell 12 = .ok (.aload_n 0, 1) := by decide +kernel
theorem dX6_tell_13 : decode cX6_tell 13 = .ok (.iconst 4, 1) := by decide +kernel
theorem dX6_tell_14 : decode cX6_tell 14 = .ok (.invokevirtual 69, 3) := by decide +kernel
theorem dX6_tell_17 : decode cX6_tell 17 = .ok (.ireturn, 1) := by decide +kernel
theorem dX6_tell_18 : decode cX6_tell 18 = .ok (.aload_n 0, 1) := by decide +kernel
theorem dX6_tell_19 : decode cX6_tell 19 = .ok (.getfield 12, 3) := by decide +kernel
theorem dX6_tell_22 : decode cX6_tell 22 = .ok (.getfield 313, 3) := by decide +kernel
theorem dX6_tell_25 : decode cX6_tell 25 = .ok (.aload_n 0, 1) := by decide +kernel
theorem dX6_tell_26 : decode cX6_tell 26 = .ok (.getfield 12, 3) := by decide +kernel
theorem dX6_tell_29 : decode cX6_tell 29 = .ok (.getfield 310, 3) := by decide +kernel
theorem dX6_tell_32 : decode cX6_tell 32 = .ok (.iload_n 1, 1) := by decide +kernel
theorem dX6_tell_33 : decode cX6_tell 33 = .ok (.iastore, 1) := by decide +kernel
theorem dX6_tell_34 : decode cX6_tell 34 = .ok (.aload_n 0, 1) := by decide +kernel
theorem dX6_tell_35 : decode cX6_tell 35 = .ok (.getfield 12, 3) := by decide +kernel
theorem dX6_tell_38 : decode cX6_tell 38 = .ok (.dup, 1) := by decide +kernel
theorem dX6_tell_39 : decode cX6_tell 39 = .ok (.getfield 310, 3) := by decide +kernel
theorem dX6_tell_42 : decode cX6_tell 42 = .ok (.iconst 1, 1) := by decide +kernel
theorem dX6_tell_43 : decode cX6_tell 43 = .ok (.iadd, 1) := by decide +kernel
theorem dX6_tell_44 : decode cX6_tell 44 = .ok (.putfield 310, 3) := by decide +kernel
theorem dX6_tell_47 : decode cX6_tell 47 = .ok (.aload_n 0, 1) := by decide +kernel
theorem dX6_tell_48 : decode cX6_tell 48 = .ok (.getfield 12, 3) := by decide +kernel
theorem dX6_tell_51 : decode cX6_tell 51 = .ok (.getfield 310, 3) := by decide +kernel
theorem dX6_tell_54 : decode cX6_tell 54 = .ok (.ireturn, 1) := by decide +kernel
theorem dX6_check_0 : decode cX6_check 0 = .ok (.aload_n 0, 1) := by decide +kernel
theorem dX6_check_1 : decode cX6_check 1 = .ok (.getfield 12, 3) := by decide +kernel
theorem dX6_check_4 : decode cX6_check 4 = .ok (.getfield 310, 3) := by decide +kernel
theorem dX6_check_7 : decode cX6_check 7 = .ok (.istore_n 1, 1) := by decide +kernel
theorem dX6_check_8 : decode cX6_check 8 = .ok (.aload_n 0, 1) := by decide +kernel
theorem dX6_check_9 : decode cX6_check 9 = .ok (.getfield 12, 3) := by decide +kernel
theorem dX6_check_12 : decode cX6_check 12 = .ok (.iconst 0, 1) := by decide +kernel
theorem dX6_check_13 : decode cX6_check 13 = .ok (.putfield 310, 3) := by decide +kernel
theorem dX6_check_16 : decode cX6_check 16 = .ok (.iconst 0, 1) := by decide +kernel
theorem dX6_check_17 : decode cX6_check 17 = .ok (.istore_n 2, 1) := by decide +kernel
theorem dX6_check_18 : decode cX6_check 18 = .ok (.iload_n 2, 1) := by decide +kernel
theorem dX6_check_19 : decode cX6_check 19 = .ok (.iload_n 1, 1) := by decide +kernel
theorem dX6_check_20 : decode cX6_check 20 = .ok (.if_icmp .ge 44, 3) := by decide +kernel
theorem dX6_check_23 : decode cX6_check 23 = .ok (.iload_n 2, 1) := by decide +kernel
theorem dX6_check_24 : decode cX6_check 24 = .ok (.aload_n 0, 1) := by decide +kernel
theorem dX6_check_25 : decode cX6_check 25 = .ok (.getfield 12, 3) := by decide +kernel
theorem dX6_check_28 : decode cX6_check 28 = .ok (.getfield 73, 3) := by decide +kernel
theorem dX6_check_31 : decode cX6_check 31 = .ok (.if_icmp .ge 23, 3) := by decide +kernel
theorem dX6_check_34 : decode cX6_check 34 = .ok (.aload_n 0, 1) := by decide +kernel
theorem dX6_check_35 : decode cX6_check 35 = .ok (.getfield 12, 3) := by decide +kernel
theorem dX6_check_38 : decode cX6_check 38 = .ok (.getfield 313, 3) := by decide +kernel
theorem dX6_check_41 : decode cX6_check 41 = .ok (.iload_n 2, 1) := by decide +kernel
theorem dX6_check_42 : decode cX6_check 42 = .ok (.iaload, 1) := by decide +kernel
theorem dX6_check_43 : decode cX6_check 43 = .ok (.aload_n 0, 1) := by decide +kernel
theorem dX6_check_44 : decode cX6_check 44 = .ok (.getfield 12, 3) := by decide +kernel
theorem dX6_check_47 : decode cX6_check 47 = .ok (.iload_n 2, 1) := by decide +kernel
theorem dX6_check_48 : decode cX6_check 48 = .ok (.invokevirtual 105, 3) := by decide +kernel
theorem dX6_check_51 : decode cX6_check 51 = .ok (.if_icmp .eq 7, 3) := by decide +kernel
theorem dX6_check_54 : decode cX6_check 54 = .ok (.iconst 1, 1) := by decide +kernel
theorem dX6_check_55 : decode cX6_check 55 = .ok (.iload_n 2, 1) := by decide +kernel
theorem dX6_check_56 : decode cX6_check 56 = .ok (.iadd, 1) := by decide +kernel
theorem dX6_check_57 : decode cX6_check 57 = .ok (.ireturn, 1) := by decide +kernel
theorem dX6_check_58 : decode cX6_check 58 = .ok (.iinc 2 1, 3) := by decide +kernel
theorem dX6_check_61 : decode cX6_check 61 = .ok (.goto (-43), 3) := by decide +kernel
theorem dX6_check_64 : decode cX6_check 64 = .ok (.iconst 0, 1) := by decide +kernel
theorem dX6_check_65 : decode cX6_check 65 = .ok (.ireturn, 1) := by decide +kernel
theorem dX6_count_0 : decode cX6_count 0 = .ok (.iload_n 1, 1) := by decide +kernel
theorem dX6_count_1 : decode cX6_count 1 = .ok (.tableswitch 154 0 10 #[59, 67, 75, 83, 91, 99, 107, 122, 130, 138, 146], 59) := by decide +kernel
theorem dX6_count_60 : decode cX6_count 60 = .ok (.aload_n 0, 1) := by decide +kernel
theorem dX6_count_61 : decode cX6_count 61 = .ok (.getfield 12, 3) := by decide +kernel
theorem dX6_count_64 : decode cX6_count 64 = .ok (.getfield 73, 3) := by decide +kernel
theorem dX6_count_67 : decode cX6_count 67 = .ok (.ireturn, 1) := by decide +kernel
theorem dX6_count_68 : decode cX6_count 68 = .ok (.aload_n 0, 1) := by decide +kernel
theorem dX6_count_69 : decode cX6_count 69 = .ok (.getfield 12, 3) := by decide +kernel
theorem dX6_count_72 : decode cX6_count 72 = .ok (.getfield 124, 3) := by decide +kernel
theorem dX6_count_75 : decode cX6_count 75 = .ok (.ireturn, 1) := by decide +kernel
theorem dX6_count_76 : decode cX6_count 76 = .ok (.aload_n 0, 1) := by decide +kernel
theorem dX6_count_77 : decode cX6_count 77 = .ok (.getfield 12, 3) := by decide +kernel
theorem dX6_count_80 : decode cX6_count 80 = .ok (.getfield 171, 3) := by decide +kernel
theorem dX6_count_83 : decode cX6_count 83 = .ok (.ireturn, 1) := by decide +kernel
theorem dX6_count_84 : decode cX6_count 84 = .ok (.aload_n 0, 1) := by decide +kernel
theorem dX6_count_85 : decode cX6_count 85 = .ok (.getfield 12, 3) := by decide +kernel
theorem dX6_count_88 : decode cX6_count 88 = .ok (.getfield 127, 3) := by decide +kernel
theorem dX6_count_91 : decode cX6_count 91 = .ok (.ireturn, 1) := by decide +kernel
theorem dX6_count_92 : decode cX6_count 92 = .ok (.aload_n 0, 1) := by decide +kernel
theorem dX6_count_93 : decode cX6_count 93 = .ok (.getfield 12, 3) := by decide +kernel
theorem dX6_count_96 : decode cX6_count 96 = .ok (.getfield 231, 3) := by decide +kernel
theorem dX6_count_99 : decode cX6_count 99 = .ok (.ireturn, 1) := by decide +kernel
theorem dX6_count_100 : decode cX6_count 100 = .ok (.aload_n 0, 1) := by decide +kernel
theorem dX6_count_101 : decode cX6_count 101 = .ok (.getfield 12, 3) := by decide +kernel
theorem dX6_count_104 : decode cX6_count 104 = .ok (.getfield 178, 3) := by decide +kernel
theorem dX6_count_107 : decode cX6_count 107 = .ok (.ireturn, 1) := by decide +kernel
theorem dX6_count_108 : decode cX6_count 108 = .ok (.aload_n 0, 1) := by decide +kernel
theorem dX6_count_109 : decode cX6_count 109 = .ok (.getfield 12, 3) := by decide +kernel
theorem dX6_count_112 : decode cX6_count 112 = .ok (.aload_n 0, 1) := by decide +kernel
theorem dX6_count_113 : decode cX6_count 113 = .ok (.getfield 12, 3) := by decide +kernel
theorem dX6_count_116 : decode cX6_count 116 = .ok (.getfield 178, 3) := by decide +kernel
theorem dX6_count_119 : decode cX6_count 119 = .ok (.invokevirtual 316, 3) := by decide +kernel
theorem dX6_count_122 : decode cX6_count 122 = .ok (.ireturn, 1) := by decide +kernel
theorem dX6_count_123 : decode cX6_count 123 = .ok (.aload_n 0, 1) := by decide +kernel
theorem dX6_count_124 : decode cX6_count 124 = .ok (.getfield 12, 3) := by decide +kernel
theorem dX6_count_127 : decode cX6_count 127 = .ok (.getfield 130, 3) := by decide +kernel
theorem dX6_count_130 : decode cX6_count 130 = .ok (.ireturn, 1) := by decide +kernel
theorem dX6_count_131 : decode cX6_count 131 = .ok (.aload_n 0, 1) := by decide +kernel
theorem dX6_count_132 : decode cX6_count 132 = .ok (.getfield 12, 3) := by decide +kernel
theorem dX6_count_135 : decode cX6_count 135 = .ok (.getfield 310, 3) := by decide +kernel
theorem dX6_count_138 : decode cX6_count 138 = .ok (.ireturn, 1) := by decide +kernel
theorem dX6_count_139 : decode cX6_count 139 = .ok (.aload_n 0, 1) := by decide +kernel
theorem dX6_count_140 : decode cX6_count 140 = .ok (.getfield 45, 3) := by decide +kernel
theorem dX6_count_143 : decode cX6_count 143 = .ok (.getfield 272, 3) := by decide +kernel
theorem dX6_count_146 : decode cX6_count 146 = .ok (.ireturn, 1) := by decide +kernel
theorem dX6_count_147 : decode cX6_count 147 = .ok (.aload_n 0, 1) := by decide +kernel
theorem dX6_count_148 : decode cX6_count 148 = .ok (.getfield 12, 3) := by decide +kernel
theorem dX6_count_151 : decode cX6_count 151 = .ok (.getfield 189, 3) := by decide +kernel
theorem dX6_count_154 : decode cX6_count 154 = .ok (.ireturn, 1) := by decide +kernel
theorem dX6_count_155 : decode cX6_count 155 = .ok (.aload_n 0, 1) := by decide +kernel
theorem dX6_count_156 : decode cX6_count 156 = .ok (.iconst 1, 1) := by decide +kernel
theorem dX6_count_157 : decode cX6_count 157 = .ok (.invokevirtual 69, 3) := by decide +kernel
theorem dX6_count_160 : decode cX6_count 160 = .ok (.ireturn, 1) := by decide +kernel
theorem dX6_told_0 : decode cX6_told 0 = .ok (.iload_n 1, 1) := by decide +kernel
theorem dX6_told_1 : decode cX6_told 1 = .ok (.iconst 1, 1) := by decide +kernel
theorem dX6_told_2 : decode cX6_told 2 = .ok (.bipush 6, 2) := by decide +kernel
theorem dX6_told_4 : decode cX6_told 4 = .ok (.invokestatic 108, 3) := by decide +kernel
theorem dX6_told_7 : decode cX6_told 7 = .ok (.ifCond .eq 12, 3) := by decide +kernel
theorem dX6_told_10 : decode cX6_told 10 = .ok (.aload_n 0, 1) := by decide +kernel
theorem dX6_told_11 : decode cX6_told 11 = .ok (.getfield 56, 3) := by decide +kernel
theorem dX6_told_14 : decode cX6_told 14 = .ok (.iload_n 1, 1) := by decide +kernel
theorem dX6_told_15 : decode cX6_told 15 = .ok (.iaload, 1) := by decide +kernel
theorem dX6_told_16 : decode cX6_told 16 = .ok (.goto 8, 3) := by decide +kernel
theorem dX6_told_19 : decode cX6_told 19 = .ok (.aload_n 0, 1) := by decide +kernel
theorem dX6_told_20 : decode cX6_told 20 = .ok (.iconst 1, 1) := by decide +kernel
theorem dX6_told_21 : decode cX6_told 21 = .ok (.invokevirtual 69, 3) := by decide +kernel
theorem dX6_told_24 : decode cX6_told 24 = .ok (.ireturn, 1) := by decide +kernel
theorem dX6_error_0 : decode cX6_error 0 = .ok (.aload_n 0, 1) := by decide +kernel
theorem dX6_error_1 : decode cX6_error 1 = .ok (.getfield 56, 3) := by decide +kernel
theorem dX6_error_4 : decode cX6_error 4 = .ok (.iload_n 1, 1) := by decide +kernel
theorem dX6_error_5 : decode cX6_error 5 = .ok (.dup2, 1) := by decide +kernel
theorem dX6_error_6 : decode cX6_error 6 = .ok (.iaload, 1) := by decide +kernel
theorem dX6_error_7 : decode cX6_error 7 = .ok (.iconst 1, 1) := by decide +kernel
theorem dX6_error_8 : decode cX6_error 8 = .ok (.iadd, 1) := by decide +kernel
theorem dX6_error_9 : decode cX6_error 9 = .ok (.iastore, 1) := by decide +kernel
theorem dX6_error_10 : decode cX6_error 10 = .ok (.ldc_w 319, 3) := by decide +kernel
theorem dX6_error_13 : decode cX6_error 13 = .ok (.iload_n 1, 1) := by decide +kernel
theorem dX6_error_14 : decode cX6_error 14 = .ok (.isub, 1) := by decide +kernel
theorem dX6_error_15 : decode cX6_error 15 = .ok (.ireturn, 1) := by decide +kernel
theorem dX6_isMark_0 : decode cX6_isMark 0 = .ok (.iload_n 1, 1) := by decide +kernel
theorem dX6_isMark_1 : decode cX6_isMark 1 = .ok (.iconst 0, 1) := by decide +kernel
theorem dX6_isMark_2 : decode cX6_isMark 2 = .ok (.aload_n 0, 1) := by decide +kernel
theorem dX6_isMark_3 : decode cX6_isMark 3 = .ok (.getfield 12, 3) := by decide +kernel
theorem dX6_isMark_6 : decode cX6_isMark 6 = .ok (.getfield 73, 3) := by decide +kernel
theorem dX6_isMark_9 : decode cX6_isMark 9 = .ok (.iconst 1, 1) := by decide +kernel
theorem dX6_isMark_10 : decode cX6_isMark 10 = .ok (.isub, 1) := by decide +kernel
theorem dX6_isMark_11 : decode cX6_isMark 11 = .ok (.invokestatic 108, 3) := by decide +kernel
theorem dX6_isMark_14 : decode cX6_isMark 14 = .ok (.ireturn, 1) := by decide +kernel
theorem dX6_isPicture_0 : decode cX6_isPicture 0 = .ok (.iload_n 1, 1) := by decide +kernel
theorem dX6_isPicture_1 : decode cX6_isPicture 1 = .ok (.iconst 0, 1) := by decide +kernel
theorem dX6_isPicture_2 : decode cX6_isPicture 2 = .ok (.aload_n 0, 1) := by decide +kernel
theorem dX6_isPicture_3 : decode cX6_isPicture 3 = .ok (.getfield 12, 3) := by decide +kernel
theorem dX6_isPicture_6 : decode cX6_isPicture 6 = .ok (.getfield 124, 3) := by decide +kernel
theorem dX6_isPicture_9 : decode cX6_isPicture 9 = .ok (.iconst 1, 1) := by decide +kernel
theorem dX6_isPicture_10 : decode cX6_isPicture 10 = .ok (.isub, 1) := by decide +kernel
theorem dX6_isPicture_11 : decode cX6_isPicture 11 = .ok (.invokestatic 108, 3) := by decide +kernel
theorem dX6_isPicture_14 : decode cX6_isPicture 14 = .ok (.ireturn, 1) := by decide +kernel
theorem dX6_roundsUntilOff_0 : decode cX6_roundsUntilOff 0 = .ok (.aload_n 0, 1) := by decide +kernel
theorem dX6_roundsUntilOff_1 : decode cX6_roundsUntilOff 1 = .ok (.getfield 19, 3) := by decide +kernel
theorem dX6_roundsUntilOff_4 : decode cX6_roundsUntilOff 4 = .ok (.iload_n 1, 1) := by decide +kernel
theorem dX6_roundsUntilOff_5 : decode cX6_roundsUntilOff 5 = .ok (.invokevirtual 99, 3) := by decide +kernel
theorem dX6_roundsUntilOff_8 : decode cX6_roundsUntilOff 8 = .ok (.ifCond .ne 5, 3) := by decide +kernel
theorem dX6_roundsUntilOff_11 : decode cX6_roundsUntilOff 11 = .ok (.iconst 0, 1) := by decide +kernel
theorem dX6_roundsUntilOff_12 : decode cX6_roundsUntilOff 12 = .ok (.ireturn, 1) := by decide +kernel
theorem dX6_roundsUntilOff_13 : decode cX6_roundsUntilOff 13 = .ok (.iconst 1, 1) := by decide +kernel
theorem dX6_roundsUntilOff_14 : decode cX6_roundsUntilOff 14 = .ok (.istore_n 3, 1) := by decide +kernel
theorem dX6_roundsUntilOff_15 : decode cX6_roundsUntilOff 15 = .ok (.iload_n 3, 1) := by decide +kernel
theorem dX6_roundsUntilOff_16 : decode cX6_roundsUntilOff 16 = .ok (.iload_n 2, 1) := by decide +kernel
theorem dX6_roundsUntilOff_17 : decode cX6_roundsUntilOff 17 = .ok (.if_icmp .gt 33, 3) := by decide +kernel
theorem dX6_roundsUntilOff_20 : decode cX6_roundsUntilOff 20 = .ok (.aload_n 0, 1) := by decide +kernel
theorem dX6_roundsUntilOff_21 : decode cX6_roundsUntilOff 21 = .ok (.getfield 38, 3) := by decide +kernel
theorem dX6_roundsUntilOff_24 : decode cX6_roundsUntilOff 24 = .ok (.aload_n 0, 1) := by decide +kernel
theorem dX6_roundsUntilOff_25 : decode cX6_roundsUntilOff 25 = .ok (.getfield 19, 3) := by decide +kernel
theorem dX6_roundsUntilOff_28 : decode cX6_roundsUntilOff 28 = .ok (.invokevirtual 174, 3) := by decide +kernel
theorem dX6_roundsUntilOff_31 : decode cX6_roundsUntilOff 31 = .ok (.aload_n 0, 1) := by decide +kernel
theorem dX6_roundsUntilOff_32 : decode cX6_roundsUntilOff 32 = .ok (.getfield 19, 3) := by decide +kernel
theorem dX6_roundsUntilOff_35 : decode cX6_roundsUntilOff 35 = .ok (.iload_n 1, 1) := by decide +kernel
theorem dX6_roundsUntilOff_36 : decode cX6_roundsUntilOff 36 = .ok (.invokevirtual 99, 3) := by decide +kernel
theorem dX6_roundsUntilOff_39 : decode cX6_roundsUntilOff 39 = .ok (.ifCond .ne 5, 3) := by decide +kernel
theorem dX6_roundsUntilOff_42 : decode cX6_roundsUntilOff 42 = .ok (.iload_n 3, 1) := by decide +kernel
theorem dX6_roundsUntilOff_43 : decode cX6_roundsUntilOff 43 = .ok (.ireturn, 1) := by decide +kernel
theorem dX6_roundsUntilOff_44 : decode cX6_roundsUntilOff 44 = .ok (.iinc 3 1, 3) := by decide +kernel
theorem dX6_roundsUntilOff_47 : decode cX6_roundsUntilOff 47 = .ok (.goto (-32), 3) := by decide +kernel
theorem dX6_roundsUntilOff_50 : decode cX6_roundsUntilOff 50 = .ok (.iconst (-1), 1) := by decide +kernel
theorem dX6_roundsUntilOff_51 : decode cX6_roundsUntilOff 51 = .ok (.ireturn, 1) := by decide +kernel
theorem dX6_goesAsSheetTells_0 : decode cX6_goesAsSheetTells 0 = .ok (.iconst 0, 1) := by decide +kernel
theorem dX6_goesAsSheetTells_1 : decode cX6_goesAsSheetTells 1 = .ok (.istore_n 2, 1) := by decide +kernel
theorem dX6_goesAsSheetTells_2 : decode cX6_goesAsSheetTells 2 = .ok (.iload_n 2, 1) := by decide +kernel
theorem dX6_goesAsSheetTells_3 : decode cX6_goesAsSheetTells 3 = .ok (.aload_n 0, 1) := by decide +kernel
theorem dX6_goesAsSheetTells_4 : decode cX6_goesAsSheetTells 4 = .ok (.getfield 52, 3) := by decide +kernel
theorem dX6_goesAsSheetTells_7 : decode cX6_goesAsSheetTells 7 = .ok (.getfield 282, 3) := by decide +kernel
theorem dX6_goesAsSheetTells_10 : decode cX6_goesAsSheetTells 10 = .ok (.iload_n 1, 1) := by decide +kernel
theorem dX6_goesAsSheetTells_11 : decode cX6_goesAsSheetTells 11 = .ok (.iaload, 1) := by decide +kernel
theorem dX6_goesAsSheetTells_12 : decode cX6_goesAsSheetTells 12 = .ok (.if_icmp .ge 47, 3) := by decide +kernel
theorem dX6_goesAsSheetTells_15 : decode cX6_goesAsSheetTells 15 = .ok (.iload_n 2, 1) := by decide +kernel
theorem dX6_goesAsSheetTells_16 : decode cX6_goesAsSheetTells 16 = .ok (.ifCond .le 14, 3) := by decide +kernel
theorem dX6_goesAsSheetTells_19 : decode cX6_goesAsSheetTells 19 = .ok (.aload_n 0, 1) := by decide +kernel
theorem dX6_goesAsSheetTells_20 : decode cX6_goesAsSheetTells 20 = .ok (.getfield 38, 3) := by decide +kernel
theorem dX6_goesAsSheetTells_23 : decode cX6_goesAsSheetTells 23 = .ok (.aload_n 0, 1) := by decide +kernel
theorem dX6_goesAsSheetTells_24 : decode cX6_goesAsSheetTells 24 = .ok (.getfield 19, 3) := by decide +kernel
theorem dX6_goesAsSheetTells_27 : decode cX6_goesAsSheetTells 27 = .ok (.invokevirtual 174, 3) := by decide +kernel
theorem dX6_goesAsSheetTells_30 : decode cX6_goesAsSheetTells 30 = .ok (.aload_n 0, 1) := by decide +kernel
theorem dX6_goesAsSheetTells_31 : decode cX6_goesAsSheetTells 31 = .ok (.getfield 52, 3) := by decide +kernel
theorem dX6_goesAsSheetTells_34 : decode cX6_goesAsSheetTells 34 = .ok (.getfield 294, 3) := by decide +kernel
theorem dX6_goesAsSheetTells_37 : decode cX6_goesAsSheetTells 37 = .ok (.iload_n 1, 1) := by decide +kernel
theorem dX6_goesAsSheetTells_38 : decode cX6_goesAsSheetTells 38 = .ok (.aaload, 1) := by decide +kernel
theorem dX6_goesAsSheetTells_39 : decode cX6_goesAsSheetTells 39 = .ok (.iload_n 2, 1) := by decide +kernel
theorem dX6_goesAsSheetTells_40 : decode cX6_goesAsSheetTells 40 = .ok (.iaload, 1) := by decide +kernel
theorem dX6_goesAsSheetTells_41 : decode cX6_goesAsSheetTells 41 = .ok (.aload_n 0, 1) := by decide +kernel
theorem dX6_goesAsSheetTells_42 : decode cX6_goesAsSheetTells 42 = .ok (.getfield 19, 3) := by decide +kernel
theorem dX6_goesAsSheetTells_45 : decode cX6_goesAsSheetTells 45 = .ok (.getfield 178, 3) := by decide +kernel
theorem dX6_goesAsSheetTells_48 : decode cX6_goesAsSheetTells 48 = .ok (.if_icmp .eq 5, 3) := by decide +kernel
theorem dX6_goesAsSheetTells_51 : decode cX6_goesAsSheetTells 51 = .ok (.iconst 0, 1) := by decide +kernel
theorem dX6_goesAsSheetTells_52 : decode cX6_goesAsSheetTells 52 = .ok (.ireturn, 1) := by decide +kernel
theorem dX6_goesAsSheetTells_53 : decode cX6_goesAsSheetTells 53 = .ok (.iinc 2 1, 3) := by decide +kernel
theorem dX6_goesAsSheetTells_56 : decode cX6_goesAsSheetTells 56 = .ok (.goto (-54), 3) := by decide +kernel
theorem dX6_goesAsSheetTells_59 : decode cX6_goesAsSheetTells 59 = .ok (.iconst 1, 1) := by decide +kernel
theorem dX6_goesAsSheetTells_60 : decode cX6_goesAsSheetTells 60 = .ok (.ireturn, 1) := by decide +kernel
theorem dX6_isWithin_0 : decode cX6_isWithin 0 = .ok (.iload_n 0, 1) := by decide +kernel
theorem dX6_isWithin_1 : decode cX6_isWithin 1 = .ok (.iload_n 1, 1) := by decide +kernel
theorem dX6_isWithin_2 : decode cX6_isWithin 2 = .ok (.if_icmp .lt 12, 3) := by decide +kernel
theorem dX6_isWithin_5 : decode cX6_isWithin 5 = .ok (.iload_n 0, 1) := by decide +kernel
theorem dX6_isWithin_6 : decode cX6_isWithin 6 = .ok (.iload_n 2, 1) := by decide +kernel
theorem dX6_isWithin_7 : decode cX6_isWithin 7 = .ok (.if_icmp .gt 7, 3) := by decide +kernel
theorem dX6_isWithin_10 : decode cX6_isWithin 10 = .ok (.iconst 1, 1) := by decide +kernel
theorem dX6_isWithin_11 : decode cX6_isWithin 11 = .ok (.goto 4, 3) := by decide +kernel
theorem dX6_isWithin_14 : decode cX6_isWithin 14 = .ok (.iconst 0, 1) := by decide +kernel
theorem dX6_isWithin_15 : decode cX6_isWithin 15 = .ok (.ireturn, 1) := by decide +kernel
theorem dX6_isTold_0 : decode cX6_isTold 0 = .ok (.iload_n 0, 1) := by decide +kernel
theorem dX6_isTold_1 : decode cX6_isTold 1 = .ok (.bipush (-20), 2) := by decide +kernel
theorem dX6_isTold_3 : decode cX6_isTold 3 = .ok (.bipush 20, 2) := by decide +kernel
theorem dX6_isTold_5 : decode cX6_isTold 5 = .ok (.invokestatic 108, 3) := by decide +kernel
theorem dX6_isTold_8 : decode cX6_isTold 8 = .ok (.ireturn, 1) := by decide +kernel
theorem dX6_isKindAndNumber_0 : decode cX6_isKindAndNumber 0 = .ok (.iload_n 0, 1) := by decide +kernel
theorem dX6_isKindAndNumber_1 : decode cX6_isKindAndNumber 1 = .ok (.iconst 0, 1) := by decide +kernel
theorem dX6_isKindAndNumber_2 : decode cX6_isKindAndNumber 2 = .ok (.bipush 69, 2) := by decide +kernel
theorem dX6_isKindAndNumber_4 : decode cX6_isKindAndNumber 4 = .ok (.invokestatic 108, 3) := by decide +kernel
theorem dX6_isKindAndNumber_7 : decode cX6_isKindAndNumber 7 = .ok (.ireturn, 1) := by decide +kernel
theorem dX6_isUse_0 : decode cX6_isUse 0 = .ok (.iload_n 0, 1) := by decide +kernel
theorem dX6_isUse_1 : decode cX6_isUse 1 = .ok (.iconst 0, 1) := by decide +kernel
theorem dX6_isUse_2 : decode cX6_isUse 2 = .ok (.iconst 1, 1) := by decide +kernel
theorem dX6_isUse_3 : decode cX6_isUse 3 = .ok (.invokestatic 108, 3) := by decide +kernel
theorem dX6_isUse_6 : decode cX6_isUse 6 = .ok (.ireturn, 1) := by decide +kernel
theorem dX6_isPart_0 : decode cX6_isPart 0 = .ok (.iload_n 0, 1) := by decide +kernel
theorem dX6_isPart_1 : decode cX6_isPart 1 = .ok (.iconst 0, 1) := by decide +kernel
theorem dX6_isPart_2 : decode cX6_isPart 2 = .ok (.iconst 1, 1) := by decide +kernel
theorem dX6_isPart_3 : decode cX6_isPart 3 = .ok (.invokestatic 108, 3) := by decide +kernel
theorem dX6_isPart_6 : decode cX6_isPart 6 = .ok (.ireturn, 1) := by decide +kernel
theorem dX6_isSheet_0 : decode cX6_isSheet 0 = .ok (.iload_n 0, 1) := by decide +kernel
theorem dX6_isSheet_1 : decode cX6_isSheet 1 = .ok (.iconst 0, 1) := by decide +kernel
theorem dX6_isSheet_2 : decode cX6_isSheet 2 = .ok (.iconst 3, 1) := by decide +kernel
theorem dX6_isSheet_3 : decode cX6_isSheet 3 = .ok (.invokestatic 108, 3) := by decide +kernel
theorem dX6_isSheet_6 : decode cX6_isSheet 6 = .ok (.ireturn, 1) := by decide +kernel
theorem dX6_isOfKind_0 : decode cX6_isOfKind 0 = .ok (.iload_n 0, 1) := by decide +kernel
theorem dX6_isOfKind_1 : decode cX6_isOfKind 1 = .ok (.istore_n 2, 1) := by decide +kernel
theorem dX6_isOfKind_2 : decode cX6_isOfKind 2 = .ok (.iconst 0, 1) := by decide +kernel
theorem dX6_isOfKind_3 : decode cX6_isOfKind 3 = .ok (.istore_n 3, 1) := by decide +kernel
theorem dX6_isOfKind_4 : decode cX6_isOfKind 4 = .ok (.iload_n 3, 1) := by decide +kernel
theorem dX6_isOfKind_5 : decode cX6_isOfKind 5 = .ok (.bipush 7, 2) := by decide +kernel
theorem dX6_isOfKind_7 : decode cX6_isOfKind 7 = .ok (.if_icmp .ge 26, 3) := by decide +kernel
theorem dX6_isOfKind_10 : decode cX6_isOfKind 10 = .ok (.iload_n 2, 1) := by decide +kernel
theorem dX6_isOfKind_11 : decode cX6_isOfKind 11 = .ok (.ifCond .lt 22, 3) := by decide +kernel
theorem dX6_isOfKind_14 : decode cX6_isOfKind 14 = .ok (.iload_n 2, 1) := by decide +kernel
theorem dX6_isOfKind_15 : decode cX6_isOfKind 15 = .ok (.iload_n 1, 1) := by decide +kernel
theorem dX6_isOfKind_16 : decode cX6_isOfKind 16 = .ok (.if_icmp .ne 5, 3) := by decide +kernel
theorem dX6_isOfKind_19 : decode cX6_isOfKind 19 = .ok (.iconst 1, 1) := by decide +kernel
theorem dX6_isOfKind_20 : decode cX6_isOfKind 20 = .ok (.ireturn, 1) := by decide +kernel
theorem dX6_isOfKind_21 : decode cX6_isOfKind 21 = .ok (.getstatic 320, 3) := by decide +kernel
theorem dX6_isOfKind_24 : decode cX6_isOfKind 24 = .ok (.iload_n 2, 1) := by decide +kernel
theorem dX6_isOfKind_25 : decode cX6_isOfKind 25 = .ok (.iaload, 1) := by decide +kernel
theorem dX6_isOfKind_26 : decode cX6_isOfKind 26 = .ok (.istore_n 2, 1) := by decide +kernel
theorem dX6_isOfKind_27 : decode cX6_isOfKind 27 = .ok (.iinc 3 1, 3) := by decide +kernel
theorem dX6_isOfKind_30 : decode cX6_isOfKind 30 = .ok (.goto (-26), 3) := by decide +kernel
theorem dX6_isOfKind_33 : decode cX6_isOfKind 33 = .ok (.iconst 0, 1) := by decide +kernel
theorem dX6_isOfKind_34 : decode cX6_isOfKind 34 = .ok (.ireturn, 1) := by decide +kernel
theorem dX6_partOf_0 : decode cX6_partOf 0 = .ok (.iload 4, 2) := by decide +kernel
theorem dX6_partOf_2 : decode cX6_partOf 2 = .ok (.ifCond .ne 7, 3) := by decide +kernel
theorem dX6_partOf_5 : decode cX6_partOf 5 = .ok (.lload_n 0, 1) := by decide +kernel
theorem dX6_partOf_6 : decode cX6_partOf 6 = .ok (.goto 4, 3) := by decide +kernel
theorem dX6_partOf_9 : decode cX6_partOf 9 = .ok (.lload_n 2, 1) := by decide +kernel
theorem dX6_partOf_10 : decode cX6_partOf 10 = .ok (.lload_n 0, 1) := by decide +kernel
theorem dX6_partOf_11 : decode cX6_partOf 11 = .ok (.invokestatic 323, 3) := by decide +kernel
theorem dX6_partOf_14 : decode cX6_partOf 14 = .ok (.lload_n 2, 1) := by decide +kernel
theorem dX6_partOf_15 : decode cX6_partOf 15 = .ok (.invokestatic 327, 3) := by decide +kernel
theorem dX6_partOf_18 : decode cX6_partOf 18 = .ok (.invokestatic 330, 3) := by decide +kernel
theorem dX6_partOf_21 : decode cX6_partOf 21 = .ok (.lreturn, 1) := by decide +kernel
theorem dX6_greatestDivisor_0 : decode cX6_greatestDivisor 0 = .ok (.lload_n 0, 1) := by decide +kernel
theorem dX6_greatestDivisor_1 : decode cX6_greatestDivisor 1 = .ok (.lstore 4, 2) := by decide +kernel
theorem dX6_greatestDivisor_3 : decode cX6_greatestDivisor 3 = .ok (.lload_n 2, 1) := by decide +kernel
theorem dX6_greatestDivisor_4 : decode cX6_greatestDivisor 4 = .ok (.lstore 6, 2) := by decide +kernel
theorem dX6_greatestDivisor_6 : decode cX6_greatestDivisor 6 = .ok (.iconst 0, 1) := by decide +kernel
theorem dX6_greatestDivisor_7 : decode cX6_greatestDivisor 7 = .ok (.istore 8, 2) := by decide +kernel
theorem dX6_greatestDivisor_9 : decode cX6_greatestDivisor 9 = .ok (.iload 8, 2) := by decide +kernel
theorem dX6_greatestDivisor_11 : decode cX6_greatestDivisor 11 = .ok (.sipush 128, 3) := by decide +kernel
theorem dX6_greatestDivisor_14 : decode cX6_greatestDivisor 14 = .ok (.if_icmp .ge 31, 3) := by decide +kernel
theorem dX6_greatestDivisor_17 : decode cX6_greatestDivisor 17 = .ok (.lload 6, 2) := by decide +kernel
theorem dX6_greatestDivisor_19 : decode cX6_greatestDivisor 19 = .ok (.lconst 0, 1) := by decide +kernel
theorem dX6_greatestDivisor_20 : decode cX6_greatestDivisor 20 = .ok (.lcmp, 1) := by decide +kernel
theorem dX6_greatestDivisor_21 : decode cX6_greatestDivisor 21 = .ok (.ifCond .eq 24, 3) := by decide +kernel
theorem dX6_greatestDivisor_24 : decode cX6_greatestDivisor 24 = .ok (.lload 4, 2) := by decide +kernel
theorem dX6_greatestDivisor_26 : decode cX6_greatestDivisor 26 = .ok (.lload 6, 2) := by decide +kernel
theorem dX6_greatestDivisor_28 : decode cX6_greatestDivisor 28 = .ok (.lrem, 1) := by decide +kernel
theorem dX6_greatestDivisor_29 : decode cX6_greatestDivisor 29 = .ok (.lstore 9, 2) := by decide +kernel
theorem dX6_greatestDivisor_31 : decode cX6_greatestDivisor 31 = .ok (.lload 6, 2) := by decide +kernel
theorem dX6_greatestDivisor_33 : decode cX6_greatestDivisor 33 = .ok (.lstore 4, 2) := by decide +kernel
theorem dX6_greatestDivisor_35 : decode cX6_greatestDivisor 35 = .ok (.lload 9, 2) := by decide +kernel
theorem dX6_greatestDivisor_37 : decode cX6_greatestDivisor 37 = .ok (.lstore 6, 2) := by decide +kernel
theorem dX6_greatestDivisor_39 : decode cX6_greatestDivisor 39 = .ok (.iinc 8 1, 3) := by decide +kernel
theorem dX6_greatestDivisor_42 : decode cX6_greatestDivisor 42 = .ok (.goto (-33), 3) := by decide +kernel
theorem dX6_greatestDivisor_45 : decode cX6_greatestDivisor 45 = .ok (.lload 4, 2) := by decide +kernel
theorem dX6_greatestDivisor_47 : decode cX6_greatestDivisor 47 = .ok (.lreturn, 1) := by decide +kernel
theorem dX6_quotient_0 : decode cX6_quotient 0 = .ok (.lload_n 2, 1) := by decide +kernel
theorem dX6_quotient_1 : decode cX6_quotient 1 = .ok (.lconst 0, 1) := by decide +kernel
theorem dX6_quotient_2 : decode cX6_quotient 2 = .ok (.lcmp, 1) := by decide +kernel
theorem dX6_quotient_3 : decode cX6_quotient 3 = .ok (.ifCond .ne 7, 3) := by decide +kernel
theorem dX6_quotient_6 : decode cX6_quotient 6 = .ok (.lconst 0, 1) := by decide +kernel
theorem dX6_quotient_7 : decode cX6_quotient 7 = .ok (.goto 6, 3) := by decide +kernel
theorem dX6_quotient_10 : decode cX6_quotient 10 = .ok (.lload_n 0, 1) := by decide +kernel
theorem dX6_quotient_11 : decode cX6_quotient 11 = .ok (.lload_n 2, 1) := by decide +kernel
theorem dX6_quotient_12 : decode cX6_quotient 12 = .ok (.ldiv, 1) := by decide +kernel
theorem dX6_quotient_13 : decode cX6_quotient 13 = .ok (.lreturn, 1) := by decide +kernel
